theorem bw_212 : Cond.code yX9_worthRenting cX9_worthRenting 9 (some .int) ∈ gT := gT_tb 1164 (by decide +kernel) (by decide +kernel)
theorem dX9_worthRenting_0 : decode cX9_worthRenting 0 = .ok (.aload_n 0, 1) := by decide +kernel
theorem dX9_worthRenting_1 : decode cX9_worthRenting 1 = .ok (.iload_n 2, 1) := by decide +kernel
theorem dX9_worthRenting_2 : decode cX9_worthRenting 2 = .ok (.iload_n 3, 1) := by decide +kernel
theorem dX9_worthRenting_3 : decode cX9_worthRenting 3 = .ok (.invokevirtual 150, 3) := by decide +kernel
theorem dX9_worthRenting_6 : decode cX9_worthRenting 6 = .ok (.istore 4, 2) := by decide +kernel
theorem dX9_worthRenting_8 : decode cX9_worthRenting 8 = .ok (.aload_n 0, 1) := by decide +kernel
theorem dX9_worthRenting_9 : decode cX9_worthRenting 9 = .ok (.iload_n 2, 1) := by decide +kernel
theorem dX9_worthRenting_10 : decode cX9_worthRenting 10 = .ok (.iconst 1, 1) := by decide +kernel
theorem dX9_worthRenting_11 : decode cX9_worthRenting 11 = .ok (.iload_n 3, 1) := by decide +kernel
theorem dX9_worthRenting_12 : decode cX9_worthRenting 12 = .ok (.isub, 1) := by decide +kernel
theorem dX9_worthRenting_13 : decode cX9_worthRenting 13 = .ok (.invokevirtual 150, 3) := by decide +kernel
theorem dX9_worthRenting_16 : decode cX9_worthRenting 16 = .ok (.istore 5, 2) := by decide +kernel
theorem dX9_worthRenting_18 : decode cX9_worthRenting 18 = .ok (.iconst 0, 1) := by decide +kernel
theorem dX9_worthRenting_19 : decode cX9_worthRenting 19 = .ok (.istore 6, 2) := by decide +kernel
theorem dX9_worthRenting_21 : decode cX9_worthRenting 21 = .ok (.iconst 0, 1) := by decide +kernel
theorem dX9_worthRenting_22 : decode cX9_worthRenting 22 = .ok (.istore 7, 2) := by decide +kernel
theorem dX9_worthRenting_24 : decode cX9_worthRenting 24 = .ok (.iload 7, 2) := by decide +kernel
theorem dX9_worthRenting_26 : decode cX9_worthRenting 26 = .ok (.aload_n 1, 1) := by decide +kernel
theorem dX9_worthRenting_27 : decode cX9_worthRenting 27 = .ok (.getfield 117, 3) := by decide +kernel
theorem dX9_worthRenting_30 : decode cX9_worthRenting 30 = .ok (.getfield 161, 3) := by decide +kernel
theorem dX9_worthRenting_33 : decode cX9_worthRenting 33 = .ok (.if_icmp .ge 78, 3) := by decide +kernel
theorem dX9_worthRenting_36 : decode cX9_worthRenting 36 = .ok (.aload_n 1, 1) := by decide +kernel
theorem dX9_worthRenting_37 : decode cX9_worthRenting 37 = .ok (.getfield 117, 3) := by decide +kernel
theorem dX9_worthRenting_40 : decode cX9_worthRenting 40 = .ok (.getfield 140, 3) := by decide +kernel
theorem dX9_worthRenting_43 : decode cX9_worthRenting 43 = .ok (.iload 7, 2) := by decide +kernel
theorem dX9_worthRenting_45 : decode cX9_worthRenting 45 = .ok (.iaload, 1) := by decide +kernel
theorem dX9_worthRenting_46 : decode cX9_worthRenting 46 = .ok (.iconst 1, 1) := by decide +kernel
theorem dX9_worthRenting_47 : decode cX9_worthRenting 47 = .ok (.if_icmp .eq 15, 3) := by decide +kernel
theorem dX9_worthRenting_50 : decode cX9_worthRenting 50 = .ok (.aload_n 0, 1) := by decide +kernel
theorem dX9_worthRenting_51 : decode cX9_worthRenting 51 = .ok (.aload_n 1, 1) := by decide +kernel
theorem dX9_worthRenting_52 : decode cX9_worthRenting 52 = .ok (.iload 5, 2) := by decide +kernel
theorem dX9_worthRenting_54 : decode cX9_worthRenting 54 = .ok (.iload 7, 2) := by decide +kernel
theorem dX9_worthRenting_56 : decode cX9_worthRenting 56 = .ok (.invokevirtual 153, 3) := by decide +kernel
theorem dX9_worthRenting_59 : decode cX9_worthRenting 59 = .ok (.ifCond .le 7, 3) := by decide +kernel
theorem dX9_worthRenting_62 : decode cX9_worthRenting 62 = .ok (.iconst 1, 1) := by decide +kernel
theorem dX9_worthRenting_63 : decode cX9_worthRenting 63 = .ok (.goto 4, 3) := by decide +kernel
theorem dX9_worthRenting_66 : decode cX9_worthRenting 66 = .ok (.iconst 0, 1) := by decide +kernel
theorem dX9_worthRenting_67 : decode cX9_worthRenting 67 = .ok (.istore 8, 2) := by decide +kernel
theorem dX9_worthRenting_69 : decode cX9_worthRenting 69 = .ok (.iload 8, 2) := by decide +kernel
theorem dX9_worthRenting_71 : decode cX9_worthRenting 71 = .ok (.ifCond .eq 34, 3) := by decide +kernel
theorem dX9_worthRenting_74 : decode cX9_worthRenting 74 = .ok (.aload_n 0, 1) := by decide +kernel
theorem dX9_worthRenting_75 : decode cX9_worthRenting 75 = .ok (.aload_n 1, 1) := by decide +kernel
theorem dX9_worthRenting_76 : decode cX9_worthRenting 76 = .ok (.iload 4, 2) := by decide +kernel
theorem dX9_worthRenting_78 : decode cX9_worthRenting 78 = .ok (.iload 7, 2) := by decide +kernel
theorem dX9_worthRenting_80 : decode cX9_worthRenting 80 = .ok (.invokevirtual 130, 3) := by decide +kernel
theorem dX9_worthRenting_83 : decode cX9_worthRenting 83 = .ok (.ifCond .eq 22, 3) := by decide +kernel
theorem dX9_worthRenting_86 : decode cX9_worthRenting 86 = .ok (.aload_n 0, 1) := by decide +kernel
theorem dX9_worthRenting_87 : decode cX9_worthRenting 87 = .ok (.aload_n 1, 1) := by decide +kernel
theorem dX9_worthRenting_88 : decode cX9_worthRenting 88 = .ok (.iload 7, 2) := by decide +kernel
theorem dX9_worthRenting_90 : decode cX9_worthRenting 90 = .ok (.invokevirtual 157, 3) := by decide +kernel
theorem dX9_worthRenting_93 : decode cX9_worthRenting 93 = .ok (.ifCond .ne 12, 3) := by decide +kernel
theorem dX9_worthRenting_96 : decode cX9_worthRenting 96 = .ok (.iload 6, 2) := by decide +kernel
theorem dX9_worthRenting_98 : decode cX9_worthRenting 98 = .ok (.iconst 1, 1) := by decide +kernel
theorem dX9_worthRenting_99 : decode cX9_worthRenting 99 = .ok (.iload 7, 2) := by decide +kernel
theorem dX9_worthRenting_101 : decode cX9_worthRenting 101 = .ok (.ishl, 1) := by decide +kernel
theorem dX9_worthRenting_102 : decode cX9_worthRenting 102 = .ok (.ior, 1) := by decide +kernel
theorem dX9_worthRenting_103 : decode cX9_worthRenting 103 = .ok (.istore 6, 2) := by decide +kernel
theorem dX9_worthRenting_105 : decode cX9_worthRenting 105 = .ok (.iinc 7 1, 3) := by decide +kernel
theorem dX9_worthRenting_108 : decode cX9_worthRenting 108 = .ok (.goto (-84), 3) := by decide +kernel
theorem dX9_worthRenting_111 : decode cX9_worthRenting 111 = .ok (.iload 6, 2) := by decide +kernel
theorem dX9_worthRenting_113 : decode cX9_worthRenting 113 = .ok (.ireturn, 1) := by decide +kernel
set_option maxHeartbeats 4000000 in
set_option maxRecDepth 100000 in
theorem s_X9_worthRenting (l : Launch) (g : GG) (sz : Nat) (h : Nat) (bday : Int32) (bseed : Int32) (balive : Int32) (bstruck : Int32) (bopen : Int32) (bduels : Int32) (blines : Int32) (bcoins : Nat) (brented : Nat) (Fbrented : Nat → Int32) (bmornings : Nat) (bhonours : Nat) (bused : Nat) (Fbused : Nat → Int32) (bsides : Nat) (Fbsides : Nat → Int32) (blog : Nat) (la : Nat) (dduels : Int32) (dduelSides : Nat) (dduelMornings : Nat) (dhonour : Int32) (ddraw : Int32) (dusesOfKind : Nat) (dmen : Nat) (dmen_count : Int32) (dmen_names : Nat) (dmen_dies : Nat) (Fdmen_dies : Nat → Int32) (dmen_coins : Nat) (dmen_fathers : Nat) (dformulas : Nat) (dreasons : Nat) (dreasons_count : Int32) (dreasons_names : Nat) (dreasons_kinds : Nat) (dreasons_owners : Nat) (Fdreasons_owners : Nat → Int32) (dreasons_froms : Nat) (dreasons_tos : Nat) (dreasons_rents : Nat) (dreasons_sorts : Nat) (Fdreasons_sorts : Nat → Int32) (p0 : Int32) (p1 : Int32) (hh0 : 0 ≤ bseed.toInt ∧ bseed.toInt ≤ 999) (hh1 : 0 ≤ bduels.toInt ∧ bduels.toInt ≤ 8) (hh2 : 0 ≤ blines.toInt ∧ blines.toInt ≤ 60) (hh3 : Rg 16 0 5 Fbsides) (hh4 : 0 ≤ dduels.toInt ∧ dduels.toInt ≤ 6) (hh6 : 0 ≤ ddraw.toInt ∧ ddraw.toInt ≤ 999) (hh7 : 0 ≤ dmen_count.toInt ∧ dmen_count.toInt ≤ 6) (hh13 : 0 ≤ dreasons_count.toInt ∧ dreasons_count.toInt ≤ 8) (hh15 : Rg 8 (-1) 5 Fdreasons_owners) (hh16 : 0 ≤ p0.toInt ∧ p0.toInt ≤ 7) (hh17 : 0 ≤ p1.toInt ∧ p1.toInt ≤ 1) : Met l yX9_worthRenting (.code yX9_worthRenting cX9_worthRenting 9 (some .int) :: gT) ({ frames := 4, cells := 0, slots := 0, locals := 91 }) (va_Pc [.ref h, .ref la, .int p0, .int p1] (Pst g sz [(h, .inr (9, [.int bday, .int bseed, .int balive, .int bstruck, .int bopen, .int bduels, .int blines, .ref bcoins, .ref brented, .ref bmornings, .ref bhonours, .ref bused, .ref bsides, .ref blog])), (brented, aI g 6 Fbrented), (bused, aI g 8 Fbused), (bsides, aI g 16 Fbsides), (la, .inr (2, [.ref dmen, .ref dformulas, .ref dreasons, .int dduels, .ref dduelSides, .ref dduelMornings, .int dhonour, .int ddraw, .ref dusesOfKind])), (dmen, .inr (3, [.int dmen_count, .ref dmen_names, .ref dmen_dies, .ref dmen_coins, .ref dmen_fathers])), (dmen_dies, aI g 6 Fdmen_dies), (dreasons, .inr (6, [.int dreasons_count, .ref dreasons_names, .ref dreasons_kinds, .ref dreasons_owners, .ref dreasons_froms, .ref dreasons_tos, .ref dreasons_rents, .ref dreasons_sorts])), (dreasons_owners, aI g 8 Fdreasons_owners), (dreasons_sorts, aI g 8 Fdreasons_sorts)] nX)) (va_Qi (fun (r : Int32) => fun (_ : Unit) => True) (Qst g [] sz (fun _ => [])) (va_A [] sz)) 0 0 (va_A [] sz) := by
  refine Met.ofW (cc := cX9_worthRenting) (maxL := 9) (ret := (some .int)) (by decide) rfl ?_
  intro p e s m args below meth c s₁ B hml hv
  obtain ⟨rfl, hsz, hP, hK, hD0, hX⟩ := hv
  have hx := B.exec
  have hb := B.bytes
  have hr := B.returns
  have hT : ∀ w ∈ gT, w.before _ s = true := fun w h => atoms_spec (ws := .code yX9_worthRenting cX9_worthRenting 9 (some .int) :: gT) B.pre w (List.mem_cons_of_mem _ h)
  have hown : s.vm.findClass RX9 = some m.cls := findClass_of_methodNamed B.named
  have hlocks := B.notSynchronized
  subst hsz
  have hD := hD0
  generalize hAe : va_A [] s.heap.size = A at ⊢
  have hA : ∀ q : Nat, s.heap.size ≤ q → A q := fun q h => by rw [← hAe]; exact Or.inr h
  have hS : va_S A s.heap s.heap [] := va_S.rf
  have hl := lv_entry ([.ref h, .ref la, .int p0, .int p1]) (n := 9) (Nat.le_of_ble_eq_true rfl)
  rw [lg_entry_eq]
  generalize (lg_sl ([.ref h, .ref la, .int p0, .int p1]) ++ List.replicate (9 - (lg_sl ([.ref h, .ref la, .int p0, .int p1])).length) Slot.unset).toArray = ls at hl ⊢
  have hl : lv_has ls 9 [(0, .ref h), (1, .ref la), (2, .int p0), (3, .int p1)] := hl
  refine p_nH (fun H hH => ?_)
  have hP : va_P g.1 vwCl [(h, .inr (9, [.int bday, .int bseed, .int balive, .int bstruck, .int bopen, .int bduels, .int blines, .ref bcoins, .ref brented, .ref bmornings, .ref bhonours, .ref bused, .ref bsides, .ref blog])), (brented, aI g 6 Fbrented), (bused, aI g 8 Fbused), (bsides, aI g 16 Fbsides), (la, .inr (2, [.ref dmen, .ref dformulas, .ref dreasons, .int dduels, .ref dduelSides, .ref dduelMornings, .int dhonour, .int ddraw, .ref dusesOfKind])), (dmen, .inr (3, [.int dmen_count, .ref dmen_names, .ref dmen_dies, .ref dmen_coins, .ref dmen_fathers])), (dmen_dies, aI g 6 Fdmen_dies), (dreasons, .inr (6, [.int dreasons_count, .ref dreasons_names, .ref dreasons_kinds, .ref dreasons_owners, .ref dreasons_froms, .ref dreasons_tos, .ref dreasons_rents, .ref dreasons_sorts])), (dreasons_owners, aI g 8 Fdreasons_owners), (dreasons_sorts, aI g 8 Fdreasons_sorts)] H := by rw [hH]; exact hP
  have hS : va_S A s.heap H [] := by rw [hH]; exact hS
  refine lv_aload_n hx hb dX9_worthRenting_0 rfl (lv_at hl 0 rfl) ?_
  refine lv_iload_n hx hb dX9_worthRenting_1 rfl (lv_at hl 2 rfl) ?_
  refine lv_iload_n hx hb dX9_worthRenting_2 rfl (lv_at hl 3 rfl) ?_
  refine k_iR (k_V (n := 2) ⟨hx, hb, hml, hown, hT⟩ hK hP hD [0, 3] rfl (by decide +kernel) (s_X9_manOf l g H.size h bday bseed balive bstruck bopen bduels blines bcoins brented bmornings bhonours bused bsides Fbsides blog p0 p1 (by first | with_reducible assumption | omega) (by first | with_reducible assumption | omega) (by first | with_reducible assumption | omega) hh3 (by first | with_reducible assumption | omega) (by first | with_reducible assumption | omega)) (gV bw_75 bw_76 bw_77 bw_46 bw_36) rfl rfl (by decide +kernel) ⟨by decide, by decide⟩ (ci := 9) (q0 := 0) rfl rfl (fun _ _ _ _ _ => trivial) (fun _ _ _ => trivial) rfl rfl hl.1 (Nat.le_of_ble_eq_true rfl) dX9_worthRenting_3 ⟨by decide, by decide⟩) hP hS hA (fun r_1 _ H locs hw0 hP hS => ?_)
  have hw : 0 ≤ r_1.toInt ∧ r_1.toInt ≤ 5 := hw0
  clear hw0
  have w_2 := hw
  refine lv_istore (lv' := [(4, .int r_1), (0, .ref h), (1, .ref la), (2, .int p0), (3, .int p1)]) hx hb dX9_worthRenting_6 hl (by decide) rfl (fun ls hl => ?_)
  refine lv_aload_n hx hb dX9_worthRenting_8 rfl (lv_at hl 1 rfl) ?_
  refine lv_iload_n hx hb dX9_worthRenting_9 rfl (lv_at hl 3 rfl) ?_
  refine lv_iconst (v := 1) hx hb dX9_worthRenting_10 (by decide) ?_
  refine lv_iload_n hx hb dX9_worthRenting_11 rfl (lv_at hl 4 rfl) ?_
  refine lv_isub hx hb dX9_worthRenting_12 ?_
  refine lv_topi (fun x_3 ex_3 => ?_)
  have fx_3 : x_3.toInt = 1 - p1.toInt := by rw [ex_3]; exact I_sub (by decide : (1 : Int32).toInt = 1) rfl (by omega) (by omega)
  refine k_iR (k_V (n := 2) ⟨hx, hb, hml, hown, hT⟩ hK hP hD [0, 3] rfl (by decide +kernel) (s_X9_manOf l g H.size h bday bseed balive bstruck bopen bduels blines bcoins brented bmornings bhonours bused bsides Fbsides blog p0 x_3 (by first | with_reducible assumption | omega) (by first | with_reducible assumption | omega) (by first | with_reducible assumption | omega) hh3 (by first | with_reducible assumption | omega) (by first | with_reducible assumption | omega)) (gV bw_75 bw_76 bw_77 bw_46 bw_36) rfl rfl (by decide +kernel) ⟨by decide, by decide⟩ (ci := 9) (q0 := 0) rfl rfl (fun _ _ _ _ _ => trivial) (fun _ _ _ => trivial) rfl rfl hl.1 (Nat.le_of_ble_eq_true rfl) dX9_worthRenting_13 ⟨by decide, by decide⟩) hP hS hA (fun r_4 _ H locs hw0 hP hS => ?_)
  have hw : 0 ≤ r_4.toInt ∧ r_4.toInt ≤ 5 := hw0
  clear hw0
  have w_5 := hw
  refine lv_istore (lv' := [(5, .int r_4), (4, .int r_1), (0, .ref h), (1, .ref la), (2, .int p0), (3, .int p1)]) hx hb dX9_worthRenting_16 hl (by decide) rfl (fun ls hl => ?_)
  refine lv_iconst (v := 0) hx hb dX9_worthRenting_18 (by decide) ?_
  refine lv_istore (lv' := [(6, .int 0), (5, .int r_4), (4, .int r_1), (0, .ref h), (1, .ref la), (2, .int p0), (3, .int p1)]) hx hb dX9_worthRenting_19 hl (by decide) rfl (fun ls hl => ?_)
  refine lv_iconst (v := 0) hx hb dX9_worthRenting_21 (by decide) ?_
  refine lv_istore (lv' := [(7, .int 0), (6, .int 0), (5, .int r_4), (4, .int r_1), (0, .ref h), (1, .ref la), (2, .int p0), (3, .int p1)]) hx hb dX9_worthRenting_22 hl (by decide) rfl (fun ls hl => ?_)
  refine k_floop 24 (fun n H locs ls => ∃ (L_6 : Int32) (L_7 : Int32), (0 ≤ L_6.toInt ∧ L_6.toInt ≤ 8) ∧ 8 - L_6.toInt ≤ (n : Int) ∧ va_P g.1 vwCl [(h, .inr (9, [.int bday, .int bseed, .int balive, .int bstruck, .int bopen, .int bduels, .int blines, .ref bcoins, .ref brented, .ref bmornings, .ref bhonours, .ref bused, .ref bsides, .ref blog])), (brented, aI g 6 Fbrented), (bused, aI g 8 Fbused), (bsides, aI g 16 Fbsides), (la, .inr (2, [.ref dmen, .ref dformulas, .ref dreasons, .int dduels, .ref dduelSides, .ref dduelMornings, .int dhonour, .int ddraw, .ref dusesOfKind])), (dmen, .inr (3, [.int dmen_count, .ref dmen_names, .ref dmen_dies, .ref dmen_coins, .ref dmen_fathers])), (dmen_dies, aI g 6 Fdmen_dies), (dreasons, .inr (6, [.int dreasons_count, .ref dreasons_names, .ref dreasons_kinds, .ref dreasons_owners, .ref dreasons_froms, .ref dreasons_tos, .ref dreasons_rents, .ref dreasons_sorts])), (dreasons_owners, aI g 8 Fdreasons_owners), (dreasons_sorts, aI g 8 Fdreasons_sorts)] H ∧ va_S A s.heap H locs ∧ lv_has ls 9 [(7, .int L_6), (6, .int L_7), (5, .int r_4), (4, .int r_1), (0, .ref h), (1, .ref la), (2, .int p0), (3, .int p1)]) (fun n H locs ls hI ih => ?_) ((8 - 0 : Int)).toNat ⟨0, 0, by decide, by have k0 : (0 : Int32).toInt = 0 := (by decide); omega, hP, hS, hl⟩
  refine hI.elim (fun L_6 hI => hI.elim (fun L_7 hI => ?_))
  have g_8 := hI.1
  have hm_9 := hI.2.1
  have hP := hI.2.2.1
  have hS := hI.2.2.2.1
  have hl := hI.2.2.2.2
  clear hI
  refine lv_iload hx hb dX9_worthRenting_24 (lv_at hl 0 rfl) ?_
  refine lv_aload_n hx hb dX9_worthRenting_26 rfl (lv_at hl 5 rfl) ?_
  refine va_get (D := g.1) (ci := 2) (v := .ref dreasons) (C := RX2) (T := TX2) (N := 9) hx hb hT inF_X2 hown hK.1 hP 4 rfl rfl 2 (by decide) (hT _ bw_67) (fun _ h9 => h9) rfl dX9_worthRenting_27 ?_
  refine va_get (D := g.1) (ci := 6) (v := .int dreasons_count) (C := RX6) (T := TX6) (N := 8) hx hb hT inF_X6 hown hK.1 hP 7 rfl rfl 0 (by decide) (hT _ bw_193) (fun _ h9 => h9) rfl dX9_worthRenting_30 ?_
  refine lv_icmp_ge (tgt := 111) hx hb dX9_worthRenting_33 (by decide) (fun c_10 => ?_) (fun c_10 => ?_)
  · have f_11 := E_le (rfl : dreasons_count.toInt = _) (rfl : L_6.toInt = _) c_10
    refine lv_iload hx hb dX9_worthRenting_111 (lv_at hl 1 rfl) ?_
    have hP9 : va_P g.1 vwCl [] H := hP.sub [] rfl
    have hD9 : va_D A [] := ⟨fun i j p q h => by simp at h, fun k q h => by simp at h⟩
    exact W.iret (v := L_7) hx hb hr (fun t ht hW => ⟨⟨L_7, (), rfl, trivial, by rw [ht]; exact hP9, by rw [hAe]; exact hD9⟩, hS.F ht⟩) hS.2.2 dX9_worthRenting_113
  · have f_12 := E_nle (rfl : dreasons_count.toInt = _) (rfl : L_6.toInt = _) c_10
    refine lv_aload_n hx hb dX9_worthRenting_36 rfl (lv_at hl 5 rfl) ?_
    refine va_get (D := g.1) (ci := 2) (v := .ref dreasons) (C := RX2) (T := TX2) (N := 9) hx hb hT inF_X2 hown hK.1 hP 4 rfl rfl 2 (by decide) (hT _ bw_67) (fun _ h9 => h9) rfl dX9_worthRenting_37 ?_
    refine va_get (D := g.1) (ci := 6) (v := .ref dreasons_sorts) (C := RX6) (T := TX6) (N := 8) hx hb hT inF_X6 hown hK.1 hP 7 rfl rfl 7 (by decide) (hT _ bw_177) (fun _ h9 => h9) rfl dX9_worthRenting_40 ?_
    refine lv_iload hx hb dX9_worthRenting_43 (lv_at hl 0 rfl) ?_
    have h_13 : vp_in L_6 8 := vp_in_iff.mpr (by omega)
    refine va_iald hx hb hK.1 hP 9 1 rfl rfl (i := L_6) h_13 dX9_worthRenting_45 ?_
    refine lv_topi (fun x_14 ex_14 => ?_)
    have ux_14 := congrArg Int32.toInt ex_14
    refine lv_iconst (v := 1) hx hb dX9_worthRenting_46 (by decide) ?_
    refine lv_icmp_eq (tgt := 62) hx hb dX9_worthRenting_47 (by decide) (fun c_15 => ?_) (fun c_15 => ?_)
    · have f_16 := E_eq (rfl : x_14.toInt = _) (by decide : (1 : Int32).toInt = 1) c_15
      refine lv_iconst (v := 1) hx hb dX9_worthRenting_62 (by decide) ?_
      refine lv_goto (tgt := 67) hx hb dX9_worthRenting_63 (by decide) ?_
      refine lv_istore (lv' := [(8, .int 1), (7, .int L_6), (6, .int L_7), (5, .int r_4), (4, .int r_1), (0, .ref h), (1, .ref la), (2, .int p0), (3, .int p1)]) hx hb dX9_worthRenting_67 hl (by decide) rfl (fun ls hl => ?_)
      refine lv_iload hx hb dX9_worthRenting_69 (lv_at hl 0 rfl) ?_
      refine lv_if_eq (tgt := 105) hx hb dX9_worthRenting_71 (by decide) (fun c9 => absurd c9 (by decide)) (fun _ => ?_)
      refine lv_aload_n hx hb dX9_worthRenting_74 rfl (lv_at hl 5 rfl) ?_
      refine lv_aload_n hx hb dX9_worthRenting_75 rfl (lv_at hl 6 rfl) ?_
      refine lv_iload hx hb dX9_worthRenting_76 (lv_at hl 4 rfl) ?_
      refine lv_iload hx hb dX9_worthRenting_78 (lv_at hl 1 rfl) ?_
      refine k_iR (k_V (n := 3) ⟨hx, hb, hml, hown, hT⟩ hK hP hD [0, 1, 4, 7, 8] rfl (by decide +kernel) (s_X9_isRentable l g H.size h bday bseed balive bstruck bopen bduels blines bcoins brented Fbrented bmornings bhonours bused bsides blog la dduels dduelSides dduelMornings dhonour ddraw dusesOfKind dmen dformulas dreasons dreasons_count dreasons_names dreasons_kinds dreasons_owners Fdreasons_owners dreasons_froms dreasons_tos dreasons_rents dreasons_sorts r_1 L_6 (by first | with_reducible assumption | omega) (by first | with_reducible assumption | omega) (by first | with_reducible assumption | omega) (by first | with_reducible assumption | omega) (by first | with_reducible assumption | omega) (by first | with_reducible assumption | omega) hh15 (by first | with_reducible assumption | omega) (by first | with_reducible assumption | omega)) (gV bw_170 bw_171 bw_172 bw_46 bw_169) rfl rfl (by decide +kernel) ⟨by decide, by decide⟩ (ci := 9) (q0 := 0) rfl rfl (fun _ _ _ _ _ => trivial) (fun _ _ _ => trivial) rfl rfl hl.1 (Nat.le_of_ble_eq_true rfl) dX9_worthRenting_80 ⟨by decide, by decide⟩) hP hS hA (fun r_17 _ H locs hw0 hP hS => ?_)
      have hw : (r_17 = 1 ∧ (0 ≤ (Fdreasons_owners L_6.toNatClampNeg).toInt)) ∨ (r_17 = 0) := hw0
      clear hw0
      rcases hw with ⟨e_19, w_18⟩ | e_20
      · subst e_19
        refine lv_if_eq (tgt := 105) hx hb dX9_worthRenting_83 (by decide) (fun c9 => absurd c9 (by decide)) (fun _ => ?_)
        refine lv_aload_n hx hb dX9_worthRenting_86 rfl (lv_at hl 5 rfl) ?_
        refine lv_aload_n hx hb dX9_worthRenting_87 rfl (lv_at hl 6 rfl) ?_
        refine lv_iload hx hb dX9_worthRenting_88 (lv_at hl 1 rfl) ?_
        refine k_iR (k_V (n := 2) ⟨hx, hb, hml, hown, hT⟩ hK hP hD [0, 2, 4, 7, 9] rfl (by decide +kernel) (s_X9_isGone l g H.size h bday bseed balive bstruck bopen bduels blines bcoins brented bmornings bhonours bused Fbused bsides blog la dduels dduelSides dduelMornings dhonour ddraw dusesOfKind dmen dformulas dreasons dreasons_count dreasons_names dreasons_kinds dreasons_owners dreasons_froms dreasons_tos dreasons_rents dreasons_sorts Fdreasons_sorts L_6 (by first | with_reducible assumption | omega) (by first | with_reducible assumption | omega) (by first | with_reducible assumption | omega) (by first | with_reducible assumption | omega) (by first | with_reducible assumption | omega) (by first | with_reducible assumption | omega) (by first | with_reducible assumption | omega)) (gV bw_189 bw_190 bw_191 bw_46 bw_181) rfl rfl (by decide +kernel) ⟨by decide, by decide⟩ (ci := 9) (q0 := 0) rfl rfl (fun _ _ _ _ _ => trivial) (fun _ _ _ => trivial) rfl rfl hl.1 (Nat.le_of_ble_eq_true rfl) dX9_worthRenting_90 ⟨by decide, by decide⟩) hP hS hA (fun r_21 _ H locs hw0 hP hS => ?_)
        have hw : 0 ≤ r_21.toInt ∧ r_21.toInt ≤ 1 := hw0
        clear hw0
        have w_22 := hw
        refine lv_if_ne (tgt := 105) hx hb dX9_worthRenting_93 (by decide) (fun c_23 => ?_) (fun c_23 => ?_)
        · have f_24 := E_ne (rfl : r_21.toInt = _) (by decide : (0 : Int32).toInt = 0) c_23
          obtain ⟨x_25, ex_25⟩ : ∃ y : Int32, y = L_6 + 1 := ⟨_, rfl⟩
          have fx_25 : x_25.toInt = L_6.toInt + 1 := by rw [ex_25]; exact I_add rfl (by decide) (by omega) (by omega)
          refine lv_iinc (v := x_25) (lv' := [(7, .int x_25), (8, .int 1), (6, .int L_7), (5, .int r_4), (4, .int r_1), (0, .ref h), (1, .ref la), (2, .int p0), (3, .int p1)]) hx hb dX9_worthRenting_105 hl (k := 1) rfl (by rw [ex_25]; rfl) (by decide) rfl (fun ls hl => ?_)
          refine lv_goto (tgt := 24) hx hb dX9_worthRenting_108 (by decide) ?_
          exact ih (n - 1) (by omega) H locs ls ⟨x_25, L_7, (by first | with_reducible assumption | omega), by omega, hP.sub [0, 1, 2, 3, 4, 5, 6, 7, 8, 9] rfl, hS, lv_sub hl [0, 2, 3, 4, 5, 6, 7, 8] rfl⟩
        · have f_26 := E_eq (rfl : r_21.toInt = _) (by decide : (0 : Int32).toInt = 0) c_23
          refine lv_iload hx hb dX9_worthRenting_96 (lv_at hl 2 rfl) ?_
          refine lv_iconst (v := 1) hx hb dX9_worthRenting_98 (by decide) ?_
          refine lv_iload hx hb dX9_worthRenting_99 (lv_at hl 1 rfl) ?_
          refine lv_ishl hx hb dX9_worthRenting_101 ?_
          refine lv_topi (fun x_27 ex_27 => ?_)
          refine lv_ior hx hb dX9_worthRenting_102 ?_
          refine lv_topi (fun x_28 ex_28 => ?_)
          refine lv_istore (lv' := [(6, .int x_28), (8, .int 1), (7, .int L_6), (5, .int r_4), (4, .int r_1), (0, .ref h), (1, .ref la), (2, .int p0), (3, .int p1)]) hx hb dX9_worthRenting_103 hl (by decide) rfl (fun ls hl => ?_)
          obtain ⟨x_29, ex_29⟩ : ∃ y : Int32, y = L_6 + 1 := ⟨_, rfl⟩
          have fx_29 : x_29.toInt = L_6.toInt + 1 := by rw [ex_29]; exact I_add rfl (by decide) (by omega) (by omega)
          refine lv_iinc (v := x_29) (lv' := [(7, .int x_29), (6, .int x_28), (8, .int 1), (5, .int r_4), (4, .int r_1), (0, .ref h), (1, .ref la), (2, .int p0), (3, .int p1)]) hx hb dX9_worthRenting_105 hl (k := 2) rfl (by rw [ex_29]; rfl) (by decide) rfl (fun ls hl => ?_)
          refine lv_goto (tgt := 24) hx hb dX9_worthRenting_108 (by decide) ?_
          exact ih (n - 1) (by omega) H locs ls ⟨x_29, x_28, (by first | with_reducible assumption | omega), by omega, hP.sub [0, 1, 2, 3, 4, 5, 6, 7, 8, 9] rfl, hS, lv_sub hl [0, 1, 3, 4, 5, 6, 7, 8] rfl⟩
      · subst e_20
        refine lv_if_eq (tgt := 105) hx hb dX9_worthRenting_83 (by decide) (fun _ => ?_) (fun c9 => absurd (by decide) c9)
        obtain ⟨x_30, ex_30⟩ : ∃ y : Int32, y = L_6 + 1 := ⟨_, rfl⟩
        have fx_30 : x_30.toInt = L_6.toInt + 1 := by rw [ex_30]; exact I_add rfl (by decide) (by omega) (by omega)
        refine lv_iinc (v := x_30) (lv' := [(7, .int x_30), (8, .int 1), (6, .int L_7), (5, .int r_4), (4, .int r_1), (0, .ref h), (1, .ref la), (2, .int p0), (3, .int p1)]) hx hb dX9_worthRenting_105 hl (k := 1) rfl (by rw [ex_30]; rfl) (by decide) rfl (fun ls hl => ?_)
        refine lv_goto (tgt := 24) hx hb dX9_worthRenting_108 (by decide) ?_
        exact ih (n - 1) (by omega) H locs ls ⟨x_30, L_7, (by first | with_reducible assumption | omega), by omega, hP.sub [0, 1, 2, 3, 4, 5, 6, 7, 8, 9] rfl, hS, lv_sub hl [0, 2, 3, 4, 5, 6, 7, 8] rfl⟩
    · have f_31 := E_ne (rfl : x_14.toInt = _) (by decide : (1 : Int32).toInt = 1) c_15
      refine lv_aload_n hx hb dX9_worthRenting_50 rfl (lv_at hl 4 rfl) ?_
      refine lv_aload_n hx hb dX9_worthRenting_51 rfl (lv_at hl 5 rfl) ?_
      refine lv_iload hx hb dX9_worthRenting_52 (lv_at hl 2 rfl) ?_
      refine lv_iload hx hb dX9_worthRenting_54 (lv_at hl 0 rfl) ?_
      refine k_iR (k_V (n := 3) ⟨hx, hb, hml, hown, hT⟩ hK hP hD [0, 1, 4, 5, 6, 7, 8] rfl (by decide +kernel) (s_X9_freeFrom l g H.size h bday bseed balive bstruck bopen bduels blines bcoins brented Fbrented bmornings bhonours bused bsides blog la dduels dduelSides dduelMornings dhonour ddraw dusesOfKind dmen dmen_count dmen_names dmen_dies Fdmen_dies dmen_coins dmen_fathers dformulas dreasons dreasons_count dreasons_names dreasons_kinds dreasons_owners Fdreasons_owners dreasons_froms dreasons_tos dreasons_rents dreasons_sorts r_4 L_6 (by first | with_reducible assumption | omega) (by first | with_reducible assumption | omega) (by first | with_reducible assumption | omega) (by first | with_reducible assumption | omega) (by first | with_reducible assumption | omega) (by first | with_reducible assumption | omega) (by first | with_reducible assumption | omega) hh15 (by first | with_reducible assumption | omega) (by first | with_reducible assumption | omega)) (gV bw_186 bw_187 bw_188 bw_46 bw_173) rfl rfl (by decide +kernel) ⟨by decide, by decide⟩ (ci := 9) (q0 := 0) rfl rfl (fun _ _ _ _ _ => trivial) (fun _ _ _ => trivial) rfl rfl hl.1 (Nat.le_of_ble_eq_true rfl) dX9_worthRenting_56 ⟨by decide, by decide⟩) hP hS hA (fun r_32 _ H locs hw0 hP hS => ?_)
      refine lv_if_le (tgt := 66) hx hb dX9_worthRenting_59 (by decide) (fun c_33 => ?_) (fun c_33 => ?_)
      · have f_34 := E_le (rfl : r_32.toInt = _) (by decide : (0 : Int32).toInt = 0) c_33
        refine lv_iconst (v := 0) hx hb dX9_worthRenting_66 (by decide) ?_
        refine lv_istore (lv' := [(8, .int 0), (7, .int L_6), (6, .int L_7), (5, .int r_4), (4, .int r_1), (0, .ref h), (1, .ref la), (2, .int p0), (3, .int p1)]) hx hb dX9_worthRenting_67 hl (by decide) rfl (fun ls hl => ?_)
        refine lv_iload hx hb dX9_worthRenting_69 (lv_at hl 0 rfl) ?_
        refine lv_if_eq (tgt := 105) hx hb dX9_worthRenting_71 (by decide) (fun _ => ?_) (fun c9 => absurd (by decide) c9)
        obtain ⟨x_35, ex_35⟩ : ∃ y : Int32, y = L_6 + 1 := ⟨_, rfl⟩
        have fx_35 : x_35.toInt = L_6.toInt + 1 := by rw [ex_35]; exact I_add rfl (by decide) (by omega) (by omega)
        refine lv_iinc (v := x_35) (lv' := [(7, .int x_35), (8, .int 0), (6, .int L_7), (5, .int r_4), (4, .int r_1), (0, .ref h), (1, .ref la), (2, .int p0), (3, .int p1)]) hx hb dX9_worthRenting_105 hl (k := 1) rfl (by rw [ex_35]; rfl) (by decide) rfl (fun ls hl => ?_)
        refine lv_goto (tgt := 24) hx hb dX9_worthRenting_108 (by decide) ?_
        exact ih (n - 1) (by omega) H locs ls ⟨x_35, L_7, (by first | with_reducible assumption | omega), by omega, hP.sub [0, 1, 2, 3, 4, 5, 6, 7, 8, 9] rfl, hS, lv_sub hl [0, 2, 3, 4, 5, 6, 7, 8] rfl⟩
      · have f_36 := E_nle (rfl : r_32.toInt = _) (by decide : (0 : Int32).toInt = 0) c_33
        refine lv_iconst (v := 1) hx hb dX9_worthRenting_62 (by decide) ?_
        refine lv_goto (tgt := 67) hx hb dX9_worthRenting_63 (by decide) ?_
        refine lv_istore (lv' := [(8, .int 1), (7, .int L_6), (6, .int L_7), (5, .int r_4), (4, .int r_1), (0, .ref h), (1, .ref la), (2, .int p0), (3, .int p1)]) hx hb dX9_worthRenting_67 hl (by decide) rfl (fun ls hl => ?_)
        refine lv_iload hx hb dX9_worthRenting_69 (lv_at hl 0 rfl) ?_
        refine lv_if_eq (tgt := 105) hx hb dX9_worthRenting_71 (by decide) (fun c9 => absurd c9 (by decide)) (fun _ => ?_)
        refine lv_aload_n hx hb dX9_worthRenting_74 rfl (lv_at hl 5 rfl) ?_
        refine lv_aload_n hx hb dX9_worthRenting_75 rfl (lv_at hl 6 rfl) ?_
        refine lv_iload hx hb dX9_worthRenting_76 (lv_at hl 4 rfl) ?_
        refine lv_iload hx hb dX9_worthRenting_78 (lv_at hl 1 rfl) ?_
        refine k_iR (k_V (n := 3) ⟨hx, hb, hml, hown, hT⟩ hK hP hD [0, 1, 4, 7, 8] rfl (by decide +kernel) (s_X9_isRentable l g H.size h bday bseed balive bstruck bopen bduels blines bcoins brented Fbrented bmornings bhonours bused bsides blog la dduels dduelSides dduelMornings dhonour ddraw dusesOfKind dmen dformulas dreasons dreasons_count dreasons_names dreasons_kinds dreasons_owners Fdreasons_owners dreasons_froms dreasons_tos dreasons_rents dreasons_sorts r_1 L_6 (by first | with_reducible assumption | omega) (by first | with_reducible assumption | omega) (by first | with_reducible assumption | omega) (by first | with_reducible assumption | omega) (by first | with_reducible assumption | omega) (by first | with_reducible assumption | omega) hh15 (by first | with_reducible assumption | omega) (by first | with_reducible assumption | omega)) (gV bw_170 bw_171 bw_172 bw_46 bw_169) rfl rfl (by decide +kernel) ⟨by decide, by decide⟩ (ci := 9) (q0 := 0) rfl rfl (fun _ _ _ _ _ => trivial) (fun _ _ _ => trivial) rfl rfl hl.1 (Nat.le_of_ble_eq_true rfl) dX9_worthRenting_80 ⟨by decide, by decide⟩) hP hS hA (fun r_37 _ H locs hw0 hP hS => ?_)
        have hw : (r_37 = 1 ∧ (0 ≤ (Fdreasons_owners L_6.toNatClampNeg).toInt)) ∨ (r_37 = 0) := hw0
        clear hw0
        rcases hw with ⟨e_39, w_38⟩ | e_40
        · subst e_39
          refine lv_if_eq (tgt := 105) hx hb dX9_worthRenting_83 (by decide) (fun c9 => absurd c9 (by decide)) (fun _ => ?_)
          refine lv_aload_n hx hb dX9_worthRenting_86 rfl (lv_at hl 5 rfl) ?_
          refine lv_aload_n hx hb dX9_worthRenting_87 rfl (lv_at hl 6 rfl) ?_
          refine lv_iload hx hb dX9_worthRenting_88 (lv_at hl 1 rfl) ?_
          refine k_iR (k_V (n := 2) ⟨hx, hb, hml, hown, hT⟩ hK hP hD [0, 2, 4, 7, 9] rfl (by decide +kernel) (s_X9_isGone l g H.size h bday bseed balive bstruck bopen bduels blines bcoins brented bmornings bhonours bused Fbused bsides blog la dduels dduelSides dduelMornings dhonour ddraw dusesOfKind dmen dformulas dreasons dreasons_count dreasons_names dreasons_kinds dreasons_owners dreasons_froms dreasons_tos dreasons_rents dreasons_sorts Fdreasons_sorts L_6 (by first | with_reducible assumption | omega) (by first | with_reducible assumption | omega) (by first | with_reducible assumption | omega) (by first | with_reducible assumption | omega) (by first | with_reducible assumption | omega) (by first | with_reducible assumption | omega) (by first | with_reducible assumption | omega)) (gV bw_189 bw_190 bw_191 bw_46 bw_181) rfl rfl (by decide +kernel) ⟨by decide, by decide⟩ (ci := 9) (q0 := 0) rfl rfl (fun _ _ _ _ _ => trivial) (fun _ _ _ => trivial) rfl rfl hl.1 (Nat.le_of_ble_eq_true rfl) dX9_worthRenting_90 ⟨by decide, by decide⟩) hP hS hA (fun r_41 _ H locs hw0 hP hS => ?_)
          have hw : 0 ≤ r_41.toInt ∧ r_41.toInt ≤ 1 := hw0
          clear hw0
          have w_42 := hw
          refine lv_if_ne (tgt := 105) hx hb dX9_worthRenting_93 (by decide) (fun c_43 => ?_) (fun c_43 => ?_)
          · have f_44 := E_ne (rfl : r_41.toInt = _) (by decide : (0 : Int32).toInt = 0) c_43
            obtain ⟨x_45, ex_45⟩ : ∃ y : Int32, y = L_6 + 1 := ⟨_, rfl⟩
            have fx_45 : x_45.toInt = L_6.toInt + 1 := by rw [ex_45]; exact I_add rfl (by decide) (by omega) (by omega)
            refine lv_iinc (v := x_45) (lv' := [(7, .int x_45), (8, .int 1), (6, .int L_7), (5, .int r_4), (4, .int r_1), (0, .ref h), (1, .ref la), (2, .int p0), (3, .int p1)]) hx hb dX9_worthRenting_105 hl (k := 1) rfl (by rw [ex_45]; rfl) (by decide) rfl (fun ls hl => ?_)
            refine lv_goto (tgt := 24) hx hb dX9_worthRenting_108 (by decide) ?_
            exact ih (n - 1) (by omega) H locs ls ⟨x_45, L_7, (by first | with_reducible assumption | omega), by omega, hP.sub [0, 1, 2, 3, 4, 5, 6, 7, 8, 9] rfl, hS, lv_sub hl [0, 2, 3, 4, 5, 6, 7, 8] rfl⟩
          · have f_46 := E_eq (rfl : r_41.toInt = _) (by decide : (0 : Int32).toInt = 0) c_43
            refine lv_iload hx hb dX9_worthRenting_96 (lv_at hl 2 rfl) ?_
            refine lv_iconst (v := 1) hx hb dX9_worthRenting_98 (by decide) ?_
            refine lv_iload hx hb dX9_worthRenting_99 (lv_at hl 1 rfl) ?_
            refine lv_ishl hx hb dX9_worthRenting_101 ?_
            refine lv_topi (fun x_47 ex_47 => ?_)
            refine lv_ior hx hb dX9_worthRenting_102 ?_
            refine lv_topi (fun x_48 ex_48 => ?_)
            refine lv_istore (lv' := [(6, .int x_48), (8, .int 1), (7, .int L_6), (5, .int r_4), (4, .int r_1), (0, .ref h), (1, .ref la), (2, .int p0), (3, .int p1)]) hx hb dX9_worthRenting_103 hl (by decide) rfl (fun ls hl => ?_)
            obtain ⟨x_49, ex_49⟩ : ∃ y : Int32, y = L_6 + 1 := ⟨_, rfl⟩
            have fx_49 : x_49.toInt = L_6.toInt + 1 := by rw [ex_49]; exact I_add rfl (by decide) (by omega) (by omega)
            refine lv_iinc (v := x_49) (lv' := [(7, .int x_49), (6, .int x_48), (8, .int 1), (5, .int r_4), (4, .int r_1), (0, .ref h), (1, .ref la), (2, .int p0), (3, .int p1)]) hx hb dX9_worthRenting_105 hl (k := 2) rfl (by rw [ex_49]; rfl) (by decide) rfl (fun ls hl => ?_)
            refine lv_goto (tgt := 24) hx hb dX9_worthRenting_108 (by decide) ?_
            exact ih (n - 1) (by omega) H locs ls ⟨x_49, x_48, (by first | with_reducible assumption | omega), by omega, hP.sub [0, 1, 2, 3, 4, 5, 6, 7, 8, 9] rfl, hS, lv_sub hl [0, 1, 3, 4, 5, 6, 7, 8] rfl⟩
        · subst e_40
          refine lv_if_eq (tgt := 105) hx hb dX9_worthRenting_83 (by decide) (fun _ => ?_) (fun c9 => absurd (by decide) c9)
          obtain ⟨x_50, ex_50⟩ : ∃ y : Int32, y = L_6 + 1 := ⟨_, rfl⟩
          have fx_50 : x_50.toInt = L_6.toInt + 1 := by rw [ex_50]; exact I_add rfl (by decide) (by omega) (by omega)
          refine lv_iinc (v := x_50) (lv' := [(7, .int x_50), (8, .int 1), (6, .int L_7), (5, .int r_4), (4, .int r_1), (0, .ref h), (1, .ref la), (2, .int p0), (3, .int p1)]) hx hb dX9_worthRenting_105 hl (k := 1) rfl (by rw [ex_50]; rfl) (by decide) rfl (fun ls hl => ?_)
          refine lv_goto (tgt := 24) hx hb dX9_worthRenting_108 (by decide) ?_
          exact ih (n - 1) (by omega) H locs ls ⟨x_50, L_7, (by first | with_reducible assumption | omega), by omega, hP.sub [0, 1, 2, 3, 4, 5, 6, 7, 8, 9] rfl, hS, lv_sub hl [0, 2, 3, 4, 5, 6, 7, 8] rfl⟩

theorem bw_213 : Cond.code yX8_sawLater cX8_sawLater 6 (some .boolean) ∈ gT := gT_tb 1274 (by decide +kernel) (by decide +kernel)
theorem dX8_sawLater_0 : decode cX8_sawLater 0 = .ok (.iconst 0, 1) := by decide +kernel
theorem dX8_sawLater_1 : decode cX8_sawLater 1 = .ok (.istore 4, 2) := by decide +kernel
theorem dX8_sawLater_3 : decode cX8_sawLater 3 = .ok (.iload 4, 2) := by decide +kernel
theorem dX8_sawLater_5 : decode cX8_sawLater 5 = .ok (.aload_n 0, 1) := by decide +kernel
theorem dX8_sawLater_6 : decode cX8_sawLater 6 = .ok (.getfield 24, 3) := by decide +kernel
theorem dX8_sawLater_9 : decode cX8_sawLater 9 = .ok (.if_icmp .ge 78, 3) := by decide +kernel
theorem dX8_sawLater_12 : decode cX8_sawLater 12 = .ok (.aload_n 0, 1) := by decide +kernel
theorem dX8_sawLater_13 : decode cX8_sawLater 13 = .ok (.getfield 18, 3) := by decide +kernel
theorem dX8_sawLater_16 : decode cX8_sawLater 16 = .ok (.iload 4, 2) := by decide +kernel
theorem dX8_sawLater_18 : decode cX8_sawLater 18 = .ok (.iaload, 1) := by decide +kernel
theorem dX8_sawLater_19 : decode cX8_sawLater 19 = .ok (.iload_n 3, 1) := by decide +kernel
theorem dX8_sawLater_20 : decode cX8_sawLater 20 = .ok (.if_icmp .gt 29, 3) := by decide +kernel
theorem dX8_sawLater_23 : decode cX8_sawLater 23 = .ok (.aload_n 0, 1) := by decide +kernel
theorem dX8_sawLater_24 : decode cX8_sawLater 24 = .ok (.getfield 21, 3) := by decide +kernel
theorem dX8_sawLater_27 : decode cX8_sawLater 27 = .ok (.iload 4, 2) := by decide +kernel
theorem dX8_sawLater_29 : decode cX8_sawLater 29 = .ok (.iaload, 1) := by decide +kernel
theorem dX8_sawLater_30 : decode cX8_sawLater 30 = .ok (.iconst (-1), 1) := by decide +kernel
theorem dX8_sawLater_31 : decode cX8_sawLater 31 = .ok (.if_icmp .eq 14, 3) := by decide +kernel
theorem dX8_sawLater_34 : decode cX8_sawLater 34 = .ok (.aload_n 0, 1) := by decide +kernel
theorem dX8_sawLater_35 : decode cX8_sawLater 35 = .ok (.getfield 21, 3) := by decide +kernel
theorem dX8_sawLater_38 : decode cX8_sawLater 38 = .ok (.iload 4, 2) := by decide +kernel
theorem dX8_sawLater_40 : decode cX8_sawLater 40 = .ok (.iaload, 1) := by decide +kernel
theorem dX8_sawLater_41 : decode cX8_sawLater 41 = .ok (.iload_n 3, 1) := by decide +kernel
theorem dX8_sawLater_42 : decode cX8_sawLater 42 = .ok (.if_icmp .le 7, 3) := by decide +kernel
theorem dX8_sawLater_45 : decode cX8_sawLater 45 = .ok (.iconst 1, 1) := by decide +kernel
theorem dX8_sawLater_46 : decode cX8_sawLater 46 = .ok (.goto 4, 3) := by decide +kernel
theorem dX8_sawLater_49 : decode cX8_sawLater 49 = .ok (.iconst 0, 1) := by decide +kernel
theorem dX8_sawLater_50 : decode cX8_sawLater 50 = .ok (.istore 5, 2) := by decide +kernel
theorem dX8_sawLater_52 : decode cX8_sawLater 52 = .ok (.iload 5, 2) := by decide +kernel
theorem dX8_sawLater_54 : decode cX8_sawLater 54 = .ok (.ifCond .eq 27, 3) := by decide +kernel
theorem dX8_sawLater_57 : decode cX8_sawLater 57 = .ok (.aload_n 0, 1) := by decide +kernel
theorem dX8_sawLater_58 : decode cX8_sawLater 58 = .ok (.getfield 9, 3) := by decide +kernel
theorem dX8_sawLater_61 : decode cX8_sawLater 61 = .ok (.iload 4, 2) := by decide +kernel
theorem dX8_sawLater_63 : decode cX8_sawLater 63 = .ok (.iaload, 1) := by decide +kernel
theorem dX8_sawLater_64 : decode cX8_sawLater 64 = .ok (.iload_n 1, 1) := by decide +kernel
theorem dX8_sawLater_65 : decode cX8_sawLater 65 = .ok (.if_icmp .ne 16, 3) := by decide +kernel
theorem dX8_sawLater_68 : decode cX8_sawLater 68 = .ok (.aload_n 0, 1) := by decide +kernel
theorem dX8_sawLater_69 : decode cX8_sawLater 69 = .ok (.getfield 15, 3) := by decide +kernel
theorem dX8_sawLater_72 : decode cX8_sawLater 72 = .ok (.iload 4, 2) := by decide +kernel
theorem dX8_sawLater_74 : decode cX8_sawLater 74 = .ok (.iaload, 1) := by decide +kernel
theorem dX8_sawLater_75 : decode cX8_sawLater 75 = .ok (.iload_n 2, 1) := by decide +kernel
theorem dX8_sawLater_76 : decode cX8_sawLater 76 = .ok (.if_icmp .le 5, 3) := by decide +kernel
theorem dX8_sawLater_79 : decode cX8_sawLater 79 = .ok (.iconst 1, 1) := by decide +kernel
theorem dX8_sawLater_80 : decode cX8_sawLater 80 = .ok (.ireturn, 1) := by decide +kernel
theorem dX8_sawLater_81 : decode cX8_sawLater 81 = .ok (.iinc 4 1, 3) := by decide +kernel
theorem dX8_sawLater_84 : decode cX8_sawLater 84 = .ok (.goto (-81), 3) := by decide +kernel
theorem dX8_sawLater_87 : decode cX8_sawLater 87 = .ok (.iconst 0, 1) := by decide +kernel
theorem dX8_sawLater_88 : decode cX8_sawLater 88 = .ok (.ireturn, 1) := by decide +kernel
set_option maxHeartbeats 4000000 in
set_option maxRecDepth 100000 in
theorem s_X8_sawLater (l : Launch) (g : GG) (sz : Nat) (h : Nat) (btime : Int32) (bcount : Int32) (breasons : Nat) (Fbreasons : Nat → Int32) (bdays : Nat) (Fbdays : Nat → Int32) (btoldAt : Nat) (FbtoldAt : Nat → Int32) (buntoldAt : Nat) (FbuntoldAt : Nat → Int32) (p0 : Int32) (p1 : Int32) (p2 : Int32) (hh0 : 0 ≤ btime.toInt ∧ btime.toInt ≤ 100000) (hh1 : 0 ≤ bcount.toInt ∧ bcount.toInt ≤ 30) : Met l yX8_sawLater (.code yX8_sawLater cX8_sawLater 6 (some .boolean) :: gT) ({ frames := 0, cells := 0, slots := 0, locals := 0 }) (va_Pc [.ref h, .int p0, .int p1, .int p2] (Pst g sz [(h, .inr (8, [.int btime, .int bcount, .ref breasons, .ref bdays, .ref btoldAt, .ref buntoldAt])), (breasons, aI g 30 Fbreasons), (bdays, aI g 30 Fbdays), (btoldAt, aI g 30 FbtoldAt), (buntoldAt, aI g 30 FbuntoldAt)] nX)) (va_Qi (fun (r : Int32) => fun (_ : Unit) => 0 ≤ r.toInt ∧ r.toInt ≤ 1) (Qst g [] sz (fun _ => [])) (va_A [] sz)) 0 0 (va_A [] sz) := by
  refine Met.ofW (cc := cX8_sawLater) (maxL := 6) (ret := (some .boolean)) (by decide) rfl ?_
  intro p e s m args below meth c s₁ B hml hv
  obtain ⟨rfl, hsz, hP, hK, hD0, hX⟩ := hv
  have hx := B.exec
  have hb := B.bytes
  have hr := B.returns
  have hT : ∀ w ∈ gT, w.before _ s = true := fun w h => atoms_spec (ws := .code yX8_sawLater cX8_sawLater 6 (some .boolean) :: gT) B.pre w (List.mem_cons_of_mem _ h)
  have hown : s.vm.findClass RX8 = some m.cls := findClass_of_methodNamed B.named
  have hlocks := B.notSynchronized
  subst hsz
  have hD := hD0
  generalize hAe : va_A [] s.heap.size = A at ⊢
  have hA : ∀ q : Nat, s.heap.size ≤ q → A q := fun q h => by rw [← hAe]; exact Or.inr h
  have hS : va_S A s.heap s.heap [] := va_S.rf
  have hl := lv_entry ([.ref h, .int p0, .int p1, .int p2]) (n := 6) (Nat.le_of_ble_eq_true rfl)
  rw [lg_entry_eq]
  generalize (lg_sl ([.ref h, .int p0, .int p1, .int p2]) ++ List.replicate (6 - (lg_sl ([.ref h, .int p0, .int p1, .int p2])).length) Slot.unset).toArray = ls at hl ⊢
  have hl : lv_has ls 6 [(0, .ref h), (1, .int p0), (2, .int p1), (3, .int p2)] := hl
  refine p_nH (fun H hH => ?_)
  have hP : va_P g.1 vwCl [(h, .inr (8, [.int btime, .int bcount, .ref breasons, .ref bdays, .ref btoldAt, .ref buntoldAt])), (breasons, aI g 30 Fbreasons), (bdays, aI g 30 Fbdays), (btoldAt, aI g 30 FbtoldAt), (buntoldAt, aI g 30 FbuntoldAt)] H := by rw [hH]; exact hP
  have hS : va_S A s.heap H [] := by rw [hH]; exact hS
  refine lv_iconst (v := 0) hx hb dX8_sawLater_0 (by decide) ?_
  refine lv_istore (lv' := [(4, .int 0), (0, .ref h), (1, .int p0), (2, .int p1), (3, .int p2)]) hx hb dX8_sawLater_1 hl (by decide) rfl (fun ls hl => ?_)
  refine k_floop 3 (fun n H locs ls => ∃ (L_1 : Int32), (0 ≤ L_1.toInt ∧ L_1.toInt ≤ 30) ∧ 30 - L_1.toInt ≤ (n : Int) ∧ va_P g.1 vwCl [(h, .inr (8, [.int btime, .int bcount, .ref breasons, .ref bdays, .ref btoldAt, .ref buntoldAt])), (breasons, aI g 30 Fbreasons), (bdays, aI g 30 Fbdays), (btoldAt, aI g 30 FbtoldAt), (buntoldAt, aI g 30 FbuntoldAt)] H ∧ va_S A s.heap H locs ∧ lv_has ls 6 [(4, .int L_1), (0, .ref h), (1, .int p0), (2, .int p1), (3, .int p2)]) (fun n H locs ls hI ih => ?_) ((30 - 0 : Int)).toNat ⟨0, by decide, by have k0 : (0 : Int32).toInt = 0 := (by decide); omega, hP, hS, hl⟩
  refine hI.elim (fun L_1 hI => ?_)
  have g_2 := hI.1
  have hm_3 := hI.2.1
  have hP := hI.2.2.1
  have hS := hI.2.2.2.1
  have hl := hI.2.2.2.2
  clear hI
  refine lv_iload hx hb dX8_sawLater_3 (lv_at hl 0 rfl) ?_
  refine lv_aload_n hx hb dX8_sawLater_5 rfl (lv_at hl 1 rfl) ?_
  refine va_get (D := g.1) (ci := 8) (v := .int bcount) (C := RX8) (T := TX8) (N := 6) hx hb hT inF_X8 hown hK.1 hP 0 rfl rfl 1 (by decide) (hT _ bw_13) (fun _ h9 => h9) rfl dX8_sawLater_6 ?_
  refine lv_icmp_ge (tgt := 87) hx hb dX8_sawLater_9 (by decide) (fun c_4 => ?_) (fun c_4 => ?_)
  · have f_5 := E_le (rfl : bcount.toInt = _) (rfl : L_1.toInt = _) c_4
    refine lv_iconst (v := 0) hx hb dX8_sawLater_87 (by decide) ?_
    have hP9 : va_P g.1 vwCl [] H := hP.sub [] rfl
    have hD9 : va_D A [] := ⟨fun i j p q h => by simp at h, fun k q h => by simp at h⟩
    exact W.zret (v := 0) (ty := .boolean) hx hb hr rfl (fun t ht hW => ⟨⟨0, (), rfl, ⟨by decide, by decide⟩, by rw [ht]; exact hP9, by rw [hAe]; exact hD9⟩, hS.F ht⟩) hS.2.2 dX8_sawLater_88
  · have f_6 := E_nle (rfl : bcount.toInt = _) (rfl : L_1.toInt = _) c_4
    refine lv_aload_n hx hb dX8_sawLater_12 rfl (lv_at hl 1 rfl) ?_
    refine va_get (D := g.1) (ci := 8) (v := .ref btoldAt) (C := RX8) (T := TX8) (N := 6) hx hb hT inF_X8 hown hK.1 hP 0 rfl rfl 4 (by decide) (hT _ bw_17) (fun _ h9 => h9) rfl dX8_sawLater_13 ?_
    refine lv_iload hx hb dX8_sawLater_16 (lv_at hl 0 rfl) ?_
    have h_7 : vp_in L_1 30 := vp_in_iff.mpr (by omega)
    refine va_iald hx hb hK.1 hP 3 1 rfl rfl (i := L_1) h_7 dX8_sawLater_18 ?_
    refine lv_topi (fun x_8 ex_8 => ?_)
    have ux_8 := congrArg Int32.toInt ex_8
    refine lv_iload_n hx hb dX8_sawLater_19 rfl (lv_at hl 4 rfl) ?_
    refine lv_icmp_gt (tgt := 49) hx hb dX8_sawLater_20 (by decide) (fun c_9 => ?_) (fun c_9 => ?_)
    · have f_10 := E_lt (rfl : p2.toInt = _) (rfl : x_8.toInt = _) c_9
      refine lv_iconst (v := 0) hx hb dX8_sawLater_49 (by decide) ?_
      refine lv_istore (lv' := [(5, .int 0), (4, .int L_1), (0, .ref h), (1, .int p0), (2, .int p1), (3, .int p2)]) hx hb dX8_sawLater_50 hl (by decide) rfl (fun ls hl => ?_)
      refine lv_iload hx hb dX8_sawLater_52 (lv_at hl 0 rfl) ?_
      refine lv_if_eq (tgt := 81) hx hb dX8_sawLater_54 (by decide) (fun _ => ?_) (fun c9 => absurd (by decide) c9)
      obtain ⟨x_11, ex_11⟩ : ∃ y : Int32, y = L_1 + 1 := ⟨_, rfl⟩
      have fx_11 : x_11.toInt = L_1.toInt + 1 := by rw [ex_11]; exact I_add rfl (by decide) (by omega) (by omega)
      refine lv_iinc (v := x_11) (lv' := [(4, .int x_11), (5, .int 0), (0, .ref h), (1, .int p0), (2, .int p1), (3, .int p2)]) hx hb dX8_sawLater_81 hl (k := 1) rfl (by rw [ex_11]; rfl) (by decide) rfl (fun ls hl => ?_)
      refine lv_goto (tgt := 3) hx hb dX8_sawLater_84 (by decide) ?_
      exact ih (n - 1) (by omega) H locs ls ⟨x_11, (by first | with_reducible assumption | omega), by omega, hP.sub [0, 1, 2, 3, 4] rfl, hS, lv_sub hl [0, 2, 3, 4, 5] rfl⟩
    · have f_12 := E_nlt (rfl : p2.toInt = _) (rfl : x_8.toInt = _) c_9
      refine lv_aload_n hx hb dX8_sawLater_23 rfl (lv_at hl 1 rfl) ?_
      refine va_get (D := g.1) (ci := 8) (v := .ref buntoldAt) (C := RX8) (T := TX8) (N := 6) hx hb hT inF_X8 hown hK.1 hP 0 rfl rfl 5 (by decide) (hT _ bw_19) (fun _ h9 => h9) rfl dX8_sawLater_24 ?_
      refine lv_iload hx hb dX8_sawLater_27 (lv_at hl 0 rfl) ?_
      have h_13 : vp_in L_1 30 := vp_in_iff.mpr (by omega)
      refine va_iald hx hb hK.1 hP 4 1 rfl rfl (i := L_1) h_13 dX8_sawLater_29 ?_
      refine lv_topi (fun x_14 ex_14 => ?_)
      have ux_14 := congrArg Int32.toInt ex_14
      refine lv_iconst (v := (-1)) hx hb dX8_sawLater_30 (by decide) ?_
      refine lv_icmp_eq (tgt := 45) hx hb dX8_sawLater_31 (by decide) (fun c_15 => ?_) (fun c_15 => ?_)
      · have f_16 := E_eq (rfl : x_14.toInt = _) (by decide : ((-1) : Int32).toInt = (-1)) c_15
        refine lv_iconst (v := 1) hx hb dX8_sawLater_45 (by decide) ?_
        refine lv_goto (tgt := 50) hx hb dX8_sawLater_46 (by decide) ?_
        refine lv_istore (lv' := [(5, .int 1), (4, .int L_1), (0, .ref h), (1, .int p0), (2, .int p1), (3, .int p2)]) hx hb dX8_sawLater_50 hl (by decide) rfl (fun ls hl => ?_)
        refine lv_iload hx hb dX8_sawLater_52 (lv_at hl 0 rfl) ?_
        refine lv_if_eq (tgt := 81) hx hb dX8_sawLater_54 (by decide) (fun c9 => absurd c9 (by decide)) (fun _ => ?_)
        refine lv_aload_n hx hb dX8_sawLater_57 rfl (lv_at hl 2 rfl) ?_
        refine va_get (D := g.1) (ci := 8) (v := .ref breasons) (C := RX8) (T := TX8) (N := 6) hx hb hT inF_X8 hown hK.1 hP 0 rfl rfl 2 (by decide) (hT _ bw_15) (fun _ h9 => h9) rfl dX8_sawLater_58 ?_
        refine lv_iload hx hb dX8_sawLater_61 (lv_at hl 1 rfl) ?_
        have h_17 : vp_in L_1 30 := vp_in_iff.mpr (by omega)
        refine va_iald hx hb hK.1 hP 1 1 rfl rfl (i := L_1) h_17 dX8_sawLater_63 ?_
        refine lv_topi (fun x_18 ex_18 => ?_)
        have ux_18 := congrArg Int32.toInt ex_18
        refine lv_iload_n hx hb dX8_sawLater_64 rfl (lv_at hl 3 rfl) ?_
        refine lv_icmp_ne (tgt := 81) hx hb dX8_sawLater_65 (by decide) (fun c_19 => ?_) (fun c_19 => ?_)
        · have f_20 := E_ne (rfl : x_18.toInt = _) (rfl : p0.toInt = _) c_19
          obtain ⟨x_21, ex_21⟩ : ∃ y : Int32, y = L_1 + 1 := ⟨_, rfl⟩
          have fx_21 : x_21.toInt = L_1.toInt + 1 := by rw [ex_21]; exact I_add rfl (by decide) (by omega) (by omega)
          refine lv_iinc (v := x_21) (lv' := [(4, .int x_21), (5, .int 1), (0, .ref h), (1, .int p0), (2, .int p1), (3, .int p2)]) hx hb dX8_sawLater_81 hl (k := 1) rfl (by rw [ex_21]; rfl) (by decide) rfl (fun ls hl => ?_)
          refine lv_goto (tgt := 3) hx hb dX8_sawLater_84 (by decide) ?_
          exact ih (n - 1) (by omega) H locs ls ⟨x_21, (by first | with_reducible assumption | omega), by omega, hP.sub [0, 1, 2, 3, 4] rfl, hS, lv_sub hl [0, 2, 3, 4, 5] rfl⟩
        · have f_22 := E_eq (rfl : x_18.toInt = _) (rfl : p0.toInt = _) c_19
          refine lv_aload_n hx hb dX8_sawLater_68 rfl (lv_at hl 2 rfl) ?_
          refine va_get (D := g.1) (ci := 8) (v := .ref bdays) (C := RX8) (T := TX8) (N := 6) hx hb hT inF_X8 hown hK.1 hP 0 rfl rfl 3 (by decide) (hT _ bw_16) (fun _ h9 => h9) rfl dX8_sawLater_69 ?_
          refine lv_iload hx hb dX8_sawLater_72 (lv_at hl 1 rfl) ?_
          have h_23 : vp_in L_1 30 := vp_in_iff.mpr (by omega)
          refine va_iald hx hb hK.1 hP 2 1 rfl rfl (i := L_1) h_23 dX8_sawLater_74 ?_
          refine lv_topi (fun x_24 ex_24 => ?_)
          have ux_24 := congrArg Int32.toInt ex_24
          refine lv_iload_n hx hb dX8_sawLater_75 rfl (lv_at hl 4 rfl) ?_
          refine lv_icmp_le (tgt := 81) hx hb dX8_sawLater_76 (by decide) (fun c_25 => ?_) (fun c_25 => ?_)
          · have f_26 := E_le (rfl : x_24.toInt = _) (rfl : p1.toInt = _) c_25
            obtain ⟨x_27, ex_27⟩ : ∃ y : Int32, y = L_1 + 1 := ⟨_, rfl⟩
            have fx_27 : x_27.toInt = L_1.toInt + 1 := by rw [ex_27]; exact I_add rfl (by decide) (by omega) (by omega)
            refine lv_iinc (v := x_27) (lv' := [(4, .int x_27), (5, .int 1), (0, .ref h), (1, .int p0), (2, .int p1), (3, .int p2)]) hx hb dX8_sawLater_81 hl (k := 1) rfl (by rw [ex_27]; rfl) (by decide) rfl (fun ls hl => ?_)
            refine lv_goto (tgt := 3) hx hb dX8_sawLater_84 (by decide) ?_
            exact ih (n - 1) (by omega) H locs ls ⟨x_27, (by first | with_reducible assumption | omega), by omega, hP.sub [0, 1, 2, 3, 4] rfl, hS, lv_sub hl [0, 2, 3, 4, 5] rfl⟩
          · have f_28 := E_nle (rfl : x_24.toInt = _) (rfl : p1.toInt = _) c_25
            refine lv_iconst (v := 1) hx hb dX8_sawLater_79 (by decide) ?_
            have hP9 : va_P g.1 vwCl [] H := hP.sub [] rfl
            have hD9 : va_D A [] := ⟨fun i j p q h => by simp at h, fun k q h => by simp at h⟩
            exact W.zret (v := 1) (ty := .boolean) hx hb hr rfl (fun t ht hW => ⟨⟨1, (), rfl, ⟨by decide, by decide⟩, by rw [ht]; exact hP9, by rw [hAe]; exact hD9⟩, hS.F ht⟩) hS.2.2 dX8_sawLater_80
      · have f_29 := E_ne (rfl : x_14.toInt = _) (by decide : ((-1) : Int32).toInt = (-1)) c_15
        refine lv_aload_n hx hb dX8_sawLater_34 rfl (lv_at hl 1 rfl) ?_
        refine va_get (D := g.1) (ci := 8) (v := .ref buntoldAt) (C := RX8) (T := TX8) (N := 6) hx hb hT inF_X8 hown hK.1 hP 0 rfl rfl 5 (by decide) (hT _ bw_19) (fun _ h9 => h9) rfl dX8_sawLater_35 ?_
        refine lv_iload hx hb dX8_sawLater_38 (lv_at hl 0 rfl) ?_
        have h_30 : vp_in L_1 30 := vp_in_iff.mpr (by omega)
        refine va_iald hx hb hK.1 hP 4 1 rfl rfl (i := L_1) h_30 dX8_sawLater_40 ?_
        refine lv_topi (fun x_31 ex_31 => ?_)
        have ux_31 := congrArg Int32.toInt ex_31
        refine lv_iload_n hx hb dX8_sawLater_41 rfl (lv_at hl 4 rfl) ?_
        refine lv_icmp_le (tgt := 49) hx hb dX8_sawLater_42 (by decide) (fun c_32 => ?_) (fun c_32 => ?_)
        · have f_33 := E_le (rfl : x_31.toInt = _) (rfl : p2.toInt = _) c_32
          refine lv_iconst (v := 0) hx hb dX8_sawLater_49 (by decide) ?_
          refine lv_istore (lv' := [(5, .int 0), (4, .int L_1), (0, .ref h), (1, .int p0), (2, .int p1), (3, .int p2)]) hx hb dX8_sawLater_50 hl (by decide) rfl (fun ls hl => ?_)
          refine lv_iload hx hb dX8_sawLater_52 (lv_at hl 0 rfl) ?_
          refine lv_if_eq (tgt := 81) hx hb dX8_sawLater_54 (by decide) (fun _ => ?_) (fun c9 => absurd (by decide) c9)
          obtain ⟨x_34, ex_34⟩ : ∃ y : Int32, y = L_1 + 1 := ⟨_, rfl⟩
          have fx_34 : x_34.toInt = L_1.toInt + 1 := by rw [ex_34]; exact I_add rfl (by decide) (by omega) (by omega)
          refine lv_iinc (v := x_34) (lv' := [(4, .int x_34), (5, .int 0), (0, .ref h), (1, .int p0), (2, .int p1), (3, .int p2)]) hx hb dX8_sawLater_81 hl (k := 1) rfl (by rw [ex_34]; rfl) (by decide) rfl (fun ls hl => ?_)
          refine lv_goto (tgt := 3) hx hb dX8_sawLater_84 (by decide) ?_
          exact ih (n - 1) (by omega) H locs ls ⟨x_34, (by first | with_reducible assumption | omega), by omega, hP.sub [0, 1, 2, 3, 4] rfl, hS, lv_sub hl [0, 2, 3, 4, 5] rfl⟩
        · have f_35 := E_nle (rfl : x_31.toInt = _) (rfl : p2.toInt = _) c_32
          refine lv_iconst (v := 1) hx hb dX8_sawLater_45 (by decide) ?_
          refine lv_goto (tgt := 50) hx hb dX8_sawLater_46 (by decide) ?_
          refine lv_istore (lv' := [(5, .int 1), (4, .int L_1), (0, .ref h), (1, .int p0), (2, .int p1), (3, .int p2)]) hx hb dX8_sawLater_50 hl (by decide) rfl (fun ls hl => ?_)
          refine lv_iload hx hb dX8_sawLater_52 (lv_at hl 0 rfl) ?_
          refine lv_if_eq (tgt := 81) hx hb dX8_sawLater_54 (by decide) (fun c9 => absurd c9 (by decide)) (fun _ => ?_)
          refine lv_aload_n hx hb dX8_sawLater_57 rfl (lv_at hl 2 rfl) ?_
          refine va_get (D := g.1) (ci := 8) (v := .ref breasons) (C := RX8) (T := TX8) (N := 6) hx hb hT inF_X8 hown hK.1 hP 0 rfl rfl 2 (by decide) (hT _ bw_15) (fun _ h9 => h9) rfl dX8_sawLater_58 ?_
          refine lv_iload hx hb dX8_sawLater_61 (lv_at hl 1 rfl) ?_
          have h_36 : vp_in L_1 30 := vp_in_iff.mpr (by omega)
          refine va_iald hx hb hK.1 hP 1 1 rfl rfl (i := L_1) h_36 dX8_sawLater_63 ?_
          refine lv_topi (fun x_37 ex_37 => ?_)
          have ux_37 := congrArg Int32.toInt ex_37
          refine lv_iload_n hx hb dX8_sawLater_64 rfl (lv_at hl 3 rfl) ?_
          refine lv_icmp_ne (tgt := 81) hx hb dX8_sawLater_65 (by decide) (fun c_38 => ?_) (fun c_38 => ?_)
          · have f_39 := E_ne (rfl : x_37.toInt = _) (rfl : p0.toInt = _) c_38
            obtain ⟨x_40, ex_40⟩ : ∃ y : Int32, y = L_1 + 1 := ⟨_, rfl⟩
            have fx_40 : x_40.toInt = L_1.toInt + 1 := by rw [ex_40]; exact I_add rfl (by decide) (by omega) (by omega)
            refine lv_iinc (v := x_40) (lv' := [(4, .int x_40), (5, .int 1), (0, .ref h), (1, .int p0), (2, .int p1), (3, .int p2)]) hx hb dX8_sawLater_81 hl (k := 1) rfl (by rw [ex_40]; rfl) (by decide) rfl (fun ls hl => ?_)
            refine lv_goto (tgt := 3) hx hb dX8_sawLater_84 (by decide) ?_
            exact ih (n - 1) (by omega) H locs ls ⟨x_40, (by first | with_reducible assumption | omega), by omega, hP.sub [0, 1, 2, 3, 4] rfl, hS, lv_sub hl [0, 2, 3, 4, 5] rfl⟩
          · have f_41 := E_eq (rfl : x_37.toInt = _) (rfl : p0.toInt = _) c_38
            refine lv_aload_n hx hb dX8_sawLater_68 rfl (lv_at hl 2 rfl) ?_
            refine va_get (D := g.1) (ci := 8) (v := .ref bdays) (C := RX8) (T := TX8) (N := 6) hx hb hT inF_X8 hown hK.1 hP 0 rfl rfl 3 (by decide) (hT _ bw_16) (fun _ h9 => h9) rfl dX8_sawLater_69 ?_
            refine lv_iload hx hb dX8_sawLater_72 (lv_at hl 1 rfl) ?_
            have h_42 : vp_in L_1 30 := vp_in_iff.mpr (by omega)
            refine va_iald hx hb hK.1 hP 2 1 rfl rfl (i := L_1) h_42 dX8_sawLater_74 ?_
            refine lv_topi (fun x_43 ex_43 => ?_)
            have ux_43 := congrArg Int32.toInt ex_43
            refine lv_iload_n hx hb dX8_sawLater_75 rfl (lv_at hl 4 rfl) ?_
            refine lv_icmp_le (tgt := 81) hx hb dX8_sawLater_76 (by decide) (fun c_44 => ?_) (fun c_44 => ?_)
            · have f_45 := E_le (rfl : x_43.toInt = _) (rfl : p1.toInt = _) c_44
              obtain ⟨x_46, ex_46⟩ : ∃ y : Int32, y = L_1 + 1 := ⟨_, rfl⟩
              have fx_46 : x_46.toInt = L_1.toInt + 1 := by rw [ex_46]; exact I_add rfl (by decide) (by omega) (by omega)
              refine lv_iinc (v := x_46) (lv' := [(4, .int x_46), (5, .int 1), (0, .ref h), (1, .int p0), (2, .int p1), (3, .int p2)]) hx hb dX8_sawLater_81 hl (k := 1) rfl (by rw [ex_46]; rfl) (by decide) rfl (fun ls hl => ?_)
              refine lv_goto (tgt := 3) hx hb dX8_sawLater_84 (by decide) ?_
              exact ih (n - 1) (by omega) H locs ls ⟨x_46, (by first | with_reducible assumption | omega), by omega, hP.sub [0, 1, 2, 3, 4] rfl, hS, lv_sub hl [0, 2, 3, 4, 5] rfl⟩
            · have f_47 := E_nle (rfl : x_43.toInt = _) (rfl : p1.toInt = _) c_44
              refine lv_iconst (v := 1) hx hb dX8_sawLater_79 (by decide) ?_
              have hP9 : va_P g.1 vwCl [] H := hP.sub [] rfl
              have hD9 : va_D A [] := ⟨fun i j p q h => by simp at h, fun k q h => by simp at h⟩
              exact W.zret (v := 1) (ty := .boolean) hx hb hr rfl (fun t ht hW => ⟨⟨1, (), rfl, ⟨by decide, by decide⟩, by rw [ht]; exact hP9, by rw [hAe]; exact hD9⟩, hS.F ht⟩) hS.2.2 dX8_sawLater_80

theorem bw_214 : Cond.code yX4_duelOf cX4_duelOf 1 (some .int) ∈ gT := gT_tb 1199 (by decide +kernel) (by decide +kernel)
theorem dX4_duelOf_0 : decode cX4_duelOf 0 = .ok (.iload_n 0, 1) := by decide +kernel
theorem dX4_duelOf_1 : decode cX4_duelOf 1 = .ok (.bipush 16, 2) := by decide +kernel
theorem dX4_duelOf_3 : decode cX4_duelOf 3 = .ok (.idiv, 1) := by decide +kernel
theorem dX4_duelOf_4 : decode cX4_duelOf 4 = .ok (.ireturn, 1) := by decide +kernel
set_option maxHeartbeats 4000000 in
set_option maxRecDepth 100000 in
theorem s_X4_duelOf (l : Launch) (g : GG) (sz : Nat) (p0 : Int32) (hh0 : 0 ≤ p0.toInt ∧ p0.toInt ≤ 127) : Met l yX4_duelOf (.code yX4_duelOf cX4_duelOf 1 (some .int) :: gT) ({ frames := 0, cells := 0, slots := 0, locals := 0 }) (va_Pc [.int p0] (Pst g sz [] nX)) (va_Qi (fun (r : Int32) => fun (_ : Unit) => 0 ≤ r.toInt ∧ r.toInt ≤ 7) (Qst g [] sz (fun _ => [])) (va_A [] sz)) 0 0 (va_A [] sz) := by
  refine Met.ofW (cc := cX4_duelOf) (maxL := 1) (ret := (some .int)) (by decide) rfl ?_
  intro p e s m args below meth c s₁ B hml hv
  obtain ⟨rfl, hsz, hP, hK, hD0, hX⟩ := hv
  have hx := B.exec
  have hb := B.bytes
  have hr := B.returns
  have hT : ∀ w ∈ gT, w.before _ s = true := fun w h => atoms_spec (ws := .code yX4_duelOf cX4_duelOf 1 (some .int) :: gT) B.pre w (List.mem_cons_of_mem _ h)
  have hown : s.vm.findClass RX4 = some m.cls := findClass_of_methodNamed B.named
  have hlocks := B.notSynchronized
  subst hsz
  have hD := hD0
  generalize hAe : va_A [] s.heap.size = A at ⊢
  have hA : ∀ q : Nat, s.heap.size ≤ q → A q := fun q h => by rw [← hAe]; exact Or.inr h
  have hS : va_S A s.heap s.heap [] := va_S.rf
  have hl := lv_entry ([.int p0]) (n := 1) (Nat.le_of_ble_eq_true rfl)
  rw [lg_entry_eq]
  generalize (lg_sl ([.int p0]) ++ List.replicate (1 - (lg_sl ([.int p0])).length) Slot.unset).toArray = ls at hl ⊢
  have hl : lv_has ls 1 [(0, .int p0)] := hl
  refine p_nH (fun H hH => ?_)
  have hP : va_P g.1 vwCl [] H := by rw [hH]; exact hP
  have hS : va_S A s.heap H [] := by rw [hH]; exact hS
  refine lv_iload_n hx hb dX4_duelOf_0 rfl (lv_at hl 0 rfl) ?_
  refine lv_bipush (v := 16) hx hb dX4_duelOf_1 (by decide) ?_
  refine lv_idiv hx hb dX4_duelOf_3 (by decide) ?_
  refine lv_topi (fun x_1 ex_1 => ?_)
  have fx_1 : x_1.toInt = p0.toInt / 16 := by rw [ex_1]; exact I_div rfl (by decide : (16 : Int32).toInt = 16) (by omega) (by decide)
  have hP9 : va_P g.1 vwCl [] H := hP.sub [] rfl
  have hD9 : va_D A [] := ⟨fun i j p q h => by simp at h, fun k q h => by simp at h⟩
  exact W.iret (v := x_1) hx hb hr (fun t ht hW => ⟨⟨x_1, (), rfl, (by first | with_reducible assumption | omega), by rw [ht]; exact hP9, by rw [hAe]; exact hD9⟩, hS.F ht⟩) hS.2.2 dX4_duelOf_4

theorem bw_215 : Cond.code yX4_sideOf cX4_sideOf 1 (some .int) ∈ gT := gT_tb 1208 (by decide +kernel) (by decide +kernel)
theorem dX4_sideOf_0 : decode cX4_sideOf 0 = .ok (.iload_n 0, 1) := by decide +kernel
theorem dX4_sideOf_1 : decode cX4_sideOf 1 = .ok (.bipush 16, 2) := by decide +kernel
theorem dX4_sideOf_3 : decode cX4_sideOf 3 = .ok (.irem, 1) := by decide +kernel
theorem dX4_sideOf_4 : decode cX4_sideOf 4 = .ok (.bipush 8, 2) := by decide +kernel
theorem dX4_sideOf_6 : decode cX4_sideOf 6 = .ok (.idiv, 1) := by decide +kernel
theorem dX4_sideOf_7 : decode cX4_sideOf 7 = .ok (.ireturn, 1) := by decide +kernel
set_option maxHeartbeats 4000000 in
set_option maxRecDepth 100000 in
theorem s_X4_sideOf (l : Launch) (g : GG) (sz : Nat) (p0 : Int32) (hh0 : 0 ≤ p0.toInt ∧ p0.toInt ≤ 127) : Met l yX4_sideOf (.code yX4_sideOf cX4_sideOf 1 (some .int) :: gT) ({ frames := 0, cells := 0, slots := 0, locals := 0 }) (va_Pc [.int p0] (Pst g sz [] nX)) (va_Qi (fun (r : Int32) => fun (_ : Unit) => 0 ≤ r.toInt ∧ r.toInt ≤ 1) (Qst g [] sz (fun _ => [])) (va_A [] sz)) 0 0 (va_A [] sz) := by
  refine Met.ofW (cc := cX4_sideOf) (maxL := 1) (ret := (some .int)) (by decide) rfl ?_
  intro p e s m args below meth c s₁ B hml hv
  obtain ⟨rfl, hsz, hP, hK, hD0, hX⟩ := hv
  have hx := B.exec
  have hb := B.bytes
  have hr := B.returns
  have hT : ∀ w ∈ gT, w.before _ s = true := fun w h => atoms_spec (ws := .code yX4_sideOf cX4_sideOf 1 (some .int) :: gT) B.pre w (List.mem_cons_of_mem _ h)
  have hown : s.vm.findClass RX4 = some m.cls := findClass_of_methodNamed B.named
  have hlocks := B.notSynchronized
  subst hsz
  have hD := hD0
  generalize hAe : va_A [] s.heap.size = A at ⊢
  have hA : ∀ q : Nat, s.heap.size ≤ q → A q := fun q h => by rw [← hAe]; exact Or.inr h
  have hS : va_S A s.heap s.heap [] := va_S.rf
  have hl := lv_entry ([.int p0]) (n := 1) (Nat.le_of_ble_eq_true rfl)
  rw [lg_entry_eq]
  generalize (lg_sl ([.int p0]) ++ List.replicate (1 - (lg_sl ([.int p0])).length) Slot.unset).toArray = ls at hl ⊢
  have hl : lv_has ls 1 [(0, .int p0)] := hl
  refine p_nH (fun H hH => ?_)
  have hP : va_P g.1 vwCl [] H := by rw [hH]; exact hP
  have hS : va_S A s.heap H [] := by rw [hH]; exact hS
  refine lv_iload_n hx hb dX4_sideOf_0 rfl (lv_at hl 0 rfl) ?_
  refine lv_bipush (v := 16) hx hb dX4_sideOf_1 (by decide) ?_
  refine lv_irem hx hb dX4_sideOf_3 (by decide) ?_
  refine lv_topi (fun x_1 ex_1 => ?_)
  have fx_1 : x_1.toInt = p0.toInt % 16 := by rw [ex_1]; exact I_rem rfl (by decide : (16 : Int32).toInt = 16) (by omega) (by decide)
  refine lv_bipush (v := 8) hx hb dX4_sideOf_4 (by decide) ?_
  refine lv_idiv hx hb dX4_sideOf_6 (by decide) ?_
  refine lv_topi (fun x_2 ex_2 => ?_)
  have fx_2 : x_2.toInt = x_1.toInt / 8 := by rw [ex_2]; exact I_div rfl (by decide : (8 : Int32).toInt = 8) (by omega) (by decide)
  have hP9 : va_P g.1 vwCl [] H := hP.sub [] rfl
  have hD9 : va_D A [] := ⟨fun i j p q h => by simp at h, fun k q h => by simp at h⟩
  exact W.iret (v := x_2) hx hb hr (fun t ht hW => ⟨⟨x_2, (), rfl, (by first | with_reducible assumption | omega), by rw [ht]; exact hP9, by rw [hAe]; exact hD9⟩, hS.F ht⟩) hS.2.2 dX4_sideOf_7

theorem bw_216 : Cond.code yX4_reasonOf cX4_reasonOf 1 (some .int) ∈ gT := gT_tb 1202 (by decide +kernel) (by decide +kernel)
theorem dX4_reasonOf_0 : decode cX4_reasonOf 0 = .ok (.iload_n 0, 1) := by decide +kernel
theorem dX4_reasonOf_1 : decode cX4_reasonOf 1 = .ok (.bipush 8, 2) := by decide +kernel
theorem dX4_reasonOf_3 : decode cX4_reasonOf 3 = .ok (.irem, 1) := by decide +kernel
theorem dX4_reasonOf_4 : decode cX4_reasonOf 4 = .ok (.ireturn, 1) := by decide +kernel
set_option maxHeartbeats 4000000 in
set_option maxRecDepth 100000 in
theorem s_X4_reasonOf (l : Launch) (g : GG) (sz : Nat) (p0 : Int32) (hh0 : 0 ≤ p0.toInt ∧ p0.toInt ≤ 127) : Met l yX4_reasonOf (.code yX4_reasonOf cX4_reasonOf 1 (some .int) :: gT) ({ frames := 0, cells := 0, slots := 0, locals := 0 }) (va_Pc [.int p0] (Pst g sz [] nX)) (va_Qi (fun (r : Int32) => fun (_ : Unit) => 0 ≤ r.toInt ∧ r.toInt ≤ 7) (Qst g [] sz (fun _ => [])) (va_A [] sz)) 0 0 (va_A [] sz) := by
  refine Met.ofW (cc := cX4_reasonOf) (maxL := 1) (ret := (some .int)) (by decide) rfl ?_
  intro p e s m args below meth c s₁ B hml hv
  obtain ⟨rfl, hsz, hP, hK, hD0, hX⟩ := hv
  have hx := B.exec
  have hb := B.bytes
  have hr := B.returns
  have hT : ∀ w ∈ gT, w.before _ s = true := fun w h => atoms_spec (ws := .code yX4_reasonOf cX4_reasonOf 1 (some .int) :: gT) B.pre w (List.mem_cons_of_mem _ h)
  have hown : s.vm.findClass RX4 = some m.cls := findClass_of_methodNamed B.named
  have hlocks := B.notSynchronized
  subst hsz
  have hD := hD0
  generalize hAe : va_A [] s.heap.size = A at ⊢
  have hA : ∀ q : Nat, s.heap.size ≤ q → A q := fun q h => by rw [← hAe]; exact Or.inr h
  have hS : va_S A s.heap s.heap [] := va_S.rf
  have hl := lv_entry ([.int p0]) (n := 1) (Nat.le_of_ble_eq_true rfl)
  rw [lg_entry_eq]
  generalize (lg_sl ([.int p0]) ++ List.replicate (1 - (lg_sl ([.int p0])).length) Slot.unset).toArray = ls at hl ⊢
  have hl : lv_has ls 1 [(0, .int p0)] := hl
  refine p_nH (fun H hH => ?_)
  have hP : va_P g.1 vwCl [] H := by rw [hH]; exact hP
  have hS : va_S A s.heap H [] := by rw [hH]; exact hS
  refine lv_iload_n hx hb dX4_reasonOf_0 rfl (lv_at hl 0 rfl) ?_
  refine lv_bipush (v := 8) hx hb dX4_reasonOf_1 (by decide) ?_
  refine lv_irem hx hb dX4_reasonOf_3 (by decide) ?_
  refine lv_topi (fun x_1 ex_1 => ?_)
  have fx_1 : x_1.toInt = p0.toInt % 8 := by rw [ex_1]; exact I_rem rfl (by decide : (8 : Int32).toInt = 8) (by omega) (by decide)
  have hP9 : va_P g.1 vwCl [] H := hP.sub [] rfl
  have hD9 : va_D A [] := ⟨fun i j p q h => by simp at h, fun k q h => by simp at h⟩
  exact W.iret (v := x_1) hx hb hr (fun t ht hW => ⟨⟨x_1, (), rfl, (by first | with_reducible assumption | omega), by rw [ht]; exact hP9, by rw [hAe]; exact hD9⟩, hS.F ht⟩) hS.2.2 dX4_reasonOf_4

set_option maxRecDepth 20000 in
theorem inF_X4 : ∀ w ∈ u_ws RX4 TX4 4, w ∈ gT := gT_u [419, 421, 423, 425] (by decide +kernel) (by decide +kernel)
theorem bw_217 : Cond.methodLink RX4 18 yX4_duelOf ∈ gT := gT_tb 1197 (by decide +kernel) (by decide +kernel)
theorem bw_218 : Cond.static yX4_duelOf ∈ gT := gT_tb 1198 (by decide +kernel) (by decide +kernel)
theorem bw_219 : Cond.initialized yX4_duelOf.cls ∈ gT := gT_tb 14 (by decide +kernel) (by decide +kernel)
theorem bw_220 : Cond.fieldLink RX4 15 "DuelDelays$Parting" "mornings" "[I" ∈ gT := gT_tb 418 (by decide +kernel) (by decide +kernel)
theorem bw_221 : Cond.fieldLink RX4 9 "DuelDelays$Parting" "behind" "[I" ∈ gT := gT_tb 417 (by decide +kernel) (by decide +kernel)
theorem bw_222 : Cond.methodLink RX4 37 yX9_clashes ∈ gT := gT_tb 1191 (by decide +kernel) (by decide +kernel)
theorem bw_223 : Cond.instanceMethod yX9_clashes ∈ gT := gT_tb 1175 (by decide +kernel) (by decide +kernel)
theorem bw_224 : Cond.selects RX9 yX9_clashes yX9_clashes ∈ gT := gT_tb 1176 (by decide +kernel) (by decide +kernel)
theorem bw_225 : Cond.code yX4_isParted cX4_isParted 7 (some .boolean) ∈ gT := gT_tb 1218 (by decide +kernel) (by decide +kernel)
theorem dX4_isParted_0 : decode cX4_isParted 0 = .ok (.iload_n 3, 1) := by decide +kernel
theorem dX4_isParted_1 : decode cX4_isParted 1 = .ok (.invokestatic 18, 3) := by decide +kernel
theorem dX4_isParted_4 : decode cX4_isParted 4 = .ok (.istore 4, 2) := by decide +kernel
theorem dX4_isParted_6 : decode cX4_isParted 6 = .ok (.aload_n 0, 1) := by decide +kernel
theorem dX4_isParted_7 : decode cX4_isParted 7 = .ok (.getfield 15, 3) := by decide +kernel
theorem dX4_isParted_10 : decode cX4_isParted 10 = .ok (.iload 4, 2) := by decide +kernel
theorem dX4_isParted_12 : decode cX4_isParted 12 = .ok (.iaload, 1) := by decide +kernel
theorem dX4_isParted_13 : decode cX4_isParted 13 = .ok (.istore 5, 2) := by decide +kernel
theorem dX4_isParted_15 : decode cX4_isParted 15 = .ok (.aload_n 0, 1) := by decide +kernel
theorem dX4_isParted_16 : decode cX4_isParted 16 = .ok (.getfield 15, 3) := by decide +kernel
theorem dX4_isParted_19 : decode cX4_isParted 19 = .ok (.iload 4, 2) := by decide +kernel
theorem dX4_isParted_21 : decode cX4_isParted 21 = .ok (.aload_n 0, 1) := by decide +kernel
theorem dX4_isParted_22 : decode cX4_isParted 22 = .ok (.getfield 9, 3) := by decide +kernel
theorem dX4_isParted_25 : decode cX4_isParted 25 = .ok (.iload_n 3, 1) := by decide +kernel
theorem dX4_isParted_26 : decode cX4_isParted 26 = .ok (.iaload, 1) := by decide +kernel
theorem dX4_isParted_27 : decode cX4_isParted 27 = .ok (.iastore, 1) := by decide +kernel
theorem dX4_isParted_28 : decode cX4_isParted 28 = .ok (.aload_n 1, 1) := by decide +kernel
theorem dX4_isParted_29 : decode cX4_isParted 29 = .ok (.iload_n 2, 1) := by decide +kernel
theorem dX4_isParted_30 : decode cX4_isParted 30 = .ok (.aload_n 0, 1) := by decide +kernel
theorem dX4_isParted_31 : decode cX4_isParted 31 = .ok (.getfield 15, 3) := by decide +kernel
theorem dX4_isParted_34 : decode cX4_isParted 34 = .ok (.invokevirtual 37, 3) := by decide +kernel
theorem dX4_isParted_37 : decode cX4_isParted 37 = .ok (.ifCond .ne 7, 3) := by decide +kernel
theorem dX4_isParted_40 : decode cX4_isParted 40 = .ok (.iconst 1, 1) := by decide +kernel
theorem dX4_isParted_41 : decode cX4_isParted 41 = .ok (.goto 4, 3) := by decide +kernel
theorem dX4_isParted_44 : decode cX4_isParted 44 = .ok (.iconst 0, 1) := by decide +kernel
theorem dX4_isParted_45 : decode cX4_isParted 45 = .ok (.istore 6, 2) := by decide +kernel
theorem dX4_isParted_47 : decode cX4_isParted 47 = .ok (.aload_n 0, 1) := by decide +kernel
theorem dX4_isParted_48 : decode cX4_isParted 48 = .ok (.getfield 15, 3) := by decide +kernel
theorem dX4_isParted_51 : decode cX4_isParted 51 = .ok (.iload 4, 2) := by decide +kernel
theorem dX4_isParted_53 : decode cX4_isParted 53 = .ok (.iload 5, 2) := by decide +kernel
theorem dX4_isParted_55 : decode cX4_isParted 55 = .ok (.iastore, 1) := by decide +kernel
theorem dX4_isParted_56 : decode cX4_isParted 56 = .ok (.iload 6, 2) := by decide +kernel
theorem dX4_isParted_58 : decode cX4_isParted 58 = .ok (.ireturn, 1) := by decide +kernel
set_option maxHeartbeats 4000000 in
set_option maxRecDepth 100000 in
theorem s_X4_isParted (l : Launch) (g : GG) (sz : Nat) (h : Nat) (bfirst : Int32) (bsecond : Int32) (bbehind : Nat) (Fbbehind : Nat → Int32) (bmornings : Nat) (Fbmornings : Nat → Int32) (st : Nat) (sday : Int32) (sseed : Int32) (salive : Int32) (sstruck : Int32) (sopen : Int32) (sduels : Int32) (slines : Int32) (scoins : Nat) (srented : Nat) (smornings : Nat) (shonours : Nat) (sused : Nat) (ssides : Nat) (Fssides : Nat → Int32) (slog : Nat) (p0 : Int32) (p1 : Int32) (hh0 : 0 ≤ bfirst.toInt ∧ bfirst.toInt ≤ 128) (hh1 : 0 ≤ bsecond.toInt ∧ bsecond.toInt ≤ 128) (hh2 : 0 ≤ sseed.toInt ∧ sseed.toInt ≤ 999) (hh3 : 0 ≤ sduels.toInt ∧ sduels.toInt ≤ 8) (hh4 : 0 ≤ slines.toInt ∧ slines.toInt ≤ 60) (hh5 : Rg 16 0 5 Fssides) (hh18 : 0 ≤ p1.toInt ∧ p1.toInt ≤ 127) : Met l yX4_isParted (.code yX4_isParted cX4_isParted 7 (some .boolean) :: gT) ({ frames := 3, cells := 0, slots := 0, locals := 71 }) (va_Pc [.ref h, .ref st, .int p0, .int p1] (Pst g sz [(h, .inr (4, [.int bfirst, .int bsecond, .ref bbehind, .ref bmornings])), (bbehind, aI g 128 Fbbehind), (bmornings, aI g 8 Fbmornings), (st, .inr (9, [.int sday, .int sseed, .int salive, .int sstruck, .int sopen, .int sduels, .int slines, .ref scoins, .ref srented, .ref smornings, .ref shonours, .ref sused, .ref ssides, .ref slog])), (ssides, aI g 16 Fssides)] nX)) (va_Qi (fun (r : Int32) => fun (o0_F : (Nat → Int32)) => 0 ≤ r.toInt ∧ r.toInt ≤ 1) (Qst g [(h, .inr (4, [.int bfirst, .int bsecond, .ref bbehind, .ref bmornings])), (bbehind, aI g 128 Fbbehind), (bmornings, aI g 8 Fbmornings), (st, .inr (9, [.int sday, .int sseed, .int salive, .int sstruck, .int sopen, .int sduels, .int slines, .ref scoins, .ref srented, .ref smornings, .ref shonours, .ref sused, .ref ssides, .ref slog])), (ssides, aI g 16 Fssides)] sz (fun (o0_F : (Nat → Int32)) => [(h, .inr (4, [.int bfirst, .int bsecond, .ref bbehind, .ref bmornings])), (bbehind, aI g 128 Fbbehind), (bmornings, aI g 8 o0_F), (st, .inr (9, [.int sday, .int sseed, .int salive, .int sstruck, .int sopen, .int sduels, .int slines, .ref scoins, .ref srented, .ref smornings, .ref shonours, .ref sused, .ref ssides, .ref slog])), (ssides, aI g 16 Fssides)])) (va_A [(h, .inr (4, [.int bfirst, .int bsecond, .ref bbehind, .ref bmornings])), (bbehind, aI g 128 Fbbehind), (bmornings, aI g 8 Fbmornings), (st, .inr (9, [.int sday, .int sseed, .int salive, .int sstruck, .int sopen, .int sduels, .int slines, .ref scoins, .ref srented, .ref smornings, .ref shonours, .ref sused, .ref ssides, .ref slog])), (ssides, aI g 16 Fssides)] sz)) 0 0 (va_A [(h, .inr (4, [.int bfirst, .int bsecond, .ref bbehind, .ref bmornings])), (bbehind, aI g 128 Fbbehind), (bmornings, aI g 8 Fbmornings), (st, .inr (9, [.int sday, .int sseed, .int salive, .int sstruck, .int sopen, .int sduels, .int slines, .ref scoins, .ref srented, .ref smornings, .ref shonours, .ref sused, .ref ssides, .ref slog])), (ssides, aI g 16 Fssides)] sz) := by
  refine Met.ofW (cc := cX4_isParted) (maxL := 7) (ret := (some .boolean)) (by decide) rfl ?_
  intro p e s m args below meth c s₁ B hml hv
  obtain ⟨rfl, hsz, hP, hK, hD0, hX⟩ := hv
  have hx := B.exec
  have hb := B.bytes
  have hr := B.returns
  have hT : ∀ w ∈ gT, w.before _ s = true := fun w h => atoms_spec (ws := .code yX4_isParted cX4_isParted 7 (some .boolean) :: gT) B.pre w (List.mem_cons_of_mem _ h)
  have hown : s.vm.findClass RX4 = some m.cls := findClass_of_methodNamed B.named
  have hlocks := B.notSynchronized
  subst hsz
  have hD := hD0.self (sz := s.heap.size)
  generalize hAe : va_A [(h, .inr (4, [.int bfirst, .int bsecond, .ref bbehind, .ref bmornings])), (bbehind, aI g 128 Fbbehind), (bmornings, aI g 8 Fbmornings), (st, .inr (9, [.int sday, .int sseed, .int salive, .int sstruck, .int sopen, .int sduels, .int slines, .ref scoins, .ref srented, .ref smornings, .ref shonours, .ref sused, .ref ssides, .ref slog])), (ssides, aI g 16 Fssides)] s.heap.size = A at hD ⊢
  have hA : ∀ q : Nat, s.heap.size ≤ q → A q := fun q h => by rw [← hAe]; exact Or.inr h
  have hS : va_S A s.heap s.heap [] := va_S.rf
  have hl := lv_entry ([.ref h, .ref st, .int p0, .int p1]) (n := 7) (Nat.le_of_ble_eq_true rfl)
  rw [lg_entry_eq]
  generalize (lg_sl ([.ref h, .ref st, .int p0, .int p1]) ++ List.replicate (7 - (lg_sl ([.ref h, .ref st, .int p0, .int p1])).length) Slot.unset).toArray = ls at hl ⊢
  have hl : lv_has ls 7 [(0, .ref h), (1, .ref st), (2, .int p0), (3, .int p1)] := hl
  refine p_nH (fun H hH => ?_)
  have hP : va_P g.1 vwCl [(h, .inr (4, [.int bfirst, .int bsecond, .ref bbehind, .ref bmornings])), (bbehind, aI g 128 Fbbehind), (bmornings, aI g 8 Fbmornings), (st, .inr (9, [.int sday, .int sseed, .int salive, .int sstruck, .int sopen, .int sduels, .int slines, .ref scoins, .ref srented, .ref smornings, .ref shonours, .ref sused, .ref ssides, .ref slog])), (ssides, aI g 16 Fssides)] H := by rw [hH]; exact hP
  have hS : va_S A s.heap H [] := by rw [hH]; exact hS
  refine lv_iload_n hx hb dX4_isParted_0 rfl (lv_at hl 3 rfl) ?_
  refine k_iR (k_S (n := 1) ⟨hx, hb, hml, hown, hT⟩ hK hP hD [] rfl (by decide +kernel) (s_X4_duelOf l g H.size p1 (by first | with_reducible assumption | omega)) (gS bw_217 bw_218 bw_219 bw_214) rfl rfl (by decide +kernel) ⟨by decide, by decide⟩ (fun _ _ _ _ _ => trivial) (fun _ _ _ => trivial) rfl rfl hl.1 (Nat.le_of_ble_eq_true rfl) dX4_isParted_1 ⟨by decide, by decide⟩) hP hS hA (fun r_1 _ H locs hw0 hP hS => ?_)
  have hw : 0 ≤ r_1.toInt ∧ r_1.toInt ≤ 7 := hw0
  clear hw0
  have w_2 := hw
  refine lv_istore (lv' := [(4, .int r_1), (0, .ref h), (1, .ref st), (2, .int p0), (3, .int p1)]) hx hb dX4_isParted_4 hl (by decide) rfl (fun ls hl => ?_)
  refine lv_aload_n hx hb dX4_isParted_6 rfl (lv_at hl 1 rfl) ?_
  refine va_get (D := g.1) (ci := 4) (v := .ref bmornings) (C := RX4) (T := TX4) (N := 4) hx hb hT inF_X4 hown hK.1 hP 0 rfl rfl 3 (by decide) (hT _ bw_220) (fun _ h9 => h9) rfl dX4_isParted_7 ?_
  refine lv_iload hx hb dX4_isParted_10 (lv_at hl 0 rfl) ?_
  have h_3 : vp_in r_1 8 := vp_in_iff.mpr (by omega)
  refine va_iald hx hb hK.1 hP 2 1 rfl rfl (i := r_1) h_3 dX4_isParted_12 ?_
  refine lv_topi (fun x_4 ex_4 => ?_)
  have ux_4 := congrArg Int32.toInt ex_4
  refine lv_istore (lv' := [(5, .int x_4), (4, .int r_1), (0, .ref h), (1, .ref st), (2, .int p0), (3, .int p1)]) hx hb dX4_isParted_13 hl (by decide) rfl (fun ls hl => ?_)
  refine lv_aload_n hx hb dX4_isParted_15 rfl (lv_at hl 2 rfl) ?_
  refine va_get (D := g.1) (ci := 4) (v := .ref bmornings) (C := RX4) (T := TX4) (N := 4) hx hb hT inF_X4 hown hK.1 hP 0 rfl rfl 3 (by decide) (hT _ bw_220) (fun _ h9 => h9) rfl dX4_isParted_16 ?_
  refine lv_iload hx hb dX4_isParted_19 (lv_at hl 1 rfl) ?_
  refine lv_aload_n hx hb dX4_isParted_21 rfl (lv_at hl 2 rfl) ?_
  refine va_get (D := g.1) (ci := 4) (v := .ref bbehind) (C := RX4) (T := TX4) (N := 4) hx hb hT inF_X4 hown hK.1 hP 0 rfl rfl 2 (by decide) (hT _ bw_221) (fun _ h9 => h9) rfl dX4_isParted_22 ?_
  refine lv_iload_n hx hb dX4_isParted_25 rfl (lv_at hl 5 rfl) ?_
  have h_5 : vp_in p1 128 := vp_in_iff.mpr (by omega)
  refine va_iald hx hb hK.1 hP 1 1 rfl rfl (i := p1) h_5 dX4_isParted_26 ?_
  refine lv_topi (fun x_6 ex_6 => ?_)
  have ux_6 := congrArg Int32.toInt ex_6
  have h_7 : vp_in r_1 8 := vp_in_iff.mpr (by omega)
  refine va_iast hx hb hK.1 hP hD hS 2 1 rfl rfl (i := r_1) (x := x_6) h_7 dX4_isParted_27 (fun H locs hP hD hS => ?_)
  generalize upd Fbmornings (r_1 : Int32).toNatClampNeg x_6 = f_8 at hP hD
  have hP : va_P g.1 vwCl [(h, .inr (4, [.int bfirst, .int bsecond, .ref bbehind, .ref bmornings])), (bbehind, aI g 128 Fbbehind), (bmornings, aI g 8 f_8), (st, .inr (9, [.int sday, .int sseed, .int salive, .int sstruck, .int sopen, .int sduels, .int slines, .ref scoins, .ref srented, .ref smornings, .ref shonours, .ref sused, .ref ssides, .ref slog])), (ssides, aI g 16 Fssides)] H := hP
  have hD : va_D A [(h, .inr (4, [.int bfirst, .int bsecond, .ref bbehind, .ref bmornings])), (bbehind, aI g 128 Fbbehind), (bmornings, aI g 8 f_8), (st, .inr (9, [.int sday, .int sseed, .int salive, .int sstruck, .int sopen, .int sduels, .int slines, .ref scoins, .ref srented, .ref smornings, .ref shonours, .ref sused, .ref ssides, .ref slog])), (ssides, aI g 16 Fssides)] := hD
  refine lv_aload_n hx hb dX4_isParted_28 rfl (lv_at hl 3 rfl) ?_
  refine lv_iload_n hx hb dX4_isParted_29 rfl (lv_at hl 4 rfl) ?_
  refine lv_aload_n hx hb dX4_isParted_30 rfl (lv_at hl 2 rfl) ?_
  refine va_get (D := g.1) (ci := 4) (v := .ref bmornings) (C := RX4) (T := TX4) (N := 4) hx hb hT inF_X4 hown hK.1 hP 0 rfl rfl 3 (by decide) (hT _ bw_220) (fun _ h9 => h9) rfl dX4_isParted_31 ?_
  refine k_iR (k_V (n := 2) ⟨hx, hb, hml, hown, hT⟩ hK hP hD [3, 4, 2] rfl (by decide +kernel) (s_X9_clashes l g H.size st sday sseed salive sstruck sopen sduels slines scoins srented smornings shonours sused ssides Fssides slog bmornings f_8 p0 (by first | with_reducible assumption | omega) (by first | with_reducible assumption | omega) (by first | with_reducible assumption | omega) hh5) (gV bw_222 bw_223 bw_224 bw_46 bw_86) rfl rfl (by decide +kernel) ⟨by decide, by decide⟩ (ci := 9) (q0 := 0) rfl rfl (fun _ _ _ _ _ => trivial) (fun _ _ _ => trivial) rfl rfl hl.1 (Nat.le_of_ble_eq_true rfl) dX4_isParted_34 ⟨by decide, by decide⟩) hP hS hA (fun r_9 _ H locs hw0 hP hS => ?_)
  refine lv_if_ne (tgt := 44) hx hb dX4_isParted_37 (by decide) (fun c_10 => ?_) (fun c_10 => ?_)
  · have f_11 := E_ne (rfl : r_9.toInt = _) (by decide : (0 : Int32).toInt = 0) c_10
    refine lv_iconst (v := 0) hx hb dX4_isParted_44 (by decide) ?_
    refine lv_istore (lv' := [(6, .int 0), (5, .int x_4), (4, .int r_1), (0, .ref h), (1, .ref st), (2, .int p0), (3, .int p1)]) hx hb dX4_isParted_45 hl (by decide) rfl (fun ls hl => ?_)
    refine lv_aload_n hx hb dX4_isParted_47 rfl (lv_at hl 3 rfl) ?_
    refine va_get (D := g.1) (ci := 4) (v := .ref bmornings) (C := RX4) (T := TX4) (N := 4) hx hb hT inF_X4 hown hK.1 hP 0 rfl rfl 3 (by decide) (hT _ bw_220) (fun _ h9 => h9) rfl dX4_isParted_48 ?_
    refine lv_iload hx hb dX4_isParted_51 (lv_at hl 2 rfl) ?_
    refine lv_iload hx hb dX4_isParted_53 (lv_at hl 1 rfl) ?_
    have h_12 : vp_in r_1 8 := vp_in_iff.mpr (by omega)
    refine va_iast hx hb hK.1 hP hD hS 2 1 rfl rfl (i := r_1) (x := x_4) h_12 dX4_isParted_55 (fun H locs hP hD hS => ?_)
    generalize upd f_8 (r_1 : Int32).toNatClampNeg x_4 = f_13 at hP hD
    have hP : va_P g.1 vwCl [(h, .inr (4, [.int bfirst, .int bsecond, .ref bbehind, .ref bmornings])), (bbehind, aI g 128 Fbbehind), (bmornings, aI g 8 f_13), (st, .inr (9, [.int sday, .int sseed, .int salive, .int sstruck, .int sopen, .int sduels, .int slines, .ref scoins, .ref srented, .ref smornings, .ref shonours, .ref sused, .ref ssides, .ref slog])), (ssides, aI g 16 Fssides)] H := hP
    have hD : va_D A [(h, .inr (4, [.int bfirst, .int bsecond, .ref bbehind, .ref bmornings])), (bbehind, aI g 128 Fbbehind), (bmornings, aI g 8 f_13), (st, .inr (9, [.int sday, .int sseed, .int salive, .int sstruck, .int sopen, .int sduels, .int slines, .ref scoins, .ref srented, .ref smornings, .ref shonours, .ref sused, .ref ssides, .ref slog])), (ssides, aI g 16 Fssides)] := hD
    refine lv_iload hx hb dX4_isParted_56 (lv_at hl 0 rfl) ?_
    have hP9 : va_P g.1 vwCl [(h, .inr (4, [.int bfirst, .int bsecond, .ref bbehind, .ref bmornings])), (bbehind, aI g 128 Fbbehind), (bmornings, aI g 8 f_13), (st, .inr (9, [.int sday, .int sseed, .int salive, .int sstruck, .int sopen, .int sduels, .int slines, .ref scoins, .ref srented, .ref smornings, .ref shonours, .ref sused, .ref ssides, .ref slog])), (ssides, aI g 16 Fssides)] H := hP.sub [0, 1, 2, 3, 4] rfl
    have hD9 : va_D A [(h, .inr (4, [.int bfirst, .int bsecond, .ref bbehind, .ref bmornings])), (bbehind, aI g 128 Fbbehind), (bmornings, aI g 8 f_13), (st, .inr (9, [.int sday, .int sseed, .int salive, .int sstruck, .int sopen, .int sduels, .int slines, .ref scoins, .ref srented, .ref smornings, .ref shonours, .ref sused, .ref ssides, .ref slog])), (ssides, aI g 16 Fssides)] := hD.sub [0, 1, 2, 3, 4] (by decide +kernel) rfl
    exact W.zret (v := 0) (ty := .boolean) hx hb hr rfl (fun t ht hW => ⟨⟨0, f_13, rfl, ⟨by decide, by decide⟩, by rw [ht]; exact hP9, by rw [hAe]; exact hD9⟩, hS.F ht⟩) hS.2.2 dX4_isParted_58
  · have f_14 := E_eq (rfl : r_9.toInt = _) (by decide : (0 : Int32).toInt = 0) c_10
    refine lv_iconst (v := 1) hx hb dX4_isParted_40 (by decide) ?_
    refine lv_goto (tgt := 45) hx hb dX4_isParted_41 (by decide) ?_
    refine lv_istore (lv' := [(6, .int 1), (5, .int x_4), (4, .int r_1), (0, .ref h), (1, .ref st), (2, .int p0), (3, .int p1)]) hx hb dX4_isParted_45 hl (by decide) rfl (fun ls hl => ?_)
    refine lv_aload_n hx hb dX4_isParted_47 rfl (lv_at hl 3 rfl) ?_
    refine va_get (D := g.1) (ci := 4) (v := .ref bmornings) (C := RX4) (T := TX4) (N := 4) hx hb hT inF_X4 hown hK.1 hP 0 rfl rfl 3 (by decide) (hT _ bw_220) (fun _ h9 => h9) rfl dX4_isParted_48 ?_
    refine lv_iload hx hb dX4_isParted_51 (lv_at hl 2 rfl) ?_
    refine lv_iload hx hb dX4_isParted_53 (lv_at hl 1 rfl) ?_
    have h_15 : vp_in r_1 8 := vp_in_iff.mpr (by omega)
    refine va_iast hx hb hK.1 hP hD hS 2 1 rfl rfl (i := r_1) (x := x_4) h_15 dX4_isParted_55 (fun H locs hP hD hS => ?_)
    generalize upd f_8 (r_1 : Int32).toNatClampNeg x_4 = f_16 at hP hD
    have hP : va_P g.1 vwCl [(h, .inr (4, [.int bfirst, .int bsecond, .ref bbehind, .ref bmornings])), (bbehind, aI g 128 Fbbehind), (bmornings, aI g 8 f_16), (st, .inr (9, [.int sday, .int sseed, .int salive, .int sstruck, .int sopen, .int sduels, .int slines, .ref scoins, .ref srented, .ref smornings, .ref shonours, .ref sused, .ref ssides, .ref slog])), (ssides, aI g 16 Fssides)] H := hP
    have hD : va_D A [(h, .inr (4, [.int bfirst, .int bsecond, .ref bbehind, .ref bmornings])), (bbehind, aI g 128 Fbbehind), (bmornings, aI g 8 f_16), (st, .inr (9, [.int sday, .int sseed, .int salive, .int sstruck, .int sopen, .int sduels, .int slines, .ref scoins, .ref srented, .ref smornings, .ref shonours, .ref sused, .ref ssides, .ref slog])), (ssides, aI g 16 Fssides)] := hD
    refine lv_iload hx hb dX4_isParted_56 (lv_at hl 0 rfl) ?_
    have hP9 : va_P g.1 vwCl [(h, .inr (4, [.int bfirst, .int bsecond, .ref bbehind, .ref bmornings])), (bbehind, aI g 128 Fbbehind), (bmornings, aI g 8 f_16), (st, .inr (9, [.int sday, .int sseed, .int salive, .int sstruck, .int sopen, .int sduels, .int slines, .ref scoins, .ref srented, .ref smornings, .ref shonours, .ref sused, .ref ssides, .ref slog])), (ssides, aI g 16 Fssides)] H := hP.sub [0, 1, 2, 3, 4] rfl
    have hD9 : va_D A [(h, .inr (4, [.int bfirst, .int bsecond, .ref bbehind, .ref bmornings])), (bbehind, aI g 128 Fbbehind), (bmornings, aI g 8 f_16), (st, .inr (9, [.int sday, .int sseed, .int salive, .int sstruck, .int sopen, .int sduels, .int slines, .ref scoins, .ref srented, .ref smornings, .ref shonours, .ref sused, .ref ssides, .ref slog])), (ssides, aI g 16 Fssides)] := hD.sub [0, 1, 2, 3, 4] (by decide +kernel) rfl
    exact W.zret (v := 1) (ty := .boolean) hx hb hr rfl (fun t ht hW => ⟨⟨1, f_16, rfl, ⟨by decide, by decide⟩, by rw [ht]; exact hP9, by rw [hAe]; exact hD9⟩, hS.F ht⟩) hS.2.2 dX4_isParted_58

theorem bw_226 : Cond.fieldLink RX4 89 "DuelDelays$Parting" "first" "I" ∈ gT := gT_tb 413 (by decide +kernel) (by decide +kernel)
theorem bw_227 : Cond.methodLink RX4 92 yX4_isParted ∈ gT := gT_tb 1215 (by decide +kernel) (by decide +kernel)
theorem bw_228 : Cond.instanceMethod yX4_isParted ∈ gT := gT_tb 1217 (by decide +kernel) (by decide +kernel)
theorem bw_229 : Cond.selects RX4 yX4_isParted yX4_isParted ∈ gT := gT_sl 47 (by decide +kernel) (by decide +kernel)
theorem bw_230 : Cond.initialized RX4 ∈ gT := gT_tb 14 (by decide +kernel) (by decide +kernel)
theorem bw_231 : Cond.code yX4_findOne cX4_findOne 3 (some .boolean) ∈ gT := gT_tb 1214 (by decide +kernel) (by decide +kernel)
theorem dX4_findOne_0 : decode cX4_findOne 0 = .ok (.aload_n 0, 1) := by decide +kernel
theorem dX4_findOne_1 : decode cX4_findOne 1 = .ok (.iconst 0, 1) := by decide +kernel
theorem dX4_findOne_2 : decode cX4_findOne 2 = .ok (.putfield 89, 3) := by decide +kernel
theorem dX4_findOne_5 : decode cX4_findOne 5 = .ok (.aload_n 0, 1) := by decide +kernel
theorem dX4_findOne_6 : decode cX4_findOne 6 = .ok (.getfield 89, 3) := by decide +kernel
theorem dX4_findOne_9 : decode cX4_findOne 9 = .ok (.aload_n 0, 1) := by decide +kernel
theorem dX4_findOne_10 : decode cX4_findOne 10 = .ok (.getfield 9, 3) := by decide +kernel
theorem dX4_findOne_13 : decode cX4_findOne 13 = .ok (.arraylength, 1) := by decide +kernel
theorem dX4_findOne_14 : decode cX4_findOne 14 = .ok (.if_icmp .ge 43, 3) := by decide +kernel
theorem dX4_findOne_17 : decode cX4_findOne 17 = .ok (.aload_n 0, 1) := by decide +kernel
theorem dX4_findOne_18 : decode cX4_findOne 18 = .ok (.getfield 9, 3) := by decide +kernel
theorem dX4_findOne_21 : decode cX4_findOne 21 = .ok (.aload_n 0, 1) := by decide +kernel
theorem dX4_findOne_22 : decode cX4_findOne 22 = .ok (.getfield 89, 3) := by decide +kernel
theorem dX4_findOne_25 : decode cX4_findOne 25 = .ok (.iaload, 1) := by decide +kernel
theorem dX4_findOne_26 : decode cX4_findOne 26 = .ok (.ifCond .le 18, 3) := by decide +kernel
theorem dX4_findOne_29 : decode cX4_findOne 29 = .ok (.aload_n 0, 1) := by decide +kernel
theorem dX4_findOne_30 : decode cX4_findOne 30 = .ok (.aload_n 1, 1) := by decide +kernel
theorem dX4_findOne_31 : decode cX4_findOne 31 = .ok (.iload_n 2, 1) := by decide +kernel
theorem dX4_findOne_32 : decode cX4_findOne 32 = .ok (.aload_n 0, 1) := by decide +kernel
theorem dX4_findOne_33 : decode cX4_findOne 33 = .ok (.getfield 89, 3) := by decide +kernel
theorem dX4_findOne_36 : decode cX4_findOne 36 = .ok (.invokevirtual 92, 3) := by decide +kernel
theorem dX4_findOne_39 : decode cX4_findOne 39 = .ok (.ifCond .eq 5, 3) := by decide +kernel
theorem dX4_findOne_42 : decode cX4_findOne 42 = .ok (.iconst 1, 1) := by decide +kernel
theorem dX4_findOne_43 : decode cX4_findOne 43 = .ok (.ireturn, 1) := by decide +kernel
theorem dX4_findOne_44 : decode cX4_findOne 44 = .ok (.aload_n 0, 1) := by decide +kernel
theorem dX4_findOne_45 : decode cX4_findOne 45 = .ok (.dup, 1) := by decide +kernel
theorem dX4_findOne_46 : decode cX4_findOne 46 = .ok (.getfield 89, 3) := by decide +kernel
theorem dX4_findOne_49 : decode cX4_findOne 49 = .ok (.iconst 1, 1) := by decide +kernel
theorem dX4_findOne_50 : decode cX4_findOne 50 = .ok (.iadd, 1) := by decide +kernel
theorem dX4_findOne_51 : decode cX4_findOne 51 = .ok (.putfield 89, 3) := by decide +kernel
theorem dX4_findOne_54 : decode cX4_findOne 54 = .ok (.goto (-49), 3) := by decide +kernel
theorem dX4_findOne_57 : decode cX4_findOne 57 = .ok (.iconst 0, 1) := by decide +kernel
theorem dX4_findOne_58 : decode cX4_findOne 58 = .ok (.ireturn, 1) := by decide +kernel
set_option maxHeartbeats 4000000 in
set_option maxRecDepth 100000 in
theorem s_X4_findOne (l : Launch) (g : GG) (sz : Nat) (h : Nat) (bfirst : Int32) (bsecond : Int32) (bbehind : Nat) (Fbbehind : Nat → Int32) (bmornings : Nat) (Fbmornings : Nat → Int32) (st : Nat) (sday : Int32) (sseed : Int32) (salive : Int32) (sstruck : Int32) (sopen : Int32) (sduels : Int32) (slines : Int32) (scoins : Nat) (srented : Nat) (smornings : Nat) (shonours : Nat) (sused : Nat) (ssides : Nat) (Fssides : Nat → Int32) (slog : Nat) (p0 : Int32) (hh0 : 0 ≤ bfirst.toInt ∧ bfirst.toInt ≤ 128) (hh1 : 0 ≤ bsecond.toInt ∧ bsecond.toInt ≤ 128) (hh2 : 0 ≤ sseed.toInt ∧ sseed.toInt ≤ 999) (hh3 : 0 ≤ sduels.toInt ∧ sduels.toInt ≤ 8) (hh4 : 0 ≤ slines.toInt ∧ slines.toInt ≤ 60) (hh5 : Rg 16 0 5 Fssides) : Met l yX4_findOne (.code yX4_findOne cX4_findOne 3 (some .boolean) :: gT) ({ frames := 4, cells := 0, slots := 0, locals := 97 }) (va_Pc [.ref h, .ref st, .int p0] (Pst g sz [(h, .inr (4, [.int bfirst, .int bsecond, .ref bbehind, .ref bmornings])), (bbehind, aI g 128 Fbbehind), (bmornings, aI g 8 Fbmornings), (st, .inr (9, [.int sday, .int sseed, .int salive, .int sstruck, .int sopen, .int sduels, .int slines, .ref scoins, .ref srented, .ref smornings, .ref shonours, .ref sused, .ref ssides, .ref slog])), (ssides, aI g 16 Fssides)] nX)) (va_Qi (fun (r : Int32) => fun ((o0_first, o1_F) : Int32 × (Nat → Int32)) => (0 ≤ r.toInt ∧ r.toInt ≤ 1) ∧ (0 ≤ o0_first.toInt ∧ o0_first.toInt ≤ 128)) (Qst g [(h, .inr (4, [.int bfirst, .int bsecond, .ref bbehind, .ref bmornings])), (bbehind, aI g 128 Fbbehind), (bmornings, aI g 8 Fbmornings), (st, .inr (9, [.int sday, .int sseed, .int salive, .int sstruck, .int sopen, .int sduels, .int slines, .ref scoins, .ref srented, .ref smornings, .ref shonours, .ref sused, .ref ssides, .ref slog])), (ssides, aI g 16 Fssides)] sz (fun ((o0_first, o1_F) : Int32 × (Nat → Int32)) => [(h, .inr (4, [.int o0_first, .int bsecond, .ref bbehind, .ref bmornings])), (bbehind, aI g 128 Fbbehind), (bmornings, aI g 8 o1_F), (st, .inr (9, [.int sday, .int sseed, .int salive, .int sstruck, .int sopen, .int sduels, .int slines, .ref scoins, .ref srented, .ref smornings, .ref shonours, .ref sused, .ref ssides, .ref slog])), (ssides, aI g 16 Fssides)])) (va_A [(h, .inr (4, [.int bfirst, .int bsecond, .ref bbehind, .ref bmornings])), (bbehind, aI g 128 Fbbehind), (bmornings, aI g 8 Fbmornings), (st, .inr (9, [.int sday, .int sseed, .int salive, .int sstruck, .int sopen, .int sduels, .int slines, .ref scoins, .ref srented, .ref smornings, .ref shonours, .ref sused, .ref ssides, .ref slog])), (ssides, aI g 16 Fssides)] sz)) 0 0 (va_A [(h, .inr (4, [.int bfirst, .int bsecond, .ref bbehind, .ref bmornings])), (bbehind, aI g 128 Fbbehind), (bmornings, aI g 8 Fbmornings), (st, .inr (9, [.int sday, .int sseed, .int salive, .int sstruck, .int sopen, .int sduels, .int slines, .ref scoins, .ref srented, .ref smornings, .ref shonours, .ref sused, .ref ssides, .ref slog])), (ssides, aI g 16 Fssides)] sz) := by
  refine Met.ofW (cc := cX4_findOne) (maxL := 3) (ret := (some .boolean)) (by decide) rfl ?_
  intro p e s m args below meth c s₁ B hml hv
  obtain ⟨rfl, hsz, hP, hK, hD0, hX⟩ := hv
  have hx := B.exec
  have hb := B.bytes
  have hr := B.returns
  have hT : ∀ w ∈ gT, w.before _ s = true := fun w h => atoms_spec (ws := .code yX4_findOne cX4_findOne 3 (some .boolean) :: gT) B.pre w (List.mem_cons_of_mem _ h)
  have hown : s.vm.findClass RX4 = some m.cls := findClass_of_methodNamed B.named
  have hlocks := B.notSynchronized
  subst hsz
  have hD := hD0.self (sz := s.heap.size)
  generalize hAe : va_A [(h, .inr (4, [.int bfirst, .int bsecond, .ref bbehind, .ref bmornings])), (bbehind, aI g 128 Fbbehind), (bmornings, aI g 8 Fbmornings), (st, .inr (9, [.int sday, .int sseed, .int salive, .int sstruck, .int sopen, .int sduels, .int slines, .ref scoins, .ref srented, .ref smornings, .ref shonours, .ref sused, .ref ssides, .ref slog])), (ssides, aI g 16 Fssides)] s.heap.size = A at hD ⊢
  have hA : ∀ q : Nat, s.heap.size ≤ q → A q := fun q h => by rw [← hAe]; exact Or.inr h
  have hS : va_S A s.heap s.heap [] := va_S.rf
  have hl := lv_entry ([.ref h, .ref st, .int p0]) (n := 3) (Nat.le_of_ble_eq_true rfl)
  rw [lg_entry_eq]
  generalize (lg_sl ([.ref h, .ref st, .int p0]) ++ List.replicate (3 - (lg_sl ([.ref h, .ref st, .int p0])).length) Slot.unset).toArray = ls at hl ⊢
  have hl : lv_has ls 3 [(0, .ref h), (1, .ref st), (2, .int p0)] := hl
  refine p_nH (fun H hH => ?_)
  have hP : va_P g.1 vwCl [(h, .inr (4, [.int bfirst, .int bsecond, .ref bbehind, .ref bmornings])), (bbehind, aI g 128 Fbbehind), (bmornings, aI g 8 Fbmornings), (st, .inr (9, [.int sday, .int sseed, .int salive, .int sstruck, .int sopen, .int sduels, .int slines, .ref scoins, .ref srented, .ref smornings, .ref shonours, .ref sused, .ref ssides, .ref slog])), (ssides, aI g 16 Fssides)] H := by rw [hH]; exact hP
  have hS : va_S A s.heap H [] := by rw [hH]; exact hS
  refine lv_aload_n hx hb dX4_findOne_0 rfl (lv_at hl 0 rfl) ?_
  refine lv_iconst (v := 0) hx hb dX4_findOne_1 (by decide) ?_
  refine va_put (D := g.1) (ci := 4) (v := .int 0) (ty := .int) (C := RX4) (T := TX4) (N := 4) hx hb hT inF_X4 tyX4 tyX4_ok nmX4 hown hK.1 hP hD hS 0 rfl rfl 0 (by decide) (hT _ bw_226) (fun _ h9 => h9) rfl (by decide +kernel) rfl rfl (Nat.le_of_ble_eq_true rfl) dX4_findOne_2 (fun H locs hP hD hS => ?_)
  have hP : va_P g.1 vwCl [(h, .inr (4, [.int 0, .int bsecond, .ref bbehind, .ref bmornings])), (bbehind, aI g 128 Fbbehind), (bmornings, aI g 8 Fbmornings), (st, .inr (9, [.int sday, .int sseed, .int salive, .int sstruck, .int sopen, .int sduels, .int slines, .ref scoins, .ref srented, .ref smornings, .ref shonours, .ref sused, .ref ssides, .ref slog])), (ssides, aI g 16 Fssides)] H := hP
  have hD : va_D A [(h, .inr (4, [.int 0, .int bsecond, .ref bbehind, .ref bmornings])), (bbehind, aI g 128 Fbbehind), (bmornings, aI g 8 Fbmornings), (st, .inr (9, [.int sday, .int sseed, .int salive, .int sstruck, .int sopen, .int sduels, .int slines, .ref scoins, .ref srented, .ref smornings, .ref shonours, .ref sused, .ref ssides, .ref slog])), (ssides, aI g 16 Fssides)] := hD
  refine k_floop 5 (fun n H locs ls => ∃ (L_1 : Int32) (f_2 : Nat → Int32), (0 ≤ L_1.toInt ∧ L_1.toInt ≤ 128) ∧ 128 - L_1.toInt ≤ (n : Int) ∧ va_P g.1 vwCl [(h, .inr (4, [.int L_1, .int bsecond, .ref bbehind, .ref bmornings])), (bbehind, aI g 128 Fbbehind), (bmornings, aI g 8 f_2), (st, .inr (9, [.int sday, .int sseed, .int salive, .int sstruck, .int sopen, .int sduels, .int slines, .ref scoins, .ref srented, .ref smornings, .ref shonours, .ref sused, .ref ssides, .ref slog])), (ssides, aI g 16 Fssides)] H ∧ va_D A [(h, .inr (4, [.int L_1, .int bsecond, .ref bbehind, .ref bmornings])), (bbehind, aI g 128 Fbbehind), (bmornings, aI g 8 f_2), (st, .inr (9, [.int sday, .int sseed, .int salive, .int sstruck, .int sopen, .int sduels, .int slines, .ref scoins, .ref srented, .ref smornings, .ref shonours, .ref sused, .ref ssides, .ref slog])), (ssides, aI g 16 Fssides)] ∧ va_S A s.heap H locs ∧ lv_has ls 3 [(0, .ref h), (1, .ref st), (2, .int p0)]) (fun n H locs ls hI ih => ?_) ((128 - 0 : Int)).toNat ⟨0, Fbmornings, by decide, by have k0 : (0 : Int32).toInt = 0 := (by decide); omega, hP, hD, hS, hl⟩
  refine hI.elim (fun L_1 hI => hI.elim (fun f_2 hI => ?_))
  have g_3 := hI.1
  have hm_4 := hI.2.1
  have hP := hI.2.2.1
  have hD := hI.2.2.2.1
  have hS := hI.2.2.2.2.1
  have hl := hI.2.2.2.2.2
  clear hI
  refine lv_aload_n hx hb dX4_findOne_5 rfl (lv_at hl 0 rfl) ?_
  refine va_get (D := g.1) (ci := 4) (v := .int L_1) (C := RX4) (T := TX4) (N := 4) hx hb hT inF_X4 hown hK.1 hP 0 rfl rfl 0 (by decide) (hT _ bw_226) (fun _ h9 => h9) rfl dX4_findOne_6 ?_
  refine lv_aload_n hx hb dX4_findOne_9 rfl (lv_at hl 0 rfl) ?_
  refine va_get (D := g.1) (ci := 4) (v := .ref bbehind) (C := RX4) (T := TX4) (N := 4) hx hb hT inF_X4 hown hK.1 hP 0 rfl rfl 2 (by decide) (hT _ bw_221) (fun _ h9 => h9) rfl dX4_findOne_10 ?_
  refine va_alen (v := 128) hx hb hK.1 hP 1 1 rfl rfl rfl dX4_findOne_13 ?_
  refine lv_icmp_ge (tgt := 57) hx hb dX4_findOne_14 (by decide) (fun c_5 => ?_) (fun c_5 => ?_)
  · have f_6 := E_le (by decide : (128 : Int32).toInt = 128) (rfl : L_1.toInt = _) c_5
    refine lv_iconst (v := 0) hx hb dX4_findOne_57 (by decide) ?_
    have hP9 : va_P g.1 vwCl [(h, .inr (4, [.int L_1, .int bsecond, .ref bbehind, .ref bmornings])), (bbehind, aI g 128 Fbbehind), (bmornings, aI g 8 f_2), (st, .inr (9, [.int sday, .int sseed, .int salive, .int sstruck, .int sopen, .int sduels, .int slines, .ref scoins, .ref srented, .ref smornings, .ref shonours, .ref sused, .ref ssides, .ref slog])), (ssides, aI g 16 Fssides)] H := hP.sub [0, 1, 2, 3, 4] rfl
    have hD9 : va_D A [(h, .inr (4, [.int L_1, .int bsecond, .ref bbehind, .ref bmornings])), (bbehind, aI g 128 Fbbehind), (bmornings, aI g 8 f_2), (st, .inr (9, [.int sday, .int sseed, .int salive, .int sstruck, .int sopen, .int sduels, .int slines, .ref scoins, .ref srented, .ref smornings, .ref shonours, .ref sused, .ref ssides, .ref slog])), (ssides, aI g 16 Fssides)] := hD.sub [0, 1, 2, 3, 4] (by decide +kernel) rfl
    exact W.zret (v := 0) (ty := .boolean) hx hb hr rfl (fun t ht hW => ⟨⟨0, (L_1, f_2), rfl, ⟨⟨by decide, by decide⟩, (by first | with_reducible assumption | omega)⟩, by rw [ht]; exact hP9, by rw [hAe]; exact hD9⟩, hS.F ht⟩) hS.2.2 dX4_findOne_58
  · have f_7 := E_nle (by decide : (128 : Int32).toInt = 128) (rfl : L_1.toInt = _) c_5
    refine lv_aload_n hx hb dX4_findOne_17 rfl (lv_at hl 0 rfl) ?_
    refine va_get (D := g.1) (ci := 4) (v := .ref bbehind) (C := RX4) (T := TX4) (N := 4) hx hb hT inF_X4 hown hK.1 hP 0 rfl rfl 2 (by decide) (hT _ bw_221) (fun _ h9 => h9) rfl dX4_findOne_18 ?_
    refine lv_aload_n hx hb dX4_findOne_21 rfl (lv_at hl 0 rfl) ?_
    refine va_get (D := g.1) (ci := 4) (v := .int L_1) (C := RX4) (T := TX4) (N := 4) hx hb hT inF_X4 hown hK.1 hP 0 rfl rfl 0 (by decide) (hT _ bw_226) (fun _ h9 => h9) rfl dX4_findOne_22 ?_
    have h_8 : vp_in L_1 128 := vp_in_iff.mpr (by omega)
    refine va_iald hx hb hK.1 hP 1 1 rfl rfl (i := L_1) h_8 dX4_findOne_25 ?_
    refine lv_topi (fun x_9 ex_9 => ?_)
    have ux_9 := congrArg Int32.toInt ex_9
    refine lv_if_le (tgt := 44) hx hb dX4_findOne_26 (by decide) (fun c_10 => ?_) (fun c_10 => ?_)
    · have f_11 := E_le (rfl : x_9.toInt = _) (by decide : (0 : Int32).toInt = 0) c_10
      refine lv_aload_n hx hb dX4_findOne_44 rfl (lv_at hl 0 rfl) ?_
      refine lv_dup hx hb dX4_findOne_45 rfl ?_
      refine va_get (D := g.1) (ci := 4) (v := .int L_1) (C := RX4) (T := TX4) (N := 4) hx hb hT inF_X4 hown hK.1 hP 0 rfl rfl 0 (by decide) (hT _ bw_226) (fun _ h9 => h9) rfl dX4_findOne_46 ?_
      refine lv_iconst (v := 1) hx hb dX4_findOne_49 (by decide) ?_
      refine lv_iadd hx hb dX4_findOne_50 ?_
      refine lv_topi (fun x_12 ex_12 => ?_)
      have fx_12 : x_12.toInt = L_1.toInt + 1 := by rw [ex_12]; exact I_add rfl (by decide : (1 : Int32).toInt = 1) (by omega) (by omega)
      refine va_put (D := g.1) (ci := 4) (v := .int x_12) (ty := .int) (C := RX4) (T := TX4) (N := 4) hx hb hT inF_X4 tyX4 tyX4_ok nmX4 hown hK.1 hP hD hS 0 rfl rfl 0 (by decide) (hT _ bw_226) (fun _ h9 => h9) rfl (by decide +kernel) rfl rfl (Nat.le_of_ble_eq_true rfl) dX4_findOne_51 (fun H locs hP hD hS => ?_)
      have hP : va_P g.1 vwCl [(h, .inr (4, [.int x_12, .int bsecond, .ref bbehind, .ref bmornings])), (bbehind, aI g 128 Fbbehind), (bmornings, aI g 8 f_2), (st, .inr (9, [.int sday, .int sseed, .int salive, .int sstruck, .int sopen, .int sduels, .int slines, .ref scoins, .ref srented, .ref smornings, .ref shonours, .ref sused, .ref ssides, .ref slog])), (ssides, aI g 16 Fssides)] H := hP
      have hD : va_D A [(h, .inr (4, [.int x_12, .int bsecond, .ref bbehind, .ref bmornings])), (bbehind, aI g 128 Fbbehind), (bmornings, aI g 8 f_2), (st, .inr (9, [.int sday, .int sseed, .int salive, .int sstruck, .int sopen, .int sduels, .int slines, .ref scoins, .ref srented, .ref smornings, .ref shonours, .ref sused, .ref ssides, .ref slog])), (ssides, aI g 16 Fssides)] := hD
      refine lv_goto (tgt := 5) hx hb dX4_findOne_54 (by decide) ?_
      exact ih (n - 1) (by omega) H locs ls ⟨x_12, f_2, (by first | with_reducible assumption | omega), by omega, hP.sub [0, 1, 2, 3, 4] rfl, hD.sub [0, 1, 2, 3, 4] (by decide +kernel) rfl, hS, lv_sub hl [0, 1, 2] rfl⟩
    · have f_13 := E_nle (rfl : x_9.toInt = _) (by decide : (0 : Int32).toInt = 0) c_10
      refine lv_aload_n hx hb dX4_findOne_29 rfl (lv_at hl 0 rfl) ?_
      refine lv_aload_n hx hb dX4_findOne_30 rfl (lv_at hl 1 rfl) ?_
      refine lv_iload_n hx hb dX4_findOne_31 rfl (lv_at hl 2 rfl) ?_
      refine lv_aload_n hx hb dX4_findOne_32 rfl (lv_at hl 0 rfl) ?_
      refine va_get (D := g.1) (ci := 4) (v := .int L_1) (C := RX4) (T := TX4) (N := 4) hx hb hT inF_X4 hown hK.1 hP 0 rfl rfl 0 (by decide) (hT _ bw_226) (fun _ h9 => h9) rfl dX4_findOne_33 ?_
      refine k_i (wr := []) (k_V (n := 3) ⟨hx, hb, hml, hown, hT⟩ hK hP hD [0, 1, 2, 3, 4] rfl (by decide +kernel) (s_X4_isParted l g H.size h L_1 bsecond bbehind Fbbehind bmornings f_2 st sday sseed salive sstruck sopen sduels slines scoins srented smornings shonours sused ssides Fssides slog p0 L_1 (by first | with_reducible assumption | omega) (by first | with_reducible assumption | omega) (by first | with_reducible assumption | omega) (by first | with_reducible assumption | omega) (by first | with_reducible assumption | omega) hh5 (by first | with_reducible assumption | omega)) (gV bw_227 bw_228 bw_229 bw_230 bw_225) rfl rfl (by decide +kernel) ⟨by decide, by decide⟩ (ci := 4) (q0 := 0) rfl rfl (fun _ _ _ _ _ => trivial) (fun _ _ _ => trivial) rfl rfl hl.1 (Nat.le_of_ble_eq_true rfl) dX4_findOne_36 ⟨by decide, by decide⟩) hP hD hS hA [0, 1, 2, 3, 4] [] rfl rfl (by decide +kernel) (by decide +kernel) (fun r_14 => fun f_15 H locs hw0 hP hD hS => ?_)
      have hP : va_P g.1 vwCl [(h, .inr (4, [.int L_1, .int bsecond, .ref bbehind, .ref bmornings])), (bbehind, aI g 128 Fbbehind), (bmornings, aI g 8 f_15), (st, .inr (9, [.int sday, .int sseed, .int salive, .int sstruck, .int sopen, .int sduels, .int slines, .ref scoins, .ref srented, .ref smornings, .ref shonours, .ref sused, .ref ssides, .ref slog])), (ssides, aI g 16 Fssides)] H := hP
      have hD : va_D A [(h, .inr (4, [.int L_1, .int bsecond, .ref bbehind, .ref bmornings])), (bbehind, aI g 128 Fbbehind), (bmornings, aI g 8 f_15), (st, .inr (9, [.int sday, .int sseed, .int salive, .int sstruck, .int sopen, .int sduels, .int slines, .ref scoins, .ref srented, .ref smornings, .ref shonours, .ref sused, .ref ssides, .ref slog])), (ssides, aI g 16 Fssides)] := hD
      have hw : 0 ≤ r_14.toInt ∧ r_14.toInt ≤ 1 := hw0
      clear hw0
      have w_16 := hw
      refine lv_if_eq (tgt := 44) hx hb dX4_findOne_39 (by decide) (fun c_17 => ?_) (fun c_17 => ?_)
      · have f_18 := E_eq (rfl : r_14.toInt = _) (by decide : (0 : Int32).toInt = 0) c_17
        refine lv_aload_n hx hb dX4_findOne_44 rfl (lv_at hl 0 rfl) ?_
        refine lv_dup hx hb dX4_findOne_45 rfl ?_
        refine va_get (D := g.1) (ci := 4) (v := .int L_1) (C := RX4) (T := TX4) (N := 4) hx hb hT inF_X4 hown hK.1 hP 0 rfl rfl 0 (by decide) (hT _ bw_226) (fun _ h9 => h9) rfl dX4_findOne_46 ?_
        refine lv_iconst (v := 1) hx hb dX4_findOne_49 (by decide) ?_
        refine lv_iadd hx hb dX4_findOne_50 ?_
        refine lv_topi (fun x_19 ex_19 => ?_)
        have fx_19 : x_19.toInt = L_1.toInt + 1 := by rw [ex_19]; exact I_add rfl (by decide : (1 : Int32).toInt = 1) (by omega) (by omega)
        refine va_put (D := g.1) (ci := 4) (v := .int x_19) (ty := .int) (C := RX4) (T := TX4) (N := 4) hx hb hT inF_X4 tyX4 tyX4_ok nmX4 hown hK.1 hP hD hS 0 rfl rfl 0 (by decide) (hT _ bw_226) (fun _ h9 => h9) rfl (by decide +kernel) rfl rfl (Nat.le_of_ble_eq_true rfl) dX4_findOne_51 (fun H locs hP hD hS => ?_)
        have hP : va_P g.1 vwCl [(h, .inr (4, [.int x_19, .int bsecond, .ref bbehind, .ref bmornings])), (bbehind, aI g 128 Fbbehind), (bmornings, aI g 8 f_15), (st, .inr (9, [.int sday, .int sseed, .int salive, .int sstruck, .int sopen, .int sduels, .int slines, .ref scoins, .ref srented, .ref smornings, .ref shonours, .ref sused, .ref ssides, .ref slog])), (ssides, aI g 16 Fssides)] H := hP
        have hD : va_D A [(h, .inr (4, [.int x_19, .int bsecond, .ref bbehind, .ref bmornings])), (bbehind, aI g 128 Fbbehind), (bmornings, aI g 8 f_15), (st, .inr (9, [.int sday, .int sseed, .int salive, .int sstruck, .int sopen, .int sduels, .int slines, .ref scoins, .ref srented, .ref smornings, .ref shonours, .ref sused, .ref ssides, .ref slog])), (ssides, aI g 16 Fssides)] := hD
        refine lv_goto (tgt := 5) hx hb dX4_findOne_54 (by decide) ?_
        exact ih (n - 1) (by omega) H locs ls ⟨x_19, f_15, (by first | with_reducible assumption | omega), by omega, hP.sub [0, 1, 2, 3, 4] rfl, hD.sub [0, 1, 2, 3, 4] (by decide +kernel) rfl, hS, lv_sub hl [0, 1, 2] rfl⟩
      · have f_20 := E_ne (rfl : r_14.toInt = _) (by decide : (0 : Int32).toInt = 0) c_17
        refine lv_iconst (v := 1) hx hb dX4_findOne_42 (by decide) ?_
        have hP9 : va_P g.1 vwCl [(h, .inr (4, [.int L_1, .int bsecond, .ref bbehind, .ref bmornings])), (bbehind, aI g 128 Fbbehind), (bmornings, aI g 8 f_15), (st, .inr (9, [.int sday, .int sseed, .int salive, .int sstruck, .int sopen, .int sduels, .int slines, .ref scoins, .ref srented, .ref smornings, .ref shonours, .ref sused, .ref ssides, .ref slog])), (ssides, aI g 16 Fssides)] H := hP.sub [0, 1, 2, 3, 4] rfl
        have hD9 : va_D A [(h, .inr (4, [.int L_1, .int bsecond, .ref bbehind, .ref bmornings])), (bbehind, aI g 128 Fbbehind), (bmornings, aI g 8 f_15), (st, .inr (9, [.int sday, .int sseed, .int salive, .int sstruck, .int sopen, .int sduels, .int slines, .ref scoins, .ref srented, .ref smornings, .ref shonours, .ref sused, .ref ssides, .ref slog])), (ssides, aI g 16 Fssides)] := hD.sub [0, 1, 2, 3, 4] (by decide +kernel) rfl
        exact W.zret (v := 1) (ty := .boolean) hx hb hr rfl (fun t ht hW => ⟨⟨1, (L_1, f_15), rfl, ⟨⟨by decide, by decide⟩, (by first | with_reducible assumption | omega)⟩, by rw [ht]; exact hP9, by rw [hAe]; exact hD9⟩, hS.F ht⟩) hS.2.2 dX4_findOne_43

theorem bw_232 : Cond.methodLink RX4 25 yX4_reasonOf ∈ gT := gT_tb 1200 (by decide +kernel) (by decide +kernel)
theorem bw_233 : Cond.static yX4_reasonOf ∈ gT := gT_tb 1201 (by decide +kernel) (by decide +kernel)
theorem bw_234 : Cond.initialized yX4_reasonOf.cls ∈ gT := gT_tb 14 (by decide +kernel) (by decide +kernel)
theorem bw_235 : Cond.fieldLink RX4 70 "DuelDelays$Land" "reasons" "LDuelDelays$Reasons;" ∈ gT := gT_tb 294 (by decide +kernel) (by decide +kernel)
theorem bw_236 : Cond.methodLink RX4 76 yX6_has ∈ gT := gT_tb 1205 (by decide +kernel) (by decide +kernel)
theorem bw_237 : Cond.instanceMethod yX6_has ∈ gT := gT_tb 878 (by decide +kernel) (by decide +kernel)
theorem bw_238 : Cond.selects RX6 yX6_has yX6_has ∈ gT := gT_tb 879 (by decide +kernel) (by decide +kernel)
theorem bw_239 : Cond.fieldLink RX4 99 "DuelDelays$Reasons" "sorts" "[I" ∈ gT := gT_tb 264 (by decide +kernel) (by decide +kernel)
theorem bw_240 : Cond.fieldLink RX4 102 "DuelDelays$Parting" "second" "I" ∈ gT := gT_tb 415 (by decide +kernel) (by decide +kernel)
theorem bw_241 : Cond.code yX4_findSecond cX4_findSecond 7 (some .boolean) ∈ gT := gT_tb 1226 (by decide +kernel) (by decide +kernel)
theorem dX4_findSecond_0 : decode cX4_findSecond 0 = .ok (.aload_n 0, 1) := by decide +kernel
theorem dX4_findSecond_1 : decode cX4_findSecond 1 = .ok (.getfield 89, 3) := by decide +kernel
theorem dX4_findSecond_4 : decode cX4_findSecond 4 = .ok (.invokestatic 25, 3) := by decide +kernel
theorem dX4_findSecond_7 : decode cX4_findSecond 7 = .ok (.istore 4, 2) := by decide +kernel
theorem dX4_findSecond_9 : decode cX4_findSecond 9 = .ok (.aload_n 1, 1) := by decide +kernel
theorem dX4_findSecond_10 : decode cX4_findSecond 10 = .ok (.getfield 70, 3) := by decide +kernel
theorem dX4_findSecond_13 : decode cX4_findSecond 13 = .ok (.iload 4, 2) := by decide +kernel
theorem dX4_findSecond_15 : decode cX4_findSecond 15 = .ok (.invokevirtual 76, 3) := by decide +kernel
theorem dX4_findSecond_18 : decode cX4_findSecond 18 = .ok (.ifCond .eq 21, 3) := by decide +kernel
theorem dX4_findSecond_21 : decode cX4_findSecond 21 = .ok (.aload_n 1, 1) := by decide +kernel
theorem dX4_findSecond_22 : decode cX4_findSecond 22 = .ok (.getfield 70, 3) := by decide +kernel
theorem dX4_findSecond_25 : decode cX4_findSecond 25 = .ok (.getfield 99, 3) := by decide +kernel
theorem dX4_findSecond_28 : decode cX4_findSecond 28 = .ok (.iload 4, 2) := by decide +kernel
theorem dX4_findSecond_30 : decode cX4_findSecond 30 = .ok (.iaload, 1) := by decide +kernel
theorem dX4_findSecond_31 : decode cX4_findSecond 31 = .ok (.iconst 2, 1) := by decide +kernel
theorem dX4_findSecond_32 : decode cX4_findSecond 32 = .ok (.if_icmp .ne 7, 3) := by decide +kernel
theorem dX4_findSecond_35 : decode cX4_findSecond 35 = .ok (.iconst 1, 1) := by decide +kernel
theorem dX4_findSecond_36 : decode cX4_findSecond 36 = .ok (.goto 4, 3) := by decide +kernel
theorem dX4_findSecond_39 : decode cX4_findSecond 39 = .ok (.iconst 0, 1) := by decide +kernel
theorem dX4_findSecond_40 : decode cX4_findSecond 40 = .ok (.istore 5, 2) := by decide +kernel
theorem dX4_findSecond_42 : decode cX4_findSecond 42 = .ok (.aload_n 0, 1) := by decide +kernel
theorem dX4_findSecond_43 : decode cX4_findSecond 43 = .ok (.bipush 16, 2) := by decide +kernel
theorem dX4_findSecond_45 : decode cX4_findSecond 45 = .ok (.aload_n 0, 1) := by decide +kernel
theorem dX4_findSecond_46 : decode cX4_findSecond 46 = .ok (.getfield 89, 3) := by decide +kernel
theorem dX4_findSecond_49 : decode cX4_findSecond 49 = .ok (.invokestatic 18, 3) := by decide +kernel
theorem dX4_findSecond_52 : decode cX4_findSecond 52 = .ok (.iconst 1, 1) := by decide +kernel
theorem dX4_findSecond_53 : decode cX4_findSecond 53 = .ok (.iadd, 1) := by decide +kernel
theorem dX4_findSecond_54 : decode cX4_findSecond 54 = .ok (.imul, 1) := by decide +kernel
theorem dX4_findSecond_55 : decode cX4_findSecond 55 = .ok (.putfield 102, 3) := by decide +kernel
theorem dX4_findSecond_58 : decode cX4_findSecond 58 = .ok (.aload_n 0, 1) := by decide +kernel
theorem dX4_findSecond_59 : decode cX4_findSecond 59 = .ok (.getfield 102, 3) := by decide +kernel
theorem dX4_findSecond_62 : decode cX4_findSecond 62 = .ok (.aload_n 0, 1) := by decide +kernel
theorem dX4_findSecond_63 : decode cX4_findSecond 63 = .ok (.getfield 9, 3) := by decide +kernel
theorem dX4_findSecond_66 : decode cX4_findSecond 66 = .ok (.arraylength, 1) := by decide +kernel
theorem dX4_findSecond_67 : decode cX4_findSecond 67 = .ok (.if_icmp .ge 72, 3) := by decide +kernel
theorem dX4_findSecond_70 : decode cX4_findSecond 70 = .ok (.iload 5, 2) := by decide +kernel
theorem dX4_findSecond_72 : decode cX4_findSecond 72 = .ok (.ifCond .eq 19, 3) := by decide +kernel
theorem dX4_findSecond_75 : decode cX4_findSecond 75 = .ok (.aload_n 0, 1) := by decide +kernel
theorem dX4_findSecond_76 : decode cX4_findSecond 76 = .ok (.getfield 102, 3) := by decide +kernel
theorem dX4_findSecond_79 : decode cX4_findSecond 79 = .ok (.invokestatic 25, 3) := by decide +kernel
theorem dX4_findSecond_82 : decode cX4_findSecond 82 = .ok (.iload 4, 2) := by decide +kernel
theorem dX4_findSecond_84 : decode cX4_findSecond 84 = .ok (.if_icmp .ne 7, 3) := by decide +kernel
theorem dX4_findSecond_87 : decode cX4_findSecond 87 = .ok (.iconst 1, 1) := by decide +kernel
theorem dX4_findSecond_88 : decode cX4_findSecond 88 = .ok (.goto 4, 3) := by decide +kernel
theorem dX4_findSecond_91 : decode cX4_findSecond 91 = .ok (.iconst 0, 1) := by decide +kernel
theorem dX4_findSecond_92 : decode cX4_findSecond 92 = .ok (.istore 6, 2) := by decide +kernel
theorem dX4_findSecond_94 : decode cX4_findSecond 94 = .ok (.aload_n 0, 1) := by decide +kernel
theorem dX4_findSecond_95 : decode cX4_findSecond 95 = .ok (.getfield 9, 3) := by decide +kernel
theorem dX4_findSecond_98 : decode cX4_findSecond 98 = .ok (.aload_n 0, 1) := by decide +kernel
theorem dX4_findSecond_99 : decode cX4_findSecond 99 = .ok (.getfield 102, 3) := by decide +kernel
theorem dX4_findSecond_102 : decode cX4_findSecond 102 = .ok (.iaload, 1) := by decide +kernel
theorem dX4_findSecond_103 : decode cX4_findSecond 103 = .ok (.ifCond .le 23, 3) := by decide +kernel
theorem dX4_findSecond_106 : decode cX4_findSecond 106 = .ok (.iload 6, 2) := by decide +kernel
theorem dX4_findSecond_108 : decode cX4_findSecond 108 = .ok (.ifCond .ne 18, 3) := by decide +kernel
theorem dX4_findSecond_111 : decode cX4_findSecond 111 = .ok (.aload_n 0, 1) := by decide +kernel
theorem dX4_findSecond_112 : decode cX4_findSecond 112 = .ok (.aload_n 2, 1) := by decide +kernel
theorem dX4_findSecond_113 : decode cX4_findSecond 113 = .ok (.iload_n 3, 1) := by decide +kernel
theorem dX4_findSecond_114 : decode cX4_findSecond 114 = .ok (.aload_n 0, 1) := by decide +kernel
theorem dX4_findSecond_115 : decode cX4_findSecond 115 = .ok (.getfield 102, 3) := by decide +kernel
theorem dX4_findSecond_118 : decode cX4_findSecond 118 = .ok (.invokevirtual 92, 3) := by decide +kernel
theorem dX4_findSecond_121 : decode cX4_findSecond 121 = .ok (.ifCond .eq 5, 3) := by decide +kernel
theorem dX4_findSecond_124 : decode cX4_findSecond 124 = .ok (.iconst 1, 1) := by decide +kernel
theorem dX4_findSecond_125 : decode cX4_findSecond 125 = .ok (.ireturn, 1) := by decide +kernel
theorem dX4_findSecond_126 : decode cX4_findSecond 126 = .ok (.aload_n 0, 1) := by decide +kernel
theorem dX4_findSecond_127 : decode cX4_findSecond 127 = .ok (.dup, 1) := by decide +kernel
theorem dX4_findSecond_128 : decode cX4_findSecond 128 = .ok (.getfield 102, 3) := by decide +kernel
theorem dX4_findSecond_131 : decode cX4_findSecond 131 = .ok (.iconst 1, 1) := by decide +kernel
theorem dX4_findSecond_132 : decode cX4_findSecond 132 = .ok (.iadd, 1) := by decide +kernel
theorem dX4_findSecond_133 : decode cX4_findSecond 133 = .ok (.putfield 102, 3) := by decide +kernel
theorem dX4_findSecond_136 : decode cX4_findSecond 136 = .ok (.goto (-78), 3) := by decide +kernel
theorem dX4_findSecond_139 : decode cX4_findSecond 139 = .ok (.iconst 0, 1) := by decide +kernel
theorem dX4_findSecond_140 : decode cX4_findSecond 140 = .ok (.ireturn, 1) := by decide +kernel
set_option maxHeartbeats 4000000 in
set_option maxRecDepth 100000 in
theorem s_X4_findSecond (l : Launch) (g : GG) (sz : Nat) (h : Nat) (bfirst : Int32) (bsecond : Int32) (bbehind : Nat) (Fbbehind : Nat → Int32) (bmornings : Nat) (Fbmornings : Nat → Int32) (st : Nat) (sday : Int32) (sseed : Int32) (salive : Int32) (sstruck : Int32) (sopen : Int32) (sduels : Int32) (slines : Int32) (scoins : Nat) (srented : Nat) (smornings : Nat) (shonours : Nat) (sused : Nat) (ssides : Nat) (Fssides : Nat → Int32) (slog : Nat) (la : Nat) (dduels : Int32) (dduelSides : Nat) (dduelMornings : Nat) (dhonour : Int32) (ddraw : Int32) (dusesOfKind : Nat) (dmen : Nat) (dformulas : Nat) (dreasons : Nat) (dreasons_count : Int32) (dreasons_names : Nat) (dreasons_kinds : Nat) (dreasons_owners : Nat) (dreasons_froms : Nat) (dreasons_tos : Nat) (dreasons_rents : Nat) (dreasons_sorts : Nat) (Fdreasons_sorts : Nat → Int32) (p0 : Int32) (hh0 : 0 ≤ bfirst.toInt ∧ bfirst.toInt ≤ 128) (hh1 : 0 ≤ bsecond.toInt ∧ bsecond.toInt ≤ 128) (hh2 : 0 ≤ sseed.toInt ∧ sseed.toInt ≤ 999) (hh3 : 0 ≤ sduels.toInt ∧ sduels.toInt ≤ 8) (hh4 : 0 ≤ slines.toInt ∧ slines.toInt ≤ 60) (hh5 : Rg 16 0 5 Fssides) (hh6 : 0 ≤ dduels.toInt ∧ dduels.toInt ≤ 6) (hh8 : 0 ≤ ddraw.toInt ∧ ddraw.toInt ≤ 999) (hh15 : 0 ≤ dreasons_count.toInt ∧ dreasons_count.toInt ≤ 8) (hh18 : 0 ≤ bfirst.toInt ∧ bfirst.toInt ≤ 127) : Met l yX4_findSecond (.code yX4_findSecond cX4_findSecond 7 (some .boolean) :: gT) ({ frames := 4, cells := 0, slots := 0, locals := 97 }) (va_Pc [.ref h, .ref la, .ref st, .int p0] (Pst g sz [(h, .inr (4, [.int bfirst, .int bsecond, .ref bbehind, .ref bmornings])), (bbehind, aI g 128 Fbbehind), (bmornings, aI g 8 Fbmornings), (st, .inr (9, [.int sday, .int sseed, .int salive, .int sstruck, .int sopen, .int sduels, .int slines, .ref scoins, .ref srented, .ref smornings, .ref shonours, .ref sused, .ref ssides, .ref slog])), (ssides, aI g 16 Fssides), (la, .inr (2, [.ref dmen, .ref dformulas, .ref dreasons, .int dduels, .ref dduelSides, .ref dduelMornings, .int dhonour, .int ddraw, .ref dusesOfKind])), (dreasons, .inr (6, [.int dreasons_count, .ref dreasons_names, .ref dreasons_kinds, .ref dreasons_owners, .ref dreasons_froms, .ref dreasons_tos, .ref dreasons_rents, .ref dreasons_sorts])), (dreasons_sorts, aI g 8 Fdreasons_sorts)] nX)) (va_Qi (fun (r : Int32) => fun ((o0_second, o1_F) : Int32 × (Nat → Int32)) => (0 ≤ r.toInt ∧ r.toInt ≤ 1) ∧ (0 ≤ o0_second.toInt ∧ o0_second.toInt ≤ 128)) (Qst g [(h, .inr (4, [.int bfirst, .int bsecond, .ref bbehind, .ref bmornings])), (bbehind, aI g 128 Fbbehind), (bmornings, aI g 8 Fbmornings), (st, .inr (9, [.int sday, .int sseed, .int salive, .int sstruck, .int sopen, .int sduels, .int slines, .ref scoins, .ref srented, .ref smornings, .ref shonours, .ref sused, .ref ssides, .ref slog])), (ssides, aI g 16 Fssides), (la, .inr (2, [.ref dmen, .ref dformulas, .ref dreasons, .int dduels, .ref dduelSides, .ref dduelMornings, .int dhonour, .int ddraw, .ref dusesOfKind])), (dreasons, .inr (6, [.int dreasons_count, .ref dreasons_names, .ref dreasons_kinds, .ref dreasons_owners, .ref dreasons_froms, .ref dreasons_tos, .ref dreasons_rents, .ref dreasons_sorts])), (dreasons_sorts, aI g 8 Fdreasons_sorts)] sz (fun ((o0_second, o1_F) : Int32 × (Nat → Int32)) => [(h, .inr (4, [.int bfirst, .int o0_second, .ref bbehind, .ref bmornings])), (bbehind, aI g 128 Fbbehind), (bmornings, aI g 8 o1_F), (st, .inr (9, [.int sday, .int sseed, .int salive, .int sstruck, .int sopen, .int sduels, .int slines, .ref scoins, .ref srented, .ref smornings, .ref shonours, .ref sused, .ref ssides, .ref slog])), (ssides, aI g 16 Fssides), (la, .inr (2, [.ref dmen, .ref dformulas, .ref dreasons, .int dduels, .ref dduelSides, .ref dduelMornings, .int dhonour, .int ddraw, .ref dusesOfKind])), (dreasons, .inr (6, [.int dreasons_count, .ref dreasons_names, .ref dreasons_kinds, .ref dreasons_owners, .ref dreasons_froms, .ref dreasons_tos, .ref dreasons_rents, .ref dreasons_sorts])), (dreasons_sorts, aI g 8 Fdreasons_sorts)])) (va_A [(h, .inr (4, [.int bfirst, .int bsecond, .ref bbehind, .ref bmornings])), (bbehind, aI g 128 Fbbehind), (bmornings, aI g 8 Fbmornings), (st, .inr (9, [.int sday, .int sseed, .int salive, .int sstruck, .int sopen, .int sduels, .int slines, .ref scoins, .ref srented, .ref smornings, .ref shonours, .ref sused, .ref ssides, .ref slog])), (ssides, aI g 16 Fssides), (la, .inr (2, [.ref dmen, .ref dformulas, .ref dreasons, .int dduels, .ref dduelSides, .ref dduelMornings, .int dhonour, .int ddraw, .ref dusesOfKind])), (dreasons, .inr (6, [.int dreasons_count, .ref dreasons_names, .ref dreasons_kinds, .ref dreasons_owners, .ref dreasons_froms, .ref dreasons_tos, .ref dreasons_rents, .ref dreasons_sorts])), (dreasons_sorts, aI g 8 Fdreasons_sorts)] sz)) 0 0 (va_A [(h, .inr (4, [.int bfirst, .int bsecond, .ref bbehind, .ref bmornings])), (bbehind, aI g 128 Fbbehind), (bmornings, aI g 8 Fbmornings), (st, .inr (9, [.int sday, .int sseed, .int salive, .int sstruck, .int sopen, .int sduels, .int slines, .ref scoins, .ref srented, .ref smornings, .ref shonours, .ref sused, .ref ssides, .ref slog])), (ssides, aI g 16 Fssides), (la, .inr (2, [.ref dmen, .ref dformulas, .ref dreasons, .int dduels, .ref dduelSides, .ref dduelMornings, .int dhonour, .int ddraw, .ref dusesOfKind])), (dreasons, .inr (6, [.int dreasons_count, .ref dreasons_names, .ref dreasons_kinds, .ref dreasons_owners, .ref dreasons_froms, .ref dreasons_tos, .ref dreasons_rents, .ref dreasons_sorts])), (dreasons_sorts, aI g 8 Fdreasons_sorts)] sz) := by
  refine Met.ofW (cc := cX4_findSecond) (maxL := 7) (ret := (some .boolean)) (by decide) rfl ?_
  intro p e s m args below meth c s₁ B hml hv
  obtain ⟨rfl, hsz, hP, hK, hD0, hX⟩ := hv
  have hx := B.exec
  have hb := B.bytes
  have hr := B.returns
  have hT : ∀ w ∈ gT, w.before _ s = true := fun w h => atoms_spec (ws := .code yX4_findSecond cX4_findSecond 7 (some .boolean) :: gT) B.pre w (List.mem_cons_of_mem _ h)
  have hown : s.vm.findClass RX4 = some m.cls := findClass_of_methodNamed B.named
  have hlocks := B.notSynchronized
  subst hsz
  have hD := hD0.self (sz := s.heap.size)
  generalize hAe : va_A [(h, .inr (4, [.int bfirst, .int bsecond, .ref bbehind, .ref bmornings])), (bbehind, aI g 128 Fbbehind), (bmornings, aI g 8 Fbmornings), (st, .inr (9, [.int sday, .int sseed, .int salive, .int sstruck, .int sopen, .int sduels, .int slines, .ref scoins, .ref srented, .ref smornings, .ref shonours, .ref sused, .ref ssides, .ref slog])), (ssides, aI g 16 Fssides), (la, .inr (2, [.ref dmen, .ref dformulas, .ref dreasons, .int dduels, .ref dduelSides, .ref dduelMornings, .int dhonour, .int ddraw, .ref dusesOfKind])), (dreasons, .inr (6, [.int dreasons_count, .ref dreasons_names, .ref dreasons_kinds, .ref dreasons_owners, .ref dreasons_froms, .ref dreasons_tos, .ref dreasons_rents, .ref dreasons_sorts])), (dreasons_sorts, aI g 8 Fdreasons_sorts)] s.heap.size = A at hD ⊢
  have hA : ∀ q : Nat, s.heap.size ≤ q → A q := fun q h => by rw [← hAe]; exact Or.inr h
  have hS : va_S A s.heap s.heap [] := va_S.rf
  have hl := lv_entry ([.ref h, .ref la, .ref st, .int p0]) (n := 7) (Nat.le_of_ble_eq_true rfl)
  rw [lg_entry_eq]
  generalize (lg_sl ([.ref h, .ref la, .ref st, .int p0]) ++ List.replicate (7 - (lg_sl ([.ref h, .ref la, .ref st, .int p0])).length) Slot.unset).toArray = ls at hl ⊢
  have hl : lv_has ls 7 [(0, .ref h), (1, .ref la), (2, .ref st), (3, .int p0)] := hl
  refine p_nH (fun H hH => ?_)
  have hP : va_P g.1 vwCl [(h, .inr (4, [.int bfirst, .int bsecond, .ref bbehind, .ref bmornings])), (bbehind, aI g 128 Fbbehind), (bmornings, aI g 8 Fbmornings), (st, .inr (9, [.int sday, .int sseed, .int salive, .int sstruck, .int sopen, .int sduels, .int slines, .ref scoins, .ref srented, .ref smornings, .ref shonours, .ref sused, .ref ssides, .ref slog])), (ssides, aI g 16 Fssides), (la, .inr (2, [.ref dmen, .ref dformulas, .ref dreasons, .int dduels, .ref dduelSides, .ref dduelMornings, .int dhonour, .int ddraw, .ref dusesOfKind])), (dreasons, .inr (6, [.int dreasons_count, .ref dreasons_names, .ref dreasons_kinds, .ref dreasons_owners, .ref dreasons_froms, .ref dreasons_tos, .ref dreasons_rents, .ref dreasons_sorts])), (dreasons_sorts, aI g 8 Fdreasons_sorts)] H := by rw [hH]; exact hP
  have hS : va_S A s.heap H [] := by rw [hH]; exact hS
  refine lv_aload_n hx hb dX4_findSecond_0 rfl (lv_at hl 0 rfl) ?_
  refine va_get (D := g.1) (ci := 4) (v := .int bfirst) (C := RX4) (T := TX4) (N := 4) hx hb hT inF_X4 hown hK.1 hP 0 rfl rfl 0 (by decide) (hT _ bw_226) (fun _ h9 => h9) rfl dX4_findSecond_1 ?_
  refine k_iR (k_S (n := 1) ⟨hx, hb, hml, hown, hT⟩ hK hP hD [] rfl (by decide +kernel) (s_X4_reasonOf l g H.size bfirst (by first | with_reducible assumption | omega)) (gS bw_232 bw_233 bw_234 bw_216) rfl rfl (by decide +kernel) ⟨by decide, by decide⟩ (fun _ _ _ _ _ => trivial) (fun _ _ _ => trivial) rfl rfl hl.1 (Nat.le_of_ble_eq_true rfl) dX4_findSecond_4 ⟨by decide, by decide⟩) hP hS hA (fun r_1 _ H locs hw0 hP hS => ?_)
  have hw : 0 ≤ r_1.toInt ∧ r_1.toInt ≤ 7 := hw0
  clear hw0
  have w_2 := hw
  refine lv_istore (lv' := [(4, .int r_1), (0, .ref h), (1, .ref la), (2, .ref st), (3, .int p0)]) hx hb dX4_findSecond_7 hl (by decide) rfl (fun ls hl => ?_)
  refine lv_aload_n hx hb dX4_findSecond_9 rfl (lv_at hl 2 rfl) ?_
  refine va_get (D := g.1) (ci := 2) (v := .ref dreasons) (C := RX2) (T := TX2) (N := 9) hx hb hT inF_X2 hown hK.1 hP 5 rfl rfl 2 (by decide) (hT _ bw_235) (fun _ h9 => h9) rfl dX4_findSecond_10 ?_
  refine lv_iload hx hb dX4_findSecond_13 (lv_at hl 0 rfl) ?_
  refine k_iR (k_V (n := 1) ⟨hx, hb, hml, hown, hT⟩ hK hP hD [6] rfl (by decide +kernel) (s_X6_has l g H.size dreasons dreasons_count dreasons_names dreasons_kinds dreasons_owners dreasons_froms dreasons_tos dreasons_rents dreasons_sorts r_1 (by first | with_reducible assumption | omega)) (gV bw_236 bw_237 bw_238 bw_185 bw_7) rfl rfl (by decide +kernel) ⟨by decide, by decide⟩ (ci := 6) (q0 := 0) rfl rfl (fun _ _ _ _ _ => trivial) (fun _ _ _ => trivial) rfl rfl hl.1 (Nat.le_of_ble_eq_true rfl) dX4_findSecond_15 ⟨by decide, by decide⟩) hP hS hA (fun r_3 _ H locs hw0 hP hS => ?_)
  have hw : (r_3 = 1 ∧ (0 ≤ r_1.toInt ∧ r_1.toInt < dreasons_count.toInt)) ∨ (r_3 = 0) := hw0
  clear hw0
  rcases hw with ⟨e_5, w_4⟩ | e_6
  · subst e_5
    refine lv_if_eq (tgt := 39) hx hb dX4_findSecond_18 (by decide) (fun c9 => absurd c9 (by decide)) (fun _ => ?_)
    refine lv_aload_n hx hb dX4_findSecond_21 rfl (lv_at hl 2 rfl) ?_
    refine va_get (D := g.1) (ci := 2) (v := .ref dreasons) (C := RX2) (T := TX2) (N := 9) hx hb hT inF_X2 hown hK.1 hP 5 rfl rfl 2 (by decide) (hT _ bw_235) (fun _ h9 => h9) rfl dX4_findSecond_22 ?_
    refine va_get (D := g.1) (ci := 6) (v := .ref dreasons_sorts) (C := RX6) (T := TX6) (N := 8) hx hb hT inF_X6 hown hK.1 hP 6 rfl rfl 7 (by decide) (hT _ bw_239) (fun _ h9 => h9) rfl dX4_findSecond_25 ?_
    refine lv_iload hx hb dX4_findSecond_28 (lv_at hl 0 rfl) ?_
    have h_7 : vp_in r_1 8 := vp_in_iff.mpr (by omega)
    refine va_iald hx hb hK.1 hP 7 1 rfl rfl (i := r_1) h_7 dX4_findSecond_30 ?_
    refine lv_topi (fun x_8 ex_8 => ?_)
    have ux_8 := congrArg Int32.toInt ex_8
    refine lv_iconst (v := 2) hx hb dX4_findSecond_31 (by decide) ?_
    refine lv_icmp_ne (tgt := 39) hx hb dX4_findSecond_32 (by decide) (fun c_9 => ?_) (fun c_9 => ?_)
    · have f_10 := E_ne (rfl : x_8.toInt = _) (by decide : (2 : Int32).toInt = 2) c_9
      refine lv_iconst (v := 0) hx hb dX4_findSecond_39 (by decide) ?_
      refine lv_istore (lv' := [(5, .int 0), (4, .int r_1), (0, .ref h), (1, .ref la), (2, .ref st), (3, .int p0)]) hx hb dX4_findSecond_40 hl (by decide) rfl (fun ls hl => ?_)
      refine lv_aload_n hx hb dX4_findSecond_42 rfl (lv_at hl 2 rfl) ?_
      refine lv_bipush (v := 16) hx hb dX4_findSecond_43 (by decide) ?_
      refine lv_aload_n hx hb dX4_findSecond_45 rfl (lv_at hl 2 rfl) ?_
      refine va_get (D := g.1) (ci := 4) (v := .int bfirst) (C := RX4) (T := TX4) (N := 4) hx hb hT inF_X4 hown hK.1 hP 0 rfl rfl 0 (by decide) (hT _ bw_226) (fun _ h9 => h9) rfl dX4_findSecond_46 ?_
      refine k_iR (k_S (n := 1) ⟨hx, hb, hml, hown, hT⟩ hK hP hD [] rfl (by decide +kernel) (s_X4_duelOf l g H.size bfirst (by first | with_reducible assumption | omega)) (gS bw_217 bw_218 bw_219 bw_214) rfl rfl (by decide +kernel) ⟨by decide, by decide⟩ (fun _ _ _ _ _ => trivial) (fun _ _ _ => trivial) rfl rfl hl.1 (Nat.le_of_ble_eq_true rfl) dX4_findSecond_49 ⟨by decide, by decide⟩) hP hS hA (fun r_11 _ H locs hw0 hP hS => ?_)
      have hw : 0 ≤ r_11.toInt ∧ r_11.toInt ≤ 7 := hw0
      clear hw0
      have w_12 := hw
      refine lv_iconst (v := 1) hx hb dX4_findSecond_52 (by decide) ?_
      refine lv_iadd hx hb dX4_findSecond_53 ?_
      refine lv_topi (fun x_13 ex_13 => ?_)
      have fx_13 : x_13.toInt = r_11.toInt + 1 := by rw [ex_13]; exact I_add rfl (by decide : (1 : Int32).toInt = 1) (by omega) (by omega)
      refine lv_imul hx hb dX4_findSecond_54 ?_
      refine lv_topi (fun x_14 ex_14 => ?_)
      have fx_14 : x_14.toInt = 16 * x_13.toInt := by rw [ex_14]; exact I_mul (by decide : (16 : Int32).toInt = 16) rfl (by omega) (by omega)
      refine va_put (D := g.1) (ci := 4) (v := .int x_14) (ty := .int) (C := RX4) (T := TX4) (N := 4) hx hb hT inF_X4 tyX4 tyX4_ok nmX4 hown hK.1 hP hD hS 0 rfl rfl 1 (by decide) (hT _ bw_240) (fun _ h9 => h9) rfl (by decide +kernel) rfl rfl (Nat.le_of_ble_eq_true rfl) dX4_findSecond_55 (fun H locs hP hD hS => ?_)
      have hP : va_P g.1 vwCl [(h, .inr (4, [.int bfirst, .int x_14, .ref bbehind, .ref bmornings])), (bbehind, aI g 128 Fbbehind), (bmornings, aI g 8 Fbmornings), (st, .inr (9, [.int sday, .int sseed, .int salive, .int sstruck, .int sopen, .int sduels, .int slines, .ref scoins, .ref srented, .ref smornings, .ref shonours, .ref sused, .ref ssides, .ref slog])), (ssides, aI g 16 Fssides), (la, .inr (2, [.ref dmen, .ref dformulas, .ref dreasons, .int dduels, .ref dduelSides, .ref dduelMornings, .int dhonour, .int ddraw, .ref dusesOfKind])), (dreasons, .inr (6, [.int dreasons_count, .ref dreasons_names, .ref dreasons_kinds, .ref dreasons_owners, .ref dreasons_froms, .ref dreasons_tos, .ref dreasons_rents, .ref dreasons_sorts])), (dreasons_sorts, aI g 8 Fdreasons_sorts)] H := hP
      have hD : va_D A [(h, .inr (4, [.int bfirst, .int x_14, .ref bbehind, .ref bmornings])), (bbehind, aI g 128 Fbbehind), (bmornings, aI g 8 Fbmornings), (st, .inr (9, [.int sday, .int sseed, .int salive, .int sstruck, .int sopen, .int sduels, .int slines, .ref scoins, .ref srented, .ref smornings, .ref shonours, .ref sused, .ref ssides, .ref slog])), (ssides, aI g 16 Fssides), (la, .inr (2, [.ref dmen, .ref dformulas, .ref dreasons, .int dduels, .ref dduelSides, .ref dduelMornings, .int dhonour, .int ddraw, .ref dusesOfKind])), (dreasons, .inr (6, [.int dreasons_count, .ref dreasons_names, .ref dreasons_kinds, .ref dreasons_owners, .ref dreasons_froms, .ref dreasons_tos, .ref dreasons_rents, .ref dreasons_sorts])), (dreasons_sorts, aI g 8 Fdreasons_sorts)] := hD
      refine k_floop 58 (fun n H locs ls => ∃ (L_15 : Int32) (f_16 : Nat → Int32), (0 ≤ L_15.toInt ∧ L_15.toInt ≤ 128) ∧ 128 - L_15.toInt ≤ (n : Int) ∧ va_P g.1 vwCl [(h, .inr (4, [.int bfirst, .int L_15, .ref bbehind, .ref bmornings])), (bbehind, aI g 128 Fbbehind), (bmornings, aI g 8 f_16), (st, .inr (9, [.int sday, .int sseed, .int salive, .int sstruck, .int sopen, .int sduels, .int slines, .ref scoins, .ref srented, .ref smornings, .ref shonours, .ref sused, .ref ssides, .ref slog])), (ssides, aI g 16 Fssides), (la, .inr (2, [.ref dmen, .ref dformulas, .ref dreasons, .int dduels, .ref dduelSides, .ref dduelMornings, .int dhonour, .int ddraw, .ref dusesOfKind])), (dreasons, .inr (6, [.int dreasons_count, .ref dreasons_names, .ref dreasons_kinds, .ref dreasons_owners, .ref dreasons_froms, .ref dreasons_tos, .ref dreasons_rents, .ref dreasons_sorts])), (dreasons_sorts, aI g 8 Fdreasons_sorts)] H ∧ va_D A [(h, .inr (4, [.int bfirst, .int L_15, .ref bbehind, .ref bmornings])), (bbehind, aI g 128 Fbbehind), (bmornings, aI g 8 f_16), (st, .inr (9, [.int sday, .int sseed, .int salive, .int sstruck, .int sopen, .int sduels, .int slines, .ref scoins, .ref srented, .ref smornings, .ref shonours, .ref sused, .ref ssides, .ref slog])), (ssides, aI g 16 Fssides), (la, .inr (2, [.ref dmen, .ref dformulas, .ref dreasons, .int dduels, .ref dduelSides, .ref dduelMornings, .int dhonour, .int ddraw, .ref dusesOfKind])), (dreasons, .inr (6, [.int dreasons_count, .ref dreasons_names, .ref dreasons_kinds, .ref dreasons_owners, .ref dreasons_froms, .ref dreasons_tos, .ref dreasons_rents, .ref dreasons_sorts])), (dreasons_sorts, aI g 8 Fdreasons_sorts)] ∧ va_S A s.heap H locs ∧ lv_has ls 7 [(5, .int 0), (4, .int r_1), (0, .ref h), (1, .ref la), (2, .ref st), (3, .int p0)]) (fun n H locs ls hI ih => ?_) ((128 - x_14.toInt : Int)).toNat ⟨x_14, Fbmornings, (by first | with_reducible assumption | omega), by omega, hP, hD, hS, hl⟩
      refine hI.elim (fun L_15 hI => hI.elim (fun f_16 hI => ?_))
      have g_17 := hI.1
      have hm_18 := hI.2.1
      have hP := hI.2.2.1
      have hD := hI.2.2.2.1
      have hS := hI.2.2.2.2.1
      have hl := hI.2.2.2.2.2
      clear hI
      refine lv_aload_n hx hb dX4_findSecond_58 rfl (lv_at hl 2 rfl) ?_
      refine va_get (D := g.1) (ci := 4) (v := .int L_15) (C := RX4) (T := TX4) (N := 4) hx hb hT inF_X4 hown hK.1 hP 0 rfl rfl 1 (by decide) (hT _ bw_240) (fun _ h9 => h9) rfl dX4_findSecond_59 ?_
      refine lv_aload_n hx hb dX4_findSecond_62 rfl (lv_at hl 2 rfl) ?_
      refine va_get (D := g.1) (ci := 4) (v := .ref bbehind) (C := RX4) (T := TX4) (N := 4) hx hb hT inF_X4 hown hK.1 hP 0 rfl rfl 2 (by decide) (hT _ bw_221) (fun _ h9 => h9) rfl dX4_findSecond_63 ?_
      refine va_alen (v := 128) hx hb hK.1 hP 1 1 rfl rfl rfl dX4_findSecond_66 ?_
      refine lv_icmp_ge (tgt := 139) hx hb dX4_findSecond_67 (by decide) (fun c_19 => ?_) (fun c_19 => ?_)
      · have f_20 := E_le (by decide : (128 : Int32).toInt = 128) (rfl : L_15.toInt = _) c_19
        refine lv_iconst (v := 0) hx hb dX4_findSecond_139 (by decide) ?_
        have hP9 : va_P g.1 vwCl [(h, .inr (4, [.int bfirst, .int L_15, .ref bbehind, .ref bmornings])), (bbehind, aI g 128 Fbbehind), (bmornings, aI g 8 f_16), (st, .inr (9, [.int sday, .int sseed, .int salive, .int sstruck, .int sopen, .int sduels, .int slines, .ref scoins, .ref srented, .ref smornings, .ref shonours, .ref sused, .ref ssides, .ref slog])), (ssides, aI g 16 Fssides), (la, .inr (2, [.ref dmen, .ref dformulas, .ref dreasons, .int dduels, .ref dduelSides, .ref dduelMornings, .int dhonour, .int ddraw, .ref dusesOfKind])), (dreasons, .inr (6, [.int dreasons_count, .ref dreasons_names, .ref dreasons_kinds, .ref dreasons_owners, .ref dreasons_froms, .ref dreasons_tos, .ref dreasons_rents, .ref dreasons_sorts])), (dreasons_sorts, aI g 8 Fdreasons_sorts)] H := hP.sub [0, 1, 2, 3, 4, 5, 6, 7] rfl
        have hD9 : va_D A [(h, .inr (4, [.int bfirst, .int L_15, .ref bbehind, .ref bmornings])), (bbehind, aI g 128 Fbbehind), (bmornings, aI g 8 f_16), (st, .inr (9, [.int sday, .int sseed, .int salive, .int sstruck, .int sopen, .int sduels, .int slines, .ref scoins, .ref srented, .ref smornings, .ref shonours, .ref sused, .ref ssides, .ref slog])), (ssides, aI g 16 Fssides), (la, .inr (2, [.ref dmen, .ref dformulas, .ref dreasons, .int dduels, .ref dduelSides, .ref dduelMornings, .int dhonour, .int ddraw, .ref dusesOfKind])), (dreasons, .inr (6, [.int dreasons_count, .ref dreasons_names, .ref dreasons_kinds, .ref dreasons_owners, .ref dreasons_froms, .ref dreasons_tos, .ref dreasons_rents, .ref dreasons_sorts])), (dreasons_sorts, aI g 8 Fdreasons_sorts)] := hD.sub [0, 1, 2, 3, 4, 5, 6, 7] (by decide +kernel) rfl
        exact W.zret (v := 0) (ty := .boolean) hx hb hr rfl (fun t ht hW => ⟨⟨0, (L_15, f_16), rfl, ⟨⟨by decide, by decide⟩, (by first | with_reducible assumption | omega)⟩, by rw [ht]; exact hP9, by rw [hAe]; exact hD9⟩, hS.F ht⟩) hS.2.2 dX4_findSecond_140
      · have f_21 := E_nle (by decide : (128 : Int32).toInt = 128) (rfl : L_15.toInt = _) c_19
        refine lv_iload hx hb dX4_findSecond_70 (lv_at hl 0 rfl) ?_
        refine lv_if_eq (tgt := 91) hx hb dX4_findSecond_72 (by decide) (fun _ => ?_) (fun c9 => absurd (by decide) c9)
        refine lv_iconst (v := 0) hx hb dX4_findSecond_91 (by decide) ?_
        refine lv_istore (lv' := [(6, .int 0), (5, .int 0), (4, .int r_1), (0, .ref h), (1, .ref la), (2, .ref st), (3, .int p0)]) hx hb dX4_findSecond_92 hl (by decide) rfl (fun ls hl => ?_)
        refine lv_aload_n hx hb dX4_findSecond_94 rfl (lv_at hl 3 rfl) ?_
        refine va_get (D := g.1) (ci := 4) (v := .ref bbehind) (C := RX4) (T := TX4) (N := 4) hx hb hT inF_X4 hown hK.1 hP 0 rfl rfl 2 (by decide) (hT _ bw_221) (fun _ h9 => h9) rfl dX4_findSecond_95 ?_
        refine lv_aload_n hx hb dX4_findSecond_98 rfl (lv_at hl 3 rfl) ?_
        refine va_get (D := g.1) (ci := 4) (v := .int L_15) (C := RX4) (T := TX4) (N := 4) hx hb hT inF_X4 hown hK.1 hP 0 rfl rfl 1 (by decide) (hT _ bw_240) (fun _ h9 => h9) rfl dX4_findSecond_99 ?_
        have h_22 : vp_in L_15 128 := vp_in_iff.mpr (by omega)
        refine va_iald hx hb hK.1 hP 1 1 rfl rfl (i := L_15) h_22 dX4_findSecond_102 ?_
        refine lv_topi (fun x_23 ex_23 => ?_)
        have ux_23 := congrArg Int32.toInt ex_23
        refine lv_if_le (tgt := 126) hx hb dX4_findSecond_103 (by decide) (fun c_24 => ?_) (fun c_24 => ?_)
        · have f_25 := E_le (rfl : x_23.toInt = _) (by decide : (0 : Int32).toInt = 0) c_24
          refine lv_aload_n hx hb dX4_findSecond_126 rfl (lv_at hl 3 rfl) ?_
          refine lv_dup hx hb dX4_findSecond_127 rfl ?_
          refine va_get (D := g.1) (ci := 4) (v := .int L_15) (C := RX4) (T := TX4) (N := 4) hx hb hT inF_X4 hown hK.1 hP 0 rfl rfl 1 (by decide) (hT _ bw_240) (fun _ h9 => h9) rfl dX4_findSecond_128 ?_
          refine lv_iconst (v := 1) hx hb dX4_findSecond_131 (by decide) ?_
          refine lv_iadd hx hb dX4_findSecond_132 ?_
          refine lv_topi (fun x_26 ex_26 => ?_)
          have fx_26 : x_26.toInt = L_15.toInt + 1 := by rw [ex_26]; exact I_add rfl (by decide : (1 : Int32).toInt = 1) (by omega) (by omega)
          refine va_put (D := g.1) (ci := 4) (v := .int x_26) (ty := .int) (C := RX4) (T := TX4) (N := 4) hx hb hT inF_X4 tyX4 tyX4_ok nmX4 hown hK.1 hP hD hS 0 rfl rfl 1 (by decide) (hT _ bw_240) (fun _ h9 => h9) rfl (by decide +kernel) rfl rfl (Nat.le_of_ble_eq_true rfl) dX4_findSecond_133 (fun H locs hP hD hS => ?_)
          have hP : va_P g.1 vwCl [(h, .inr (4, [.int bfirst, .int x_26, .ref bbehind, .ref bmornings])), (bbehind, aI g 128 Fbbehind), (bmornings, aI g 8 f_16), (st, .inr (9, [.int sday, .int sseed, .int salive, .int sstruck, .int sopen, .int sduels, .int slines, .ref scoins, .ref srented, .ref smornings, .ref shonours, .ref sused, .ref ssides, .ref slog])), (ssides, aI g 16 Fssides), (la, .inr (2, [.ref dmen, .ref dformulas, .ref dreasons, .int dduels, .ref dduelSides, .ref dduelMornings, .int dhonour, .int ddraw, .ref dusesOfKind])), (dreasons, .inr (6, [.int dreasons_count, .ref dreasons_names, .ref dreasons_kinds, .ref dreasons_owners, .ref dreasons_froms, .ref dreasons_tos, .ref dreasons_rents, .ref dreasons_sorts])), (dreasons_sorts, aI g 8 Fdreasons_sorts)] H := hP
          have hD : va_D A [(h, .inr (4, [.int bfirst, .int x_26, .ref bbehind, .ref bmornings])), (bbehind, aI g 128 Fbbehind), (bmornings, aI g 8 f_16), (st, .inr (9, [.int sday, .int sseed, .int salive, .int sstruck, .int sopen, .int sduels, .int slines, .ref scoins, .ref srented, .ref smornings, .ref shonours, .ref sused, .ref ssides, .ref slog])), (ssides, aI g 16 Fssides), (la, .inr (2, [.ref dmen, .ref dformulas, .ref dreasons, .int dduels, .ref dduelSides, .ref dduelMornings, .int dhonour, .int ddraw, .ref dusesOfKind])), (dreasons, .inr (6, [.int dreasons_count, .ref dreasons_names, .ref dreasons_kinds, .ref dreasons_owners, .ref dreasons_froms, .ref dreasons_tos, .ref dreasons_rents, .ref dreasons_sorts])), (dreasons_sorts, aI g 8 Fdreasons_sorts)] := hD
          refine lv_goto (tgt := 58) hx hb dX4_findSecond_136 (by decide) ?_
          exact ih (n - 1) (by omega) H locs ls ⟨x_26, f_16, (by first | with_reducible assumption | omega), by omega, hP.sub [0, 1, 2, 3, 4, 5, 6, 7] rfl, hD.sub [0, 1, 2, 3, 4, 5, 6, 7] (by decide +kernel) rfl, hS, lv_sub hl [1, 2, 3, 4, 5, 6] rfl⟩
        · have f_27 := E_nle (rfl : x_23.toInt = _) (by decide : (0 : Int32).toInt = 0) c_24
          refine lv_iload hx hb dX4_findSecond_106 (lv_at hl 0 rfl) ?_
          refine lv_if_ne (tgt := 126) hx hb dX4_findSecond_108 (by decide) (fun c9 => absurd (by decide) c9) (fun _ => ?_)
          refine lv_aload_n hx hb dX4_findSecond_111 rfl (lv_at hl 3 rfl) ?_
          refine lv_aload_n hx hb dX4_findSecond_112 rfl (lv_at hl 5 rfl) ?_
          refine lv_iload_n hx hb dX4_findSecond_113 rfl (lv_at hl 6 rfl) ?_
          refine lv_aload_n hx hb dX4_findSecond_114 rfl (lv_at hl 3 rfl) ?_
          refine va_get (D := g.1) (ci := 4) (v := .int L_15) (C := RX4) (T := TX4) (N := 4) hx hb hT inF_X4 hown hK.1 hP 0 rfl rfl 1 (by decide) (hT _ bw_240) (fun _ h9 => h9) rfl dX4_findSecond_115 ?_
          refine k_i (wr := [(la, .inr (2, [.ref dmen, .ref dformulas, .ref dreasons, .int dduels, .ref dduelSides, .ref dduelMornings, .int dhonour, .int ddraw, .ref dusesOfKind])), (dreasons, .inr (6, [.int dreasons_count, .ref dreasons_names, .ref dreasons_kinds, .ref dreasons_owners, .ref dreasons_froms, .ref dreasons_tos, .ref dreasons_rents, .ref dreasons_sorts])), (dreasons_sorts, aI g 8 Fdreasons_sorts)]) (k_V (n := 3) ⟨hx, hb, hml, hown, hT⟩ hK hP hD [0, 1, 2, 3, 4] rfl (by decide +kernel) (s_X4_isParted l g H.size h bfirst L_15 bbehind Fbbehind bmornings f_16 st sday sseed salive sstruck sopen sduels slines scoins srented smornings shonours sused ssides Fssides slog p0 L_15 (by first | with_reducible assumption | omega) (by first | with_reducible assumption | omega) (by first | with_reducible assumption | omega) (by first | with_reducible assumption | omega) (by first | with_reducible assumption | omega) hh5 (by first | with_reducible assumption | omega)) (gV bw_227 bw_228 bw_229 bw_230 bw_225) rfl rfl (by decide +kernel) ⟨by decide, by decide⟩ (ci := 4) (q0 := 0) rfl rfl (fun _ _ _ _ _ => trivial) (fun _ _ _ => trivial) rfl rfl hl.1 (Nat.le_of_ble_eq_true rfl) dX4_findSecond_118 ⟨by decide, by decide⟩) hP hD hS hA [0, 1, 2, 3, 4] [5, 6, 7] rfl rfl (by decide +kernel) (by decide +kernel) (fun r_28 => fun f_29 H locs hw0 hP hD hS => ?_)
          have hP : va_P g.1 vwCl [(la, .inr (2, [.ref dmen, .ref dformulas, .ref dreasons, .int dduels, .ref dduelSides, .ref dduelMornings, .int dhonour, .int ddraw, .ref dusesOfKind])), (dreasons, .inr (6, [.int dreasons_count, .ref dreasons_names, .ref dreasons_kinds, .ref dreasons_owners, .ref dreasons_froms, .ref dreasons_tos, .ref dreasons_rents, .ref dreasons_sorts])), (dreasons_sorts, aI g 8 Fdreasons_sorts), (h, .inr (4, [.int bfirst, .int L_15, .ref bbehind, .ref bmornings])), (bbehind, aI g 128 Fbbehind), (bmornings, aI g 8 f_29), (st, .inr (9, [.int sday, .int sseed, .int salive, .int sstruck, .int sopen, .int sduels, .int slines, .ref scoins, .ref srented, .ref smornings, .ref shonours, .ref sused, .ref ssides, .ref slog])), (ssides, aI g 16 Fssides)] H := hP
          have hD : va_D A [(la, .inr (2, [.ref dmen, .ref dformulas, .ref dreasons, .int dduels, .ref dduelSides, .ref dduelMornings, .int dhonour, .int ddraw, .ref dusesOfKind])), (dreasons, .inr (6, [.int dreasons_count, .ref dreasons_names, .ref dreasons_kinds, .ref dreasons_owners, .ref dreasons_froms, .ref dreasons_tos, .ref dreasons_rents, .ref dreasons_sorts])), (dreasons_sorts, aI g 8 Fdreasons_sorts), (h, .inr (4, [.int bfirst, .int L_15, .ref bbehind, .ref bmornings])), (bbehind, aI g 128 Fbbehind), (bmornings, aI g 8 f_29), (st, .inr (9, [.int sday, .int sseed, .int salive, .int sstruck, .int sopen, .int sduels, .int slines, .ref scoins, .ref srented, .ref smornings, .ref shonours, .ref sused, .ref ssides, .ref slog])), (ssides, aI g 16 Fssides)] := hD
          have hw : 0 ≤ r_28.toInt ∧ r_28.toInt ≤ 1 := hw0
          clear hw0
          have w_30 := hw
          refine lv_if_eq (tgt := 126) hx hb dX4_findSecond_121 (by decide) (fun c_31 => ?_) (fun c_31 => ?_)
          · have f_32 := E_eq (rfl : r_28.toInt = _) (by decide : (0 : Int32).toInt = 0) c_31
            refine lv_aload_n hx hb dX4_findSecond_126 rfl (lv_at hl 3 rfl) ?_
            refine lv_dup hx hb dX4_findSecond_127 rfl ?_
            refine va_get (D := g.1) (ci := 4) (v := .int L_15) (C := RX4) (T := TX4) (N := 4) hx hb hT inF_X4 hown hK.1 hP 3 rfl rfl 1 (by decide) (hT _ bw_240) (fun _ h9 => h9) rfl dX4_findSecond_128 ?_
            refine lv_iconst (v := 1) hx hb dX4_findSecond_131 (by decide) ?_
            refine lv_iadd hx hb dX4_findSecond_132 ?_
            refine lv_topi (fun x_33 ex_33 => ?_)
            have fx_33 : x_33.toInt = L_15.toInt + 1 := by rw [ex_33]; exact I_add rfl (by decide : (1 : Int32).toInt = 1) (by omega) (by omega)
            refine va_put (D := g.1) (ci := 4) (v := .int x_33) (ty := .int) (C := RX4) (T := TX4) (N := 4) hx hb hT inF_X4 tyX4 tyX4_ok nmX4 hown hK.1 hP hD hS 3 rfl rfl 1 (by decide) (hT _ bw_240) (fun _ h9 => h9) rfl (by decide +kernel) rfl rfl (Nat.le_of_ble_eq_true rfl) dX4_findSecond_133 (fun H locs hP hD hS => ?_)
            have hP : va_P g.1 vwCl [(la, .inr (2, [.ref dmen, .ref dformulas, .ref dreasons, .int dduels, .ref dduelSides, .ref dduelMornings, .int dhonour, .int ddraw, .ref dusesOfKind])), (dreasons, .inr (6, [.int dreasons_count, .ref dreasons_names, .ref dreasons_kinds, .ref dreasons_owners, .ref dreasons_froms, .ref dreasons_tos, .ref dreasons_rents, .ref dreasons_sorts])), (dreasons_sorts, aI g 8 Fdreasons_sorts), (h, .inr (4, [.int bfirst, .int x_33, .ref bbehind, .ref bmornings])), (bbehind, aI g 128 Fbbehind), (bmornings, aI g 8 f_29), (st, .inr (9, [.int sday, .int sseed, .int salive, .int sstruck, .int sopen, .int sduels, .int slines, .ref scoins, .ref srented, .ref smornings, .ref shonours, .ref sused, .ref ssides, .ref slog])), (ssides, aI g 16 Fssides)] H := hP
            have hD : va_D A [(la, .inr (2, [.ref dmen, .ref dformulas, .ref dreasons, .int dduels, .ref dduelSides, .ref dduelMornings, .int dhonour, .int ddraw, .ref dusesOfKind])), (dreasons, .inr (6, [.int dreasons_count, .ref dreasons_names, .ref dreasons_kinds, .ref dreasons_owners, .ref dreasons_froms, .ref dreasons_tos, .ref dreasons_rents, .ref dreasons_sorts])), (dreasons_sorts, aI g 8 Fdreasons_sorts), (h, .inr (4, [.int bfirst, .int x_33, .ref bbehind, .ref bmornings])), (bbehind, aI g 128 Fbbehind), (bmornings, aI g 8 f_29), (st, .inr (9, [.int sday, .int sseed, .int salive, .int sstruck, .int sopen, .int sduels, .int slines, .ref scoins, .ref srented, .ref smornings, .ref shonours, .ref sused, .ref ssides, .ref slog])), (ssides, aI g 16 Fssides)] := hD
            refine lv_goto (tgt := 58) hx hb dX4_findSecond_136 (by decide) ?_
            exact ih (n - 1) (by omega) H locs ls ⟨x_33, f_29, (by first | with_reducible assumption | omega), by omega, hP.sub [3, 4, 5, 6, 7, 0, 1, 2] rfl, hD.sub [3, 4, 5, 6, 7, 0, 1, 2] (by decide +kernel) rfl, hS, lv_sub hl [1, 2, 3, 4, 5, 6] rfl⟩
          · have f_34 := E_ne (rfl : r_28.toInt = _) (by decide : (0 : Int32).toInt = 0) c_31
            refine lv_iconst (v := 1) hx hb dX4_findSecond_124 (by decide) ?_
            have hP9 : va_P g.1 vwCl [(h, .inr (4, [.int bfirst, .int L_15, .ref bbehind, .ref bmornings])), (bbehind, aI g 128 Fbbehind), (bmornings, aI g 8 f_29), (st, .inr (9, [.int sday, .int sseed, .int salive, .int sstruck, .int sopen, .int sduels, .int slines, .ref scoins, .ref srented, .ref smornings, .ref shonours, .ref sused, .ref ssides, .ref slog])), (ssides, aI g 16 Fssides), (la, .inr (2, [.ref dmen, .ref dformulas, .ref dreasons, .int dduels, .ref dduelSides, .ref dduelMornings, .int dhonour, .int ddraw, .ref dusesOfKind])), (dreasons, .inr (6, [.int dreasons_count, .ref dreasons_names, .ref dreasons_kinds, .ref dreasons_owners, .ref dreasons_froms, .ref dreasons_tos, .ref dreasons_rents, .ref dreasons_sorts])), (dreasons_sorts, aI g 8 Fdreasons_sorts)] H := hP.sub [3, 4, 5, 6, 7, 0, 1, 2] rfl
            have hD9 : va_D A [(h, .inr (4, [.int bfirst, .int L_15, .ref bbehind, .ref bmornings])), (bbehind, aI g 128 Fbbehind), (bmornings, aI g 8 f_29), (st, .inr (9, [.int sday, .int sseed, .int salive, .int sstruck, .int sopen, .int sduels, .int slines, .ref scoins, .ref srented, .ref smornings, .ref shonours, .ref sused, .ref ssides, .ref slog])), (ssides, aI g 16 Fssides), (la, .inr (2, [.ref dmen, .ref dformulas, .ref dreasons, .int dduels, .ref dduelSides, .ref dduelMornings, .int dhonour, .int ddraw, .ref dusesOfKind])), (dreasons, .inr (6, [.int dreasons_count, .ref dreasons_names, .ref dreasons_kinds, .ref dreasons_owners, .ref dreasons_froms, .ref dreasons_tos, .ref dreasons_rents, .ref dreasons_sorts])), (dreasons_sorts, aI g 8 Fdreasons_sorts)] := hD.sub [3, 4, 5, 6, 7, 0, 1, 2] (by decide +kernel) rfl
            exact W.zret (v := 1) (ty := .boolean) hx hb hr rfl (fun t ht hW => ⟨⟨1, (L_15, f_29), rfl, ⟨⟨by decide, by decide⟩, (by first | with_reducible assumption | omega)⟩, by rw [ht]; exact hP9, by rw [hAe]; exact hD9⟩, hS.F ht⟩) hS.2.2 dX4_findSecond_125
    · have f_35 := E_eq (rfl : x_8.toInt = _) (by decide : (2 : Int32).toInt = 2) c_9
      refine lv_iconst (v := 1) hx hb dX4_findSecond_35 (by decide) ?_
      refine lv_goto (tgt := 40) hx hb dX4_findSecond_36 (by decide) ?_
      refine lv_istore (lv' := [(5, .int 1), (4, .int r_1), (0, .ref h), (1, .ref la), (2, .ref st), (3, .int p0)]) hx hb dX4_findSecond_40 hl (by decide) rfl (fun ls hl => ?_)
      refine lv_aload_n hx hb dX4_findSecond_42 rfl (lv_at hl 2 rfl) ?_
      refine lv_bipush (v := 16) hx hb dX4_findSecond_43 (by decide) ?_
      refine lv_aload_n hx hb dX4_findSecond_45 rfl (lv_at hl 2 rfl) ?_
      refine va_get (D := g.1) (ci := 4) (v := .int bfirst) (C := RX4) (T := TX4) (N := 4) hx hb hT inF_X4 hown hK.1 hP 0 rfl rfl 0 (by decide) (hT _ bw_226) (fun _ h9 => h9) rfl dX4_findSecond_46 ?_
      refine k_iR (k_S (n := 1) ⟨hx, hb, hml, hown, hT⟩ hK hP hD [] rfl (by decide +kernel) (s_X4_duelOf l g H.size bfirst (by first | with_reducible assumption | omega)) (gS bw_217 bw_218 bw_219 bw_214) rfl rfl (by decide +kernel) ⟨by decide, by decide⟩ (fun _ _ _ _ _ => trivial) (fun _ _ _ => trivial) rfl rfl hl.1 (Nat.le_of_ble_eq_true rfl) dX4_findSecond_49 ⟨by decide, by decide⟩) hP hS hA (fun r_36 _ H locs hw0 hP hS => ?_)
      have hw : 0 ≤ r_36.toInt ∧ r_36.toInt ≤ 7 := hw0
      clear hw0
      have w_37 := hw
      refine lv_iconst (v := 1) hx hb dX4_findSecond_52 (by decide) ?_
      refine lv_iadd hx hb dX4_findSecond_53 ?_
      refine lv_topi (fun x_38 ex_38 => ?_)
      have fx_38 : x_38.toInt = r_36.toInt + 1 := by rw [ex_38]; exact I_add rfl (by decide : (1 : Int32).toInt = 1) (by omega) (by omega)
      refine lv_imul hx hb dX4_findSecond_54 ?_
      refine lv_topi (fun x_39 ex_39 => ?_)
      have fx_39 : x_39.toInt = 16 * x_38.toInt := by rw [ex_39]; exact I_mul (by decide : (16 : Int32).toInt = 16) rfl (by omega) (by omega)
      refine va_put (D := g.1) (ci := 4) (v := .int x_39) (ty := .int) (C := RX4) (T := TX4) (N := 4) hx hb hT inF_X4 tyX4 tyX4_ok nmX4 hown hK.1 hP hD hS 0 rfl rfl 1 (by decide) (hT _ bw_240) (fun _ h9 => h9) rfl (by decide +kernel) rfl rfl (Nat.le_of_ble_eq_true rfl) dX4_findSecond_55 (fun H locs hP hD hS => ?_)
      have hP : va_P g.1 vwCl [(h, .inr (4, [.int bfirst, .int x_39, .ref bbehind, .ref bmornings])), (bbehind, aI g 128 Fbbehind), (bmornings, aI g 8 Fbmornings), (st, .inr (9, [.int sday, .int sseed, .int salive, .int sstruck, .int sopen, .int sduels, .int slines, .ref scoins, .ref srented, .ref smornings, .ref shonours, .ref sused, .ref ssides, .ref slog])), (ssides, aI g 16 Fssides), (la, .inr (2, [.ref dmen, .ref dformulas, .ref dreasons, .int dduels, .ref dduelSides, .ref dduelMornings, .int dhonour, .int ddraw, .ref dusesOfKind])), (dreasons, .inr (6, [.int dreasons_count, .ref dreasons_names, .ref dreasons_kinds, .ref dreasons_owners, .ref dreasons_froms, .ref dreasons_tos, .ref dreasons_rents, .ref dreasons_sorts])), (dreasons_sorts, aI g 8 Fdreasons_sorts)] H := hP
      have hD : va_D A [(h, .inr (4, [.int bfirst, .int x_39, .ref bbehind, .ref bmornings])), (bbehind, aI g 128 Fbbehind), (bmornings, aI g 8 Fbmornings), (st, .inr (9, [.int sday, .int sseed, .int salive, .int sstruck, .int sopen, .int sduels, .int slines, .ref scoins, .ref srented, .ref smornings, .ref shonours, .ref sused, .ref ssides, .ref slog])), (ssides, aI g 16 Fssides), (la, .inr (2, [.ref dmen, .ref dformulas, .ref dreasons, .int dduels, .ref dduelSides, .ref dduelMornings, .int dhonour, .int ddraw, .ref dusesOfKind])), (dreasons, .inr (6, [.int dreasons_count, .ref dreasons_names, .ref dreasons_kinds, .ref dreasons_owners, .ref dreasons_froms, .ref dreasons_tos, .ref dreasons_rents, .ref dreasons_sorts])), (dreasons_sorts, aI g 8 Fdreasons_sorts)] := hD
      refine k_floop 58 (fun n H locs ls => ∃ (L_40 : Int32) (f_41 : Nat → Int32), (0 ≤ L_40.toInt ∧ L_40.toInt ≤ 128) ∧ 128 - L_40.toInt ≤ (n : Int) ∧ va_P g.1 vwCl [(h, .inr (4, [.int bfirst, .int L_40, .ref bbehind, .ref bmornings])), (bbehind, aI g 128 Fbbehind), (bmornings, aI g 8 f_41), (st, .inr (9, [.int sday, .int sseed, .int salive, .int sstruck, .int sopen, .int sduels, .int slines, .ref scoins, .ref srented, .ref smornings, .ref shonours, .ref sused, .ref ssides, .ref slog])), (ssides, aI g 16 Fssides), (la, .inr (2, [.ref dmen, .ref dformulas, .ref dreasons, .int dduels, .ref dduelSides, .ref dduelMornings, .int dhonour, .int ddraw, .ref dusesOfKind])), (dreasons, .inr (6, [.int dreasons_count, .ref dreasons_names, .ref dreasons_kinds, .ref dreasons_owners, .ref dreasons_froms, .ref dreasons_tos, .ref dreasons_rents, .ref dreasons_sorts])), (dreasons_sorts, aI g 8 Fdreasons_sorts)] H ∧ va_D A [(h, .inr (4, [.int bfirst, .int L_40, .ref bbehind, .ref bmornings])), (bbehind, aI g 128 Fbbehind), (bmornings, aI g 8 f_41), (st, .inr (9, [.int sday, .int sseed, .int salive, .int sstruck, .int sopen, .int sduels, .int slines, .ref scoins, .ref srented, .ref smornings, .ref shonours, .ref sused, .ref ssides, .ref slog])), (ssides, aI g 16 Fssides), (la, .inr (2, [.ref dmen, .ref dformulas, .ref dreasons, .int dduels, .ref dduelSides, .ref dduelMornings, .int dhonour, .int ddraw, .ref dusesOfKind])), (dreasons, .inr (6, [.int dreasons_count, .ref dreasons_names, .ref dreasons_kinds, .ref dreasons_owners, .ref dreasons_froms, .ref dreasons_tos, .ref dreasons_rents, .ref dreasons_sorts])), (dreasons_sorts, aI g 8 Fdreasons_sorts)] ∧ va_S A s.heap H locs ∧ lv_has ls 7 [(5, .int 1), (4, .int r_1), (0, .ref h), (1, .ref la), (2, .ref st), (3, .int p0)]) (fun n H locs ls hI ih => ?_) ((128 - x_39.toInt : Int)).toNat ⟨x_39, Fbmornings, (by first | with_reducible assumption | omega), by omega, hP, hD, hS, hl⟩
      refine hI.elim (fun L_40 hI => hI.elim (fun f_41 hI => ?_))
      have g_42 := hI.1
      have hm_43 := hI.2.1
      have hP := hI.2.2.1
      have hD := hI.2.2.2.1
      have hS := hI.2.2.2.2.1
      have hl := hI.2.2.2.2.2
      clear hI
      refine lv_aload_n hx hb dX4_findSecond_58 rfl (lv_at hl 2 rfl) ?_
      refine va_get (D := g.1) (ci := 4) (v := .int L_40) (C := RX4) (T := TX4) (N := 4) hx hb hT inF_X4 hown hK.1 hP 0 rfl rfl 1 (by decide) (hT _ bw_240) (fun _ h9 => h9) rfl dX4_findSecond_59 ?_
      refine lv_aload_n hx hb dX4_findSecond_62 rfl (lv_at hl 2 rfl) ?_
      refine va_get (D := g.1) (ci := 4) (v := .ref bbehind) (C := RX4) (T := TX4) (N := 4) hx hb hT inF_X4 hown hK.1 hP 0 rfl rfl 2 (by decide) (hT _ bw_221) (fun _ h9 => h9) rfl dX4_findSecond_63 ?_
      refine va_alen (v := 128) hx hb hK.1 hP 1 1 rfl rfl rfl dX4_findSecond_66 ?_
      refine lv_icmp_ge (tgt := 139) hx hb dX4_findSecond_67 (by decide) (fun c_44 => ?_) (fun c_44 => ?_)
      · have f_45 := E_le (by decide : (128 : Int32).toInt = 128) (rfl : L_40.toInt = _) c_44
        refine lv_iconst (v := 0) hx hb dX4_findSecond_139 (by decide) ?_
        have hP9 : va_P g.1 vwCl [(h, .inr (4, [.int bfirst, .int L_40, .ref bbehind, .ref bmornings])), (bbehind, aI g 128 Fbbehind), (bmornings, aI g 8 f_41), (st, .inr (9, [.int sday, .int sseed, .int salive, .int sstruck, .int sopen, .int sduels, .int slines, .ref scoins, .ref srented, .ref smornings, .ref shonours, .ref sused, .ref ssides, .ref slog])), (ssides, aI g 16 Fssides), (la, .inr (2, [.ref dmen, .ref dformulas, .ref dreasons, .int dduels, .ref dduelSides, .ref dduelMornings, .int dhonour, .int ddraw, .ref dusesOfKind])), (dreasons, .inr (6, [.int dreasons_count, .ref dreasons_names, .ref dreasons_kinds, .ref dreasons_owners, .ref dreasons_froms, .ref dreasons_tos, .ref dreasons_rents, .ref dreasons_sorts])), (dreasons_sorts, aI g 8 Fdreasons_sorts)] H := hP.sub [0, 1, 2, 3, 4, 5, 6, 7] rfl
        have hD9 : va_D A [(h, .inr (4, [.int bfirst, .int L_40, .ref bbehind, .ref bmornings])), (bbehind, aI g 128 Fbbehind), (bmornings, aI g 8 f_41), (st, .inr (9, [.int sday, .int sseed, .int salive, .int sstruck, .int sopen, .int sduels, .int slines, .ref scoins, .ref srented, .ref smornings, .ref shonours, .ref sused, .ref ssides, .ref slog])), (ssides, aI g 16 Fssides), (la, .inr (2, [.ref dmen, .ref dformulas, .ref dreasons, .int dduels, .ref dduelSides, .ref dduelMornings, .int dhonour, .int ddraw, .ref dusesOfKind])), (dreasons, .inr (6, [.int dreasons_count, .ref dreasons_names, .ref dreasons_kinds, .ref dreasons_owners, .ref dreasons_froms, .ref dreasons_tos, .ref dreasons_rents, .ref dreasons_sorts])), (dreasons_sorts, aI g 8 Fdreasons_sorts)] := hD.sub [0, 1, 2, 3, 4, 5, 6, 7] (by decide +kernel) rfl
        exact W.zret (v := 0) (ty := .boolean) hx hb hr rfl (fun t ht hW => ⟨⟨0, (L_40, f_41), rfl, ⟨⟨by decide, by decide⟩, (by first | with_reducible assumption | omega)⟩, by rw [ht]; exact hP9, by rw [hAe]; exact hD9⟩, hS.F ht⟩) hS.2.2 dX4_findSecond_140
      · have f_46 := E_nle (by decide : (128 : Int32).toInt = 128) (rfl : L_40.toInt = _) c_44
        refine lv_iload hx hb dX4_findSecond_70 (lv_at hl 0 rfl) ?_
        refine lv_if_eq (tgt := 91) hx hb dX4_findSecond_72 (by decide) (fun c9 => absurd c9 (by decide)) (fun _ => ?_)
        refine lv_aload_n hx hb dX4_findSecond_75 rfl (lv_at hl 2 rfl) ?_
        refine va_get (D := g.1) (ci := 4) (v := .int L_40) (C := RX4) (T := TX4) (N := 4) hx hb hT inF_X4 hown hK.1 hP 0 rfl rfl 1 (by decide) (hT _ bw_240) (fun _ h9 => h9) rfl dX4_findSecond_76 ?_
        refine k_iR (k_S (n := 1) ⟨hx, hb, hml, hown, hT⟩ hK hP hD [] rfl (by decide +kernel) (s_X4_reasonOf l g H.size L_40 (by first | with_reducible assumption | omega)) (gS bw_232 bw_233 bw_234 bw_216) rfl rfl (by decide +kernel) ⟨by decide, by decide⟩ (fun _ _ _ _ _ => trivial) (fun _ _ _ => trivial) rfl rfl hl.1 (Nat.le_of_ble_eq_true rfl) dX4_findSecond_79 ⟨by decide, by decide⟩) hP hS hA (fun r_47 _ H locs hw0 hP hS => ?_)
        have hw : 0 ≤ r_47.toInt ∧ r_47.toInt ≤ 7 := hw0
        clear hw0
        have w_48 := hw
        refine lv_iload hx hb dX4_findSecond_82 (lv_at hl 1 rfl) ?_
        refine lv_icmp_ne (tgt := 91) hx hb dX4_findSecond_84 (by decide) (fun c_49 => ?_) (fun c_49 => ?_)
        · have f_50 := E_ne (rfl : r_47.toInt = _) (rfl : r_1.toInt = _) c_49
          refine lv_iconst (v := 0) hx hb dX4_findSecond_91 (by decide) ?_
          refine lv_istore (lv' := [(6, .int 0), (5, .int 1), (4, .int r_1), (0, .ref h), (1, .ref la), (2, .ref st), (3, .int p0)]) hx hb dX4_findSecond_92 hl (by decide) rfl (fun ls hl => ?_)
          refine lv_aload_n hx hb dX4_findSecond_94 rfl (lv_at hl 3 rfl) ?_
          refine va_get (D := g.1) (ci := 4) (v := .ref bbehind) (C := RX4) (T := TX4) (N := 4) hx hb hT inF_X4 hown hK.1 hP 0 rfl rfl 2 (by decide) (hT _ bw_221) (fun _ h9 => h9) rfl dX4_findSecond_95 ?_
          refine lv_aload_n hx hb dX4_findSecond_98 rfl (lv_at hl 3 rfl) ?_
          refine va_get (D := g.1) (ci := 4) (v := .int L_40) (C := RX4) (T := TX4) (N := 4) hx hb hT inF_X4 hown hK.1 hP 0 rfl rfl 1 (by decide) (hT _ bw_240) (fun _ h9 => h9) rfl dX4_findSecond_99 ?_
          have h_51 : vp_in L_40 128 := vp_in_iff.mpr (by omega)
          refine va_iald hx hb hK.1 hP 1 1 rfl rfl (i := L_40) h_51 dX4_findSecond_102 ?_
          refine lv_topi (fun x_52 ex_52 => ?_)
          have ux_52 := congrArg Int32.toInt ex_52
          refine lv_if_le (tgt := 126) hx hb dX4_findSecond_103 (by decide) (fun c_53 => ?_) (fun c_53 => ?_)
          · have f_54 := E_le (rfl : x_52.toInt = _) (by decide : (0 : Int32).toInt = 0) c_53
            refine lv_aload_n hx hb dX4_findSecond_126 rfl (lv_at hl 3 rfl) ?_
            refine lv_dup hx hb dX4_findSecond_127 rfl ?_
            refine va_get (D := g.1) (ci := 4) (v := .int L_40) (C := RX4) (T := TX4) (N := 4) hx hb hT inF_X4 hown hK.1 hP 0 rfl rfl 1 (by decide) (hT _ bw_240) (fun _ h9 => h9) rfl dX4_findSecond_128 ?_
            refine lv_iconst (v := 1) hx hb dX4_findSecond_131 (by decide) ?_
            refine lv_iadd hx hb dX4_findSecond_132 ?_
            refine lv_topi (fun x_55 ex_55 => ?_)
            have fx_55 : x_55.toInt = L_40.toInt + 1 := by rw [ex_55]; exact I_add rfl (by decide : (1 : Int32).toInt = 1) (by omega) (by omega)
            refine va_put (D := g.1) (ci := 4) (v := .int x_55) (ty := .int) (C := RX4) (T := TX4) (N := 4) hx hb hT inF_X4 tyX4 tyX4_ok nmX4 hown hK.1 hP hD hS 0 rfl rfl 1 (by decide) (hT _ bw_240) (fun _ h9 => h9) rfl (by decide +kernel) rfl rfl (Nat.le_of_ble_eq_true rfl) dX4_findSecond_133 (fun H locs hP hD hS => ?_)
            have hP : va_P g.1 vwCl [(h, .inr (4, [.int bfirst, .int x_55, .ref bbehind, .ref bmornings])), (bbehind, aI g 128 Fbbehind), (bmornings, aI g 8 f_41), (st, .inr (9, [.int sday, .int sseed, .int salive, .int sstruck, .int sopen, .int sduels, .int slines, .ref scoins, .ref srented, .ref smornings, .ref shonours, .ref sused, .ref ssides, .ref slog])), (ssides, aI g 16 Fssides), (la, .inr (2, [.ref dmen, .ref dformulas, .ref dreasons, .int dduels, .ref dduelSides, .ref dduelMornings, .int dhonour, .int ddraw, .ref dusesOfKind])), (dreasons, .inr (6, [.int dreasons_count, .ref dreasons_names, .ref dreasons_kinds, .ref dreasons_owners, .ref dreasons_froms, .ref dreasons_tos, .ref dreasons_rents, .ref dreasons_sorts])), (dreasons_sorts, aI g 8 Fdreasons_sorts)] H := hP
            have hD : va_D A [(h, .inr (4, [.int bfirst, .int x_55, .ref bbehind, .ref bmornings])), (bbehind, aI g 128 Fbbehind), (bmornings, aI g 8 f_41), (st, .inr (9, [.int sday, .int sseed, .int salive, .int sstruck, .int sopen, .int sduels, .int slines, .ref scoins, .ref srented, .ref smornings, .ref shonours, .ref sused, .ref ssides, .ref slog])), (ssides, aI g 16 Fssides), (la, .inr (2, [.ref dmen, .ref dformulas, .ref dreasons, .int dduels, .ref dduelSides, .ref dduelMornings, .int dhonour, .int ddraw, .ref dusesOfKind])), (dreasons, .inr (6, [.int dreasons_count, .ref dreasons_names, .ref dreasons_kinds, .ref dreasons_owners, .ref dreasons_froms, .ref dreasons_tos, .ref dreasons_rents, .ref dreasons_sorts])), (dreasons_sorts, aI g 8 Fdreasons_sorts)] := hD
            refine lv_goto (tgt := 58) hx hb dX4_findSecond_136 (by decide) ?_
            exact ih (n - 1) (by omega) H locs ls ⟨x_55, f_41, (by first | with_reducible assumption | omega), by omega, hP.sub [0, 1, 2, 3, 4, 5, 6, 7] rfl, hD.sub [0, 1, 2, 3, 4, 5, 6, 7] (by decide +kernel) rfl, hS, lv_sub hl [1, 2, 3, 4, 5, 6] rfl⟩
          · have f_56 := E_nle (rfl : x_52.toInt = _) (by decide : (0 : Int32).toInt = 0) c_53
            refine lv_iload hx hb dX4_findSecond_106 (lv_at hl 0 rfl) ?_
            refine lv_if_ne (tgt := 126) hx hb dX4_findSecond_108 (by decide) (fun c9 => absurd (by decide) c9) (fun _ => ?_)
            refine lv_aload_n hx hb dX4_findSecond_111 rfl (lv_at hl 3 rfl) ?_
            refine lv_aload_n hx hb dX4_findSecond_112 rfl (lv_at hl 5 rfl) ?_
            refine lv_iload_n hx hb dX4_findSecond_113 rfl (lv_at hl 6 rfl) ?_
            refine lv_aload_n hx hb dX4_findSecond_114 rfl (lv_at hl 3 rfl) ?_
            refine va_get (D := g.1) (ci := 4) (v := .int L_40) (C := RX4) (T := TX4) (N := 4) hx hb hT inF_X4 hown hK.1 hP 0 rfl rfl 1 (by decide) (hT _ bw_240) (fun _ h9 => h9) rfl dX4_findSecond_115 ?_
            refine k_i (wr := [(la, .inr (2, [.ref dmen, .ref dformulas, .ref dreasons, .int dduels, .ref dduelSides, .ref dduelMornings, .int dhonour, .int ddraw, .ref dusesOfKind])), (dreasons, .inr (6, [.int dreasons_count, .ref dreasons_names, .ref dreasons_kinds, .ref dreasons_owners, .ref dreasons_froms, .ref dreasons_tos, .ref dreasons_rents, .ref dreasons_sorts])), (dreasons_sorts, aI g 8 Fdreasons_sorts)]) (k_V (n := 3) ⟨hx, hb, hml, hown, hT⟩ hK hP hD [0, 1, 2, 3, 4] rfl (by decide +kernel) (s_X4_isParted l g H.size h bfirst L_40 bbehind Fbbehind bmornings f_41 st sday sseed salive sstruck sopen sduels slines scoins srented smornings shonours sused ssides Fssides slog p0 L_40 (by first | with_reducible assumption | omega) (by first | with_reducible assumption | omega) (by first | with_reducible assumption | omega) (by first | with_reducible assumption | omega) (by first | with_reducible assumption | omega) hh5 (by first | with_reducible assumption | omega)) (gV bw_227 bw_228 bw_229 bw_230 bw_225) rfl rfl (by decide +kernel) ⟨by decide, by decide⟩ (ci := 4) (q0 := 0) rfl rfl (fun _ _ _ _ _ => trivial) (fun _ _ _ => trivial) rfl rfl hl.1 (Nat.le_of_ble_eq_true rfl) dX4_findSecond_118 ⟨by decide, by decide⟩) hP hD hS hA [0, 1, 2, 3, 4] [5, 6, 7] rfl rfl (by decide +kernel) (by decide +kernel) (fun r_57 => fun f_58 H locs hw0 hP hD hS => ?_)
            have hP : va_P g.1 vwCl [(la, .inr (2, [.ref dmen, .ref dformulas, .ref dreasons, .int dduels, .ref dduelSides, .ref dduelMornings, .int dhonour, .int ddraw, .ref dusesOfKind])), (dreasons, .inr (6, [.int dreasons_count, .ref dreasons_names, .ref dreasons_kinds, .ref dreasons_owners, .ref dreasons_froms, .ref dreasons_tos, .ref dreasons_rents, .ref dreasons_sorts])), (dreasons_sorts, aI g 8 Fdreasons_sorts), (h, .inr (4, [.int bfirst, .int L_40, .ref bbehind, .ref bmornings])), (bbehind, aI g 128 Fbbehind), (bmornings, aI g 8 f_58), (st, .inr (9, [.int sday, .int sseed, .int salive, .int sstruck, .int sopen, .int sduels, .int slines, .ref scoins, .ref srented, .ref smornings, .ref shonours, .ref sused, .ref ssides, .ref slog])), (ssides, aI g 16 Fssides)] H := hP
            have hD : va_D A [(la, .inr (2, [.ref dmen, .ref dformulas, .ref dreasons, .int dduels, .ref dduelSides, .ref dduelMornings, .int dhonour, .int ddraw, .ref dusesOfKind])), (dreasons, .inr (6, [.int dreasons_count, .ref dreasons_names, .ref dreasons_kinds, .ref dreasons_owners, .ref dreasons_froms, .ref dreasons_tos, .ref dreasons_rents, .ref dreasons_sorts])), (dreasons_sorts, aI g 8 Fdreasons_sorts), (h, .inr (4, [.int bfirst, .int L_40, .ref bbehind, .ref bmornings])), (bbehind, aI g 128 Fbbehind), (bmornings, aI g 8 f_58), (st, .inr (9, [.int sday, .int sseed, .int salive, .int sstruck, .int sopen, .int sduels, .int slines, .ref scoins, .ref srented, .ref smornings, .ref shonours, .ref sused, .ref ssides, .ref slog])), (ssides, aI g 16 Fssides)] := hD
            have hw : 0 ≤ r_57.toInt ∧ r_57.toInt ≤ 1 := hw0
            clear hw0
            have w_59 := hw
            refine lv_if_eq (tgt := 126) hx hb dX4_findSecond_121 (by decide) (fun c_60 => ?_) (fun c_60 => ?_)
            · have f_61 := E_eq (rfl : r_57.toInt = _) (by decide : (0 : Int32).toInt = 0) c_60
              refine lv_aload_n hx hb dX4_findSecond_126 rfl (lv_at hl 3 rfl) ?_
              refine lv_dup hx hb dX4_findSecond_127 rfl ?_
              refine va_get (D := g.1) (ci := 4) (v := .int L_40) (C := RX4) (T := TX4) (N := 4) hx hb hT inF_X4 hown hK.1 hP 3 rfl rfl 1 (by decide) (hT _ bw_240) (fun _ h9 => h9) rfl dX4_findSecond_128 ?_
              refine lv_iconst (v := 1) hx hb dX4_findSecond_131 (by decide) ?_
              refine lv_iadd hx hb dX4_findSecond_132 ?_
              refine lv_topi (fun x_62 ex_62 => ?_)
              have fx_62 : x_62.toInt = L_40.toInt + 1 := by rw [ex_62]; exact I_add rfl (by decide : (1 : Int32).toInt = 1) (by omega) (by omega)
              refine va_put (D := g.1) (ci := 4) (v := .int x_62) (ty := .int) (C := RX4) (T := TX4) (N := 4) hx hb hT inF_X4 tyX4 tyX4_ok nmX4 hown hK.1 hP hD hS 3 rfl rfl 1 (by decide) (hT _ bw_240) (fun _ h9 => h9) rfl (by decide +kernel) rfl rfl (Nat.le_of_ble_eq_true rfl) dX4_findSecond_133 (fun H locs hP hD hS => ?_)
              have hP : va_P g.1 vwCl [(la, .inr (2, [.ref dmen, .ref dformulas, .ref dreasons, .int dduels, .ref dduelSides, .ref dduelMornings, .int dhonour, .int ddraw, .ref dusesOfKind])), (dreasons, .inr (6, [.int dreasons_count, .ref dreasons_names, .ref dreasons_kinds, .ref dreasons_owners, .ref dreasons_froms, .ref dreasons_tos, .ref dreasons_rents, .ref dreasons_sorts])), (dreasons_sorts, aI g 8 Fdreasons_sorts), (h, .inr (4, [.int bfirst, .int x_62, .ref bbehind, .ref bmornings])), (bbehind, aI g 128 Fbbehind), (bmornings, aI g 8 f_58), (st, .inr (9, [.int sday, .int sseed, .int salive, .int sstruck, .int sopen, .int sduels, .int slines, .ref scoins, .ref srented, .ref smornings, .ref shonours, .ref sused, .ref ssides, .ref slog])), (ssides, aI g 16 Fssides)] H := hP
              have hD : va_D A [(la, .inr (2, [.ref dmen, .ref dformulas, .ref dreasons, .int dduels, .ref dduelSides, .ref dduelMornings, .int dhonour, .int ddraw, .ref dusesOfKind])), (dreasons, .inr (6, [.int dreasons_count, .ref dreasons_names, .ref dreasons_kinds, .ref dreasons_owners, .ref dreasons_froms, .ref dreasons_tos, .ref dreasons_rents, .ref dreasons_sorts])), (dreasons_sorts, aI g 8 Fdreasons_sorts), (h, .inr (4, [.int bfirst, .int x_62, .ref bbehind, .ref bmornings])), (bbehind, aI g 128 Fbbehind), (bmornings, aI g 8 f_58), (st, .inr (9, [.int sday, .int sseed, .int salive, .int sstruck, .int sopen, .int sduels, .int slines, .ref scoins, .ref srented, .ref smornings, .ref shonours, .ref sused, .ref ssides, .ref slog])), (ssides, aI g 16 Fssides)] := hD
              refine lv_goto (tgt := 58) hx hb dX4_findSecond_136 (by decide) ?_
              exact ih (n - 1) (by omega) H locs ls ⟨x_62, f_58, (by first | with_reducible assumption | omega), by omega, hP.sub [3, 4, 5, 6, 7, 0, 1, 2] rfl, hD.sub [3, 4, 5, 6, 7, 0, 1, 2] (by decide +kernel) rfl, hS, lv_sub hl [1, 2, 3, 4, 5, 6] rfl⟩
            · have f_63 := E_ne (rfl : r_57.toInt = _) (by decide : (0 : Int32).toInt = 0) c_60
              refine lv_iconst (v := 1) hx hb dX4_findSecond_124 (by decide) ?_
              have hP9 : va_P g.1 vwCl [(h, .inr (4, [.int bfirst, .int L_40, .ref bbehind, .ref bmornings])), (bbehind, aI g 128 Fbbehind), (bmornings, aI g 8 f_58), (st, .inr (9, [.int sday, .int sseed, .int salive, .int sstruck, .int sopen, .int sduels, .int slines, .ref scoins, .ref srented, .ref smornings, .ref shonours, .ref sused, .ref ssides, .ref slog])), (ssides, aI g 16 Fssides), (la, .inr (2, [.ref dmen, .ref dformulas, .ref dreasons, .int dduels, .ref dduelSides, .ref dduelMornings, .int dhonour, .int ddraw, .ref dusesOfKind])), (dreasons, .inr (6, [.int dreasons_count, .ref dreasons_names, .ref dreasons_kinds, .ref dreasons_owners, .ref dreasons_froms, .ref dreasons_tos, .ref dreasons_rents, .ref dreasons_sorts])), (dreasons_sorts, aI g 8 Fdreasons_sorts)] H := hP.sub [3, 4, 5, 6, 7, 0, 1, 2] rfl
              have hD9 : va_D A [(h, .inr (4, [.int bfirst, .int L_40, .ref bbehind, .ref bmornings])), (bbehind, aI g 128 Fbbehind), (bmornings, aI g 8 f_58), (st, .inr (9, [.int sday, .int sseed, .int salive, .int sstruck, .int sopen, .int sduels, .int slines, .ref scoins, .ref srented, .ref smornings, .ref shonours, .ref sused, .ref ssides, .ref slog])), (ssides, aI g 16 Fssides), (la, .inr (2, [.ref dmen, .ref dformulas, .ref dreasons, .int dduels, .ref dduelSides, .ref dduelMornings, .int dhonour, .int ddraw, .ref dusesOfKind])), (dreasons, .inr (6, [.int dreasons_count, .ref dreasons_names, .ref dreasons_kinds, .ref dreasons_owners, .ref dreasons_froms, .ref dreasons_tos, .ref dreasons_rents, .ref dreasons_sorts])), (dreasons_sorts, aI g 8 Fdreasons_sorts)] := hD.sub [3, 4, 5, 6, 7, 0, 1, 2] (by decide +kernel) rfl
              exact W.zret (v := 1) (ty := .boolean) hx hb hr rfl (fun t ht hW => ⟨⟨1, (L_40, f_58), rfl, ⟨⟨by decide, by decide⟩, (by first | with_reducible assumption | omega)⟩, by rw [ht]; exact hP9, by rw [hAe]; exact hD9⟩, hS.F ht⟩) hS.2.2 dX4_findSecond_125
        · have f_64 := E_eq (rfl : r_47.toInt = _) (rfl : r_1.toInt = _) c_49
          refine lv_iconst (v := 1) hx hb dX4_findSecond_87 (by decide) ?_
          refine lv_goto (tgt := 92) hx hb dX4_findSecond_88 (by decide) ?_
          refine lv_istore (lv' := [(6, .int 1), (5, .int 1), (4, .int r_1), (0, .ref h), (1, .ref la), (2, .ref st), (3, .int p0)]) hx hb dX4_findSecond_92 hl (by decide) rfl (fun ls hl => ?_)
          refine lv_aload_n hx hb dX4_findSecond_94 rfl (lv_at hl 3 rfl) ?_
          refine va_get (D := g.1) (ci := 4) (v := .ref bbehind) (C := RX4) (T := TX4) (N := 4) hx hb hT inF_X4 hown hK.1 hP 0 rfl rfl 2 (by decide) (hT _ bw_221) (fun _ h9 => h9) rfl dX4_findSecond_95 ?_
          refine lv_aload_n hx hb dX4_findSecond_98 rfl (lv_at hl 3 rfl) ?_
          refine va_get (D := g.1) (ci := 4) (v := .int L_40) (C := RX4) (T := TX4) (N := 4) hx hb hT inF_X4 hown hK.1 hP 0 rfl rfl 1 (by decide) (hT _ bw_240) (fun _ h9 => h9) rfl dX4_findSecond_99 ?_
          have h_65 : vp_in L_40 128 := vp_in_iff.mpr (by omega)
          refine va_iald hx hb hK.1 hP 1 1 rfl rfl (i := L_40) h_65 dX4_findSecond_102 ?_
          refine lv_topi (fun x_66 ex_66 => ?_)
          have ux_66 := congrArg Int32.toInt ex_66
          refine lv_if_le (tgt := 126) hx hb dX4_findSecond_103 (by decide) (fun c_67 => ?_) (fun c_67 => ?_)
          · have f_68 := E_le (rfl : x_66.toInt = _) (by decide : (0 : Int32).toInt = 0) c_67
            refine lv_aload_n hx hb dX4_findSecond_126 rfl (lv_at hl 3 rfl) ?_
            refine lv_dup hx hb dX4_findSecond_127 rfl ?_
            refine va_get (D := g.1) (ci := 4) (v := .int L_40) (C := RX4) (T := TX4) (N := 4) hx hb hT inF_X4 hown hK.1 hP 0 rfl rfl 1 (by decide) (hT _ bw_240) (fun _ h9 => h9) rfl dX4_findSecond_128 ?_
            refine lv_iconst (v := 1) hx hb dX4_findSecond_131 (by decide) ?_
            refine lv_iadd hx hb dX4_findSecond_132 ?_
            refine lv_topi (fun x_69 ex_69 => ?_)
            have fx_69 : x_69.toInt = L_40.toInt + 1 := by rw [ex_69]; exact I_add rfl (by decide : (1 : Int32).toInt = 1) (by omega) (by omega)
            refine va_put (D := g.1) (ci := 4) (v := .int x_69) (ty := .int) (C := RX4) (T := TX4) (N := 4) hx hb hT inF_X4 tyX4 tyX4_ok nmX4 hown hK.1 hP hD hS 0 rfl rfl 1 (by decide) (hT _ bw_240) (fun _ h9 => h9) rfl (by decide +kernel) rfl rfl (Nat.le_of_ble_eq_true rfl) dX4_findSecond_133 (fun H locs hP hD hS => ?_)
            have hP : va_P g.1 vwCl [(h, .inr (4, [.int bfirst, .int x_69, .ref bbehind, .ref bmornings])), (bbehind, aI g 128 Fbbehind), (bmornings, aI g 8 f_41), (st, .inr (9, [.int sday, .int sseed, .int salive, .int sstruck, .int sopen, .int sduels, .int slines, .ref scoins, .ref srented, .ref smornings, .ref shonours, .ref sused, .ref ssides, .ref slog])), (ssides, aI g 16 Fssides), (la, .inr (2, [.ref dmen, .ref dformulas, .ref dreasons, .int dduels, .ref dduelSides, .ref dduelMornings, .int dhonour, .int ddraw, .ref dusesOfKind])), (dreasons, .inr (6, [.int dreasons_count, .ref dreasons_names, .ref dreasons_kinds, .ref dreasons_owners, .ref dreasons_froms, .ref dreasons_tos, .ref dreasons_rents, .ref dreasons_sorts])), (dreasons_sorts, aI g 8 Fdreasons_sorts)] H := hP
            have hD : va_D A [(h, .inr (4, [.int bfirst, .int x_69, .ref bbehind, .ref bmornings])), (bbehind, aI g 128 Fbbehind), (bmornings, aI g 8 f_41), (st, .inr (9, [.int sday, .int sseed, .int salive, .int sstruck, .int sopen, .int sduels, .int slines, .ref scoins, .ref srented, .ref smornings, .ref shonours, .ref sused, .ref ssides, .ref slog])), (ssides, aI g 16 Fssides), (la, .inr (2, [.ref dmen, .ref dformulas, .ref dreasons, .int dduels, .ref dduelSides, .ref dduelMornings, .int dhonour, .int ddraw, .ref dusesOfKind])), (dreasons, .inr (6, [.int dreasons_count, .ref dreasons_names, .ref dreasons_kinds, .ref dreasons_owners, .ref dreasons_froms, .ref dreasons_tos, .ref dreasons_rents, .ref dreasons_sorts])), (dreasons_sorts, aI g 8 Fdreasons_sorts)] := hD
            refine lv_goto (tgt := 58) hx hb dX4_findSecond_136 (by decide) ?_
            exact ih (n - 1) (by omega) H locs ls ⟨x_69, f_41, (by first | with_reducible assumption | omega), by omega, hP.sub [0, 1, 2, 3, 4, 5, 6, 7] rfl, hD.sub [0, 1, 2, 3, 4, 5, 6, 7] (by decide +kernel) rfl, hS, lv_sub hl [1, 2, 3, 4, 5, 6] rfl⟩
          · have f_70 := E_nle (rfl : x_66.toInt = _) (by decide : (0 : Int32).toInt = 0) c_67
            refine lv_iload hx hb dX4_findSecond_106 (lv_at hl 0 rfl) ?_
            refine lv_if_ne (tgt := 126) hx hb dX4_findSecond_108 (by decide) (fun _ => ?_) (fun c9 => absurd c9 (by decide))
            refine lv_aload_n hx hb dX4_findSecond_126 rfl (lv_at hl 3 rfl) ?_
            refine lv_dup hx hb dX4_findSecond_127 rfl ?_
            refine va_get (D := g.1) (ci := 4) (v := .int L_40) (C := RX4) (T := TX4) (N := 4) hx hb hT inF_X4 hown hK.1 hP 0 rfl rfl 1 (by decide) (hT _ bw_240) (fun _ h9 => h9) rfl dX4_findSecond_128 ?_
            refine lv_iconst (v := 1) hx hb dX4_findSecond_131 (by decide) ?_
            refine lv_iadd hx hb dX4_findSecond_132 ?_
            refine lv_topi (fun x_71 ex_71 => ?_)
            have fx_71 : x_71.toInt = L_40.toInt + 1 := by rw [ex_71]; exact I_add rfl (by decide : (1 : Int32).toInt = 1) (by omega) (by omega)
            refine va_put (D := g.1) (ci := 4) (v := .int x_71) (ty := .int) (C := RX4) (T := TX4) (N := 4) hx hb hT inF_X4 tyX4 tyX4_ok nmX4 hown hK.1 hP hD hS 0 rfl rfl 1 (by decide) (hT _ bw_240) (fun _ h9 => h9) rfl (by decide +kernel) rfl rfl (Nat.le_of_ble_eq_true rfl) dX4_findSecond_133 (fun H locs hP hD hS => ?_)
            have hP : va_P g.1 vwCl [(h, .inr (4, [.int bfirst, .int x_71, .ref bbehind, .ref bmornings])), (bbehind, aI g 128 Fbbehind), (bmornings, aI g 8 f_41), (st, .inr (9, [.int sday, .int sseed, .int salive, .int sstruck, .int sopen, .int sduels, .int slines, .ref scoins, .ref srented, .ref smornings, .ref shonours, .ref sused, .ref ssides, .ref slog])), (ssides, aI g 16 Fssides), (la, .inr (2, [.ref dmen, .ref dformulas, .ref dreasons, .int dduels, .ref dduelSides, .ref dduelMornings, .int dhonour, .int ddraw, .ref dusesOfKind])), (dreasons, .inr (6, [.int dreasons_count, .ref dreasons_names, .ref dreasons_kinds, .ref dreasons_owners, .ref dreasons_froms, .ref dreasons_tos, .ref dreasons_rents, .ref dreasons_sorts])), (dreasons_sorts, aI g 8 Fdreasons_sorts)] H := hP
            have hD : va_D A [(h, .inr (4, [.int bfirst, .int x_71, .ref bbehind, .ref bmornings])), (bbehind, aI g 128 Fbbehind), (bmornings, aI g 8 f_41), (st, .inr (9, [.int sday, .int sseed, .int salive, .int sstruck, .int sopen, .int sduels, .int slines, .ref scoins, .ref srented, .ref smornings, .ref shonours, .ref sused, .ref ssides, .ref slog])), (ssides, aI g 16 Fssides), (la, .inr (2, [.ref dmen, .ref dformulas, .ref dreasons, .int dduels, .ref dduelSides, .ref dduelMornings, .int dhonour, .int ddraw, .ref dusesOfKind])), (dreasons, .inr (6, [.int dreasons_count, .ref dreasons_names, .ref dreasons_kinds, .ref dreasons_owners, .ref dreasons_froms, .ref dreasons_tos, .ref dreasons_rents, .ref dreasons_sorts])), (dreasons_sorts, aI g 8 Fdreasons_sorts)] := hD
            refine lv_goto (tgt := 58) hx hb dX4_findSecond_136 (by decide) ?_
            exact ih (n - 1) (by omega) H locs ls ⟨x_71, f_41, (by first | with_reducible assumption | omega), by omega, hP.sub [0, 1, 2, 3, 4, 5, 6, 7] rfl, hD.sub [0, 1, 2, 3, 4, 5, 6, 7] (by decide +kernel) rfl, hS, lv_sub hl [1, 2, 3, 4, 5, 6] rfl⟩
  · subst e_6
    refine lv_if_eq (tgt := 39) hx hb dX4_findSecond_18 (by decide) (fun _ => ?_) (fun c9 => absurd (by decide) c9)
    refine lv_iconst (v := 0) hx hb dX4_findSecond_39 (by decide) ?_
    refine lv_istore (lv' := [(5, .int 0), (4, .int r_1), (0, .ref h), (1, .ref la), (2, .ref st), (3, .int p0)]) hx hb dX4_findSecond_40 hl (by decide) rfl (fun ls hl => ?_)
    refine lv_aload_n hx hb dX4_findSecond_42 rfl (lv_at hl 2 rfl) ?_
    refine lv_bipush (v := 16) hx hb dX4_findSecond_43 (by decide) ?_
    refine lv_aload_n hx hb dX4_findSecond_45 rfl (lv_at hl 2 rfl) ?_
    refine va_get (D := g.1) (ci := 4) (v := .int bfirst) (C := RX4) (T := TX4) (N := 4) hx hb hT inF_X4 hown hK.1 hP 0 rfl rfl 0 (by decide) (hT _ bw_226) (fun _ h9 => h9) rfl dX4_findSecond_46 ?_
    refine k_iR (k_S (n := 1) ⟨hx, hb, hml, hown, hT⟩ hK hP hD [] rfl (by decide +kernel) (s_X4_duelOf l g H.size bfirst (by first | with_reducible assumption | omega)) (gS bw_217 bw_218 bw_219 bw_214) rfl rfl (by decide +kernel) ⟨by decide, by decide⟩ (fun _ _ _ _ _ => trivial) (fun _ _ _ => trivial) rfl rfl hl.1 (Nat.le_of_ble_eq_true rfl) dX4_findSecond_49 ⟨by decide, by decide⟩) hP hS hA (fun r_72 _ H locs hw0 hP hS => ?_)
    have hw : 0 ≤ r_72.toInt ∧ r_72.toInt ≤ 7 := hw0
    clear hw0
    have w_73 := hw
    refine lv_iconst (v := 1) hx hb dX4_findSecond_52 (by decide) ?_
    refine lv_iadd hx hb dX4_findSecond_53 ?_
    refine lv_topi (fun x_74 ex_74 => ?_)
    have fx_74 : x_74.toInt = r_72.toInt + 1 := by rw [ex_74]; exact I_add rfl (by decide : (1 : Int32).toInt = 1) (by omega) (by omega)
    refine lv_imul hx hb dX4_findSecond_54 ?_
    refine lv_topi (fun x_75 ex_75 => ?_)
    have fx_75 : x_75.toInt = 16 * x_74.toInt := by rw [ex_75]; exact I_mul (by decide : (16 : Int32).toInt = 16) rfl (by omega) (by omega)
    refine va_put (D := g.1) (ci := 4) (v := .int x_75) (ty := .int) (C := RX4) (T := TX4) (N := 4) hx hb hT inF_X4 tyX4 tyX4_ok nmX4 hown hK.1 hP hD hS 0 rfl rfl 1 (by decide) (hT _ bw_240) (fun _ h9 => h9) rfl (by decide +kernel) rfl rfl (Nat.le_of_ble_eq_true rfl) dX4_findSecond_55 (fun H locs hP hD hS => ?_)
    have hP : va_P g.1 vwCl [(h, .inr (4, [.int bfirst, .int x_75, .ref bbehind, .ref bmornings])), (bbehind, aI g 128 Fbbehind), (bmornings, aI g 8 Fbmornings), (st, .inr (9, [.int sday, .int sseed, .int salive, .int sstruck, .int sopen, .int sduels, .int slines, .ref scoins, .ref srented, .ref smornings, .ref shonours, .ref sused, .ref ssides, .ref slog])), (ssides, aI g 16 Fssides), (la, .inr (2, [.ref dmen, .ref dformulas, .ref dreasons, .int dduels, .ref dduelSides, .ref dduelMornings, .int dhonour, .int ddraw, .ref dusesOfKind])), (dreasons, .inr (6, [.int dreasons_count, .ref dreasons_names, .ref dreasons_kinds, .ref dreasons_owners, .ref dreasons_froms, .ref dreasons_tos, .ref dreasons_rents, .ref dreasons_sorts])), (dreasons_sorts, aI g 8 Fdreasons_sorts)] H := hP
    have hD : va_D A [(h, .inr (4, [.int bfirst, .int x_75, .ref bbehind, .ref bmornings])), (bbehind, aI g 128 Fbbehind), (bmornings, aI g 8 Fbmornings), (st, .inr (9, [.int sday, .int sseed, .int salive, .int sstruck, .int sopen, .int sduels, .int slines, .ref scoins, .ref srented, .ref smornings, .ref shonours, .ref sused, .ref ssides, .ref slog])), (ssides, aI g 16 Fssides), (la, .inr (2, [.ref dmen, .ref dformulas, .ref dreasons, .int dduels, .ref dduelSides, .ref dduelMornings, .int dhonour, .int ddraw, .ref dusesOfKind])), (dreasons, .inr (6, [.int dreasons_count, .ref dreasons_names, .ref dreasons_kinds, .ref dreasons_owners, .ref dreasons_froms, .ref dreasons_tos, .ref dreasons_rents, .ref dreasons_sorts])), (dreasons_sorts, aI g 8 Fdreasons_sorts)] := hD
    refine k_floop 58 (fun n H locs ls => ∃ (L_76 : Int32) (f_77 : Nat → Int32), (0 ≤ L_76.toInt ∧ L_76.toInt ≤ 128) ∧ 128 - L_76.toInt ≤ (n : Int) ∧ va_P g.1 vwCl [(h, .inr (4, [.int bfirst, .int L_76, .ref bbehind, .ref bmornings])), (bbehind, aI g 128 Fbbehind), (bmornings, aI g 8 f_77), (st, .inr (9, [.int sday, .int sseed, .int salive, .int sstruck, .int sopen, .int sduels, .int slines, .ref scoins, .ref srented, .ref smornings, .ref shonours, .ref sused, .ref ssides, .ref slog])), (ssides, aI g 16 Fssides), (la, .inr (2, [.ref dmen, .ref dformulas, .ref dreasons, .int dduels, .ref dduelSides, .ref dduelMornings, .int dhonour, .int ddraw, .ref dusesOfKind])), (dreasons, .inr (6, [.int dreasons_count, .ref dreasons_names, .ref dreasons_kinds, .ref dreasons_owners, .ref dreasons_froms, .ref dreasons_tos, .ref dreasons_rents, .ref dreasons_sorts])), (dreasons_sorts, aI g 8 Fdreasons_sorts)] H ∧ va_D A [(h, .inr (4, [.int bfirst, .int L_76, .ref bbehind, .ref bmornings])), (bbehind, aI g 128 Fbbehind), (bmornings, aI g 8 f_77), (st, .inr (9, [.int sday, .int sseed, .int salive, .int sstruck, .int sopen, .int sduels, .int slines, .ref scoins, .ref srented, .ref smornings, .ref shonours, .ref sused, .ref ssides, .ref slog])), (ssides, aI g 16 Fssides), (la, .inr (2, [.ref dmen, .ref dformulas, .ref dreasons, .int dduels, .ref dduelSides, .ref dduelMornings, .int dhonour, .int ddraw, .ref dusesOfKind])), (dreasons, .inr (6, [.int dreasons_count, .ref dreasons_names, .ref dreasons_kinds, .ref dreasons_owners, .ref dreasons_froms, .ref dreasons_tos, .ref dreasons_rents, .ref dreasons_sorts])), (dreasons_sorts, aI g 8 Fdreasons_sorts)] ∧ va_S A s.heap H locs ∧ lv_has ls 7 [(5, .int 0), (4, .int r_1), (0, .ref h), (1, .ref la), (2, .ref st), (3, .int p0)]) (fun n H locs ls hI ih => ?_) ((128 - x_75.toInt : Int)).toNat ⟨x_75, Fbmornings, (by first | with_reducible assumption | omega), by omega, hP, hD, hS, hl⟩
    refine hI.elim (fun L_76 hI => hI.elim (fun f_77 hI => ?_))
    have g_78 := hI.1
    have hm_79 := hI.2.1
    have hP := hI.2.2.1
    have hD := hI.2.2.2.1
    have hS := hI.2.2.2.2.1
    have hl := hI.2.2.2.2.2
    clear hI
    refine lv_aload_n hx hb dX4_findSecond_58 rfl (lv_at hl 2 rfl) ?_
    refine va_get (D := g.1) (ci := 4) (v := .int L_76) (C := RX4) (T := TX4) (N := 4) hx hb hT inF_X4 hown hK.1 hP 0 rfl rfl 1 (by decide) (hT _ bw_240) (fun _ h9 => h9) rfl dX4_findSecond_59 ?_
    refine lv_aload_n hx hb dX4_findSecond_62 rfl (lv_at hl 2 rfl) ?_
    refine va_get (D := g.1) (ci := 4) (v := .ref bbehind) (C := RX4) (T := TX4) (N := 4) hx hb hT inF_X4 hown hK.1 hP 0 rfl rfl 2 (by decide) (hT _ bw_221) (fun _ h9 => h9) rfl dX4_findSecond_63 ?_
    refine va_alen (v := 128) hx hb hK.1 hP 1 1 rfl rfl rfl dX4_findSecond_66 ?_
    refine lv_icmp_ge (tgt := 139) hx hb dX4_findSecond_67 (by decide) (fun c_80 => ?_) (fun c_80 => ?_)
    · have f_81 := E_le (by decide : (128 : Int32).toInt = 128) (rfl : L_76.toInt = _) c_80
      refine lv_iconst (v := 0) hx hb dX4_findSecond_139 (by decide) ?_
      have hP9 : va_P g.1 vwCl [(h, .inr (4, [.int bfirst, .int L_76, .ref bbehind, .ref bmornings])), (bbehind, aI g 128 Fbbehind), (bmornings, aI g 8 f_77), (st, .inr (9, [.int sday, .int sseed, .int salive, .int sstruck, .int sopen, .int sduels, .int slines, .ref scoins, .ref srented, .ref smornings, .ref shonours, .ref sused, .ref ssides, .ref slog])), (ssides, aI g 16 Fssides), (la, .inr (2, [.ref dmen, .ref dformulas, .ref dreasons, .int dduels, .ref dduelSides, .ref dduelMornings, .int dhonour, .int ddraw, .ref dusesOfKind])), (dreasons, .inr (6, [.int dreasons_count, .ref dreasons_names, .ref dreasons_kinds, .ref dreasons_owners, .ref dreasons_froms, .ref dreasons_tos, .ref dreasons_rents, .ref dreasons_sorts])), (dreasons_sorts, aI g 8 Fdreasons_sorts)] H := hP.sub [0, 1, 2, 3, 4, 5, 6, 7] rfl
      have hD9 : va_D A [(h, .inr (4, [.int bfirst, .int L_76, .ref bbehind, .ref bmornings])), (bbehind, aI g 128 Fbbehind), (bmornings, aI g 8 f_77), (st, .inr (9, [.int sday, .int sseed, .int salive, .int sstruck, .int sopen, .int sduels, .int slines, .ref scoins, .ref srented, .ref smornings, .ref shonours, .ref sused, .ref ssides, .ref slog])), (ssides, aI g 16 Fssides), (la, .inr (2, [.ref dmen, .ref dformulas, .ref dreasons, .int dduels, .ref dduelSides, .ref dduelMornings, .int dhonour, .int ddraw, .ref dusesOfKind])), (dreasons, .inr (6, [.int dreasons_count, .ref dreasons_names, .ref dreasons_kinds, .ref dreasons_owners, .ref dreasons_froms, .ref dreasons_tos, .ref dreasons_rents, .ref dreasons_sorts])), (dreasons_sorts, aI g 8 Fdreasons_sorts)] := hD.sub [0, 1, 2, 3, 4, 5, 6, 7] (by decide +kernel) rfl
      exact W.zret (v := 0) (ty := .boolean) hx hb hr rfl (fun t ht hW => ⟨⟨0, (L_76, f_77), rfl, ⟨⟨by decide, by decide⟩, (by first | with_reducible assumption | omega)⟩, by rw [ht]; exact hP9, by rw [hAe]; exact hD9⟩, hS.F ht⟩) hS.2.2 dX4_findSecond_140
    · have f_82 := E_nle (by decide : (128 : Int32).toInt = 128) (rfl : L_76.toInt = _) c_80
      refine lv_iload hx hb dX4_findSecond_70 (lv_at hl 0 rfl) ?_
      refine lv_if_eq (tgt := 91) hx hb dX4_findSecond_72 (by decide) (fun _ => ?_) (fun c9 => absurd (by decide) c9)
      refine lv_iconst (v := 0) hx hb dX4_findSecond_91 (by decide) ?_
      refine lv_istore (lv' := [(6, .int 0), (5, .int 0), (4, .int r_1), (0, .ref h), (1, .ref la), (2, .ref st), (3, .int p0)]) hx hb dX4_findSecond_92 hl (by decide) rfl (fun ls hl => ?_)
      refine lv_aload_n hx hb dX4_findSecond_94 rfl (lv_at hl 3 rfl) ?_
      refine va_get (D := g.1) (ci := 4) (v := .ref bbehind) (C := RX4) (T := TX4) (N := 4) hx hb hT inF_X4 hown hK.1 hP 0 rfl rfl 2 (by decide) (hT _ bw_221) (fun _ h9 => h9) rfl dX4_findSecond_95 ?_
      refine lv_aload_n hx hb dX4_findSecond_98 rfl (lv_at hl 3 rfl) ?_
      refine va_get (D := g.1) (ci := 4) (v := .int L_76) (C := RX4) (T := TX4) (N := 4) hx hb hT inF_X4 hown hK.1 hP 0 rfl rfl 1 (by decide) (hT _ bw_240) (fun _ h9 => h9) rfl dX4_findSecond_99 ?_
      have h_83 : vp_in L_76 128 := vp_in_iff.mpr (by omega)
      refine va_iald hx hb hK.1 hP 1 1 rfl rfl (i := L_76) h_83 dX4_findSecond_102 ?_
      refine lv_topi (fun x_84 ex_84 => ?_)
      have ux_84 := congrArg Int32.toInt ex_84
      refine lv_if_le (tgt := 126) hx hb dX4_findSecond_103 (by decide) (fun c_85 => ?_) (fun c_85 => ?_)
      · have f_86 := E_le (rfl : x_84.toInt = _) (by decide : (0 : Int32).toInt = 0) c_85
        refine lv_aload_n hx hb dX4_findSecond_126 rfl (lv_at hl 3 rfl) ?_
        refine lv_dup hx hb dX4_findSecond_127 rfl ?_
        refine va_get (D := g.1) (ci := 4) (v := .int L_76) (C := RX4) (T := TX4) (N := 4) hx hb hT inF_X4 hown hK.1 hP 0 rfl rfl 1 (by decide) (hT _ bw_240) (fun _ h9 => h9) rfl dX4_findSecond_128 ?_
        refine lv_iconst (v := 1) hx hb dX4_findSecond_131 (by decide) ?_
        refine lv_iadd hx hb dX4_findSecond_132 ?_
        refine lv_topi (fun x_87 ex_87 => ?_)
        have fx_87 : x_87.toInt = L_76.toInt + 1 := by rw [ex_87]; exact I_add rfl (by decide : (1 : Int32).toInt = 1) (by omega) (by omega)
        refine va_put (D := g.1) (ci := 4) (v := .int x_87) (ty := .int) (C := RX4) (T := TX4) (N := 4) hx hb hT inF_X4 tyX4 tyX4_ok nmX4 hown hK.1 hP hD hS 0 rfl rfl 1 (by decide) (hT _ bw_240) (fun _ h9 => h9) rfl (by decide +kernel) rfl rfl (Nat.le_of_ble_eq_true rfl) dX4_findSecond_133 (fun H locs hP hD hS => ?_)
        have hP : va_P g.1 vwCl [(h, .inr (4, [.int bfirst, .int x_87, .ref bbehind, .ref bmornings])), (bbehind, aI g 128 Fbbehind), (bmornings, aI g 8 f_77), (st, .inr (9, [.int sday, .int sseed, .int salive, .int sstruck, .int sopen, .int sduels, .int slines, .ref scoins, .ref srented, .ref smornings, .ref shonours, .ref sused, .ref ssides, .ref slog])), (ssides, aI g 16 Fssides), (la, .inr (2, [.ref dmen, .ref dformulas, .ref dreasons, .int dduels, .ref dduelSides, .ref dduelMornings, .int dhonour, .int ddraw, .ref dusesOfKind])), (dreasons, .inr (6, [.int dreasons_count, .ref dreasons_names, .ref dreasons_kinds, .ref dreasons_owners, .ref dreasons_froms, .ref dreasons_tos, .ref dreasons_rents, .ref dreasons_sorts])), (dreasons_sorts, aI g 8 Fdreasons_sorts)] H := hP
        have hD : va_D A [(h, .inr (4, [.int bfirst, .int x_87, .ref bbehind, .ref bmornings])), (bbehind, aI g 128 Fbbehind), (bmornings, aI g 8 f_77), (st, .inr (9, [.int sday, .int sseed, .int salive, .int sstruck, .int sopen, .int sduels, .int slines, .ref scoins, .ref srented, .ref smornings, .ref shonours, .ref sused, .ref ssides, .ref slog])), (ssides, aI g 16 Fssides), (la, .inr (2, [.ref dmen, .ref dformulas, .ref dreasons, .int dduels, .ref dduelSides, .ref dduelMornings, .int dhonour, .int ddraw, .ref dusesOfKind])), (dreasons, .inr (6, [.int dreasons_count, .ref dreasons_names, .ref dreasons_kinds, .ref dreasons_owners, .ref dreasons_froms, .ref dreasons_tos, .ref dreasons_rents, .ref dreasons_sorts])), (dreasons_sorts, aI g 8 Fdreasons_sorts)] := hD
        refine lv_goto (tgt := 58) hx hb dX4_findSecond_136 (by decide) ?_
        exact ih (n - 1) (by omega) H locs ls ⟨x_87, f_77, (by first | with_reducible assumption | omega), by omega, hP.sub [0, 1, 2, 3, 4, 5, 6, 7] rfl, hD.sub [0, 1, 2, 3, 4, 5, 6, 7] (by decide +kernel) rfl, hS, lv_sub hl [1, 2, 3, 4, 5, 6] rfl⟩
      · have f_88 := E_nle (rfl : x_84.toInt = _) (by decide : (0 : Int32).toInt = 0) c_85
        refine lv_iload hx hb dX4_findSecond_106 (lv_at hl 0 rfl) ?_
        refine lv_if_ne (tgt := 126) hx hb dX4_findSecond_108 (by decide) (fun c9 => absurd (by decide) c9) (fun _ => ?_)
        refine lv_aload_n hx hb dX4_findSecond_111 rfl (lv_at hl 3 rfl) ?_
        refine lv_aload_n hx hb dX4_findSecond_112 rfl (lv_at hl 5 rfl) ?_
        refine lv_iload_n hx hb dX4_findSecond_113 rfl (lv_at hl 6 rfl) ?_
        refine lv_aload_n hx hb dX4_findSecond_114 rfl (lv_at hl 3 rfl) ?_
        refine va_get (D := g.1) (ci := 4) (v := .int L_76) (C := RX4) (T := TX4) (N := 4) hx hb hT inF_X4 hown hK.1 hP 0 rfl rfl 1 (by decide) (hT _ bw_240) (fun _ h9 => h9) rfl dX4_findSecond_115 ?_
        refine k_i (wr := [(la, .inr (2, [.ref dmen, .ref dformulas, .ref dreasons, .int dduels, .ref dduelSides, .ref dduelMornings, .int dhonour, .int ddraw, .ref dusesOfKind])), (dreasons, .inr (6, [.int dreasons_count, .ref dreasons_names, .ref dreasons_kinds, .ref dreasons_owners, .ref dreasons_froms, .ref dreasons_tos, .ref dreasons_rents, .ref dreasons_sorts])), (dreasons_sorts, aI g 8 Fdreasons_sorts)]) (k_V (n := 3) ⟨hx, hb, hml, hown, hT⟩ hK hP hD [0, 1, 2, 3, 4] rfl (by decide +kernel) (s_X4_isParted l g H.size h bfirst L_76 bbehind Fbbehind bmornings f_77 st sday sseed salive sstruck sopen sduels slines scoins srented smornings shonours sused ssides Fssides slog p0 L_76 (by first | with_reducible assumption | omega) (by first | with_reducible assumption | omega) (by first | with_reducible assumption | omega) (by first | with_reducible assumption | omega) (by first | with_reducible assumption | omega) hh5 (by first | with_reducible assumption | omega)) (gV bw_227 bw_228 bw_229 bw_230 bw_225) rfl rfl (by decide +kernel) ⟨by decide, by decide⟩ (ci := 4) (q0 := 0) rfl rfl (fun _ _ _ _ _ => trivial) (fun _ _ _ => trivial) rfl rfl hl.1 (Nat.le_of_ble_eq_true rfl) dX4_findSecond_118 ⟨by decide, by decide⟩) hP hD hS hA [0, 1, 2, 3, 4] [5, 6, 7] rfl rfl (by decide +kernel) (by decide +kernel) (fun r_89 => fun f_90 H locs hw0 hP hD hS => ?_)
        have hP : va_P g.1 vwCl [(la, .inr (2, [.ref dmen, .ref dformulas, .ref dreasons, .int dduels, .ref dduelSides, .ref dduelMornings, .int dhonour, .int ddraw, .ref dusesOfKind])), (dreasons, .inr (6, [.int dreasons_count, .ref dreasons_names, .ref dreasons_kinds, .ref dreasons_owners, .ref dreasons_froms, .ref dreasons_tos, .ref dreasons_rents, .ref dreasons_sorts])), (dreasons_sorts, aI g 8 Fdreasons_sorts), (h, .inr (4, [.int bfirst, .int L_76, .ref bbehind, .ref bmornings])), (bbehind, aI g 128 Fbbehind), (bmornings, aI g 8 f_90), (st, .inr (9, [.int sday, .int sseed, .int salive, .int sstruck, .int sopen, .int sduels, .int slines, .ref scoins, .ref srented, .ref smornings, .ref shonours, .ref sused, .ref ssides, .ref slog])), (ssides, aI g 16 Fssides)] H := hP
        have hD : va_D A [(la, .inr (2, [.ref dmen, .ref dformulas, .ref dreasons, .int dduels, .ref dduelSides, .ref dduelMornings, .int dhonour, .int ddraw, .ref dusesOfKind])), (dreasons, .inr (6, [.int dreasons_count, .ref dreasons_names, .ref dreasons_kinds, .ref dreasons_owners, .ref dreasons_froms, .ref dreasons_tos, .ref dreasons_rents, .ref dreasons_sorts])), (dreasons_sorts, aI g 8 Fdreasons_sorts), (h, .inr (4, [.int bfirst, .int L_76, .ref bbehind, .ref bmornings])), (bbehind, aI g 128 Fbbehind), (bmornings, aI g 8 f_90), (st, .inr (9, [.int sday, .int sseed, .int salive, .int sstruck, .int sopen, .int sduels, .int slines, .ref scoins, .ref srented, .ref smornings, .ref shonours, .ref sused, .ref ssides, .ref slog])), (ssides, aI g 16 Fssides)] := hD
        have hw : 0 ≤ r_89.toInt ∧ r_89.toInt ≤ 1 := hw0
        clear hw0
        have w_91 := hw
        refine lv_if_eq (tgt := 126) hx hb dX4_findSecond_121 (by decide) (fun c_92 => ?_) (fun c_92 => ?_)
        · have f_93 := E_eq (rfl : r_89.toInt = _) (by decide : (0 : Int32).toInt = 0) c_92
          refine lv_aload_n hx hb dX4_findSecond_126 rfl (lv_at hl 3 rfl) ?_
          refine lv_dup hx hb dX4_findSecond_127 rfl ?_
          refine va_get (D := g.1) (ci := 4) (v := .int L_76) (C := RX4) (T := TX4) (N := 4) hx hb hT inF_X4 hown hK.1 hP 3 rfl rfl 1 (by decide) (hT _ bw_240) (fun _ h9 => h9) rfl dX4_findSecond_128 ?_
          refine lv_iconst (v := 1) hx hb dX4_findSecond_131 (by decide) ?_
          refine lv_iadd hx hb dX4_findSecond_132 ?_
          refine lv_topi (fun x_94 ex_94 => ?_)
          have fx_94 : x_94.toInt = L_76.toInt + 1 := by rw [ex_94]; exact I_add rfl (by decide : (1 : Int32).toInt = 1) (by omega) (by omega)
          refine va_put (D := g.1) (ci := 4) (v := .int x_94) (ty := .int) (C := RX4) (T := TX4) (N := 4) hx hb hT inF_X4 tyX4 tyX4_ok nmX4 hown hK.1 hP hD hS 3 rfl rfl 1 (by decide) (hT _ bw_240) (fun _ h9 => h9) rfl (by decide +kernel) rfl rfl (Nat.le_of_ble_eq_true rfl) dX4_findSecond_133 (fun H locs hP hD hS => ?_)
          have hP : va_P g.1 vwCl [(la, .inr (2, [.ref dmen, .ref dformulas, .ref dreasons, .int dduels, .ref dduelSides, .ref dduelMornings, .int dhonour, .int ddraw, .ref dusesOfKind])), (dreasons, .inr (6, [.int dreasons_count, .ref dreasons_names, .ref dreasons_kinds, .ref dreasons_owners, .ref dreasons_froms, .ref dreasons_tos, .ref dreasons_rents, .ref dreasons_sorts])), (dreasons_sorts, aI g 8 Fdreasons_sorts), (h, .inr (4, [.int bfirst, .int x_94, .ref bbehind, .ref bmornings])), (bbehind, aI g 128 Fbbehind), (bmornings, aI g 8 f_90), (st, .inr (9, [.int sday, .int sseed, .int salive, .int sstruck, .int sopen, .int sduels, .int slines, .ref scoins, .ref srented, .ref smornings, .ref shonours, .ref sused, .ref ssides, .ref slog])), (ssides, aI g 16 Fssides)] H := hP
          have hD : va_D A [(la, .inr (2, [.ref dmen, .ref dformulas, .ref dreasons, .int dduels, .ref dduelSides, .ref dduelMornings, .int dhonour, .int ddraw, .ref dusesOfKind])), (dreasons, .inr (6, [.int dreasons_count, .ref dreasons_names, .ref dreasons_kinds, .ref dreasons_owners, .ref dreasons_froms, .ref dreasons_tos, .ref dreasons_rents, .ref dreasons_sorts])), (dreasons_sorts, aI g 8 Fdreasons_sorts), (h, .inr (4, [.int bfirst, .int x_94, .ref bbehind, .ref bmornings])), (bbehind, aI g 128 Fbbehind), (bmornings, aI g 8 f_90), (st, .inr (9, [.int sday, .int sseed, .int salive, .int sstruck, .int sopen, .int sduels, .int slines, .ref scoins, .ref srented, .ref smornings, .ref shonours, .ref sused, .ref ssides, .ref slog])), (ssides, aI g 16 Fssides)] := hD
          refine lv_goto (tgt := 58) hx hb dX4_findSecond_136 (by decide) ?_
          exact ih (n - 1) (by omega) H locs ls ⟨x_94, f_90, (by first | with_reducible assumption | omega), by omega, hP.sub [3, 4, 5, 6, 7, 0, 1, 2] rfl, hD.sub [3, 4, 5, 6, 7, 0, 1, 2] (by decide +kernel) rfl, hS, lv_sub hl [1, 2, 3, 4, 5, 6] rfl⟩
        · have f_95 := E_ne (rfl : r_89.toInt = _) (by decide : (0 : Int32).toInt = 0) c_92
          refine lv_iconst (v := 1) hx hb dX4_findSecond_124 (by decide) ?_
          have hP9 : va_P g.1 vwCl [(h, .inr (4, [.int bfirst, .int L_76, .ref bbehind, .ref bmornings])), (bbehind, aI g 128 Fbbehind), (bmornings, aI g 8 f_90), (st, .inr (9, [.int sday, .int sseed, .int salive, .int sstruck, .int sopen, .int sduels, .int slines, .ref scoins, .ref srented, .ref smornings, .ref shonours, .ref sused, .ref ssides, .ref slog])), (ssides, aI g 16 Fssides), (la, .inr (2, [.ref dmen, .ref dformulas, .ref dreasons, .int dduels, .ref dduelSides, .ref dduelMornings, .int dhonour, .int ddraw, .ref dusesOfKind])), (dreasons, .inr (6, [.int dreasons_count, .ref dreasons_names, .ref dreasons_kinds, .ref dreasons_owners, .ref dreasons_froms, .ref dreasons_tos, .ref dreasons_rents, .ref dreasons_sorts])), (dreasons_sorts, aI g 8 Fdreasons_sorts)] H := hP.sub [3, 4, 5, 6, 7, 0, 1, 2] rfl
          have hD9 : va_D A [(h, .inr (4, [.int bfirst, .int L_76, .ref bbehind, .ref bmornings])), (bbehind, aI g 128 Fbbehind), (bmornings, aI g 8 f_90), (st, .inr (9, [.int sday, .int sseed, .int salive, .int sstruck, .int sopen, .int sduels, .int slines, .ref scoins, .ref srented, .ref smornings, .ref shonours, .ref sused, .ref ssides, .ref slog])), (ssides, aI g 16 Fssides), (la, .inr (2, [.ref dmen, .ref dformulas, .ref dreasons, .int dduels, .ref dduelSides, .ref dduelMornings, .int dhonour, .int ddraw, .ref dusesOfKind])), (dreasons, .inr (6, [.int dreasons_count, .ref dreasons_names, .ref dreasons_kinds, .ref dreasons_owners, .ref dreasons_froms, .ref dreasons_tos, .ref dreasons_rents, .ref dreasons_sorts])), (dreasons_sorts, aI g 8 Fdreasons_sorts)] := hD.sub [3, 4, 5, 6, 7, 0, 1, 2] (by decide +kernel) rfl
          exact W.zret (v := 1) (ty := .boolean) hx hb hr rfl (fun t ht hW => ⟨⟨1, (L_76, f_90), rfl, ⟨⟨by decide, by decide⟩, (by first | with_reducible assumption | omega)⟩, by rw [ht]; exact hP9, by rw [hAe]; exact hD9⟩, hS.F ht⟩) hS.2.2 dX4_findSecond_125

theorem bw_242 : Cond.methodLink RX4 96 yX4_findSecond ∈ gT := gT_tb 1223 (by decide +kernel) (by decide +kernel)
theorem bw_243 : Cond.instanceMethod yX4_findSecond ∈ gT := gT_tb 1225 (by decide +kernel) (by decide +kernel)
theorem bw_244 : Cond.selects RX4 yX4_findSecond yX4_findSecond ∈ gT := gT_sl 49 (by decide +kernel) (by decide +kernel)
theorem bw_245 : Cond.code yX4_findTwo cX4_findTwo 6 (some .boolean) ∈ gT := gT_tb 1222 (by decide +kernel) (by decide +kernel)
theorem dX4_findTwo_0 : decode cX4_findTwo 0 = .ok (.aload_n 0, 1) := by decide +kernel
theorem dX4_findTwo_1 : decode cX4_findTwo 1 = .ok (.iconst 0, 1) := by decide +kernel
theorem dX4_findTwo_2 : decode cX4_findTwo 2 = .ok (.putfield 89, 3) := by decide +kernel
theorem dX4_findTwo_5 : decode cX4_findTwo 5 = .ok (.aload_n 0, 1) := by decide +kernel
theorem dX4_findTwo_6 : decode cX4_findTwo 6 = .ok (.getfield 89, 3) := by decide +kernel
theorem dX4_findTwo_9 : decode cX4_findTwo 9 = .ok (.aload_n 0, 1) := by decide +kernel
theorem dX4_findTwo_10 : decode cX4_findTwo 10 = .ok (.getfield 9, 3) := by decide +kernel
theorem dX4_findTwo_13 : decode cX4_findTwo 13 = .ok (.arraylength, 1) := by decide +kernel
theorem dX4_findTwo_14 : decode cX4_findTwo 14 = .ok (.if_icmp .ge 83, 3) := by decide +kernel
theorem dX4_findTwo_17 : decode cX4_findTwo 17 = .ok (.aload_n 0, 1) := by decide +kernel
theorem dX4_findTwo_18 : decode cX4_findTwo 18 = .ok (.getfield 9, 3) := by decide +kernel
theorem dX4_findTwo_21 : decode cX4_findTwo 21 = .ok (.aload_n 0, 1) := by decide +kernel
theorem dX4_findTwo_22 : decode cX4_findTwo 22 = .ok (.getfield 89, 3) := by decide +kernel
theorem dX4_findTwo_25 : decode cX4_findTwo 25 = .ok (.iaload, 1) := by decide +kernel
theorem dX4_findTwo_26 : decode cX4_findTwo 26 = .ok (.ifCond .le 58, 3) := by decide +kernel
theorem dX4_findTwo_29 : decode cX4_findTwo 29 = .ok (.aload_n 0, 1) := by decide +kernel
theorem dX4_findTwo_30 : decode cX4_findTwo 30 = .ok (.getfield 89, 3) := by decide +kernel
theorem dX4_findTwo_33 : decode cX4_findTwo 33 = .ok (.invokestatic 18, 3) := by decide +kernel
theorem dX4_findTwo_36 : decode cX4_findTwo 36 = .ok (.istore 4, 2) := by decide +kernel
theorem dX4_findTwo_38 : decode cX4_findTwo 38 = .ok (.aload_n 0, 1) := by decide +kernel
theorem dX4_findTwo_39 : decode cX4_findTwo 39 = .ok (.getfield 15, 3) := by decide +kernel
theorem dX4_findTwo_42 : decode cX4_findTwo 42 = .ok (.iload 4, 2) := by decide +kernel
theorem dX4_findTwo_44 : decode cX4_findTwo 44 = .ok (.iaload, 1) := by decide +kernel
theorem dX4_findTwo_45 : decode cX4_findTwo 45 = .ok (.istore 5, 2) := by decide +kernel
theorem dX4_findTwo_47 : decode cX4_findTwo 47 = .ok (.aload_n 0, 1) := by decide +kernel
theorem dX4_findTwo_48 : decode cX4_findTwo 48 = .ok (.getfield 15, 3) := by decide +kernel
theorem dX4_findTwo_51 : decode cX4_findTwo 51 = .ok (.iload 4, 2) := by decide +kernel
theorem dX4_findTwo_53 : decode cX4_findTwo 53 = .ok (.aload_n 0, 1) := by decide +kernel
theorem dX4_findTwo_54 : decode cX4_findTwo 54 = .ok (.getfield 9, 3) := by decide +kernel
theorem dX4_findTwo_57 : decode cX4_findTwo 57 = .ok (.aload_n 0, 1) := by decide +kernel
theorem dX4_findTwo_58 : decode cX4_findTwo 58 = .ok (.getfield 89, 3) := by decide +kernel
theorem dX4_findTwo_61 : decode cX4_findTwo 61 = .ok (.iaload, 1) := by decide +kernel
theorem dX4_findTwo_62 : decode cX4_findTwo 62 = .ok (.iastore, 1) := by decide +kernel
theorem dX4_findTwo_63 : decode cX4_findTwo 63 = .ok (.aload_n 0, 1) := by decide +kernel
theorem dX4_findTwo_64 : decode cX4_findTwo 64 = .ok (.aload_n 1, 1) := by decide +kernel
theorem dX4_findTwo_65 : decode cX4_findTwo 65 = .ok (.aload_n 2, 1) := by decide +kernel
theorem dX4_findTwo_66 : decode cX4_findTwo 66 = .ok (.iload_n 3, 1) := by decide +kernel
theorem dX4_findTwo_67 : decode cX4_findTwo 67 = .ok (.invokevirtual 96, 3) := by decide +kernel
theorem dX4_findTwo_70 : decode cX4_findTwo 70 = .ok (.ifCond .eq 5, 3) := by decide +kernel
theorem dX4_findTwo_73 : decode cX4_findTwo 73 = .ok (.iconst 1, 1) := by decide +kernel
theorem dX4_findTwo_74 : decode cX4_findTwo 74 = .ok (.ireturn, 1) := by decide +kernel
theorem dX4_findTwo_75 : decode cX4_findTwo 75 = .ok (.aload_n 0, 1) := by decide +kernel
theorem dX4_findTwo_76 : decode cX4_findTwo 76 = .ok (.getfield 15, 3) := by decide +kernel
theorem dX4_findTwo_79 : decode cX4_findTwo 79 = .ok (.iload 4, 2) := by decide +kernel
theorem dX4_findTwo_81 : decode cX4_findTwo 81 = .ok (.iload 5, 2) := by decide +kernel
theorem dX4_findTwo_83 : decode cX4_findTwo 83 = .ok (.iastore, 1) := by decide +kernel
theorem dX4_findTwo_84 : decode cX4_findTwo 84 = .ok (.aload_n 0, 1) := by decide +kernel
theorem dX4_findTwo_85 : decode cX4_findTwo 85 = .ok (.dup, 1) := by decide +kernel
theorem dX4_findTwo_86 : decode cX4_findTwo 86 = .ok (.getfield 89, 3) := by decide +kernel
theorem dX4_findTwo_89 : decode cX4_findTwo 89 = .ok (.iconst 1, 1) := by decide +kernel
theorem dX4_findTwo_90 : decode cX4_findTwo 90 = .ok (.iadd, 1) := by decide +kernel
theorem dX4_findTwo_91 : decode cX4_findTwo 91 = .ok (.putfield 89, 3) := by decide +kernel
theorem dX4_findTwo_94 : decode cX4_findTwo 94 = .ok (.goto (-89), 3) := by decide +kernel
theorem dX4_findTwo_97 : decode cX4_findTwo 97 = .ok (.iconst 0, 1) := by decide +kernel
theorem dX4_findTwo_98 : decode cX4_findTwo 98 = .ok (.ireturn, 1) := by decide +kernel
set_option maxHeartbeats 4000000 in
set_option maxRecDepth 100000 in
theorem s_X4_findTwo (l : Launch) (g : GG) (sz : Nat) (h : Nat) (bfirst : Int32) (bsecond : Int32) (bbehind : Nat) (Fbbehind : Nat → Int32) (bmornings : Nat) (Fbmornings : Nat → Int32) (st : Nat) (sday : Int32) (sseed : Int32) (salive : Int32) (sstruck : Int32) (sopen : Int32) (sduels : Int32) (slines : Int32) (scoins : Nat) (srented : Nat) (smornings : Nat) (shonours : Nat) (sused : Nat) (ssides : Nat) (Fssides : Nat → Int32) (slog : Nat) (la : Nat) (dduels : Int32) (dduelSides : Nat) (dduelMornings : Nat) (dhonour : Int32) (ddraw : Int32) (dusesOfKind : Nat) (dmen : Nat) (dformulas : Nat) (dreasons : Nat) (dreasons_count : Int32) (dreasons_names : Nat) (dreasons_kinds : Nat) (dreasons_owners : Nat) (dreasons_froms : Nat) (dreasons_tos : Nat) (dreasons_rents : Nat) (dreasons_sorts : Nat) (Fdreasons_sorts : Nat → Int32) (p0 : Int32) (hh0 : 0 ≤ bfirst.toInt ∧ bfirst.toInt ≤ 128) (hh1 : 0 ≤ bsecond.toInt ∧ bsecond.toInt ≤ 128) (hh2 : 0 ≤ sseed.toInt ∧ sseed.toInt ≤ 999) (hh3 : 0 ≤ sduels.toInt ∧ sduels.toInt ≤ 8) (hh4 : 0 ≤ slines.toInt ∧ slines.toInt ≤ 60) (hh5 : Rg 16 0 5 Fssides) (hh6 : 0 ≤ dduels.toInt ∧ dduels.toInt ≤ 6) (hh8 : 0 ≤ ddraw.toInt ∧ ddraw.toInt ≤ 999) (hh15 : 0 ≤ dreasons_count.toInt ∧ dreasons_count.toInt ≤ 8) : Met l yX4_findTwo (.code yX4_findTwo cX4_findTwo 6 (some .boolean) :: gT) ({ frames := 5, cells := 0, slots := 0, locals := 123 }) (va_Pc [.ref h, .ref la, .ref st, .int p0] (Pst g sz [(h, .inr (4, [.int bfirst, .int bsecond, .ref bbehind, .ref bmornings])), (bbehind, aI g 128 Fbbehind), (bmornings, aI g 8 Fbmornings), (st, .inr (9, [.int sday, .int sseed, .int salive, .int sstruck, .int sopen, .int sduels, .int slines, .ref scoins, .ref srented, .ref smornings, .ref shonours, .ref sused, .ref ssides, .ref slog])), (ssides, aI g 16 Fssides), (la, .inr (2, [.ref dmen, .ref dformulas, .ref dreasons, .int dduels, .ref dduelSides, .ref dduelMornings, .int dhonour, .int ddraw, .ref dusesOfKind])), (dreasons, .inr (6, [.int dreasons_count, .ref dreasons_names, .ref dreasons_kinds, .ref dreasons_owners, .ref dreasons_froms, .ref dreasons_tos, .ref dreasons_rents, .ref dreasons_sorts])), (dreasons_sorts, aI g 8 Fdreasons_sorts)] nX)) (va_Qi (fun (r : Int32) => fun ((o0_first, o1_second, o2_F) : Int32 × Int32 × (Nat → Int32)) => (0 ≤ r.toInt ∧ r.toInt ≤ 1) ∧ (0 ≤ o0_first.toInt ∧ o0_first.toInt ≤ 128) ∧ (0 ≤ o1_second.toInt ∧ o1_second.toInt ≤ 128)) (Qst g [(h, .inr (4, [.int bfirst, .int bsecond, .ref bbehind, .ref bmornings])), (bbehind, aI g 128 Fbbehind), (bmornings, aI g 8 Fbmornings), (st, .inr (9, [.int sday, .int sseed, .int salive, .int sstruck, .int sopen, .int sduels, .int slines, .ref scoins, .ref srented, .ref smornings, .ref shonours, .ref sused, .ref ssides, .ref slog])), (ssides, aI g 16 Fssides), (la, .inr (2, [.ref dmen, .ref dformulas, .ref dreasons, .int dduels, .ref dduelSides, .ref dduelMornings, .int dhonour, .int ddraw, .ref dusesOfKind])), (dreasons, .inr (6, [.int dreasons_count, .ref dreasons_names, .ref dreasons_kinds, .ref dreasons_owners, .ref dreasons_froms, .ref dreasons_tos, .ref dreasons_rents, .ref dreasons_sorts])), (dreasons_sorts, aI g 8 Fdreasons_sorts)] sz (fun ((o0_first, o1_second, o2_F) : Int32 × Int32 × (Nat → Int32)) => [(h, .inr (4, [.int o0_first, .int o1_second, .ref bbehind, .ref bmornings])), (bbehind, aI g 128 Fbbehind), (bmornings, aI g 8 o2_F), (st, .inr (9, [.int sday, .int sseed, .int salive, .int sstruck, .int sopen, .int sduels, .int slines, .ref scoins, .ref srented, .ref smornings, .ref shonours, .ref sused, .ref ssides, .ref slog])), (ssides, aI g 16 Fssides), (la, .inr (2, [.ref dmen, .ref dformulas, .ref dreasons, .int dduels, .ref dduelSides, .ref dduelMornings, .int dhonour, .int ddraw, .ref dusesOfKind])), (dreasons, .inr (6, [.int dreasons_count, .ref dreasons_names, .ref dreasons_kinds, .ref dreasons_owners, .ref dreasons_froms, .ref dreasons_tos, .ref dreasons_rents, .ref dreasons_sorts])), (dreasons_sorts, aI g 8 Fdreasons_sorts)])) (va_A [(h, .inr (4, [.int bfirst, .int bsecond, .ref bbehind, .ref bmornings])), (bbehind, aI g 128 Fbbehind), (bmornings, aI g 8 Fbmornings), (st, .inr (9, [.int sday, .int sseed, .int salive, .int sstruck, .int sopen, .int sduels, .int slines, .ref scoins, .ref srented, .ref smornings, .ref shonours, .ref sused, .ref ssides, .ref slog])), (ssides, aI g 16 Fssides), (la, .inr (2, [.ref dmen, .ref dformulas, .ref dreasons, .int dduels, .ref dduelSides, .ref dduelMornings, .int dhonour, .int ddraw, .ref dusesOfKind])), (dreasons, .inr (6, [.int dreasons_count, .ref dreasons_names, .ref dreasons_kinds, .ref dreasons_owners, .ref dreasons_froms, .ref dreasons_tos, .ref dreasons_rents, .ref dreasons_sorts])), (dreasons_sorts, aI g 8 Fdreasons_sorts)] sz)) 0 0 (va_A [(h, .inr (4, [.int bfirst, .int bsecond, .ref bbehind, .ref bmornings])), (bbehind, aI g 128 Fbbehind), (bmornings, aI g 8 Fbmornings), (st, .inr (9, [.int sday, .int sseed, .int salive, .int sstruck, .int sopen, .int sduels, .int slines, .ref scoins, .ref srented, .ref smornings, .ref shonours, .ref sused, .ref ssides, .ref slog])), (ssides, aI g 16 Fssides), (la, .inr (2, [.ref dmen, .ref dformulas, .ref dreasons, .int dduels, .ref dduelSides, .ref dduelMornings, .int dhonour, .int ddraw, .ref dusesOfKind])), (dreasons, .inr (6, [.int dreasons_count, .ref dreasons_names, .ref dreasons_kinds, .ref dreasons_owners, .ref dreasons_froms, .ref dreasons_tos, .ref dreasons_rents, .ref dreasons_sorts])), (dreasons_sorts, aI g 8 Fdreasons_sorts)] sz) := by
  refine Met.ofW (cc := cX4_findTwo) (maxL := 6) (ret := (some .boolean)) (by decide) rfl ?_
  intro p e s m args below meth c s₁ B hml hv
  obtain ⟨rfl, hsz, hP, hK, hD0, hX⟩ := hv
  have hx := B.exec
  have hb := B.bytes
  have hr := B.returns
  have hT : ∀ w ∈ gT, w.before _ s = true := fun w h => atoms_spec (ws := .code yX4_findTwo cX4_findTwo 6 (some .boolean) :: gT) B.pre w (List.mem_cons_of_mem _ h)
  have hown : s.vm.findClass RX4 = some m.cls := findClass_of_methodNamed B.named
  have hlocks := B.notSynchronized
  subst hsz
  have hD := hD0.self (sz := s.heap.size)
  generalize hAe : va_A [(h, .inr (4, [.int bfirst, .int bsecond, .ref bbehind, .ref bmornings])), (bbehind, aI g 128 Fbbehind), (bmornings, aI g 8 Fbmornings), (st, .inr (9, [.int sday, .int sseed, .int salive, .int sstruck, .int sopen, .int sduels, .int slines, .ref scoins, .ref srented, .ref smornings, .ref shonours, .ref sused, .ref ssides, .ref slog])), (ssides, aI g 16 Fssides), (la, .inr (2, [.ref dmen, .ref dformulas, .ref dreasons, .int dduels, .ref dduelSides, .ref dduelMornings, .int dhonour, .int ddraw, .ref dusesOfKind])), (dreasons, .inr (6, [.int dreasons_count, .ref dreasons_names, .ref dreasons_kinds, .ref dreasons_owners, .ref dreasons_froms, .ref dreasons_tos, .ref dreasons_rents, .ref dreasons_sorts])), (dreasons_sorts, aI g 8 Fdreasons_sorts)] s.heap.size = A at hD ⊢
  have hA : ∀ q : Nat, s.heap.size ≤ q → A q := fun q h => by rw [← hAe]; exact Or.inr h
  have hS : va_S A s.heap s.heap [] := va_S.rf
  have hl := lv_entry ([.ref h, .ref la, .ref st, .int p0]) (n := 6) (Nat.le_of_ble_eq_true rfl)
  rw [lg_entry_eq]
  generalize (lg_sl ([.ref h, .ref la, .ref st, .int p0]) ++ List.replicate (6 - (lg_sl ([.ref h, .ref la, .ref st, .int p0])).length) Slot.unset).toArray = ls at hl ⊢
  have hl : lv_has ls 6 [(0, .ref h), (1, .ref la), (2, .ref st), (3, .int p0)] := hl
  refine p_nH (fun H hH => ?_)
  have hP : va_P g.1 vwCl [(h, .inr (4, [.int bfirst, .int bsecond, .ref bbehind, .ref bmornings])), (bbehind, aI g 128 Fbbehind), (bmornings, aI g 8 Fbmornings), (st, .inr (9, [.int sday, .int sseed, .int salive, .int sstruck, .int sopen, .int sduels, .int slines, .ref scoins, .ref srented, .ref smornings, .ref shonours, .ref sused, .ref ssides, .ref slog])), (ssides, aI g 16 Fssides), (la, .inr (2, [.ref dmen, .ref dformulas, .ref dreasons, .int dduels, .ref dduelSides, .ref dduelMornings, .int dhonour, .int ddraw, .ref dusesOfKind])), (dreasons, .inr (6, [.int dreasons_count, .ref dreasons_names, .ref dreasons_kinds, .ref dreasons_owners, .ref dreasons_froms, .ref dreasons_tos, .ref dreasons_rents, .ref dreasons_sorts])), (dreasons_sorts, aI g 8 Fdreasons_sorts)] H := by rw [hH]; exact hP
  have hS : va_S A s.heap H [] := by rw [hH]; exact hS
  refine lv_aload_n hx hb dX4_findTwo_0 rfl (lv_at hl 0 rfl) ?_
  refine lv_iconst (v := 0) hx hb dX4_findTwo_1 (by decide) ?_
  refine va_put (D := g.1) (ci := 4) (v := .int 0) (ty := .int) (C := RX4) (T := TX4) (N := 4) hx hb hT inF_X4 tyX4 tyX4_ok nmX4 hown hK.1 hP hD hS 0 rfl rfl 0 (by decide) (hT _ bw_226) (fun _ h9 => h9) rfl (by decide +kernel) rfl rfl (Nat.le_of_ble_eq_true rfl) dX4_findTwo_2 (fun H locs hP hD hS => ?_)
  have hP : va_P g.1 vwCl [(h, .inr (4, [.int 0, .int bsecond, .ref bbehind, .ref bmornings])), (bbehind, aI g 128 Fbbehind), (bmornings, aI g 8 Fbmornings), (st, .inr (9, [.int sday, .int sseed, .int salive, .int sstruck, .int sopen, .int sduels, .int slines, .ref scoins, .ref srented, .ref smornings, .ref shonours, .ref sused, .ref ssides, .ref slog])), (ssides, aI g 16 Fssides), (la, .inr (2, [.ref dmen, .ref dformulas, .ref dreasons, .int dduels, .ref dduelSides, .ref dduelMornings, .int dhonour, .int ddraw, .ref dusesOfKind])), (dreasons, .inr (6, [.int dreasons_count, .ref dreasons_names, .ref dreasons_kinds, .ref dreasons_owners, .ref dreasons_froms, .ref dreasons_tos, .ref dreasons_rents, .ref dreasons_sorts])), (dreasons_sorts, aI g 8 Fdreasons_sorts)] H := hP
  have hD : va_D A [(h, .inr (4, [.int 0, .int bsecond, .ref bbehind, .ref bmornings])), (bbehind, aI g 128 Fbbehind), (bmornings, aI g 8 Fbmornings), (st, .inr (9, [.int sday, .int sseed, .int salive, .int sstruck, .int sopen, .int sduels, .int slines, .ref scoins, .ref srented, .ref smornings, .ref shonours, .ref sused, .ref ssides, .ref slog])), (ssides, aI g 16 Fssides), (la, .inr (2, [.ref dmen, .ref dformulas, .ref dreasons, .int dduels, .ref dduelSides, .ref dduelMornings, .int dhonour, .int ddraw, .ref dusesOfKind])), (dreasons, .inr (6, [.int dreasons_count, .ref dreasons_names, .ref dreasons_kinds, .ref dreasons_owners, .ref dreasons_froms, .ref dreasons_tos, .ref dreasons_rents, .ref dreasons_sorts])), (dreasons_sorts, aI g 8 Fdreasons_sorts)] := hD
  refine k_floop 5 (fun n H locs ls => ∃ (L_1 : Int32) (L_2 : Int32) (f_3 : Nat → Int32), (0 ≤ L_1.toInt ∧ L_1.toInt ≤ 128) ∧ (0 ≤ L_2.toInt ∧ L_2.toInt ≤ 128) ∧ 128 - L_1.toInt ≤ (n : Int) ∧ va_P g.1 vwCl [(h, .inr (4, [.int L_1, .int L_2, .ref bbehind, .ref bmornings])), (bbehind, aI g 128 Fbbehind), (bmornings, aI g 8 f_3), (st, .inr (9, [.int sday, .int sseed, .int salive, .int sstruck, .int sopen, .int sduels, .int slines, .ref scoins, .ref srented, .ref smornings, .ref shonours, .ref sused, .ref ssides, .ref slog])), (ssides, aI g 16 Fssides), (la, .inr (2, [.ref dmen, .ref dformulas, .ref dreasons, .int dduels, .ref dduelSides, .ref dduelMornings, .int dhonour, .int ddraw, .ref dusesOfKind])), (dreasons, .inr (6, [.int dreasons_count, .ref dreasons_names, .ref dreasons_kinds, .ref dreasons_owners, .ref dreasons_froms, .ref dreasons_tos, .ref dreasons_rents, .ref dreasons_sorts])), (dreasons_sorts, aI g 8 Fdreasons_sorts)] H ∧ va_D A [(h, .inr (4, [.int L_1, .int L_2, .ref bbehind, .ref bmornings])), (bbehind, aI g 128 Fbbehind), (bmornings, aI g 8 f_3), (st, .inr (9, [.int sday, .int sseed, .int salive, .int sstruck, .int sopen, .int sduels, .int slines, .ref scoins, .ref srented, .ref smornings, .ref shonours, .ref sused, .ref ssides, .ref slog])), (ssides, aI g 16 Fssides), (la, .inr (2, [.ref dmen, .ref dformulas, .ref dreasons, .int dduels, .ref dduelSides, .ref dduelMornings, .int dhonour, .int ddraw, .ref dusesOfKind])), (dreasons, .inr (6, [.int dreasons_count, .ref dreasons_names, .ref dreasons_kinds, .ref dreasons_owners, .ref dreasons_froms, .ref dreasons_tos, .ref dreasons_rents, .ref dreasons_sorts])), (dreasons_sorts, aI g 8 Fdreasons_sorts)] ∧ va_S A s.heap H locs ∧ lv_has ls 6 [(0, .ref h), (1, .ref la), (2, .ref st), (3, .int p0)]) (fun n H locs ls hI ih => ?_) ((128 - 0 : Int)).toNat ⟨0, bsecond, Fbmornings, by decide, (by first | with_reducible assumption | omega), by have k0 : (0 : Int32).toInt = 0 := (by decide); omega, hP, hD, hS, hl⟩
  refine hI.elim (fun L_1 hI => hI.elim (fun L_2 hI => hI.elim (fun f_3 hI => ?_)))
  have g_4 := hI.1
  have g_5 := hI.2.1
  have hm_6 := hI.2.2.1
  have hP := hI.2.2.2.1
  have hD := hI.2.2.2.2.1
  have hS := hI.2.2.2.2.2.1
  have hl := hI.2.2.2.2.2.2
  clear hI
  refine lv_aload_n hx hb dX4_findTwo_5 rfl (lv_at hl 0 rfl) ?_
  refine va_get (D := g.1) (ci := 4) (v := .int L_1) (C := RX4) (T := TX4) (N := 4) hx hb hT inF_X4 hown hK.1 hP 0 rfl rfl 0 (by decide) (hT _ bw_226) (fun _ h9 => h9) rfl dX4_findTwo_6 ?_
  refine lv_aload_n hx hb dX4_findTwo_9 rfl (lv_at hl 0 rfl) ?_
  refine va_get (D := g.1) (ci := 4) (v := .ref bbehind) (C := RX4) (T := TX4) (N := 4) hx hb hT inF_X4 hown hK.1 hP 0 rfl rfl 2 (by decide) (hT _ bw_221) (fun _ h9 => h9) rfl dX4_findTwo_10 ?_
  refine va_alen (v := 128) hx hb hK.1 hP 1 1 rfl rfl rfl dX4_findTwo_13 ?_
  refine lv_icmp_ge (tgt := 97) hx hb dX4_findTwo_14 (by decide) (fun c_7 => ?_) (fun c_7 => ?_)
  · have f_8 := E_le (by decide : (128 : Int32).toInt = 128) (rfl : L_1.toInt = _) c_7
    refine lv_iconst (v := 0) hx hb dX4_findTwo_97 (by decide) ?_
    have hP9 : va_P g.1 vwCl [(h, .inr (4, [.int L_1, .int L_2, .ref bbehind, .ref bmornings])), (bbehind, aI g 128 Fbbehind), (bmornings, aI g 8 f_3), (st, .inr (9, [.int sday, .int sseed, .int salive, .int sstruck, .int sopen, .int sduels, .int slines, .ref scoins, .ref srented, .ref smornings, .ref shonours, .ref sused, .ref ssides, .ref slog])), (ssides, aI g 16 Fssides), (la, .inr (2, [.ref dmen, .ref dformulas, .ref dreasons, .int dduels, .ref dduelSides, .ref dduelMornings, .int dhonour, .int ddraw, .ref dusesOfKind])), (dreasons, .inr (6, [.int dreasons_count, .ref dreasons_names, .ref dreasons_kinds, .ref dreasons_owners, .ref dreasons_froms, .ref dreasons_tos, .ref dreasons_rents, .ref dreasons_sorts])), (dreasons_sorts, aI g 8 Fdreasons_sorts)] H := hP.sub [0, 1, 2, 3, 4, 5, 6, 7] rfl
    have hD9 : va_D A [(h, .inr (4, [.int L_1, .int L_2, .ref bbehind, .ref bmornings])), (bbehind, aI g 128 Fbbehind), (bmornings, aI g 8 f_3), (st, .inr (9, [.int sday, .int sseed, .int salive, .int sstruck, .int sopen, .int sduels, .int slines, .ref scoins, .ref srented, .ref smornings, .ref shonours, .ref sused, .ref ssides, .ref slog])), (ssides, aI g 16 Fssides), (la, .inr (2, [.ref dmen, .ref dformulas, .ref dreasons, .int dduels, .ref dduelSides, .ref dduelMornings, .int dhonour, .int ddraw, .ref dusesOfKind])), (dreasons, .inr (6, [.int dreasons_count, .ref dreasons_names, .ref dreasons_kinds, .ref dreasons_owners, .ref dreasons_froms, .ref dreasons_tos, .ref dreasons_rents, .ref dreasons_sorts])), (dreasons_sorts, aI g 8 Fdreasons_sorts)] := hD.sub [0, 1, 2, 3, 4, 5, 6, 7] (by decide +kernel) rfl
    exact W.zret (v := 0) (ty := .boolean) hx hb hr rfl (fun t ht hW => ⟨⟨0, (L_1, L_2, f_3), rfl, ⟨⟨by decide, by decide⟩, (by first | with_reducible assumption | omega), (by first | with_reducible assumption | omega)⟩, by rw [ht]; exact hP9, by rw [hAe]; exact hD9⟩, hS.F ht⟩) hS.2.2 dX4_findTwo_98
  · have f_9 := E_nle (by decide : (128 : Int32).toInt = 128) (rfl : L_1.toInt = _) c_7
    refine lv_aload_n hx hb dX4_findTwo_17 rfl (lv_at hl 0 rfl) ?_
    refine va_get (D := g.1) (ci := 4) (v := .ref bbehind) (C := RX4) (T := TX4) (N := 4) hx hb hT inF_X4 hown hK.1 hP 0 rfl rfl 2 (by decide) (hT _ bw_221) (fun _ h9 => h9) rfl dX4_findTwo_18 ?_
    refine lv_aload_n hx hb dX4_findTwo_21 rfl (lv_at hl 0 rfl) ?_
    refine va_get (D := g.1) (ci := 4) (v := .int L_1) (C := RX4) (T := TX4) (N := 4) hx hb hT inF_X4 hown hK.1 hP 0 rfl rfl 0 (by decide) (hT _ bw_226) (fun _ h9 => h9) rfl dX4_findTwo_22 ?_
    have h_10 : vp_in L_1 128 := vp_in_iff.mpr (by omega)
    refine va_iald hx hb hK.1 hP 1 1 rfl rfl (i := L_1) h_10 dX4_findTwo_25 ?_
    refine lv_topi (fun x_11 ex_11 => ?_)
    have ux_11 := congrArg Int32.toInt ex_11
    refine lv_if_le (tgt := 84) hx hb dX4_findTwo_26 (by decide) (fun c_12 => ?_) (fun c_12 => ?_)
    · have f_13 := E_le (rfl : x_11.toInt = _) (by decide : (0 : Int32).toInt = 0) c_12
      refine lv_aload_n hx hb dX4_findTwo_84 rfl (lv_at hl 0 rfl) ?_
      refine lv_dup hx hb dX4_findTwo_85 rfl ?_
      refine va_get (D := g.1) (ci := 4) (v := .int L_1) (C := RX4) (T := TX4) (N := 4) hx hb hT inF_X4 hown hK.1 hP 0 rfl rfl 0 (by decide) (hT _ bw_226) (fun _ h9 => h9) rfl dX4_findTwo_86 ?_
      refine lv_iconst (v := 1) hx hb dX4_findTwo_89 (by decide) ?_
      refine lv_iadd hx hb dX4_findTwo_90 ?_
      refine lv_topi (fun x_14 ex_14 => ?_)
      have fx_14 : x_14.toInt = L_1.toInt + 1 := by rw [ex_14]; exact I_add rfl (by decide : (1 : Int32).toInt = 1) (by omega) (by omega)
      refine va_put (D := g.1) (ci := 4) (v := .int x_14) (ty := .int) (C := RX4) (T := TX4) (N := 4) hx hb hT inF_X4 tyX4 tyX4_ok nmX4 hown hK.1 hP hD hS 0 rfl rfl 0 (by decide) (hT _ bw_226) (fun _ h9 => h9) rfl (by decide +kernel) rfl rfl (Nat.le_of_ble_eq_true rfl) dX4_findTwo_91 (fun H locs hP hD hS => ?_)
      have hP : va_P g.1 vwCl [(h, .inr (4, [.int x_14, .int L_2, .ref bbehind, .ref bmornings])), (bbehind, aI g 128 Fbbehind), (bmornings, aI g 8 f_3), (st, .inr (9, [.int sday, .int sseed, .int salive, .int sstruck, .int sopen, .int sduels, .int slines, .ref scoins, .ref srented, .ref smornings, .ref shonours, .ref sused, .ref ssides, .ref slog])), (ssides, aI g 16 Fssides), (la, .inr (2, [.ref dmen, .ref dformulas, .ref dreasons, .int dduels, .ref dduelSides, .ref dduelMornings, .int dhonour, .int ddraw, .ref dusesOfKind])), (dreasons, .inr (6, [.int dreasons_count, .ref dreasons_names, .ref dreasons_kinds, .ref dreasons_owners, .ref dreasons_froms, .ref dreasons_tos, .ref dreasons_rents, .ref dreasons_sorts])), (dreasons_sorts, aI g 8 Fdreasons_sorts)] H := hP
      have hD : va_D A [(h, .inr (4, [.int x_14, .int L_2, .ref bbehind, .ref bmornings])), (bbehind, aI g 128 Fbbehind), (bmornings, aI g 8 f_3), (st, .inr (9, [.int sday, .int sseed, .int salive, .int sstruck, .int sopen, .int sduels, .int slines, .ref scoins, .ref srented, .ref smornings, .ref shonours, .ref sused, .ref ssides, .ref slog])), (ssides, aI g 16 Fssides), (la, .inr (2, [.ref dmen, .ref dformulas, .ref dreasons, .int dduels, .ref dduelSides, .ref dduelMornings, .int dhonour, .int ddraw, .ref dusesOfKind])), (dreasons, .inr (6, [.int dreasons_count, .ref dreasons_names, .ref dreasons_kinds, .ref dreasons_owners, .ref dreasons_froms, .ref dreasons_tos, .ref dreasons_rents, .ref dreasons_sorts])), (dreasons_sorts, aI g 8 Fdreasons_sorts)] := hD
      refine lv_goto (tgt := 5) hx hb dX4_findTwo_94 (by decide) ?_
      exact ih (n - 1) (by omega) H locs ls ⟨x_14, L_2, f_3, (by first | with_reducible assumption | omega), (by first | with_reducible assumption | omega), by omega, hP.sub [0, 1, 2, 3, 4, 5, 6, 7] rfl, hD.sub [0, 1, 2, 3, 4, 5, 6, 7] (by decide +kernel) rfl, hS, lv_sub hl [0, 1, 2, 3] rfl⟩
    · have f_15 := E_nle (rfl : x_11.toInt = _) (by decide : (0 : Int32).toInt = 0) c_12
      refine lv_aload_n hx hb dX4_findTwo_29 rfl (lv_at hl 0 rfl) ?_
      refine va_get (D := g.1) (ci := 4) (v := .int L_1) (C := RX4) (T := TX4) (N := 4) hx hb hT inF_X4 hown hK.1 hP 0 rfl rfl 0 (by decide) (hT _ bw_226) (fun _ h9 => h9) rfl dX4_findTwo_30 ?_
      refine k_iR (k_S (n := 1) ⟨hx, hb, hml, hown, hT⟩ hK hP hD [] rfl (by decide +kernel) (s_X4_duelOf l g H.size L_1 (by first | with_reducible assumption | omega)) (gS bw_217 bw_218 bw_219 bw_214) rfl rfl (by decide +kernel) ⟨by decide, by decide⟩ (fun _ _ _ _ _ => trivial) (fun _ _ _ => trivial) rfl rfl hl.1 (Nat.le_of_ble_eq_true rfl) dX4_findTwo_33 ⟨by decide, by decide⟩) hP hS hA (fun r_16 _ H locs hw0 hP hS => ?_)
      have hw : 0 ≤ r_16.toInt ∧ r_16.toInt ≤ 7 := hw0
      clear hw0
      have w_17 := hw
      refine lv_istore (lv' := [(4, .int r_16), (0, .ref h), (1, .ref la), (2, .ref st), (3, .int p0)]) hx hb dX4_findTwo_36 hl (by decide) rfl (fun ls hl => ?_)
      refine lv_aload_n hx hb dX4_findTwo_38 rfl (lv_at hl 1 rfl) ?_
      refine va_get (D := g.1) (ci := 4) (v := .ref bmornings) (C := RX4) (T := TX4) (N := 4) hx hb hT inF_X4 hown hK.1 hP 0 rfl rfl 3 (by decide) (hT _ bw_220) (fun _ h9 => h9) rfl dX4_findTwo_39 ?_
      refine lv_iload hx hb dX4_findTwo_42 (lv_at hl 0 rfl) ?_
      have h_18 : vp_in r_16 8 := vp_in_iff.mpr (by omega)
      refine va_iald hx hb hK.1 hP 2 1 rfl rfl (i := r_16) h_18 dX4_findTwo_44 ?_
      refine lv_topi (fun x_19 ex_19 => ?_)
      have ux_19 := congrArg Int32.toInt ex_19
      refine lv_istore (lv' := [(5, .int x_19), (4, .int r_16), (0, .ref h), (1, .ref la), (2, .ref st), (3, .int p0)]) hx hb dX4_findTwo_45 hl (by decide) rfl (fun ls hl => ?_)
      refine lv_aload_n hx hb dX4_findTwo_47 rfl (lv_at hl 2 rfl) ?_
      refine va_get (D := g.1) (ci := 4) (v := .ref bmornings) (C := RX4) (T := TX4) (N := 4) hx hb hT inF_X4 hown hK.1 hP 0 rfl rfl 3 (by decide) (hT _ bw_220) (fun _ h9 => h9) rfl dX4_findTwo_48 ?_
      refine lv_iload hx hb dX4_findTwo_51 (lv_at hl 1 rfl) ?_
      refine lv_aload_n hx hb dX4_findTwo_53 rfl (lv_at hl 2 rfl) ?_
      refine va_get (D := g.1) (ci := 4) (v := .ref bbehind) (C := RX4) (T := TX4) (N := 4) hx hb hT inF_X4 hown hK.1 hP 0 rfl rfl 2 (by decide) (hT _ bw_221) (fun _ h9 => h9) rfl dX4_findTwo_54 ?_
      refine lv_aload_n hx hb dX4_findTwo_57 rfl (lv_at hl 2 rfl) ?_
      refine va_get (D := g.1) (ci := 4) (v := .int L_1) (C := RX4) (T := TX4) (N := 4) hx hb hT inF_X4 hown hK.1 hP 0 rfl rfl 0 (by decide) (hT _ bw_226) (fun _ h9 => h9) rfl dX4_findTwo_58 ?_
      have h_20 : vp_in L_1 128 := vp_in_iff.mpr (by omega)
      refine va_iald hx hb hK.1 hP 1 1 rfl rfl (i := L_1) h_20 dX4_findTwo_61 ?_
      refine lv_topi (fun x_21 ex_21 => ?_)
      have ux_21 := congrArg Int32.toInt ex_21
      have h_22 : vp_in r_16 8 := vp_in_iff.mpr (by omega)
      refine va_iast hx hb hK.1 hP hD hS 2 1 rfl rfl (i := r_16) (x := x_21) h_22 dX4_findTwo_62 (fun H locs hP hD hS => ?_)
      generalize upd f_3 (r_16 : Int32).toNatClampNeg x_21 = f_23 at hP hD
      have hP : va_P g.1 vwCl [(h, .inr (4, [.int L_1, .int L_2, .ref bbehind, .ref bmornings])), (bbehind, aI g 128 Fbbehind), (bmornings, aI g 8 f_23), (st, .inr (9, [.int sday, .int sseed, .int salive, .int sstruck, .int sopen, .int sduels, .int slines, .ref scoins, .ref srented, .ref smornings, .ref shonours, .ref sused, .ref ssides, .ref slog])), (ssides, aI g 16 Fssides), (la, .inr (2, [.ref dmen, .ref dformulas, .ref dreasons, .int dduels, .ref dduelSides, .ref dduelMornings, .int dhonour, .int ddraw, .ref dusesOfKind])), (dreasons, .inr (6, [.int dreasons_count, .ref dreasons_names, .ref dreasons_kinds, .ref dreasons_owners, .ref dreasons_froms, .ref dreasons_tos, .ref dreasons_rents, .ref dreasons_sorts])), (dreasons_sorts, aI g 8 Fdreasons_sorts)] H := hP
      have hD : va_D A [(h, .inr (4, [.int L_1, .int L_2, .ref bbehind, .ref bmornings])), (bbehind, aI g 128 Fbbehind), (bmornings, aI g 8 f_23), (st, .inr (9, [.int sday, .int sseed, .int salive, .int sstruck, .int sopen, .int sduels, .int slines, .ref scoins, .ref srented, .ref smornings, .ref shonours, .ref sused, .ref ssides, .ref slog])), (ssides, aI g 16 Fssides), (la, .inr (2, [.ref dmen, .ref dformulas, .ref dreasons, .int dduels, .ref dduelSides, .ref dduelMornings, .int dhonour, .int ddraw, .ref dusesOfKind])), (dreasons, .inr (6, [.int dreasons_count, .ref dreasons_names, .ref dreasons_kinds, .ref dreasons_owners, .ref dreasons_froms, .ref dreasons_tos, .ref dreasons_rents, .ref dreasons_sorts])), (dreasons_sorts, aI g 8 Fdreasons_sorts)] := hD
      refine lv_aload_n hx hb dX4_findTwo_63 rfl (lv_at hl 2 rfl) ?_
      refine lv_aload_n hx hb dX4_findTwo_64 rfl (lv_at hl 3 rfl) ?_
      refine lv_aload_n hx hb dX4_findTwo_65 rfl (lv_at hl 4 rfl) ?_
      refine lv_iload_n hx hb dX4_findTwo_66 rfl (lv_at hl 5 rfl) ?_
      refine k_i (wr := []) (k_V (n := 3) ⟨hx, hb, hml, hown, hT⟩ hK hP hD [0, 1, 2, 3, 4, 5, 6, 7] rfl (by decide +kernel) (s_X4_findSecond l g H.size h L_1 L_2 bbehind Fbbehind bmornings f_23 st sday sseed salive sstruck sopen sduels slines scoins srented smornings shonours sused ssides Fssides slog la dduels dduelSides dduelMornings dhonour ddraw dusesOfKind dmen dformulas dreasons dreasons_count dreasons_names dreasons_kinds dreasons_owners dreasons_froms dreasons_tos dreasons_rents dreasons_sorts Fdreasons_sorts p0 (by first | with_reducible assumption | omega) (by first | with_reducible assumption | omega) (by first | with_reducible assumption | omega) (by first | with_reducible assumption | omega) (by first | with_reducible assumption | omega) hh5 (by first | with_reducible assumption | omega) (by first | with_reducible assumption | omega) (by first | with_reducible assumption | omega) (by first | with_reducible assumption | omega)) (gV bw_242 bw_243 bw_244 bw_230 bw_241) rfl rfl (by decide +kernel) ⟨by decide, by decide⟩ (ci := 4) (q0 := 0) rfl rfl (fun _ _ _ _ _ => trivial) (fun _ _ _ => trivial) rfl rfl hl.1 (Nat.le_of_ble_eq_true rfl) dX4_findTwo_67 ⟨by decide, by decide⟩) hP hD hS hA [0, 1, 2, 3, 4, 5, 6, 7] [] rfl rfl (by decide +kernel) (by decide +kernel) (fun r_24 => pr_all fun y_25 => fun f_26 H locs hw0 hP hD hS => ?_)
      have hP : va_P g.1 vwCl [(h, .inr (4, [.int L_1, .int y_25, .ref bbehind, .ref bmornings])), (bbehind, aI g 128 Fbbehind), (bmornings, aI g 8 f_26), (st, .inr (9, [.int sday, .int sseed, .int salive, .int sstruck, .int sopen, .int sduels, .int slines, .ref scoins, .ref srented, .ref smornings, .ref shonours, .ref sused, .ref ssides, .ref slog])), (ssides, aI g 16 Fssides), (la, .inr (2, [.ref dmen, .ref dformulas, .ref dreasons, .int dduels, .ref dduelSides, .ref dduelMornings, .int dhonour, .int ddraw, .ref dusesOfKind])), (dreasons, .inr (6, [.int dreasons_count, .ref dreasons_names, .ref dreasons_kinds, .ref dreasons_owners, .ref dreasons_froms, .ref dreasons_tos, .ref dreasons_rents, .ref dreasons_sorts])), (dreasons_sorts, aI g 8 Fdreasons_sorts)] H := hP
      have hD : va_D A [(h, .inr (4, [.int L_1, .int y_25, .ref bbehind, .ref bmornings])), (bbehind, aI g 128 Fbbehind), (bmornings, aI g 8 f_26), (st, .inr (9, [.int sday, .int sseed, .int salive, .int sstruck, .int sopen, .int sduels, .int slines, .ref scoins, .ref srented, .ref smornings, .ref shonours, .ref sused, .ref ssides, .ref slog])), (ssides, aI g 16 Fssides), (la, .inr (2, [.ref dmen, .ref dformulas, .ref dreasons, .int dduels, .ref dduelSides, .ref dduelMornings, .int dhonour, .int ddraw, .ref dusesOfKind])), (dreasons, .inr (6, [.int dreasons_count, .ref dreasons_names, .ref dreasons_kinds, .ref dreasons_owners, .ref dreasons_froms, .ref dreasons_tos, .ref dreasons_rents, .ref dreasons_sorts])), (dreasons_sorts, aI g 8 Fdreasons_sorts)] := hD
      have hw : (0 ≤ r_24.toInt ∧ r_24.toInt ≤ 1) ∧ (0 ≤ y_25.toInt ∧ y_25.toInt ≤ 128) := hw0
      clear hw0
      have w_27 := hw.1
      have w_28 := hw.2
      clear hw
      refine lv_if_eq (tgt := 75) hx hb dX4_findTwo_70 (by decide) (fun c_29 => ?_) (fun c_29 => ?_)
      · have f_30 := E_eq (rfl : r_24.toInt = _) (by decide : (0 : Int32).toInt = 0) c_29
        refine lv_aload_n hx hb dX4_findTwo_75 rfl (lv_at hl 2 rfl) ?_
        refine va_get (D := g.1) (ci := 4) (v := .ref bmornings) (C := RX4) (T := TX4) (N := 4) hx hb hT inF_X4 hown hK.1 hP 0 rfl rfl 3 (by decide) (hT _ bw_220) (fun _ h9 => h9) rfl dX4_findTwo_76 ?_
        refine lv_iload hx hb dX4_findTwo_79 (lv_at hl 1 rfl) ?_
        refine lv_iload hx hb dX4_findTwo_81 (lv_at hl 0 rfl) ?_
        have h_31 : vp_in r_16 8 := vp_in_iff.mpr (by omega)
        refine va_iast hx hb hK.1 hP hD hS 2 1 rfl rfl (i := r_16) (x := x_19) h_31 dX4_findTwo_83 (fun H locs hP hD hS => ?_)
        generalize upd f_26 (r_16 : Int32).toNatClampNeg x_19 = f_32 at hP hD
        have hP : va_P g.1 vwCl [(h, .inr (4, [.int L_1, .int y_25, .ref bbehind, .ref bmornings])), (bbehind, aI g 128 Fbbehind), (bmornings, aI g 8 f_32), (st, .inr (9, [.int sday, .int sseed, .int salive, .int sstruck, .int sopen, .int sduels, .int slines, .ref scoins, .ref srented, .ref smornings, .ref shonours, .ref sused, .ref ssides, .ref slog])), (ssides, aI g 16 Fssides), (la, .inr (2, [.ref dmen, .ref dformulas, .ref dreasons, .int dduels, .ref dduelSides, .ref dduelMornings, .int dhonour, .int ddraw, .ref dusesOfKind])), (dreasons, .inr (6, [.int dreasons_count, .ref dreasons_names, .ref dreasons_kinds, .ref dreasons_owners, .ref dreasons_froms, .ref dreasons_tos, .ref dreasons_rents, .ref dreasons_sorts])), (dreasons_sorts, aI g 8 Fdreasons_sorts)] H := hP
        have hD : va_D A [(h, .inr (4, [.int L_1, .int y_25, .ref bbehind, .ref bmornings])), (bbehind, aI g 128 Fbbehind), (bmornings, aI g 8 f_32), (st, .inr (9, [.int sday, .int sseed, .int salive, .int sstruck, .int sopen, .int sduels, .int slines, .ref scoins, .ref srented, .ref smornings, .ref shonours, .ref sused, .ref ssides, .ref slog])), (ssides, aI g 16 Fssides), (la, .inr (2, [.ref dmen, .ref dformulas, .ref dreasons, .int dduels, .ref dduelSides, .ref dduelMornings, .int dhonour, .int ddraw, .ref dusesOfKind])), (dreasons, .inr (6, [.int dreasons_count, .ref dreasons_names, .ref dreasons_kinds, .ref dreasons_owners, .ref dreasons_froms, .ref dreasons_tos, .ref dreasons_rents, .ref dreasons_sorts])), (dreasons_sorts, aI g 8 Fdreasons_sorts)] := hD
        refine lv_aload_n hx hb dX4_findTwo_84 rfl (lv_at hl 2 rfl) ?_
        refine lv_dup hx hb dX4_findTwo_85 rfl ?_
        refine va_get (D := g.1) (ci := 4) (v := .int L_1) (C := RX4) (T := TX4) (N := 4) hx hb hT inF_X4 hown hK.1 hP 0 rfl rfl 0 (by decide) (hT _ bw_226) (fun _ h9 => h9) rfl dX4_findTwo_86 ?_
        refine lv_iconst (v := 1) hx hb dX4_findTwo_89 (by decide) ?_
        refine lv_iadd hx hb dX4_findTwo_90 ?_
        refine lv_topi (fun x_33 ex_33 => ?_)
        have fx_33 : x_33.toInt = L_1.toInt + 1 := by rw [ex_33]; exact I_add rfl (by decide : (1 : Int32).toInt = 1) (by omega) (by omega)
        refine va_put (D := g.1) (ci := 4) (v := .int x_33) (ty := .int) (C := RX4) (T := TX4) (N := 4) hx hb hT inF_X4 tyX4 tyX4_ok nmX4 hown hK.1 hP hD hS 0 rfl rfl 0 (by decide) (hT _ bw_226) (fun _ h9 => h9) rfl (by decide +kernel) rfl rfl (Nat.le_of_ble_eq_true rfl) dX4_findTwo_91 (fun H locs hP hD hS => ?_)
        have hP : va_P g.1 vwCl [(h, .inr (4, [.int x_33, .int y_25, .ref bbehind, .ref bmornings])), (bbehind, aI g 128 Fbbehind), (bmornings, aI g 8 f_32), (st, .inr (9, [.int sday, .int sseed, .int salive, .int sstruck, .int sopen, .int sduels, .int slines, .ref scoins, .ref srented, .ref smornings, .ref shonours, .ref sused, .ref ssides, .ref slog])), (ssides, aI g 16 Fssides), (la, .inr (2, [.ref dmen, .ref dformulas, .ref dreasons, .int dduels, .ref dduelSides, .ref dduelMornings, .int dhonour, .int ddraw, .ref dusesOfKind])), (dreasons, .inr (6, [.int dreasons_count, .ref dreasons_names, .ref dreasons_kinds, .ref dreasons_owners, .ref dreasons_froms, .ref dreasons_tos, .ref dreasons_rents, .ref dreasons_sorts])), (dreasons_sorts, aI g 8 Fdreasons_sorts)] H := hP
        have hD : va_D A [(h, .inr (4, [.int x_33, .int y_25, .ref bbehind, .ref bmornings])), (bbehind, aI g 128 Fbbehind), (bmornings, aI g 8 f_32), (st, .inr (9, [.int sday, .int sseed, .int salive, .int sstruck, .int sopen, .int sduels, .int slines, .ref scoins, .ref srented, .ref smornings, .ref shonours, .ref sused, .ref ssides, .ref slog])), (ssides, aI g 16 Fssides), (la, .inr (2, [.ref dmen, .ref dformulas, .ref dreasons, .int dduels, .ref dduelSides, .ref dduelMornings, .int dhonour, .int ddraw, .ref dusesOfKind])), (dreasons, .inr (6, [.int dreasons_count, .ref dreasons_names, .ref dreasons_kinds, .ref dreasons_owners, .ref dreasons_froms, .ref dreasons_tos, .ref dreasons_rents, .ref dreasons_sorts])), (dreasons_sorts, aI g 8 Fdreasons_sorts)] := hD
        refine lv_goto (tgt := 5) hx hb dX4_findTwo_94 (by decide) ?_
        exact ih (n - 1) (by omega) H locs ls ⟨x_33, y_25, f_32, (by first | with_reducible assumption | omega), (by first | with_reducible assumption | omega), by omega, hP.sub [0, 1, 2, 3, 4, 5, 6, 7] rfl, hD.sub [0, 1, 2, 3, 4, 5, 6, 7] (by decide +kernel) rfl, hS, lv_sub hl [2, 3, 4, 5] rfl⟩
      · have f_34 := E_ne (rfl : r_24.toInt = _) (by decide : (0 : Int32).toInt = 0) c_29
        refine lv_iconst (v := 1) hx hb dX4_findTwo_73 (by decide) ?_
        have hP9 : va_P g.1 vwCl [(h, .inr (4, [.int L_1, .int y_25, .ref bbehind, .ref bmornings])), (bbehind, aI g 128 Fbbehind), (bmornings, aI g 8 f_26), (st, .inr (9, [.int sday, .int sseed, .int salive, .int sstruck, .int sopen, .int sduels, .int slines, .ref scoins, .ref srented, .ref smornings, .ref shonours, .ref sused, .ref ssides, .ref slog])), (ssides, aI g 16 Fssides), (la, .inr (2, [.ref dmen, .ref dformulas, .ref dreasons, .int dduels, .ref dduelSides, .ref dduelMornings, .int dhonour, .int ddraw, .ref dusesOfKind])), (dreasons, .inr (6, [.int dreasons_count, .ref dreasons_names, .ref dreasons_kinds, .ref dreasons_owners, .ref dreasons_froms, .ref dreasons_tos, .ref dreasons_rents, .ref dreasons_sorts])), (dreasons_sorts, aI g 8 Fdreasons_sorts)] H := hP.sub [0, 1, 2, 3, 4, 5, 6, 7] rfl
        have hD9 : va_D A [(h, .inr (4, [.int L_1, .int y_25, .ref bbehind, .ref bmornings])), (bbehind, aI g 128 Fbbehind), (bmornings, aI g 8 f_26), (st, .inr (9, [.int sday, .int sseed, .int salive, .int sstruck, .int sopen, .int sduels, .int slines, .ref scoins, .ref srented, .ref smornings, .ref shonours, .ref sused, .ref ssides, .ref slog])), (ssides, aI g 16 Fssides), (la, .inr (2, [.ref dmen, .ref dformulas, .ref dreasons, .int dduels, .ref dduelSides, .ref dduelMornings, .int dhonour, .int ddraw, .ref dusesOfKind])), (dreasons, .inr (6, [.int dreasons_count, .ref dreasons_names, .ref dreasons_kinds, .ref dreasons_owners, .ref dreasons_froms, .ref dreasons_tos, .ref dreasons_rents, .ref dreasons_sorts])), (dreasons_sorts, aI g 8 Fdreasons_sorts)] := hD.sub [0, 1, 2, 3, 4, 5, 6, 7] (by decide +kernel) rfl
        exact W.zret (v := 1) (ty := .boolean) hx hb hr rfl (fun t ht hW => ⟨⟨1, (L_1, y_25, f_26), rfl, ⟨⟨by decide, by decide⟩, (by first | with_reducible assumption | omega), (by first | with_reducible assumption | omega)⟩, by rw [ht]; exact hP9, by rw [hAe]; exact hD9⟩, hS.F ht⟩) hS.2.2 dX4_findTwo_74

theorem bw_246 : Cond.methodLink RX4 53 yJ7_fill_53178 ∈ gT := gT_tb 1196 (by decide +kernel) (by decide +kernel)
theorem bw_247 : Cond.fieldLink RX4 59 "DuelDelays$State" "duels" "I" ∈ gT := gT_tb 459 (by decide +kernel) (by decide +kernel)
theorem bw_248 : Cond.methodLink RX4 63 yX9_isOpen ∈ gT := gT_tb 1203 (by decide +kernel) (by decide +kernel)
theorem bw_249 : Cond.methodLink RX4 67 yX9_sideOf ∈ gT := gT_tb 1204 (by decide +kernel) (by decide +kernel)
theorem bw_250 : Cond.methodLink RX4 22 yX4_sideOf ∈ gT := gT_tb 1206 (by decide +kernel) (by decide +kernel)
theorem bw_251 : Cond.static yX4_sideOf ∈ gT := gT_tb 1207 (by decide +kernel) (by decide +kernel)
theorem bw_252 : Cond.initialized yX4_sideOf.cls ∈ gT := gT_tb 14 (by decide +kernel) (by decide +kernel)
theorem bw_253 : Cond.methodLink RX4 81 yX9_mayUse ∈ gT := gT_tb 1209 (by decide +kernel) (by decide +kernel)
theorem bw_254 : Cond.methodLink RX4 85 yX9_putOffBy ∈ gT := gT_tb 1210 (by decide +kernel) (by decide +kernel)
theorem bw_255 : Cond.code yX4_fillMoves cX4_fillMoves 8 none ∈ gT := gT_tb 1195 (by decide +kernel) (by decide +kernel)
theorem dX4_fillMoves_0 : decode cX4_fillMoves 0 = .ok (.aload_n 0, 1) := by decide +kernel
theorem dX4_fillMoves_1 : decode cX4_fillMoves 1 = .ok (.getfield 9, 3) := by decide +kernel
theorem dX4_fillMoves_4 : decode cX4_fillMoves 4 = .ok (.iconst 0, 1) := by decide +kernel
theorem dX4_fillMoves_5 : decode cX4_fillMoves 5 = .ok (.invokestatic 53, 3) := by decide +kernel
theorem dX4_fillMoves_8 : decode cX4_fillMoves 8 = .ok (.iconst 0, 1) := by decide +kernel
theorem dX4_fillMoves_9 : decode cX4_fillMoves 9 = .ok (.istore 4, 2) := by decide +kernel
theorem dX4_fillMoves_11 : decode cX4_fillMoves 11 = .ok (.iload 4, 2) := by decide +kernel
theorem dX4_fillMoves_13 : decode cX4_fillMoves 13 = .ok (.bipush 16, 2) := by decide +kernel
theorem dX4_fillMoves_15 : decode cX4_fillMoves 15 = .ok (.aload_n 2, 1) := by decide +kernel
theorem dX4_fillMoves_16 : decode cX4_fillMoves 16 = .ok (.getfield 59, 3) := by decide +kernel
theorem dX4_fillMoves_19 : decode cX4_fillMoves 19 = .ok (.imul, 1) := by decide +kernel
theorem dX4_fillMoves_20 : decode cX4_fillMoves 20 = .ok (.if_icmp .ge 100, 3) := by decide +kernel
theorem dX4_fillMoves_23 : decode cX4_fillMoves 23 = .ok (.iload 4, 2) := by decide +kernel
theorem dX4_fillMoves_25 : decode cX4_fillMoves 25 = .ok (.invokestatic 18, 3) := by decide +kernel
theorem dX4_fillMoves_28 : decode cX4_fillMoves 28 = .ok (.istore 5, 2) := by decide +kernel
theorem dX4_fillMoves_30 : decode cX4_fillMoves 30 = .ok (.iload 4, 2) := by decide +kernel
theorem dX4_fillMoves_32 : decode cX4_fillMoves 32 = .ok (.invokestatic 25, 3) := by decide +kernel
theorem dX4_fillMoves_35 : decode cX4_fillMoves 35 = .ok (.istore 6, 2) := by decide +kernel
theorem dX4_fillMoves_37 : decode cX4_fillMoves 37 = .ok (.aload_n 2, 1) := by decide +kernel
theorem dX4_fillMoves_38 : decode cX4_fillMoves 38 = .ok (.iload 5, 2) := by decide +kernel
theorem dX4_fillMoves_40 : decode cX4_fillMoves 40 = .ok (.invokevirtual 63, 3) := by decide +kernel
theorem dX4_fillMoves_43 : decode cX4_fillMoves 43 = .ok (.ifCond .eq 18, 3) := by decide +kernel
theorem dX4_fillMoves_46 : decode cX4_fillMoves 46 = .ok (.aload_n 2, 1) := by decide +kernel
theorem dX4_fillMoves_47 : decode cX4_fillMoves 47 = .ok (.iload 5, 2) := by decide +kernel
theorem dX4_fillMoves_49 : decode cX4_fillMoves 49 = .ok (.iload_n 3, 1) := by decide +kernel
theorem dX4_fillMoves_50 : decode cX4_fillMoves 50 = .ok (.invokevirtual 67, 3) := by decide +kernel
theorem dX4_fillMoves_53 : decode cX4_fillMoves 53 = .ok (.iconst (-1), 1) := by decide +kernel
theorem dX4_fillMoves_54 : decode cX4_fillMoves 54 = .ok (.if_icmp .eq 7, 3) := by decide +kernel
theorem dX4_fillMoves_57 : decode cX4_fillMoves 57 = .ok (.iconst 1, 1) := by decide +kernel
theorem dX4_fillMoves_58 : decode cX4_fillMoves 58 = .ok (.goto 4, 3) := by decide +kernel
theorem dX4_fillMoves_61 : decode cX4_fillMoves 61 = .ok (.iconst 0, 1) := by decide +kernel
theorem dX4_fillMoves_62 : decode cX4_fillMoves 62 = .ok (.istore 7, 2) := by decide +kernel
theorem dX4_fillMoves_64 : decode cX4_fillMoves 64 = .ok (.iload 7, 2) := by decide +kernel
theorem dX4_fillMoves_66 : decode cX4_fillMoves 66 = .ok (.ifCond .eq 48, 3) := by decide +kernel
theorem dX4_fillMoves_69 : decode cX4_fillMoves 69 = .ok (.aload_n 1, 1) := by decide +kernel
theorem dX4_fillMoves_70 : decode cX4_fillMoves 70 = .ok (.getfield 70, 3) := by decide +kernel
theorem dX4_fillMoves_73 : decode cX4_fillMoves 73 = .ok (.iload 6, 2) := by decide +kernel
theorem dX4_fillMoves_75 : decode cX4_fillMoves 75 = .ok (.invokevirtual 76, 3) := by decide +kernel
theorem dX4_fillMoves_78 : decode cX4_fillMoves 78 = .ok (.ifCond .eq 36, 3) := by decide +kernel
theorem dX4_fillMoves_81 : decode cX4_fillMoves 81 = .ok (.aload_n 2, 1) := by decide +kernel
theorem dX4_fillMoves_82 : decode cX4_fillMoves 82 = .ok (.aload_n 1, 1) := by decide +kernel
theorem dX4_fillMoves_83 : decode cX4_fillMoves 83 = .ok (.iload 5, 2) := by decide +kernel
theorem dX4_fillMoves_85 : decode cX4_fillMoves 85 = .ok (.iload 4, 2) := by decide +kernel
theorem dX4_fillMoves_87 : decode cX4_fillMoves 87 = .ok (.invokestatic 22, 3) := by decide +kernel
theorem dX4_fillMoves_90 : decode cX4_fillMoves 90 = .ok (.iload 6, 2) := by decide +kernel
theorem dX4_fillMoves_92 : decode cX4_fillMoves 92 = .ok (.invokevirtual 81, 3) := by decide +kernel
theorem dX4_fillMoves_95 : decode cX4_fillMoves 95 = .ok (.ifCond .eq 19, 3) := by decide +kernel
theorem dX4_fillMoves_98 : decode cX4_fillMoves 98 = .ok (.aload_n 0, 1) := by decide +kernel
theorem dX4_fillMoves_99 : decode cX4_fillMoves 99 = .ok (.getfield 9, 3) := by decide +kernel
theorem dX4_fillMoves_102 : decode cX4_fillMoves 102 = .ok (.iload 4, 2) := by decide +kernel
theorem dX4_fillMoves_104 : decode cX4_fillMoves 104 = .ok (.aload_n 2, 1) := by decide +kernel
theorem dX4_fillMoves_105 : decode cX4_fillMoves 105 = .ok (.aload_n 1, 1) := by decide +kernel
theorem dX4_fillMoves_106 : decode cX4_fillMoves 106 = .ok (.iload 5, 2) := by decide +kernel
theorem dX4_fillMoves_108 : decode cX4_fillMoves 108 = .ok (.iload 6, 2) := by decide +kernel
theorem dX4_fillMoves_110 : decode cX4_fillMoves 110 = .ok (.invokevirtual 85, 3) := by decide +kernel
theorem dX4_fillMoves_113 : decode cX4_fillMoves 113 = .ok (.iastore, 1) := by decide +kernel
theorem dX4_fillMoves_114 : decode cX4_fillMoves 114 = .ok (.iinc 4 1, 3) := by decide +kernel
theorem dX4_fillMoves_117 : decode cX4_fillMoves 117 = .ok (.goto (-106), 3) := by decide +kernel
theorem dX4_fillMoves_120 : decode cX4_fillMoves 120 = .ok (.return_, 1) := by decide +kernel
set_option maxHeartbeats 4000000 in
set_option maxRecDepth 100000 in
theorem s_X4_fillMoves (l : Launch) (g : GG) (sz : Nat) (h : Nat) (bfirst : Int32) (bsecond : Int32) (bbehind : Nat) (Fbbehind : Nat → Int32) (bmornings : Nat) (st : Nat) (sday : Int32) (sseed : Int32) (salive : Int32) (sstruck : Int32) (sopen : Int32) (sduels : Int32) (slines : Int32) (scoins : Nat) (srented : Nat) (Fsrented : Nat → Int32) (smornings : Nat) (Fsmornings : Nat → Int32) (shonours : Nat) (sused : Nat) (Fsused : Nat → Int32) (ssides : Nat) (Fssides : Nat → Int32) (slog : Nat) (la : Nat) (dduels : Int32) (dduelSides : Nat) (dduelMornings : Nat) (dhonour : Int32) (ddraw : Int32) (dusesOfKind : Nat) (FdusesOfKind : Nat → Int32) (dmen : Nat) (dmen_count : Int32) (dmen_names : Nat) (dmen_dies : Nat) (Fdmen_dies : Nat → Int32) (dmen_coins : Nat) (dmen_fathers : Nat) (dformulas : Nat) (dformulas_count : Int32) (dformulas_units : Int32) (dformulas_names : Nat) (dformulas_unitsOfThis : Int32) (dformulas_length : Int32) (dformulas_starts : Nat) (Fdformulas_starts : Nat → Int32) (dformulas_steps : Nat) (Fdformulas_steps : Nat → Int32) (dformulas_stack : Nat) (Fdformulas_stack : Nat → Int32) (dreasons : Nat) (dreasons_count : Int32) (dreasons_names : Nat) (dreasons_kinds : Nat) (Fdreasons_kinds : Nat → Int32) (dreasons_owners : Nat) (Fdreasons_owners : Nat → Int32) (dreasons_froms : Nat) (Fdreasons_froms : Nat → Int32) (dreasons_tos : Nat) (Fdreasons_tos : Nat → Int32) (dreasons_rents : Nat) (dreasons_sorts : Nat) (Fdreasons_sorts : Nat → Int32) (p0 : Int32) (hh0 : 0 ≤ bfirst.toInt ∧ bfirst.toInt ≤ 128) (hh1 : 0 ≤ bsecond.toInt ∧ bsecond.toInt ≤ 128) (hh2 : 0 ≤ sseed.toInt ∧ sseed.toInt ≤ 999) (hh3 : 0 ≤ sduels.toInt ∧ sduels.toInt ≤ 8) (hh4 : 0 ≤ slines.toInt ∧ slines.toInt ≤ 60) (hh5 : Rg 16 0 5 Fssides) (hh6 : 0 ≤ dduels.toInt ∧ dduels.toInt ≤ 6) (hh8 : 0 ≤ ddraw.toInt ∧ ddraw.toInt ≤ 999) (hh9 : 0 ≤ dmen_count.toInt ∧ dmen_count.toInt ≤ 6) (hh10 : 0 ≤ dformulas_count.toInt ∧ dformulas_count.toInt ≤ 4) (hh11 : 0 ≤ dformulas_units.toInt ∧ dformulas_units.toInt ≤ 60) (hh12 : 0 ≤ dformulas_unitsOfThis.toInt ∧ dformulas_unitsOfThis.toInt ≤ 30) (hh13 : 0 ≤ dformulas_length.toInt ∧ dformulas_length.toInt ≤ 640) (hh14 : Rg 5 0 640 Fdformulas_starts) (hh15 : 0 ≤ dreasons_count.toInt ∧ dreasons_count.toInt ≤ 8) (hh16 : Rg 8 0 3 Fdreasons_kinds) (hh17 : Rg 8 (-1) 5 Fdreasons_owners) : Met l yX4_fillMoves (.code yX4_fillMoves cX4_fillMoves 8 none :: gT) ({ frames := 5, cells := 0, slots := 0, locals := 116 }) (va_Pc [.ref h, .ref la, .ref st, .int p0] (Pst g sz [(h, .inr (4, [.int bfirst, .int bsecond, .ref bbehind, .ref bmornings])), (bbehind, aI g 128 Fbbehind), (st, .inr (9, [.int sday, .int sseed, .int salive, .int sstruck, .int sopen, .int sduels, .int slines, .ref scoins, .ref srented, .ref smornings, .ref shonours, .ref sused, .ref ssides, .ref slog])), (srented, aI g 6 Fsrented), (smornings, aI g 8 Fsmornings), (sused, aI g 8 Fsused), (ssides, aI g 16 Fssides), (la, .inr (2, [.ref dmen, .ref dformulas, .ref dreasons, .int dduels, .ref dduelSides, .ref dduelMornings, .int dhonour, .int ddraw, .ref dusesOfKind])), (dusesOfKind, aI g 4 FdusesOfKind), (dmen, .inr (3, [.int dmen_count, .ref dmen_names, .ref dmen_dies, .ref dmen_coins, .ref dmen_fathers])), (dmen_dies, aI g 6 Fdmen_dies), (dformulas, .inr (0, [.int dformulas_count, .int dformulas_units, .ref dformulas_names, .int dformulas_unitsOfThis, .int dformulas_length, .ref dformulas_starts, .ref dformulas_steps, .ref dformulas_stack])), (dformulas_starts, aI g 5 Fdformulas_starts), (dformulas_steps, aI g 640 Fdformulas_steps), (dformulas_stack, aI g 32 Fdformulas_stack), (dreasons, .inr (6, [.int dreasons_count, .ref dreasons_names, .ref dreasons_kinds, .ref dreasons_owners, .ref dreasons_froms, .ref dreasons_tos, .ref dreasons_rents, .ref dreasons_sorts])), (dreasons_kinds, aI g 8 Fdreasons_kinds), (dreasons_owners, aI g 8 Fdreasons_owners), (dreasons_froms, aI g 8 Fdreasons_froms), (dreasons_tos, aI g 8 Fdreasons_tos), (dreasons_sorts, aI g 8 Fdreasons_sorts)] nX)) (va_Qv (fun ((o0_F, o1_F) : (Nat → Int32) × (Nat → Int32)) => True) (Qst g [(h, .inr (4, [.int bfirst, .int bsecond, .ref bbehind, .ref bmornings])), (bbehind, aI g 128 Fbbehind), (st, .inr (9, [.int sday, .int sseed, .int salive, .int sstruck, .int sopen, .int sduels, .int slines, .ref scoins, .ref srented, .ref smornings, .ref shonours, .ref sused, .ref ssides, .ref slog])), (srented, aI g 6 Fsrented), (smornings, aI g 8 Fsmornings), (sused, aI g 8 Fsused), (ssides, aI g 16 Fssides), (la, .inr (2, [.ref dmen, .ref dformulas, .ref dreasons, .int dduels, .ref dduelSides, .ref dduelMornings, .int dhonour, .int ddraw, .ref dusesOfKind])), (dusesOfKind, aI g 4 FdusesOfKind), (dmen, .inr (3, [.int dmen_count, .ref dmen_names, .ref dmen_dies, .ref dmen_coins, .ref dmen_fathers])), (dmen_dies, aI g 6 Fdmen_dies), (dformulas, .inr (0, [.int dformulas_count, .int dformulas_units, .ref dformulas_names, .int dformulas_unitsOfThis, .int dformulas_length, .ref dformulas_starts, .ref dformulas_steps, .ref dformulas_stack])), (dformulas_starts, aI g 5 Fdformulas_starts), (dformulas_steps, aI g 640 Fdformulas_steps), (dformulas_stack, aI g 32 Fdformulas_stack), (dreasons, .inr (6, [.int dreasons_count, .ref dreasons_names, .ref dreasons_kinds, .ref dreasons_owners, .ref dreasons_froms, .ref dreasons_tos, .ref dreasons_rents, .ref dreasons_sorts])), (dreasons_kinds, aI g 8 Fdreasons_kinds), (dreasons_owners, aI g 8 Fdreasons_owners), (dreasons_froms, aI g 8 Fdreasons_froms), (dreasons_tos, aI g 8 Fdreasons_tos), (dreasons_sorts, aI g 8 Fdreasons_sorts)] sz (fun ((o0_F, o1_F) : (Nat → Int32) × (Nat → Int32)) => [(h, .inr (4, [.int bfirst, .int bsecond, .ref bbehind, .ref bmornings])), (bbehind, aI g 128 o0_F), (st, .inr (9, [.int sday, .int sseed, .int salive, .int sstruck, .int sopen, .int sduels, .int slines, .ref scoins, .ref srented, .ref smornings, .ref shonours, .ref sused, .ref ssides, .ref slog])), (srented, aI g 6 Fsrented), (smornings, aI g 8 Fsmornings), (sused, aI g 8 Fsused), (ssides, aI g 16 Fssides), (la, .inr (2, [.ref dmen, .ref dformulas, .ref dreasons, .int dduels, .ref dduelSides, .ref dduelMornings, .int dhonour, .int ddraw, .ref dusesOfKind])), (dusesOfKind, aI g 4 FdusesOfKind), (dmen, .inr (3, [.int dmen_count, .ref dmen_names, .ref dmen_dies, .ref dmen_coins, .ref dmen_fathers])), (dmen_dies, aI g 6 Fdmen_dies), (dformulas, .inr (0, [.int dformulas_count, .int dformulas_units, .ref dformulas_names, .int dformulas_unitsOfThis, .int dformulas_length, .ref dformulas_starts, .ref dformulas_steps, .ref dformulas_stack])), (dformulas_starts, aI g 5 Fdformulas_starts), (dformulas_steps, aI g 640 Fdformulas_steps), (dformulas_stack, aI g 32 o1_F), (dreasons, .inr (6, [.int dreasons_count, .ref dreasons_names, .ref dreasons_kinds, .ref dreasons_owners, .ref dreasons_froms, .ref dreasons_tos, .ref dreasons_rents, .ref dreasons_sorts])), (dreasons_kinds, aI g 8 Fdreasons_kinds), (dreasons_owners, aI g 8 Fdreasons_owners), (dreasons_froms, aI g 8 Fdreasons_froms), (dreasons_tos, aI g 8 Fdreasons_tos), (dreasons_sorts, aI g 8 Fdreasons_sorts)])) (va_A [(h, .inr (4, [.int bfirst, .int bsecond, .ref bbehind, .ref bmornings])), (bbehind, aI g 128 Fbbehind), (st, .inr (9, [.int sday, .int sseed, .int salive, .int sstruck, .int sopen, .int sduels, .int slines, .ref scoins, .ref srented, .ref smornings, .ref shonours, .ref sused, .ref ssides, .ref slog])), (srented, aI g 6 Fsrented), (smornings, aI g 8 Fsmornings), (sused, aI g 8 Fsused), (ssides, aI g 16 Fssides), (la, .inr (2, [.ref dmen, .ref dformulas, .ref dreasons, .int dduels, .ref dduelSides, .ref dduelMornings, .int dhonour, .int ddraw, .ref dusesOfKind])), (dusesOfKind, aI g 4 FdusesOfKind), (dmen, .inr (3, [.int dmen_count, .ref dmen_names, .ref dmen_dies, .ref dmen_coins, .ref dmen_fathers])), (dmen_dies, aI g 6 Fdmen_dies), (dformulas, .inr (0, [.int dformulas_count, .int dformulas_units, .ref dformulas_names, .int dformulas_unitsOfThis, .int dformulas_length, .ref dformulas_starts, .ref dformulas_steps, .ref dformulas_stack])), (dformulas_starts, aI g 5 Fdformulas_starts), (dformulas_steps, aI g 640 Fdformulas_steps), (dformulas_stack, aI g 32 Fdformulas_stack), (dreasons, .inr (6, [.int dreasons_count, .ref dreasons_names, .ref dreasons_kinds, .ref dreasons_owners, .ref dreasons_froms, .ref dreasons_tos, .ref dreasons_rents, .ref dreasons_sorts])), (dreasons_kinds, aI g 8 Fdreasons_kinds), (dreasons_owners, aI g 8 Fdreasons_owners), (dreasons_froms, aI g 8 Fdreasons_froms), (dreasons_tos, aI g 8 Fdreasons_tos), (dreasons_sorts, aI g 8 Fdreasons_sorts)] sz)) 0 0 (va_A [(h, .inr (4, [.int bfirst, .int bsecond, .ref bbehind, .ref bmornings])), (bbehind, aI g 128 Fbbehind), (st, .inr (9, [.int sday, .int sseed, .int salive, .int sstruck, .int sopen, .int sduels, .int slines, .ref scoins, .ref srented, .ref smornings, .ref shonours, .ref sused, .ref ssides, .ref slog])), (srented, aI g 6 Fsrented), (smornings, aI g 8 Fsmornings), (sused, aI g 8 Fsused), (ssides, aI g 16 Fssides), (la, .inr (2, [.ref dmen, .ref dformulas, .ref dreasons, .int dduels, .ref dduelSides, .ref dduelMornings, .int dhonour, .int ddraw, .ref dusesOfKind])), (dusesOfKind, aI g 4 FdusesOfKind), (dmen, .inr (3, [.int dmen_count, .ref dmen_names, .ref dmen_dies, .ref dmen_coins, .ref dmen_fathers])), (dmen_dies, aI g 6 Fdmen_dies), (dformulas, .inr (0, [.int dformulas_count, .int dformulas_units, .ref dformulas_names, .int dformulas_unitsOfThis, .int dformulas_length, .ref dformulas_starts, .ref dformulas_steps, .ref dformulas_stack])), (dformulas_starts, aI g 5 Fdformulas_starts), (dformulas_steps, aI g 640 Fdformulas_steps), (dformulas_stack, aI g 32 Fdformulas_stack), (dreasons, .inr (6, [.int dreasons_count, .ref dreasons_names, .ref dreasons_kinds, .ref dreasons_owners, .ref dreasons_froms, .ref dreasons_tos, .ref dreasons_rents, .ref dreasons_sorts])), (dreasons_kinds, aI g 8 Fdreasons_kinds), (dreasons_owners, aI g 8 Fdreasons_owners), (dreasons_froms, aI g 8 Fdreasons_froms), (dreasons_tos, aI g 8 Fdreasons_tos), (dreasons_sorts, aI g 8 Fdreasons_sorts)] sz) := by
  refine Met.ofW (cc := cX4_fillMoves) (maxL := 8) (ret := none) (by decide) rfl ?_
  intro p e s m args below meth c s₁ B hml hv
  obtain ⟨rfl, hsz, hP, hK, hD0, hX⟩ := hv
  have hx := B.exec
  have hb := B.bytes
  have hr := B.returns
  have hT : ∀ w ∈ gT, w.before _ s = true := fun w h => atoms_spec (ws := .code yX4_fillMoves cX4_fillMoves 8 none :: gT) B.pre w (List.mem_cons_of_mem _ h)
  have hown : s.vm.findClass RX4 = some m.cls := findClass_of_methodNamed B.named
  have hlocks := B.notSynchronized
  subst hsz
  have hD := hD0.self (sz := s.heap.size)
  generalize hAe : va_A [(h, .inr (4, [.int bfirst, .int bsecond, .ref bbehind, .ref bmornings])), (bbehind, aI g 128 Fbbehind), (st, .inr (9, [.int sday, .int sseed, .int salive, .int sstruck, .int sopen, .int sduels, .int slines, .ref scoins, .ref srented, .ref smornings, .ref shonours, .ref sused, .ref ssides, .ref slog])), (srented, aI g 6 Fsrented), (smornings, aI g 8 Fsmornings), (sused, aI g 8 Fsused), (ssides, aI g 16 Fssides), (la, .inr (2, [.ref dmen, .ref dformulas, .ref dreasons, .int dduels, .ref dduelSides, .ref dduelMornings, .int dhonour, .int ddraw, .ref dusesOfKind])), (dusesOfKind, aI g 4 FdusesOfKind), (dmen, .inr (3, [.int dmen_count, .ref dmen_names, .ref dmen_dies, .ref dmen_coins, .ref dmen_fathers])), (dmen_dies, aI g 6 Fdmen_dies), (dformulas, .inr (0, [.int dformulas_count, .int dformulas_units, .ref dformulas_names, .int dformulas_unitsOfThis, .int dformulas_length, .ref dformulas_starts, .ref dformulas_steps, .ref dformulas_stack])), (dformulas_starts, aI g 5 Fdformulas_starts), (dformulas_steps, aI g 640 Fdformulas_steps), (dformulas_stack, aI g 32 Fdformulas_stack), (dreasons, .inr (6, [.int dreasons_count, .ref dreasons_names, .ref dreasons_kinds, .ref dreasons_owners, .ref dreasons_froms, .ref dreasons_tos, .ref dreasons_rents, .ref dreasons_sorts])), (dreasons_kinds, aI g 8 Fdreasons_kinds), (dreasons_owners, aI g 8 Fdreasons_owners), (dreasons_froms, aI g 8 Fdreasons_froms), (dreasons_tos, aI g 8 Fdreasons_tos), (dreasons_sorts, aI g 8 Fdreasons_sorts)] s.heap.size = A at hD ⊢
  have hA : ∀ q : Nat, s.heap.size ≤ q → A q := fun q h => by rw [← hAe]; exact Or.inr h
  have hS : va_S A s.heap s.heap [] := va_S.rf
  have hl := lv_entry ([.ref h, .ref la, .ref st, .int p0]) (n := 8) (Nat.le_of_ble_eq_true rfl)
  rw [lg_entry_eq]
  generalize (lg_sl ([.ref h, .ref la, .ref st, .int p0]) ++ List.replicate (8 - (lg_sl ([.ref h, .ref la, .ref st, .int p0])).length) Slot.unset).toArray = ls at hl ⊢
  have hl : lv_has ls 8 [(0, .ref h), (1, .ref la), (2, .ref st), (3, .int p0)] := hl
  refine p_nH (fun H hH => ?_)
  have hP : va_P g.1 vwCl [(h, .inr (4, [.int bfirst, .int bsecond, .ref bbehind, .ref bmornings])), (bbehind, aI g 128 Fbbehind), (st, .inr (9, [.int sday, .int sseed, .int salive, .int sstruck, .int sopen, .int sduels, .int slines, .ref scoins, .ref srented, .ref smornings, .ref shonours, .ref sused, .ref ssides, .ref slog])), (srented, aI g 6 Fsrented), (smornings, aI g 8 Fsmornings), (sused, aI g 8 Fsused), (ssides, aI g 16 Fssides), (la, .inr (2, [.ref dmen, .ref dformulas, .ref dreasons, .int dduels, .ref dduelSides, .ref dduelMornings, .int dhonour, .int ddraw, .ref dusesOfKind])), (dusesOfKind, aI g 4 FdusesOfKind), (dmen, .inr (3, [.int dmen_count, .ref dmen_names, .ref dmen_dies, .ref dmen_coins, .ref dmen_fathers])), (dmen_dies, aI g 6 Fdmen_dies), (dformulas, .inr (0, [.int dformulas_count, .int dformulas_units, .ref dformulas_names, .int dformulas_unitsOfThis, .int dformulas_length, .ref dformulas_starts, .ref dformulas_steps, .ref dformulas_stack])), (dformulas_starts, aI g 5 Fdformulas_starts), (dformulas_steps, aI g 640 Fdformulas_steps), (dformulas_stack, aI g 32 Fdformulas_stack), (dreasons, .inr (6, [.int dreasons_count, .ref dreasons_names, .ref dreasons_kinds, .ref dreasons_owners, .ref dreasons_froms, .ref dreasons_tos, .ref dreasons_rents, .ref dreasons_sorts])), (dreasons_kinds, aI g 8 Fdreasons_kinds), (dreasons_owners, aI g 8 Fdreasons_owners), (dreasons_froms, aI g 8 Fdreasons_froms), (dreasons_tos, aI g 8 Fdreasons_tos), (dreasons_sorts, aI g 8 Fdreasons_sorts)] H := by rw [hH]; exact hP
  have hS : va_S A s.heap H [] := by rw [hH]; exact hS
  refine lv_aload_n hx hb dX4_fillMoves_0 rfl (lv_at hl 0 rfl) ?_
  refine va_get (D := g.1) (ci := 4) (v := .ref bbehind) (C := RX4) (T := TX4) (N := 4) hx hb hT inF_X4 hown hK.1 hP 0 rfl rfl 2 (by decide) (hT _ bw_221) (fun _ h9 => h9) rfl dX4_fillMoves_1 ?_
  refine lv_iconst (v := 0) hx hb dX4_fillMoves_4 (by decide) ?_
  refine k_v (wr := [(h, .inr (4, [.int bfirst, .int bsecond, .ref bbehind, .ref bmornings])), (st, .inr (9, [.int sday, .int sseed, .int salive, .int sstruck, .int sopen, .int sduels, .int slines, .ref scoins, .ref srented, .ref smornings, .ref shonours, .ref sused, .ref ssides, .ref slog])), (srented, aI g 6 Fsrented), (smornings, aI g 8 Fsmornings), (sused, aI g 8 Fsused), (ssides, aI g 16 Fssides), (la, .inr (2, [.ref dmen, .ref dformulas, .ref dreasons, .int dduels, .ref dduelSides, .ref dduelMornings, .int dhonour, .int ddraw, .ref dusesOfKind])), (dusesOfKind, aI g 4 FdusesOfKind), (dmen, .inr (3, [.int dmen_count, .ref dmen_names, .ref dmen_dies, .ref dmen_coins, .ref dmen_fathers])), (dmen_dies, aI g 6 Fdmen_dies), (dformulas, .inr (0, [.int dformulas_count, .int dformulas_units, .ref dformulas_names, .int dformulas_unitsOfThis, .int dformulas_length, .ref dformulas_starts, .ref dformulas_steps, .ref dformulas_stack])), (dformulas_starts, aI g 5 Fdformulas_starts), (dformulas_steps, aI g 640 Fdformulas_steps), (dformulas_stack, aI g 32 Fdformulas_stack), (dreasons, .inr (6, [.int dreasons_count, .ref dreasons_names, .ref dreasons_kinds, .ref dreasons_owners, .ref dreasons_froms, .ref dreasons_tos, .ref dreasons_rents, .ref dreasons_sorts])), (dreasons_kinds, aI g 8 Fdreasons_kinds), (dreasons_owners, aI g 8 Fdreasons_owners), (dreasons_froms, aI g 8 Fdreasons_froms), (dreasons_tos, aI g 8 Fdreasons_tos), (dreasons_sorts, aI g 8 Fdreasons_sorts)]) (k_S (n := 2) ⟨hx, hb, hml, hown, hT⟩ hK hP hD [1] rfl (by decide +kernel) (s_J7_fill_53178_128 l g H.size bbehind Fbbehind 0) (gS bw_246 bw_107 bw_108 bw_97) rfl rfl (by decide +kernel) ⟨by decide, by decide⟩ (fun _ _ _ _ _ => trivial) (fun _ _ _ => trivial) rfl rfl hl.1 (Nat.le_of_ble_eq_true rfl) dX4_fillMoves_5 ⟨by decide, by decide⟩) hP hD hS hA [1] [0, 2, 3, 4, 5, 6, 7, 8, 9, 10, 11, 12, 13, 14, 15, 16, 17, 18, 19, 20] rfl rfl (by decide +kernel) (by decide +kernel) (fun f_1 H locs hw0 hP hD hS => ?_)
  have hP : va_P g.1 vwCl [(h, .inr (4, [.int bfirst, .int bsecond, .ref bbehind, .ref bmornings])), (st, .inr (9, [.int sday, .int sseed, .int salive, .int sstruck, .int sopen, .int sduels, .int slines, .ref scoins, .ref srented, .ref smornings, .ref shonours, .ref sused, .ref ssides, .ref slog])), (srented, aI g 6 Fsrented), (smornings, aI g 8 Fsmornings), (sused, aI g 8 Fsused), (ssides, aI g 16 Fssides), (la, .inr (2, [.ref dmen, .ref dformulas, .ref dreasons, .int dduels, .ref dduelSides, .ref dduelMornings, .int dhonour, .int ddraw, .ref dusesOfKind])), (dusesOfKind, aI g 4 FdusesOfKind), (dmen, .inr (3, [.int dmen_count, .ref dmen_names, .ref dmen_dies, .ref dmen_coins, .ref dmen_fathers])), (dmen_dies, aI g 6 Fdmen_dies), (dformulas, .inr (0, [.int dformulas_count, .int dformulas_units, .ref dformulas_names, .int dformulas_unitsOfThis, .int dformulas_length, .ref dformulas_starts, .ref dformulas_steps, .ref dformulas_stack])), (dformulas_starts, aI g 5 Fdformulas_starts), (dformulas_steps, aI g 640 Fdformulas_steps), (dformulas_stack, aI g 32 Fdformulas_stack), (dreasons, .inr (6, [.int dreasons_count, .ref dreasons_names, .ref dreasons_kinds, .ref dreasons_owners, .ref dreasons_froms, .ref dreasons_tos, .ref dreasons_rents, .ref dreasons_sorts])), (dreasons_kinds, aI g 8 Fdreasons_kinds), (dreasons_owners, aI g 8 Fdreasons_owners), (dreasons_froms, aI g 8 Fdreasons_froms), (dreasons_tos, aI g 8 Fdreasons_tos), (dreasons_sorts, aI g 8 Fdreasons_sorts), (bbehind, aI g 128 f_1)] H := hP
  have hD : va_D A [(h, .inr (4, [.int bfirst, .int bsecond, .ref bbehind, .ref bmornings])), (st, .inr (9, [.int sday, .int sseed, .int salive, .int sstruck, .int sopen, .int sduels, .int slines, .ref scoins, .ref srented, .ref smornings, .ref shonours, .ref sused, .ref ssides, .ref slog])), (srented, aI g 6 Fsrented), (smornings, aI g 8 Fsmornings), (sused, aI g 8 Fsused), (ssides, aI g 16 Fssides), (la, .inr (2, [.ref dmen, .ref dformulas, .ref dreasons, .int dduels, .ref dduelSides, .ref dduelMornings, .int dhonour, .int ddraw, .ref dusesOfKind])), (dusesOfKind, aI g 4 FdusesOfKind), (dmen, .inr (3, [.int dmen_count, .ref dmen_names, .ref dmen_dies, .ref dmen_coins, .ref dmen_fathers])), (dmen_dies, aI g 6 Fdmen_dies), (dformulas, .inr (0, [.int dformulas_count, .int dformulas_units, .ref dformulas_names, .int dformulas_unitsOfThis, .int dformulas_length, .ref dformulas_starts, .ref dformulas_steps, .ref dformulas_stack])), (dformulas_starts, aI g 5 Fdformulas_starts), (dformulas_steps, aI g 640 Fdformulas_steps), (dformulas_stack, aI g 32 Fdformulas_stack), (dreasons, .inr (6, [.int dreasons_count, .ref dreasons_names, .ref dreasons_kinds, .ref dreasons_owners, .ref dreasons_froms, .ref dreasons_tos, .ref dreasons_rents, .ref dreasons_sorts])), (dreasons_kinds, aI g 8 Fdreasons_kinds), (dreasons_owners, aI g 8 Fdreasons_owners), (dreasons_froms, aI g 8 Fdreasons_froms), (dreasons_tos, aI g 8 Fdreasons_tos), (dreasons_sorts, aI g 8 Fdreasons_sorts), (bbehind, aI g 128 f_1)] := hD
  refine lv_iconst (v := 0) hx hb dX4_fillMoves_8 (by decide) ?_
  refine lv_istore (lv' := [(4, .int 0), (0, .ref h), (1, .ref la), (2, .ref st), (3, .int p0)]) hx hb dX4_fillMoves_9 hl (by decide) rfl (fun ls hl => ?_)
  refine k_floop 11 (fun n H locs ls => ∃ (L_2 : Int32) (f_3 : Nat → Int32) (f_4 : Nat → Int32), (0 ≤ L_2.toInt ∧ L_2.toInt ≤ 128) ∧ 128 - L_2.toInt ≤ (n : Int) ∧ va_P g.1 vwCl [(h, .inr (4, [.int bfirst, .int bsecond, .ref bbehind, .ref bmornings])), (st, .inr (9, [.int sday, .int sseed, .int salive, .int sstruck, .int sopen, .int sduels, .int slines, .ref scoins, .ref srented, .ref smornings, .ref shonours, .ref sused, .ref ssides, .ref slog])), (srented, aI g 6 Fsrented), (smornings, aI g 8 Fsmornings), (sused, aI g 8 Fsused), (ssides, aI g 16 Fssides), (la, .inr (2, [.ref dmen, .ref dformulas, .ref dreasons, .int dduels, .ref dduelSides, .ref dduelMornings, .int dhonour, .int ddraw, .ref dusesOfKind])), (dusesOfKind, aI g 4 FdusesOfKind), (dmen, .inr (3, [.int dmen_count, .ref dmen_names, .ref dmen_dies, .ref dmen_coins, .ref dmen_fathers])), (dmen_dies, aI g 6 Fdmen_dies), (dformulas, .inr (0, [.int dformulas_count, .int dformulas_units, .ref dformulas_names, .int dformulas_unitsOfThis, .int dformulas_length, .ref dformulas_starts, .ref dformulas_steps, .ref dformulas_stack])), (dformulas_starts, aI g 5 Fdformulas_starts), (dformulas_steps, aI g 640 Fdformulas_steps), (dformulas_stack, aI g 32 f_4), (dreasons, .inr (6, [.int dreasons_count, .ref dreasons_names, .ref dreasons_kinds, .ref dreasons_owners, .ref dreasons_froms, .ref dreasons_tos, .ref dreasons_rents, .ref dreasons_sorts])), (dreasons_kinds, aI g 8 Fdreasons_kinds), (dreasons_owners, aI g 8 Fdreasons_owners), (dreasons_froms, aI g 8 Fdreasons_froms), (dreasons_tos, aI g 8 Fdreasons_tos), (dreasons_sorts, aI g 8 Fdreasons_sorts), (bbehind, aI g 128 f_3)] H ∧ va_D A [(h, .inr (4, [.int bfirst, .int bsecond, .ref bbehind, .ref bmornings])), (st, .inr (9, [.int sday, .int sseed, .int salive, .int sstruck, .int sopen, .int sduels, .int slines, .ref scoins, .ref srented, .ref smornings, .ref shonours, .ref sused, .ref ssides, .ref slog])), (srented, aI g 6 Fsrented), (smornings, aI g 8 Fsmornings), (sused, aI g 8 Fsused), (ssides, aI g 16 Fssides), (la, .inr (2, [.ref dmen, .ref dformulas, .ref dreasons, .int dduels, .ref dduelSides, .ref dduelMornings, .int dhonour, .int ddraw, .ref dusesOfKind])), (dusesOfKind, aI g 4 FdusesOfKind), (dmen, .inr (3, [.int dmen_count, .ref dmen_names, .ref dmen_dies, .ref dmen_coins, .ref dmen_fathers])), (dmen_dies, aI g 6 Fdmen_dies), (dformulas, .inr (0, [.int dformulas_count, .int dformulas_units, .ref dformulas_names, .int dformulas_unitsOfThis, .int dformulas_length, .ref dformulas_starts, .ref dformulas_steps, .ref dformulas_stack])), (dformulas_starts, aI g 5 Fdformulas_starts), (dformulas_steps, aI g 640 Fdformulas_steps), (dformulas_stack, aI g 32 f_4), (dreasons, .inr (6, [.int dreasons_count, .ref dreasons_names, .ref dreasons_kinds, .ref dreasons_owners, .ref dreasons_froms, .ref dreasons_tos, .ref dreasons_rents, .ref dreasons_sorts])), (dreasons_kinds, aI g 8 Fdreasons_kinds), (dreasons_owners, aI g 8 Fdreasons_owners), (dreasons_froms, aI g 8 Fdreasons_froms), (dreasons_tos, aI g 8 Fdreasons_tos), (dreasons_sorts, aI g 8 Fdreasons_sorts), (bbehind, aI g 128 f_3)] ∧ va_S A s.heap H locs ∧ lv_has ls 8 [(4, .int L_2), (0, .ref h), (1, .ref la), (2, .ref st), (3, .int p0)]) (fun n H locs ls hI ih => ?_) ((128 - 0 : Int)).toNat ⟨0, f_1, Fdformulas_stack, by decide, by have k0 : (0 : Int32).toInt = 0 := (by decide); omega, hP, hD, hS, hl⟩
  refine hI.elim (fun L_2 hI => hI.elim (fun f_3 hI => hI.elim (fun f_4 hI => ?_)))
  have g_5 := hI.1
  have hm_6 := hI.2.1
  have hP := hI.2.2.1
  have hD := hI.2.2.2.1
  have hS := hI.2.2.2.2.1
  have hl := hI.2.2.2.2.2
  clear hI
  refine lv_iload hx hb dX4_fillMoves_11 (lv_at hl 0 rfl) ?_
  refine lv_bipush (v := 16) hx hb dX4_fillMoves_13 (by decide) ?_
  refine lv_aload_n hx hb dX4_fillMoves_15 rfl (lv_at hl 3 rfl) ?_
  refine va_get (D := g.1) (ci := 9) (v := .int sduels) (C := RX9) (T := TX9) (N := 14) hx hb hT inF_X9 hown hK.1 hP 1 rfl rfl 5 (by decide) (hT _ bw_247) (fun _ h9 => h9) rfl dX4_fillMoves_16 ?_
  refine lv_imul hx hb dX4_fillMoves_19 ?_
  refine lv_topi (fun x_7 ex_7 => ?_)
  have fx_7 : x_7.toInt = 16 * sduels.toInt := by rw [ex_7]; exact I_mul (by decide : (16 : Int32).toInt = 16) rfl (by omega) (by omega)
  refine lv_icmp_ge (tgt := 120) hx hb dX4_fillMoves_20 (by decide) (fun c_8 => ?_) (fun c_8 => ?_)
  · have f_9 := E_le (rfl : x_7.toInt = _) (rfl : L_2.toInt = _) c_8
    have hP9 : va_P g.1 vwCl [(h, .inr (4, [.int bfirst, .int bsecond, .ref bbehind, .ref bmornings])), (bbehind, aI g 128 f_3), (st, .inr (9, [.int sday, .int sseed, .int salive, .int sstruck, .int sopen, .int sduels, .int slines, .ref scoins, .ref srented, .ref smornings, .ref shonours, .ref sused, .ref ssides, .ref slog])), (srented, aI g 6 Fsrented), (smornings, aI g 8 Fsmornings), (sused, aI g 8 Fsused), (ssides, aI g 16 Fssides), (la, .inr (2, [.ref dmen, .ref dformulas, .ref dreasons, .int dduels, .ref dduelSides, .ref dduelMornings, .int dhonour, .int ddraw, .ref dusesOfKind])), (dusesOfKind, aI g 4 FdusesOfKind), (dmen, .inr (3, [.int dmen_count, .ref dmen_names, .ref dmen_dies, .ref dmen_coins, .ref dmen_fathers])), (dmen_dies, aI g 6 Fdmen_dies), (dformulas, .inr (0, [.int dformulas_count, .int dformulas_units, .ref dformulas_names, .int dformulas_unitsOfThis, .int dformulas_length, .ref dformulas_starts, .ref dformulas_steps, .ref dformulas_stack])), (dformulas_starts, aI g 5 Fdformulas_starts), (dformulas_steps, aI g 640 Fdformulas_steps), (dformulas_stack, aI g 32 f_4), (dreasons, .inr (6, [.int dreasons_count, .ref dreasons_names, .ref dreasons_kinds, .ref dreasons_owners, .ref dreasons_froms, .ref dreasons_tos, .ref dreasons_rents, .ref dreasons_sorts])), (dreasons_kinds, aI g 8 Fdreasons_kinds), (dreasons_owners, aI g 8 Fdreasons_owners), (dreasons_froms, aI g 8 Fdreasons_froms), (dreasons_tos, aI g 8 Fdreasons_tos), (dreasons_sorts, aI g 8 Fdreasons_sorts)] H := hP.sub [0, 20, 1, 2, 3, 4, 5, 6, 7, 8, 9, 10, 11, 12, 13, 14, 15, 16, 17, 18, 19] rfl
    have hD9 : va_D A [(h, .inr (4, [.int bfirst, .int bsecond, .ref bbehind, .ref bmornings])), (bbehind, aI g 128 f_3), (st, .inr (9, [.int sday, .int sseed, .int salive, .int sstruck, .int sopen, .int sduels, .int slines, .ref scoins, .ref srented, .ref smornings, .ref shonours, .ref sused, .ref ssides, .ref slog])), (srented, aI g 6 Fsrented), (smornings, aI g 8 Fsmornings), (sused, aI g 8 Fsused), (ssides, aI g 16 Fssides), (la, .inr (2, [.ref dmen, .ref dformulas, .ref dreasons, .int dduels, .ref dduelSides, .ref dduelMornings, .int dhonour, .int ddraw, .ref dusesOfKind])), (dusesOfKind, aI g 4 FdusesOfKind), (dmen, .inr (3, [.int dmen_count, .ref dmen_names, .ref dmen_dies, .ref dmen_coins, .ref dmen_fathers])), (dmen_dies, aI g 6 Fdmen_dies), (dformulas, .inr (0, [.int dformulas_count, .int dformulas_units, .ref dformulas_names, .int dformulas_unitsOfThis, .int dformulas_length, .ref dformulas_starts, .ref dformulas_steps, .ref dformulas_stack])), (dformulas_starts, aI g 5 Fdformulas_starts), (dformulas_steps, aI g 640 Fdformulas_steps), (dformulas_stack, aI g 32 f_4), (dreasons, .inr (6, [.int dreasons_count, .ref dreasons_names, .ref dreasons_kinds, .ref dreasons_owners, .ref dreasons_froms, .ref dreasons_tos, .ref dreasons_rents, .ref dreasons_sorts])), (dreasons_kinds, aI g 8 Fdreasons_kinds), (dreasons_owners, aI g 8 Fdreasons_owners), (dreasons_froms, aI g 8 Fdreasons_froms), (dreasons_tos, aI g 8 Fdreasons_tos), (dreasons_sorts, aI g 8 Fdreasons_sorts)] := hD.sub [0, 20, 1, 2, 3, 4, 5, 6, 7, 8, 9, 10, 11, 12, 13, 14, 15, 16, 17, 18, 19] (by decide +kernel) rfl
    exact W.vret hx hb hr (fun t ht hW => ⟨⟨(f_3, f_4), rfl, trivial, by rw [ht]; exact hP9, by rw [hAe]; exact hD9⟩, hS.F ht⟩) hS.2.2 dX4_fillMoves_120
  · have f_10 := E_nle (rfl : x_7.toInt = _) (rfl : L_2.toInt = _) c_8
    refine lv_iload hx hb dX4_fillMoves_23 (lv_at hl 0 rfl) ?_
    refine k_iR (k_S (n := 1) ⟨hx, hb, hml, hown, hT⟩ hK hP hD [] rfl (by decide +kernel) (s_X4_duelOf l g H.size L_2 (by first | with_reducible assumption | omega)) (gS bw_217 bw_218 bw_219 bw_214) rfl rfl (by decide +kernel) ⟨by decide, by decide⟩ (fun _ _ _ _ _ => trivial) (fun _ _ _ => trivial) rfl rfl hl.1 (Nat.le_of_ble_eq_true rfl) dX4_fillMoves_25 ⟨by decide, by decide⟩) hP hS hA (fun r_11 _ H locs hw0 hP hS => ?_)
    have hw : 0 ≤ r_11.toInt ∧ r_11.toInt ≤ 7 := hw0
    clear hw0
    have w_12 := hw
    refine lv_istore (lv' := [(5, .int r_11), (4, .int L_2), (0, .ref h), (1, .ref la), (2, .ref st), (3, .int p0)]) hx hb dX4_fillMoves_28 hl (by decide) rfl (fun ls hl => ?_)
    refine lv_iload hx hb dX4_fillMoves_30 (lv_at hl 1 rfl) ?_
    refine k_iR (k_S (n := 1) ⟨hx, hb, hml, hown, hT⟩ hK hP hD [] rfl (by decide +kernel) (s_X4_reasonOf l g H.size L_2 (by first | with_reducible assumption | omega)) (gS bw_232 bw_233 bw_234 bw_216) rfl rfl (by decide +kernel) ⟨by decide, by decide⟩ (fun _ _ _ _ _ => trivial) (fun _ _ _ => trivial) rfl rfl hl.1 (Nat.le_of_ble_eq_true rfl) dX4_fillMoves_32 ⟨by decide, by decide⟩) hP hS hA (fun r_13 _ H locs hw0 hP hS => ?_)
    have hw : 0 ≤ r_13.toInt ∧ r_13.toInt ≤ 7 := hw0
    clear hw0
    have w_14 := hw
    refine lv_istore (lv' := [(6, .int r_13), (5, .int r_11), (4, .int L_2), (0, .ref h), (1, .ref la), (2, .ref st), (3, .int p0)]) hx hb dX4_fillMoves_35 hl (by decide) rfl (fun ls hl => ?_)
    refine lv_aload_n hx hb dX4_fillMoves_37 rfl (lv_at hl 5 rfl) ?_
    refine lv_iload hx hb dX4_fillMoves_38 (lv_at hl 1 rfl) ?_
    refine k_iR (k_V (n := 1) ⟨hx, hb, hml, hown, hT⟩ hK hP hD [1] rfl (by decide +kernel) (s_X9_isOpen l g H.size st sday sseed salive sstruck sopen sduels slines scoins srented smornings shonours sused ssides slog r_11 (by first | with_reducible assumption | omega) (by first | with_reducible assumption | omega) (by first | with_reducible assumption | omega)) (gV bw_248 bw_44 bw_45 bw_46 bw_32) rfl rfl (by decide +kernel) ⟨by decide, by decide⟩ (ci := 9) (q0 := 0) rfl rfl (fun _ _ _ _ _ => trivial) (fun _ _ _ => trivial) rfl rfl hl.1 (Nat.le_of_ble_eq_true rfl) dX4_fillMoves_40 ⟨by decide, by decide⟩) hP hS hA (fun r_15 _ H locs hw0 hP hS => ?_)
    have hw : 0 ≤ r_15.toInt ∧ r_15.toInt ≤ 1 := hw0
    clear hw0
    have w_16 := hw
    refine lv_if_eq (tgt := 61) hx hb dX4_fillMoves_43 (by decide) (fun c_17 => ?_) (fun c_17 => ?_)
    · have f_18 := E_eq (rfl : r_15.toInt = _) (by decide : (0 : Int32).toInt = 0) c_17
      refine lv_iconst (v := 0) hx hb dX4_fillMoves_61 (by decide) ?_
      refine lv_istore (lv' := [(7, .int 0), (6, .int r_13), (5, .int r_11), (4, .int L_2), (0, .ref h), (1, .ref la), (2, .ref st), (3, .int p0)]) hx hb dX4_fillMoves_62 hl (by decide) rfl (fun ls hl => ?_)
      refine lv_iload hx hb dX4_fillMoves_64 (lv_at hl 0 rfl) ?_
      refine lv_if_eq (tgt := 114) hx hb dX4_fillMoves_66 (by decide) (fun _ => ?_) (fun c9 => absurd (by decide) c9)
      obtain ⟨x_19, ex_19⟩ : ∃ y : Int32, y = L_2 + 1 := ⟨_, rfl⟩
      have fx_19 : x_19.toInt = L_2.toInt + 1 := by rw [ex_19]; exact I_add rfl (by decide) (by omega) (by omega)
      refine lv_iinc (v := x_19) (lv' := [(4, .int x_19), (7, .int 0), (6, .int r_13), (5, .int r_11), (0, .ref h), (1, .ref la), (2, .ref st), (3, .int p0)]) hx hb dX4_fillMoves_114 hl (k := 3) rfl (by rw [ex_19]; rfl) (by decide) rfl (fun ls hl => ?_)
      refine lv_goto (tgt := 11) hx hb dX4_fillMoves_117 (by decide) ?_
      exact ih (n - 1) (by omega) H locs ls ⟨x_19, f_3, f_4, (by first | with_reducible assumption | omega), by omega, hP.sub [0, 1, 2, 3, 4, 5, 6, 7, 8, 9, 10, 11, 12, 13, 14, 15, 16, 17, 18, 19, 20] rfl, hD.sub [0, 1, 2, 3, 4, 5, 6, 7, 8, 9, 10, 11, 12, 13, 14, 15, 16, 17, 18, 19, 20] (by decide +kernel) rfl, hS, lv_sub hl [0, 4, 5, 6, 7] rfl⟩
    · have f_20 := E_ne (rfl : r_15.toInt = _) (by decide : (0 : Int32).toInt = 0) c_17
      refine lv_aload_n hx hb dX4_fillMoves_46 rfl (lv_at hl 5 rfl) ?_
      refine lv_iload hx hb dX4_fillMoves_47 (lv_at hl 1 rfl) ?_
      refine lv_iload_n hx hb dX4_fillMoves_49 rfl (lv_at hl 6 rfl) ?_
      refine k_iR (k_V (n := 2) ⟨hx, hb, hml, hown, hT⟩ hK hP hD [1, 5] rfl (by decide +kernel) (s_X9_sideOf l g H.size st sday sseed salive sstruck sopen sduels slines scoins srented smornings shonours sused ssides Fssides slog r_11 p0 (by first | with_reducible assumption | omega) (by first | with_reducible assumption | omega) (by first | with_reducible assumption | omega) hh5 (by first | with_reducible assumption | omega)) (gV bw_249 bw_48 bw_49 bw_46 bw_37) rfl rfl (by decide +kernel) ⟨by decide, by decide⟩ (ci := 9) (q0 := 0) rfl rfl (fun _ _ _ _ _ => trivial) (fun _ _ _ => trivial) rfl rfl hl.1 (Nat.le_of_ble_eq_true rfl) dX4_fillMoves_50 ⟨by decide, by decide⟩) hP hS hA (fun r_21 _ H locs hw0 hP hS => ?_)
      have hw : (-1) ≤ r_21.toInt ∧ r_21.toInt ≤ 1 := hw0
      clear hw0
      have w_22 := hw
      refine lv_iconst (v := (-1)) hx hb dX4_fillMoves_53 (by decide) ?_
      refine lv_icmp_eq (tgt := 61) hx hb dX4_fillMoves_54 (by decide) (fun c_23 => ?_) (fun c_23 => ?_)
      · have f_24 := E_eq (rfl : r_21.toInt = _) (by decide : ((-1) : Int32).toInt = (-1)) c_23
        refine lv_iconst (v := 0) hx hb dX4_fillMoves_61 (by decide) ?_
        refine lv_istore (lv' := [(7, .int 0), (6, .int r_13), (5, .int r_11), (4, .int L_2), (0, .ref h), (1, .ref la), (2, .ref st), (3, .int p0)]) hx hb dX4_fillMoves_62 hl (by decide) rfl (fun ls hl => ?_)
        refine lv_iload hx hb dX4_fillMoves_64 (lv_at hl 0 rfl) ?_
        refine lv_if_eq (tgt := 114) hx hb dX4_fillMoves_66 (by decide) (fun _ => ?_) (fun c9 => absurd (by decide) c9)
        obtain ⟨x_25, ex_25⟩ : ∃ y : Int32, y = L_2 + 1 := ⟨_, rfl⟩
        have fx_25 : x_25.toInt = L_2.toInt + 1 := by rw [ex_25]; exact I_add rfl (by decide) (by omega) (by omega)
        refine lv_iinc (v := x_25) (lv' := [(4, .int x_25), (7, .int 0), (6, .int r_13), (5, .int r_11), (0, .ref h), (1, .ref la), (2, .ref st), (3, .int p0)]) hx hb dX4_fillMoves_114 hl (k := 3) rfl (by rw [ex_25]; rfl) (by decide) rfl (fun ls hl => ?_)
        refine lv_goto (tgt := 11) hx hb dX4_fillMoves_117 (by decide) ?_
        exact ih (n - 1) (by omega) H locs ls ⟨x_25, f_3, f_4, (by first | with_reducible assumption | omega), by omega, hP.sub [0, 1, 2, 3, 4, 5, 6, 7, 8, 9, 10, 11, 12, 13, 14, 15, 16, 17, 18, 19, 20] rfl, hD.sub [0, 1, 2, 3, 4, 5, 6, 7, 8, 9, 10, 11, 12, 13, 14, 15, 16, 17, 18, 19, 20] (by decide +kernel) rfl, hS, lv_sub hl [0, 4, 5, 6, 7] rfl⟩
      · have f_26 := E_ne (rfl : r_21.toInt = _) (by decide : ((-1) : Int32).toInt = (-1)) c_23
        refine lv_iconst (v := 1) hx hb dX4_fillMoves_57 (by decide) ?_
        refine lv_goto (tgt := 62) hx hb dX4_fillMoves_58 (by decide) ?_
        refine lv_istore (lv' := [(7, .int 1), (6, .int r_13), (5, .int r_11), (4, .int L_2), (0, .ref h), (1, .ref la), (2, .ref st), (3, .int p0)]) hx hb dX4_fillMoves_62 hl (by decide) rfl (fun ls hl => ?_)
        refine lv_iload hx hb dX4_fillMoves_64 (lv_at hl 0 rfl) ?_
        refine lv_if_eq (tgt := 114) hx hb dX4_fillMoves_66 (by decide) (fun c9 => absurd c9 (by decide)) (fun _ => ?_)
        refine lv_aload_n hx hb dX4_fillMoves_69 rfl (lv_at hl 5 rfl) ?_
        refine va_get (D := g.1) (ci := 2) (v := .ref dreasons) (C := RX2) (T := TX2) (N := 9) hx hb hT inF_X2 hown hK.1 hP 6 rfl rfl 2 (by decide) (hT _ bw_235) (fun _ h9 => h9) rfl dX4_fillMoves_70 ?_
        refine lv_iload hx hb dX4_fillMoves_73 (lv_at hl 1 rfl) ?_
        refine k_iR (k_V (n := 1) ⟨hx, hb, hml, hown, hT⟩ hK hP hD [14] rfl (by decide +kernel) (s_X6_has l g H.size dreasons dreasons_count dreasons_names dreasons_kinds dreasons_owners dreasons_froms dreasons_tos dreasons_rents dreasons_sorts r_13 (by first | with_reducible assumption | omega)) (gV bw_236 bw_237 bw_238 bw_185 bw_7) rfl rfl (by decide +kernel) ⟨by decide, by decide⟩ (ci := 6) (q0 := 0) rfl rfl (fun _ _ _ _ _ => trivial) (fun _ _ _ => trivial) rfl rfl hl.1 (Nat.le_of_ble_eq_true rfl) dX4_fillMoves_75 ⟨by decide, by decide⟩) hP hS hA (fun r_27 _ H locs hw0 hP hS => ?_)
        have hw : (r_27 = 1 ∧ (0 ≤ r_13.toInt ∧ r_13.toInt < dreasons_count.toInt)) ∨ (r_27 = 0) := hw0
        clear hw0
        rcases hw with ⟨e_29, w_28⟩ | e_30
        · subst e_29
          refine lv_if_eq (tgt := 114) hx hb dX4_fillMoves_78 (by decide) (fun c9 => absurd c9 (by decide)) (fun _ => ?_)
          refine lv_aload_n hx hb dX4_fillMoves_81 rfl (lv_at hl 6 rfl) ?_
          refine lv_aload_n hx hb dX4_fillMoves_82 rfl (lv_at hl 5 rfl) ?_
          refine lv_iload hx hb dX4_fillMoves_83 (lv_at hl 2 rfl) ?_
          refine lv_iload hx hb dX4_fillMoves_85 (lv_at hl 3 rfl) ?_
          refine k_iR (k_S (n := 1) ⟨hx, hb, hml, hown, hT⟩ hK hP hD [] rfl (by decide +kernel) (s_X4_sideOf l g H.size L_2 (by first | with_reducible assumption | omega)) (gS bw_250 bw_251 bw_252 bw_215) rfl rfl (by decide +kernel) ⟨by decide, by decide⟩ (fun _ _ _ _ _ => trivial) (fun _ _ _ => trivial) rfl rfl hl.1 (Nat.le_of_ble_eq_true rfl) dX4_fillMoves_87 ⟨by decide, by decide⟩) hP hS hA (fun r_31 _ H locs hw0 hP hS => ?_)
          have hw : 0 ≤ r_31.toInt ∧ r_31.toInt ≤ 1 := hw0
          clear hw0
          have w_32 := hw
          refine lv_iload hx hb dX4_fillMoves_90 (lv_at hl 1 rfl) ?_
          refine k_iR (k_V (n := 4) ⟨hx, hb, hml, hown, hT⟩ hK hP hD [1, 2, 3, 4, 5, 6, 8, 9, 14, 16, 17, 18, 19] rfl (by decide +kernel) (s_X9_mayUse l g H.size st sday sseed salive sstruck sopen sduels slines scoins srented Fsrented smornings Fsmornings shonours sused Fsused ssides Fssides slog la dduels dduelSides dduelMornings dhonour ddraw dusesOfKind dmen dmen_count dmen_names dmen_dies Fdmen_dies dmen_coins dmen_fathers dformulas dreasons dreasons_count dreasons_names dreasons_kinds dreasons_owners Fdreasons_owners dreasons_froms Fdreasons_froms dreasons_tos Fdreasons_tos dreasons_rents dreasons_sorts Fdreasons_sorts r_11 r_31 r_13 (by first | with_reducible assumption | omega) (by first | with_reducible assumption | omega) (by first | with_reducible assumption | omega) hh5 (by first | with_reducible assumption | omega) (by first | with_reducible assumption | omega) (by first | with_reducible assumption | omega) (by first | with_reducible assumption | omega) hh17 (by first | with_reducible assumption | omega) (by first | with_reducible assumption | omega) (by first | with_reducible assumption | omega)) (gV bw_253 bw_195 bw_196 bw_46 bw_192) rfl rfl (by decide +kernel) ⟨by decide, by decide⟩ (ci := 9) (q0 := 0) rfl rfl (fun _ _ _ _ _ => trivial) (fun _ _ _ => trivial) rfl rfl hl.1 (Nat.le_of_ble_eq_true rfl) dX4_fillMoves_92 ⟨by decide, by decide⟩) hP hS hA (fun r_33 _ H locs hw0 hP hS => ?_)
          have hw : 0 ≤ r_33.toInt ∧ r_33.toInt ≤ 1 := hw0
          clear hw0
          have w_34 := hw
          refine lv_if_eq (tgt := 114) hx hb dX4_fillMoves_95 (by decide) (fun c_35 => ?_) (fun c_35 => ?_)
          · have f_36 := E_eq (rfl : r_33.toInt = _) (by decide : (0 : Int32).toInt = 0) c_35
            obtain ⟨x_37, ex_37⟩ : ∃ y : Int32, y = L_2 + 1 := ⟨_, rfl⟩
            have fx_37 : x_37.toInt = L_2.toInt + 1 := by rw [ex_37]; exact I_add rfl (by decide) (by omega) (by omega)
            refine lv_iinc (v := x_37) (lv' := [(4, .int x_37), (7, .int 1), (6, .int r_13), (5, .int r_11), (0, .ref h), (1, .ref la), (2, .ref st), (3, .int p0)]) hx hb dX4_fillMoves_114 hl (k := 3) rfl (by rw [ex_37]; rfl) (by decide) rfl (fun ls hl => ?_)
            refine lv_goto (tgt := 11) hx hb dX4_fillMoves_117 (by decide) ?_
            exact ih (n - 1) (by omega) H locs ls ⟨x_37, f_3, f_4, (by first | with_reducible assumption | omega), by omega, hP.sub [0, 1, 2, 3, 4, 5, 6, 7, 8, 9, 10, 11, 12, 13, 14, 15, 16, 17, 18, 19, 20] rfl, hD.sub [0, 1, 2, 3, 4, 5, 6, 7, 8, 9, 10, 11, 12, 13, 14, 15, 16, 17, 18, 19, 20] (by decide +kernel) rfl, hS, lv_sub hl [0, 4, 5, 6, 7] rfl⟩
          · have f_38 := E_ne (rfl : r_33.toInt = _) (by decide : (0 : Int32).toInt = 0) c_35
            refine lv_aload_n hx hb dX4_fillMoves_98 rfl (lv_at hl 4 rfl) ?_
            refine va_get (D := g.1) (ci := 4) (v := .ref bbehind) (C := RX4) (T := TX4) (N := 4) hx hb hT inF_X4 hown hK.1 hP 0 rfl rfl 2 (by decide) (hT _ bw_221) (fun _ h9 => h9) rfl dX4_fillMoves_99 ?_
            refine lv_iload hx hb dX4_fillMoves_102 (lv_at hl 3 rfl) ?_
            refine lv_aload_n hx hb dX4_fillMoves_104 rfl (lv_at hl 6 rfl) ?_
            refine lv_aload_n hx hb dX4_fillMoves_105 rfl (lv_at hl 5 rfl) ?_
            refine lv_iload hx hb dX4_fillMoves_106 (lv_at hl 2 rfl) ?_
            refine lv_iload hx hb dX4_fillMoves_108 (lv_at hl 1 rfl) ?_
            refine k_i (wr := [(h, .inr (4, [.int bfirst, .int bsecond, .ref bbehind, .ref bmornings])), (srented, aI g 6 Fsrented), (ssides, aI g 16 Fssides), (dmen, .inr (3, [.int dmen_count, .ref dmen_names, .ref dmen_dies, .ref dmen_coins, .ref dmen_fathers])), (dmen_dies, aI g 6 Fdmen_dies), (dreasons_owners, aI g 8 Fdreasons_owners), (dreasons_froms, aI g 8 Fdreasons_froms), (dreasons_tos, aI g 8 Fdreasons_tos), (dreasons_sorts, aI g 8 Fdreasons_sorts), (bbehind, aI g 128 f_3)]) (k_V (n := 3) ⟨hx, hb, hml, hown, hT⟩ hK hP hD [1, 3, 4, 6, 7, 10, 11, 12, 13, 14, 15] rfl (by decide +kernel) (s_X9_putOffBy l g H.size st sday sseed salive sstruck sopen sduels slines scoins srented smornings Fsmornings shonours sused Fsused ssides slog la dduels dduelSides dduelMornings dhonour ddraw dusesOfKind FdusesOfKind dmen dformulas dformulas_count dformulas_units dformulas_names dformulas_unitsOfThis dformulas_length dformulas_starts Fdformulas_starts dformulas_steps Fdformulas_steps dformulas_stack f_4 dreasons dreasons_count dreasons_names dreasons_kinds Fdreasons_kinds dreasons_owners dreasons_froms dreasons_tos dreasons_rents dreasons_sorts r_11 r_13 (by first | with_reducible assumption | omega) (by first | with_reducible assumption | omega) (by first | with_reducible assumption | omega) (by first | with_reducible assumption | omega) (by first | with_reducible assumption | omega) (by first | with_reducible assumption | omega) (by first | with_reducible assumption | omega) (by first | with_reducible assumption | omega) (by first | with_reducible assumption | omega) hh14 (by first | with_reducible assumption | omega) hh16 (by first | with_reducible assumption | omega) (by first | with_reducible assumption | omega)) (gV bw_254 bw_206 bw_207 bw_46 bw_204) rfl rfl (by decide +kernel) ⟨by decide, by decide⟩ (ci := 9) (q0 := 0) rfl rfl (fun _ _ _ _ _ => trivial) (fun _ _ _ => trivial) rfl rfl hl.1 (Nat.le_of_ble_eq_true rfl) dX4_fillMoves_110 ⟨by decide, by decide⟩) hP hD hS hA [1, 3, 4, 6, 7, 10, 11, 12, 13, 14, 15] [0, 2, 5, 8, 9, 16, 17, 18, 19, 20] rfl rfl (by decide +kernel) (by decide +kernel) (fun r_39 => fun f_40 H locs hw0 hP hD hS => ?_)
            have hP : va_P g.1 vwCl [(h, .inr (4, [.int bfirst, .int bsecond, .ref bbehind, .ref bmornings])), (srented, aI g 6 Fsrented), (ssides, aI g 16 Fssides), (dmen, .inr (3, [.int dmen_count, .ref dmen_names, .ref dmen_dies, .ref dmen_coins, .ref dmen_fathers])), (dmen_dies, aI g 6 Fdmen_dies), (dreasons_owners, aI g 8 Fdreasons_owners), (dreasons_froms, aI g 8 Fdreasons_froms), (dreasons_tos, aI g 8 Fdreasons_tos), (dreasons_sorts, aI g 8 Fdreasons_sorts), (bbehind, aI g 128 f_3), (st, .inr (9, [.int sday, .int sseed, .int salive, .int sstruck, .int sopen, .int sduels, .int slines, .ref scoins, .ref srented, .ref smornings, .ref shonours, .ref sused, .ref ssides, .ref slog])), (smornings, aI g 8 Fsmornings), (sused, aI g 8 Fsused), (la, .inr (2, [.ref dmen, .ref dformulas, .ref dreasons, .int dduels, .ref dduelSides, .ref dduelMornings, .int dhonour, .int ddraw, .ref dusesOfKind])), (dusesOfKind, aI g 4 FdusesOfKind), (dformulas, .inr (0, [.int dformulas_count, .int dformulas_units, .ref dformulas_names, .int dformulas_unitsOfThis, .int dformulas_length, .ref dformulas_starts, .ref dformulas_steps, .ref dformulas_stack])), (dformulas_starts, aI g 5 Fdformulas_starts), (dformulas_steps, aI g 640 Fdformulas_steps), (dformulas_stack, aI g 32 f_40), (dreasons, .inr (6, [.int dreasons_count, .ref dreasons_names, .ref dreasons_kinds, .ref dreasons_owners, .ref dreasons_froms, .ref dreasons_tos, .ref dreasons_rents, .ref dreasons_sorts])), (dreasons_kinds, aI g 8 Fdreasons_kinds)] H := hP
            have hD : va_D A [(h, .inr (4, [.int bfirst, .int bsecond, .ref bbehind, .ref bmornings])), (srented, aI g 6 Fsrented), (ssides, aI g 16 Fssides), (dmen, .inr (3, [.int dmen_count, .ref dmen_names, .ref dmen_dies, .ref dmen_coins, .ref dmen_fathers])), (dmen_dies, aI g 6 Fdmen_dies), (dreasons_owners, aI g 8 Fdreasons_owners), (dreasons_froms, aI g 8 Fdreasons_froms), (dreasons_tos, aI g 8 Fdreasons_tos), (dreasons_sorts, aI g 8 Fdreasons_sorts), (bbehind, aI g 128 f_3), (st, .inr (9, [.int sday, .int sseed, .int salive, .int sstruck, .int sopen, .int sduels, .int slines, .ref scoins, .ref srented, .ref smornings, .ref shonours, .ref sused, .ref ssides, .ref slog])), (smornings, aI g 8 Fsmornings), (sused, aI g 8 Fsused), (la, .inr (2, [.ref dmen, .ref dformulas, .ref dreasons, .int dduels, .ref dduelSides, .ref dduelMornings, .int dhonour, .int ddraw, .ref dusesOfKind])), (dusesOfKind, aI g 4 FdusesOfKind), (dformulas, .inr (0, [.int dformulas_count, .int dformulas_units, .ref dformulas_names, .int dformulas_unitsOfThis, .int dformulas_length, .ref dformulas_starts, .ref dformulas_steps, .ref dformulas_stack])), (dformulas_starts, aI g 5 Fdformulas_starts), (dformulas_steps, aI g 640 Fdformulas_steps), (dformulas_stack, aI g 32 f_40), (dreasons, .inr (6, [.int dreasons_count, .ref dreasons_names, .ref dreasons_kinds, .ref dreasons_owners, .ref dreasons_froms, .ref dreasons_tos, .ref dreasons_rents, .ref dreasons_sorts])), (dreasons_kinds, aI g 8 Fdreasons_kinds)] := hD
            have hw : (-2147483648) ≤ r_39.toInt ∧ r_39.toInt ≤ 9999 := hw0
            clear hw0
            have w_41 := hw
            have h_42 : vp_in L_2 128 := vp_in_iff.mpr (by omega)
            refine va_iast hx hb hK.1 hP hD hS 9 1 rfl rfl (i := L_2) (x := r_39) h_42 dX4_fillMoves_113 (fun H locs hP hD hS => ?_)
            generalize upd f_3 (L_2 : Int32).toNatClampNeg r_39 = f_43 at hP hD
            have hP : va_P g.1 vwCl [(h, .inr (4, [.int bfirst, .int bsecond, .ref bbehind, .ref bmornings])), (srented, aI g 6 Fsrented), (ssides, aI g 16 Fssides), (dmen, .inr (3, [.int dmen_count, .ref dmen_names, .ref dmen_dies, .ref dmen_coins, .ref dmen_fathers])), (dmen_dies, aI g 6 Fdmen_dies), (dreasons_owners, aI g 8 Fdreasons_owners), (dreasons_froms, aI g 8 Fdreasons_froms), (dreasons_tos, aI g 8 Fdreasons_tos), (dreasons_sorts, aI g 8 Fdreasons_sorts), (bbehind, aI g 128 f_43), (st, .inr (9, [.int sday, .int sseed, .int salive, .int sstruck, .int sopen, .int sduels, .int slines, .ref scoins, .ref srented, .ref smornings, .ref shonours, .ref sused, .ref ssides, .ref slog])), (smornings, aI g 8 Fsmornings), (sused, aI g 8 Fsused), (la, .inr (2, [.ref dmen, .ref dformulas, .ref dreasons, .int dduels, .ref dduelSides, .ref dduelMornings, .int dhonour, .int ddraw, .ref dusesOfKind])), (dusesOfKind, aI g 4 FdusesOfKind), (dformulas, .inr (0, [.int dformulas_count, .int dformulas_units, .ref dformulas_names, .int dformulas_unitsOfThis, .int dformulas_length, .ref dformulas_starts, .ref dformulas_steps, .ref dformulas_stack])), (dformulas_starts, aI g 5 Fdformulas_starts), (dformulas_steps, aI g 640 Fdformulas_steps), (dformulas_stack, aI g 32 f_40), (dreasons, .inr (6, [.int dreasons_count, .ref dreasons_names, .ref dreasons_kinds, .ref dreasons_owners, .ref dreasons_froms, .ref dreasons_tos, .ref dreasons_rents, .ref dreasons_sorts])), (dreasons_kinds, aI g 8 Fdreasons_kinds)] H := hP
            have hD : va_D A [(h, .inr (4, [.int bfirst, .int bsecond, .ref bbehind, .ref bmornings])), (srented, aI g 6 Fsrented), (ssides, aI g 16 Fssides), (dmen, .inr (3, [.int dmen_count, .ref dmen_names, .ref dmen_dies, .ref dmen_coins, .ref dmen_fathers])), (dmen_dies, aI g 6 Fdmen_dies), (dreasons_owners, aI g 8 Fdreasons_owners), (dreasons_froms, aI g 8 Fdreasons_froms), (dreasons_tos, aI g 8 Fdreasons_tos), (dreasons_sorts, aI g 8 Fdreasons_sorts), (bbehind, aI g 128 f_43), (st, .inr (9, [.int sday, .int sseed, .int salive, .int sstruck, .int sopen, .int sduels, .int slines, .ref scoins, .ref srented, .ref smornings, .ref shonours, .ref sused, .ref ssides, .ref slog])), (smornings, aI g 8 Fsmornings), (sused, aI g 8 Fsused), (la, .inr (2, [.ref dmen, .ref dformulas, .ref dreasons, .int dduels, .ref dduelSides, .ref dduelMornings, .int dhonour, .int ddraw, .ref dusesOfKind])), (dusesOfKind, aI g 4 FdusesOfKind), (dformulas, .inr (0, [.int dformulas_count, .int dformulas_units, .ref dformulas_names, .int dformulas_unitsOfThis, .int dformulas_length, .ref dformulas_starts, .ref dformulas_steps, .ref dformulas_stack])), (dformulas_starts, aI g 5 Fdformulas_starts), (dformulas_steps, aI g 640 Fdformulas_steps), (dformulas_stack, aI g 32 f_40), (dreasons, .inr (6, [.int dreasons_count, .ref dreasons_names, .ref dreasons_kinds, .ref dreasons_owners, .ref dreasons_froms, .ref dreasons_tos, .ref dreasons_rents, .ref dreasons_sorts])), (dreasons_kinds, aI g 8 Fdreasons_kinds)] := hD
            obtain ⟨x_44, ex_44⟩ : ∃ y : Int32, y = L_2 + 1 := ⟨_, rfl⟩
            have fx_44 : x_44.toInt = L_2.toInt + 1 := by rw [ex_44]; exact I_add rfl (by decide) (by omega) (by omega)
            refine lv_iinc (v := x_44) (lv' := [(4, .int x_44), (7, .int 1), (6, .int r_13), (5, .int r_11), (0, .ref h), (1, .ref la), (2, .ref st), (3, .int p0)]) hx hb dX4_fillMoves_114 hl (k := 3) rfl (by rw [ex_44]; rfl) (by decide) rfl (fun ls hl => ?_)
            refine lv_goto (tgt := 11) hx hb dX4_fillMoves_117 (by decide) ?_
            exact ih (n - 1) (by omega) H locs ls ⟨x_44, f_43, f_40, (by first | with_reducible assumption | omega), by omega, hP.sub [0, 10, 1, 11, 12, 2, 13, 14, 3, 4, 15, 16, 17, 18, 19, 20, 5, 6, 7, 8, 9] rfl, hD.sub [0, 10, 1, 11, 12, 2, 13, 14, 3, 4, 15, 16, 17, 18, 19, 20, 5, 6, 7, 8, 9] (by decide +kernel) rfl, hS, lv_sub hl [0, 4, 5, 6, 7] rfl⟩
        · subst e_30
          refine lv_if_eq (tgt := 114) hx hb dX4_fillMoves_78 (by decide) (fun _ => ?_) (fun c9 => absurd (by decide) c9)
          obtain ⟨x_45, ex_45⟩ : ∃ y : Int32, y = L_2 + 1 := ⟨_, rfl⟩
          have fx_45 : x_45.toInt = L_2.toInt + 1 := by rw [ex_45]; exact I_add rfl (by decide) (by omega) (by omega)
          refine lv_iinc (v := x_45) (lv' := [(4, .int x_45), (7, .int 1), (6, .int r_13), (5, .int r_11), (0, .ref h), (1, .ref la), (2, .ref st), (3, .int p0)]) hx hb dX4_fillMoves_114 hl (k := 3) rfl (by rw [ex_45]; rfl) (by decide) rfl (fun ls hl => ?_)
          refine lv_goto (tgt := 11) hx hb dX4_fillMoves_117 (by decide) ?_
          exact ih (n - 1) (by omega) H locs ls ⟨x_45, f_3, f_4, (by first | with_reducible assumption | omega), by omega, hP.sub [0, 1, 2, 3, 4, 5, 6, 7, 8, 9, 10, 11, 12, 13, 14, 15, 16, 17, 18, 19, 20] rfl, hD.sub [0, 1, 2, 3, 4, 5, 6, 7, 8, 9, 10, 11, 12, 13, 14, 15, 16, 17, 18, 19, 20] (by decide +kernel) rfl, hS, lv_sub hl [0, 4, 5, 6, 7] rfl⟩

theorem bw_256 : Cond.fieldLink RX4 28 "DuelDelays$State" "mornings" "[I" ∈ gT := gT_tb 468 (by decide +kernel) (by decide +kernel)
theorem bw_257 : Cond.methodLink RX4 31 arraycopyName ∈ gT := gT_tb 1190 (by decide +kernel) (by decide +kernel)
theorem bw_258 : Cond.methodLink RX4 41 yX4_fillMoves ∈ gT := gT_tb 1192 (by decide +kernel) (by decide +kernel)
theorem bw_259 : Cond.instanceMethod yX4_fillMoves ∈ gT := gT_tb 1194 (by decide +kernel) (by decide +kernel)
theorem bw_260 : Cond.selects RX4 yX4_fillMoves yX4_fillMoves ∈ gT := gT_sl 45 (by decide +kernel) (by decide +kernel)
theorem bw_261 : Cond.methodLink RX4 45 yX4_findOne ∈ gT := gT_tb 1211 (by decide +kernel) (by decide +kernel)
theorem bw_262 : Cond.instanceMethod yX4_findOne ∈ gT := gT_tb 1213 (by decide +kernel) (by decide +kernel)
theorem bw_263 : Cond.selects RX4 yX4_findOne yX4_findOne ∈ gT := gT_sl 46 (by decide +kernel) (by decide +kernel)
theorem bw_264 : Cond.methodLink RX4 49 yX4_findTwo ∈ gT := gT_tb 1219 (by decide +kernel) (by decide +kernel)
theorem bw_265 : Cond.instanceMethod yX4_findTwo ∈ gT := gT_tb 1221 (by decide +kernel) (by decide +kernel)
theorem bw_266 : Cond.selects RX4 yX4_findTwo yX4_findTwo ∈ gT := gT_sl 48 (by decide +kernel) (by decide +kernel)
theorem bw_267 : Cond.code yX4_find cX4_find 4 (some .int) ∈ gT := gT_tb 1189 (by decide +kernel) (by decide +kernel)
theorem dX4_find_0 : decode cX4_find 0 = .ok (.aload_n 2, 1) := by decide +kernel
theorem dX4_find_1 : decode cX4_find 1 = .ok (.getfield 28, 3) := by decide +kernel
theorem dX4_find_4 : decode cX4_find 4 = .ok (.iconst 0, 1) := by decide +kernel
theorem dX4_find_5 : decode cX4_find 5 = .ok (.aload_n 0, 1) := by decide +kernel
theorem dX4_find_6 : decode cX4_find 6 = .ok (.getfield 15, 3) := by decide +kernel
theorem dX4_find_9 : decode cX4_find 9 = .ok (.iconst 0, 1) := by decide +kernel
theorem dX4_find_10 : decode cX4_find 10 = .ok (.bipush 8, 2) := by decide +kernel
theorem dX4_find_12 : decode cX4_find 12 = .ok (.invokestatic 31, 3) := by decide +kernel
theorem dX4_find_15 : decode cX4_find 15 = .ok (.aload_n 2, 1) := by decide +kernel
theorem dX4_find_16 : decode cX4_find 16 = .ok (.iload_n 3, 1) := by decide +kernel
theorem dX4_find_17 : decode cX4_find 17 = .ok (.aload_n 0, 1) := by decide +kernel
theorem dX4_find_18 : decode cX4_find 18 = .ok (.getfield 15, 3) := by decide +kernel
theorem dX4_find_21 : decode cX4_find 21 = .ok (.invokevirtual 37, 3) := by decide +kernel
theorem dX4_find_24 : decode cX4_find 24 = .ok (.ifCond .ne 5, 3) := by decide +kernel
theorem dX4_find_27 : decode cX4_find 27 = .ok (.iconst 0, 1) := by decide +kernel
theorem dX4_find_28 : decode cX4_find 28 = .ok (.ireturn, 1) := by decide +kernel
theorem dX4_find_29 : decode cX4_find 29 = .ok (.aload_n 0, 1) := by decide +kernel
theorem dX4_find_30 : decode cX4_find 30 = .ok (.aload_n 1, 1) := by decide +kernel
theorem dX4_find_31 : decode cX4_find 31 = .ok (.aload_n 2, 1) := by decide +kernel
theorem dX4_find_32 : decode cX4_find 32 = .ok (.iload_n 3, 1) := by decide +kernel
theorem dX4_find_33 : decode cX4_find 33 = .ok (.invokevirtual 41, 3) := by decide +kernel
theorem dX4_find_36 : decode cX4_find 36 = .ok (.aload_n 0, 1) := by decide +kernel
theorem dX4_find_37 : decode cX4_find 37 = .ok (.aload_n 2, 1) := by decide +kernel
theorem dX4_find_38 : decode cX4_find 38 = .ok (.iload_n 3, 1) := by decide +kernel
theorem dX4_find_39 : decode cX4_find 39 = .ok (.invokevirtual 45, 3) := by decide +kernel
theorem dX4_find_42 : decode cX4_find 42 = .ok (.ifCond .eq 5, 3) := by decide +kernel
theorem dX4_find_45 : decode cX4_find 45 = .ok (.iconst 1, 1) := by decide +kernel
theorem dX4_find_46 : decode cX4_find 46 = .ok (.ireturn, 1) := by decide +kernel
theorem dX4_find_47 : decode cX4_find 47 = .ok (.aload_n 0, 1) := by decide +kernel
theorem dX4_find_48 : decode cX4_find 48 = .ok (.aload_n 1, 1) := by decide +kernel
theorem dX4_find_49 : decode cX4_find 49 = .ok (.aload_n 2, 1) := by decide +kernel
theorem dX4_find_50 : decode cX4_find 50 = .ok (.iload_n 3, 1) := by decide +kernel
theorem dX4_find_51 : decode cX4_find 51 = .ok (.invokevirtual 49, 3) := by decide +kernel
theorem dX4_find_54 : decode cX4_find 54 = .ok (.ifCond .eq 7, 3) := by decide +kernel
theorem dX4_find_57 : decode cX4_find 57 = .ok (.iconst 2, 1) := by decide +kernel
theorem dX4_find_58 : decode cX4_find 58 = .ok (.goto 4, 3) := by decide +kernel
theorem dX4_find_61 : decode cX4_find 61 = .ok (.iconst (-1), 1) := by decide +kernel
theorem dX4_find_62 : decode cX4_find 62 = .ok (.ireturn, 1) := by decide +kernel
set_option maxHeartbeats 4000000 in
set_option maxRecDepth 100000 in
theorem s_X4_find (l : Launch) (g : GG) (sz : Nat) (h : Nat) (bfirst : Int32) (bsecond : Int32) (bbehind : Nat) (Fbbehind : Nat → Int32) (bmornings : Nat) (Fbmornings : Nat → Int32) (st : Nat) (sday : Int32) (sseed : Int32) (salive : Int32) (sstruck : Int32) (sopen : Int32) (sduels : Int32) (slines : Int32) (scoins : Nat) (srented : Nat) (Fsrented : Nat → Int32) (smornings : Nat) (Fsmornings : Nat → Int32) (shonours : Nat) (sused : Nat) (Fsused : Nat → Int32) (ssides : Nat) (Fssides : Nat → Int32) (slog : Nat) (la : Nat) (dduels : Int32) (dduelSides : Nat) (dduelMornings : Nat) (dhonour : Int32) (ddraw : Int32) (dusesOfKind : Nat) (FdusesOfKind : Nat → Int32) (dmen : Nat) (dmen_count : Int32) (dmen_names : Nat) (dmen_dies : Nat) (Fdmen_dies : Nat → Int32) (dmen_coins : Nat) (dmen_fathers : Nat) (dformulas : Nat) (dformulas_count : Int32) (dformulas_units : Int32) (dformulas_names : Nat) (dformulas_unitsOfThis : Int32) (dformulas_length : Int32) (dformulas_starts : Nat) (Fdformulas_starts : Nat → Int32) (dformulas_steps : Nat) (Fdformulas_steps : Nat → Int32) (dformulas_stack : Nat) (Fdformulas_stack : Nat → Int32) (dreasons : Nat) (dreasons_count : Int32) (dreasons_names : Nat) (dreasons_kinds : Nat) (Fdreasons_kinds : Nat → Int32) (dreasons_owners : Nat) (Fdreasons_owners : Nat → Int32) (dreasons_froms : Nat) (Fdreasons_froms : Nat → Int32) (dreasons_tos : Nat) (Fdreasons_tos : Nat → Int32) (dreasons_rents : Nat) (dreasons_sorts : Nat) (Fdreasons_sorts : Nat → Int32) (p0 : Int32) (hh0 : 0 ≤ bfirst.toInt ∧ bfirst.toInt ≤ 128) (hh1 : 0 ≤ bsecond.toInt ∧ bsecond.toInt ≤ 128) (hh2 : 0 ≤ sseed.toInt ∧ sseed.toInt ≤ 999) (hh3 : 0 ≤ sduels.toInt ∧ sduels.toInt ≤ 8) (hh4 : 0 ≤ slines.toInt ∧ slines.toInt ≤ 60) (hh5 : Rg 16 0 5 Fssides) (hh6 : 0 ≤ dduels.toInt ∧ dduels.toInt ≤ 6) (hh8 : 0 ≤ ddraw.toInt ∧ ddraw.toInt ≤ 999) (hh9 : 0 ≤ dmen_count.toInt ∧ dmen_count.toInt ≤ 6) (hh10 : 0 ≤ dformulas_count.toInt ∧ dformulas_count.toInt ≤ 4) (hh11 : 0 ≤ dformulas_units.toInt ∧ dformulas_units.toInt ≤ 60) (hh12 : 0 ≤ dformulas_unitsOfThis.toInt ∧ dformulas_unitsOfThis.toInt ≤ 30) (hh13 : 0 ≤ dformulas_length.toInt ∧ dformulas_length.toInt ≤ 640) (hh14 : Rg 5 0 640 Fdformulas_starts) (hh15 : 0 ≤ dreasons_count.toInt ∧ dreasons_count.toInt ≤ 8) (hh16 : Rg 8 0 3 Fdreasons_kinds) (hh17 : Rg 8 (-1) 5 Fdreasons_owners) : Met l yX4_find (.code yX4_find cX4_find 4 (some .int) :: gT) ({ frames := 6, cells := 0, slots := 0, locals := 148 }) (va_Pc [.ref h, .ref la, .ref st, .int p0] (Pst g sz [(h, .inr (4, [.int bfirst, .int bsecond, .ref bbehind, .ref bmornings])), (bbehind, aI g 128 Fbbehind), (bmornings, aI g 8 Fbmornings), (st, .inr (9, [.int sday, .int sseed, .int salive, .int sstruck, .int sopen, .int sduels, .int slines, .ref scoins, .ref srented, .ref smornings, .ref shonours, .ref sused, .ref ssides, .ref slog])), (srented, aI g 6 Fsrented), (smornings, aI g 8 Fsmornings), (sused, aI g 8 Fsused), (ssides, aI g 16 Fssides), (la, .inr (2, [.ref dmen, .ref dformulas, .ref dreasons, .int dduels, .ref dduelSides, .ref dduelMornings, .int dhonour, .int ddraw, .ref dusesOfKind])), (dusesOfKind, aI g 4 FdusesOfKind), (dmen, .inr (3, [.int dmen_count, .ref dmen_names, .ref dmen_dies, .ref dmen_coins, .ref dmen_fathers])), (dmen_dies, aI g 6 Fdmen_dies), (dformulas, .inr (0, [.int dformulas_count, .int dformulas_units, .ref dformulas_names, .int dformulas_unitsOfThis, .int dformulas_length, .ref dformulas_starts, .ref dformulas_steps, .ref dformulas_stack])), (dformulas_starts, aI g 5 Fdformulas_starts), (dformulas_steps, aI g 640 Fdformulas_steps), (dformulas_stack, aI g 32 Fdformulas_stack), (dreasons, .inr (6, [.int dreasons_count, .ref dreasons_names, .ref dreasons_kinds, .ref dreasons_owners, .ref dreasons_froms, .ref dreasons_tos, .ref dreasons_rents, .ref dreasons_sorts])), (dreasons_kinds, aI g 8 Fdreasons_kinds), (dreasons_owners, aI g 8 Fdreasons_owners), (dreasons_froms, aI g 8 Fdreasons_froms), (dreasons_tos, aI g 8 Fdreasons_tos), (dreasons_sorts, aI g 8 Fdreasons_sorts)] nX)) (va_Qi (fun (r : Int32) => fun ((o0_first, o1_second, o2_F, o3_F, o4_F) : Int32 × Int32 × (Nat → Int32) × (Nat → Int32) × (Nat → Int32)) => ((-1) ≤ r.toInt ∧ r.toInt ≤ 2) ∧ (0 ≤ o0_first.toInt ∧ o0_first.toInt ≤ 128) ∧ (0 ≤ o1_second.toInt ∧ o1_second.toInt ≤ 128)) (Qst g [(h, .inr (4, [.int bfirst, .int bsecond, .ref bbehind, .ref bmornings])), (bbehind, aI g 128 Fbbehind), (bmornings, aI g 8 Fbmornings), (st, .inr (9, [.int sday, .int sseed, .int salive, .int sstruck, .int sopen, .int sduels, .int slines, .ref scoins, .ref srented, .ref smornings, .ref shonours, .ref sused, .ref ssides, .ref slog])), (srented, aI g 6 Fsrented), (smornings, aI g 8 Fsmornings), (sused, aI g 8 Fsused), (ssides, aI g 16 Fssides), (la, .inr (2, [.ref dmen, .ref dformulas, .ref dreasons, .int dduels, .ref dduelSides, .ref dduelMornings, .int dhonour, .int ddraw, .ref dusesOfKind])), (dusesOfKind, aI g 4 FdusesOfKind), (dmen, .inr (3, [.int dmen_count, .ref dmen_names, .ref dmen_dies, .ref dmen_coins, .ref dmen_fathers])), (dmen_dies, aI g 6 Fdmen_dies), (dformulas, .inr (0, [.int dformulas_count, .int dformulas_units, .ref dformulas_names, .int dformulas_unitsOfThis, .int dformulas_length, .ref dformulas_starts, .ref dformulas_steps, .ref dformulas_stack])), (dformulas_starts, aI g 5 Fdformulas_starts), (dformulas_steps, aI g 640 Fdformulas_steps), (dformulas_stack, aI g 32 Fdformulas_stack), (dreasons, .inr (6, [.int dreasons_count, .ref dreasons_names, .ref dreasons_kinds, .ref dreasons_owners, .ref dreasons_froms, .ref dreasons_tos, .ref dreasons_rents, .ref dreasons_sorts])), (dreasons_kinds, aI g 8 Fdreasons_kinds), (dreasons_owners, aI g 8 Fdreasons_owners), (dreasons_froms, aI g 8 Fdreasons_froms), (dreasons_tos, aI g 8 Fdreasons_tos), (dreasons_sorts, aI g 8 Fdreasons_sorts)] sz (fun ((o0_first, o1_second, o2_F, o3_F, o4_F) : Int32 × Int32 × (Nat → Int32) × (Nat → Int32) × (Nat → Int32)) => [(h, .inr (4, [.int o0_first, .int o1_second, .ref bbehind, .ref bmornings])), (bbehind, aI g 128 o2_F), (bmornings, aI g 8 o3_F), (st, .inr (9, [.int sday, .int sseed, .int salive, .int sstruck, .int sopen, .int sduels, .int slines, .ref scoins, .ref srented, .ref smornings, .ref shonours, .ref sused, .ref ssides, .ref slog])), (srented, aI g 6 Fsrented), (smornings, aI g 8 Fsmornings), (sused, aI g 8 Fsused), (ssides, aI g 16 Fssides), (la, .inr (2, [.ref dmen, .ref dformulas, .ref dreasons, .int dduels, .ref dduelSides, .ref dduelMornings, .int dhonour, .int ddraw, .ref dusesOfKind])), (dusesOfKind, aI g 4 FdusesOfKind), (dmen, .inr (3, [.int dmen_count, .ref dmen_names, .ref dmen_dies, .ref dmen_coins, .ref dmen_fathers])), (dmen_dies, aI g 6 Fdmen_dies), (dformulas, .inr (0, [.int dformulas_count, .int dformulas_units, .ref dformulas_names, .int dformulas_unitsOfThis, .int dformulas_length, .ref dformulas_starts, .ref dformulas_steps, .ref dformulas_stack])), (dformulas_starts, aI g 5 Fdformulas_starts), (dformulas_steps, aI g 640 Fdformulas_steps), (dformulas_stack, aI g 32 o4_F), (dreasons, .inr (6, [.int dreasons_count, .ref dreasons_names, .ref dreasons_kinds, .ref dreasons_owners, .ref dreasons_froms, .ref dreasons_tos, .ref dreasons_rents, .ref dreasons_sorts])), (dreasons_kinds, aI g 8 Fdreasons_kinds), (dreasons_owners, aI g 8 Fdreasons_owners), (dreasons_froms, aI g 8 Fdreasons_froms), (dreasons_tos, aI g 8 Fdreasons_tos), (dreasons_sorts, aI g 8 Fdreasons_sorts)])) (va_A [(h, .inr (4, [.int bfirst, .int bsecond, .ref bbehind, .ref bmornings])), (bbehind, aI g 128 Fbbehind), (bmornings, aI g 8 Fbmornings), (st, .inr (9, [.int sday, .int sseed, .int salive, .int sstruck, .int sopen, .int sduels, .int slines, .ref scoins, .ref srented, .ref smornings, .ref shonours, .ref sused, .ref ssides, .ref slog])), (srented, aI g 6 Fsrented), (smornings, aI g 8 Fsmornings), (sused, aI g 8 Fsused), (ssides, aI g 16 Fssides), (la, .inr (2, [.ref dmen, .ref dformulas, .ref dreasons, .int dduels, .ref dduelSides, .ref dduelMornings, .int dhonour, .int ddraw, .ref dusesOfKind])), (dusesOfKind, aI g 4 FdusesOfKind), (dmen, .inr (3, [.int dmen_count, .ref dmen_names, .ref dmen_dies, .ref dmen_coins, .ref dmen_fathers])), (dmen_dies, aI g 6 Fdmen_dies), (dformulas, .inr (0, [.int dformulas_count, .int dformulas_units, .ref dformulas_names, .int dformulas_unitsOfThis, .int dformulas_length, .ref dformulas_starts, .ref dformulas_steps, .ref dformulas_stack])), (dformulas_starts, aI g 5 Fdformulas_starts), (dformulas_steps, aI g 640 Fdformulas_steps), (dformulas_stack, aI g 32 Fdformulas_stack), (dreasons, .inr (6, [.int dreasons_count, .ref dreasons_names, .ref dreasons_kinds, .ref dreasons_owners, .ref dreasons_froms, .ref dreasons_tos, .ref dreasons_rents, .ref dreasons_sorts])), (dreasons_kinds, aI g 8 Fdreasons_kinds), (dreasons_owners, aI g 8 Fdreasons_owners), (dreasons_froms, aI g 8 Fdreasons_froms), (dreasons_tos, aI g 8 Fdreasons_tos), (dreasons_sorts, aI g 8 Fdreasons_sorts)] sz)) 0 0 (va_A [(h, .inr (4, [.int bfirst, .int bsecond, .ref bbehind, .ref bmornings])), (bbehind, aI g 128 Fbbehind), (bmornings, aI g 8 Fbmornings), (st, .inr (9, [.int sday, .int sseed, .int salive, .int sstruck, .int sopen, .int sduels, .int slines, .ref scoins, .ref srented, .ref smornings, .ref shonours, .ref sused, .ref ssides, .ref slog])), (srented, aI g 6 Fsrented), (smornings, aI g 8 Fsmornings), (sused, aI g 8 Fsused), (ssides, aI g 16 Fssides), (la, .inr (2, [.ref dmen, .ref dformulas, .ref dreasons, .int dduels, .ref dduelSides, .ref dduelMornings, .int dhonour, .int ddraw, .ref dusesOfKind])), (dusesOfKind, aI g 4 FdusesOfKind), (dmen, .inr (3, [.int dmen_count, .ref dmen_names, .ref dmen_dies, .ref dmen_coins, .ref dmen_fathers])), (dmen_dies, aI g 6 Fdmen_dies), (dformulas, .inr (0, [.int dformulas_count, .int dformulas_units, .ref dformulas_names, .int dformulas_unitsOfThis, .int dformulas_length, .ref dformulas_starts, .ref dformulas_steps, .ref dformulas_stack])), (dformulas_starts, aI g 5 Fdformulas_starts), (dformulas_steps, aI g 640 Fdformulas_steps), (dformulas_stack, aI g 32 Fdformulas_stack), (dreasons, .inr (6, [.int dreasons_count, .ref dreasons_names, .ref dreasons_kinds, .ref dreasons_owners, .ref dreasons_froms, .ref dreasons_tos, .ref dreasons_rents, .ref dreasons_sorts])), (dreasons_kinds, aI g 8 Fdreasons_kinds), (dreasons_owners, aI g 8 Fdreasons_owners), (dreasons_froms, aI g 8 Fdreasons_froms), (dreasons_tos, aI g 8 Fdreasons_tos), (dreasons_sorts, aI g 8 Fdreasons_sorts)] sz) := by
  refine Met.ofW (cc := cX4_find) (maxL := 4) (ret := (some .int)) (by decide) rfl ?_
  intro p e s m args below meth c s₁ B hml hv
  obtain ⟨rfl, hsz, hP, hK, hD0, hX⟩ := hv
  have hx := B.exec
  have hb := B.bytes
  have hr := B.returns
  have hT : ∀ w ∈ gT, w.before _ s = true := fun w h => atoms_spec (ws := .code yX4_find cX4_find 4 (some .int) :: gT) B.pre w (List.mem_cons_of_mem _ h)
  have hown : s.vm.findClass RX4 = some m.cls := findClass_of_methodNamed B.named
  have hlocks := B.notSynchronized
  subst hsz
  have hD := hD0.self (sz := s.heap.size)
  generalize hAe : va_A [(h, .inr (4, [.int bfirst, .int bsecond, .ref bbehind, .ref bmornings])), (bbehind, aI g 128 Fbbehind), (bmornings, aI g 8 Fbmornings), (st, .inr (9, [.int sday, .int sseed, .int salive, .int sstruck, .int sopen, .int sduels, .int slines, .ref scoins, .ref srented, .ref smornings, .ref shonours, .ref sused, .ref ssides, .ref slog])), (srented, aI g 6 Fsrented), (smornings, aI g 8 Fsmornings), (sused, aI g 8 Fsused), (ssides, aI g 16 Fssides), (la, .inr (2, [.ref dmen, .ref dformulas, .ref dreasons, .int dduels, .ref dduelSides, .ref dduelMornings, .int dhonour, .int ddraw, .ref dusesOfKind])), (dusesOfKind, aI g 4 FdusesOfKind), (dmen, .inr (3, [.int dmen_count, .ref dmen_names, .ref dmen_dies, .ref dmen_coins, .ref dmen_fathers])), (dmen_dies, aI g 6 Fdmen_dies), (dformulas, .inr (0, [.int dformulas_count, .int dformulas_units, .ref dformulas_names, .int dformulas_unitsOfThis, .int dformulas_length, .ref dformulas_starts, .ref dformulas_steps, .ref dformulas_stack])), (dformulas_starts, aI g 5 Fdformulas_starts), (dformulas_steps, aI g 640 Fdformulas_steps), (dformulas_stack, aI g 32 Fdformulas_stack), (dreasons, .inr (6, [.int dreasons_count, .ref dreasons_names, .ref dreasons_kinds, .ref dreasons_owners, .ref dreasons_froms, .ref dreasons_tos, .ref dreasons_rents, .ref dreasons_sorts])), (dreasons_kinds, aI g 8 Fdreasons_kinds), (dreasons_owners, aI g 8 Fdreasons_owners), (dreasons_froms, aI g 8 Fdreasons_froms), (dreasons_tos, aI g 8 Fdreasons_tos), (dreasons_sorts, aI g 8 Fdreasons_sorts)] s.heap.size = A at hD ⊢
  have hA : ∀ q : Nat, s.heap.size ≤ q → A q := fun q h => by rw [← hAe]; exact Or.inr h
  have hS : va_S A s.heap s.heap [] := va_S.rf
  have hl := lv_entry ([.ref h, .ref la, .ref st, .int p0]) (n := 4) (Nat.le_of_ble_eq_true rfl)
  rw [lg_entry_eq]
  generalize (lg_sl ([.ref h, .ref la, .ref st, .int p0]) ++ List.replicate (4 - (lg_sl ([.ref h, .ref la, .ref st, .int p0])).length) Slot.unset).toArray = ls at hl ⊢
  have hl : lv_has ls 4 [(0, .ref h), (1, .ref la), (2, .ref st), (3, .int p0)] := hl
  refine p_nH (fun H hH => ?_)
  have hP : va_P g.1 vwCl [(h, .inr (4, [.int bfirst, .int bsecond, .ref bbehind, .ref bmornings])), (bbehind, aI g 128 Fbbehind), (bmornings, aI g 8 Fbmornings), (st, .inr (9, [.int sday, .int sseed, .int salive, .int sstruck, .int sopen, .int sduels, .int slines, .ref scoins, .ref srented, .ref smornings, .ref shonours, .ref sused, .ref ssides, .ref slog])), (srented, aI g 6 Fsrented), (smornings, aI g 8 Fsmornings), (sused, aI g 8 Fsused), (ssides, aI g 16 Fssides), (la, .inr (2, [.ref dmen, .ref dformulas, .ref dreasons, .int dduels, .ref dduelSides, .ref dduelMornings, .int dhonour, .int ddraw, .ref dusesOfKind])), (dusesOfKind, aI g 4 FdusesOfKind), (dmen, .inr (3, [.int dmen_count, .ref dmen_names, .ref dmen_dies, .ref dmen_coins, .ref dmen_fathers])), (dmen_dies, aI g 6 Fdmen_dies), (dformulas, .inr (0, [.int dformulas_count, .int dformulas_units, .ref dformulas_names, .int dformulas_unitsOfThis, .int dformulas_length, .ref dformulas_starts, .ref dformulas_steps, .ref dformulas_stack])), (dformulas_starts, aI g 5 Fdformulas_starts), (dformulas_steps, aI g 640 Fdformulas_steps), (dformulas_stack, aI g 32 Fdformulas_stack), (dreasons, .inr (6, [.int dreasons_count, .ref dreasons_names, .ref dreasons_kinds, .ref dreasons_owners, .ref dreasons_froms, .ref dreasons_tos, .ref dreasons_rents, .ref dreasons_sorts])), (dreasons_kinds, aI g 8 Fdreasons_kinds), (dreasons_owners, aI g 8 Fdreasons_owners), (dreasons_froms, aI g 8 Fdreasons_froms), (dreasons_tos, aI g 8 Fdreasons_tos), (dreasons_sorts, aI g 8 Fdreasons_sorts)] H := by rw [hH]; exact hP
  have hS : va_S A s.heap H [] := by rw [hH]; exact hS
  refine lv_aload_n hx hb dX4_find_0 rfl (lv_at hl 2 rfl) ?_
  refine va_get (D := g.1) (ci := 9) (v := .ref smornings) (C := RX9) (T := TX9) (N := 14) hx hb hT inF_X9 hown hK.1 hP 3 rfl rfl 9 (by decide) (hT _ bw_256) (fun _ h9 => h9) rfl dX4_find_1 ?_
  refine lv_iconst (v := 0) hx hb dX4_find_4 (by decide) ?_
  refine lv_aload_n hx hb dX4_find_5 rfl (lv_at hl 0 rfl) ?_
  refine va_get (D := g.1) (ci := 4) (v := .ref bmornings) (C := RX4) (T := TX4) (N := 4) hx hb hT inF_X4 hown hK.1 hP 0 rfl rfl 3 (by decide) (hT _ bw_220) (fun _ h9 => h9) rfl dX4_find_6 ?_
  refine lv_iconst (v := 0) hx hb dX4_find_9 (by decide) ?_
  refine lv_bipush (v := 8) hx hb dX4_find_10 (by decide) ?_
  refine va_copyi hx hb (hml.trans hl.1.symm) hown (hT _ bw_257) (hT _ bw_101) (hT _ bw_102) (hT _ bw_103) hK.1 hP hD hS 5 2 1 1 rfl rfl rfl rfl rfl (sp := 0) (dp := 0) (n := 8) (by decide) (by decide) (by decide) (by decide) (by decide) (fun _ _ => rfl) (Nat.le_of_ble_eq_true rfl) (Nat.le_of_ble_eq_true rfl) dX4_find_12 (fun H locs hP hD hS => ?_)
  generalize va_cpy Fsmornings Fbmornings (0 : Int32).toNatClampNeg (0 : Int32).toNatClampNeg (8 : Int32).toNatClampNeg = f_1 at hP hD
  have hP : va_P g.1 vwCl [(h, .inr (4, [.int bfirst, .int bsecond, .ref bbehind, .ref bmornings])), (bbehind, aI g 128 Fbbehind), (bmornings, aI g 8 f_1), (st, .inr (9, [.int sday, .int sseed, .int salive, .int sstruck, .int sopen, .int sduels, .int slines, .ref scoins, .ref srented, .ref smornings, .ref shonours, .ref sused, .ref ssides, .ref slog])), (srented, aI g 6 Fsrented), (smornings, aI g 8 Fsmornings), (sused, aI g 8 Fsused), (ssides, aI g 16 Fssides), (la, .inr (2, [.ref dmen, .ref dformulas, .ref dreasons, .int dduels, .ref dduelSides, .ref dduelMornings, .int dhonour, .int ddraw, .ref dusesOfKind])), (dusesOfKind, aI g 4 FdusesOfKind), (dmen, .inr (3, [.int dmen_count, .ref dmen_names, .ref dmen_dies, .ref dmen_coins, .ref dmen_fathers])), (dmen_dies, aI g 6 Fdmen_dies), (dformulas, .inr (0, [.int dformulas_count, .int dformulas_units, .ref dformulas_names, .int dformulas_unitsOfThis, .int dformulas_length, .ref dformulas_starts, .ref dformulas_steps, .ref dformulas_stack])), (dformulas_starts, aI g 5 Fdformulas_starts), (dformulas_steps, aI g 640 Fdformulas_steps), (dformulas_stack, aI g 32 Fdformulas_stack), (dreasons, .inr (6, [.int dreasons_count, .ref dreasons_names, .ref dreasons_kinds, .ref dreasons_owners, .ref dreasons_froms, .ref dreasons_tos, .ref dreasons_rents, .ref dreasons_sorts])), (dreasons_kinds, aI g 8 Fdreasons_kinds), (dreasons_owners, aI g 8 Fdreasons_owners), (dreasons_froms, aI g 8 Fdreasons_froms), (dreasons_tos, aI g 8 Fdreasons_tos), (dreasons_sorts, aI g 8 Fdreasons_sorts)] H := hP
  have hD : va_D A [(h, .inr (4, [.int bfirst, .int bsecond, .ref bbehind, .ref bmornings])), (bbehind, aI g 128 Fbbehind), (bmornings, aI g 8 f_1), (st, .inr (9, [.int sday, .int sseed, .int salive, .int sstruck, .int sopen, .int sduels, .int slines, .ref scoins, .ref srented, .ref smornings, .ref shonours, .ref sused, .ref ssides, .ref slog])), (srented, aI g 6 Fsrented), (smornings, aI g 8 Fsmornings), (sused, aI g 8 Fsused), (ssides, aI g 16 Fssides), (la, .inr (2, [.ref dmen, .ref dformulas, .ref dreasons, .int dduels, .ref dduelSides, .ref dduelMornings, .int dhonour, .int ddraw, .ref dusesOfKind])), (dusesOfKind, aI g 4 FdusesOfKind), (dmen, .inr (3, [.int dmen_count, .ref dmen_names, .ref dmen_dies, .ref dmen_coins, .ref dmen_fathers])), (dmen_dies, aI g 6 Fdmen_dies), (dformulas, .inr (0, [.int dformulas_count, .int dformulas_units, .ref dformulas_names, .int dformulas_unitsOfThis, .int dformulas_length, .ref dformulas_starts, .ref dformulas_steps, .ref dformulas_stack])), (dformulas_starts, aI g 5 Fdformulas_starts), (dformulas_steps, aI g 640 Fdformulas_steps), (dformulas_stack, aI g 32 Fdformulas_stack), (dreasons, .inr (6, [.int dreasons_count, .ref dreasons_names, .ref dreasons_kinds, .ref dreasons_owners, .ref dreasons_froms, .ref dreasons_tos, .ref dreasons_rents, .ref dreasons_sorts])), (dreasons_kinds, aI g 8 Fdreasons_kinds), (dreasons_owners, aI g 8 Fdreasons_owners), (dreasons_froms, aI g 8 Fdreasons_froms), (dreasons_tos, aI g 8 Fdreasons_tos), (dreasons_sorts, aI g 8 Fdreasons_sorts)] := hD
  refine lv_aload_n hx hb dX4_find_15 rfl (lv_at hl 2 rfl) ?_
  refine lv_iload_n hx hb dX4_find_16 rfl (lv_at hl 3 rfl) ?_
  refine lv_aload_n hx hb dX4_find_17 rfl (lv_at hl 0 rfl) ?_
  refine va_get (D := g.1) (ci := 4) (v := .ref bmornings) (C := RX4) (T := TX4) (N := 4) hx hb hT inF_X4 hown hK.1 hP 0 rfl rfl 3 (by decide) (hT _ bw_220) (fun _ h9 => h9) rfl dX4_find_18 ?_
  refine k_iR (k_V (n := 2) ⟨hx, hb, hml, hown, hT⟩ hK hP hD [3, 7, 2] rfl (by decide +kernel) (s_X9_clashes l g H.size st sday sseed salive sstruck sopen sduels slines scoins srented smornings shonours sused ssides Fssides slog bmornings f_1 p0 (by first | with_reducible assumption | omega) (by first | with_reducible assumption | omega) (by first | with_reducible assumption | omega) hh5) (gV bw_222 bw_223 bw_224 bw_46 bw_86) rfl rfl (by decide +kernel) ⟨by decide, by decide⟩ (ci := 9) (q0 := 0) rfl rfl (fun _ _ _ _ _ => trivial) (fun _ _ _ => trivial) rfl rfl hl.1 (Nat.le_of_ble_eq_true rfl) dX4_find_21 ⟨by decide, by decide⟩) hP hS hA (fun r_2 _ H locs hw0 hP hS => ?_)
  refine lv_if_ne (tgt := 29) hx hb dX4_find_24 (by decide) (fun c_3 => ?_) (fun c_3 => ?_)
  · have f_4 := E_ne (rfl : r_2.toInt = _) (by decide : (0 : Int32).toInt = 0) c_3
    refine lv_aload_n hx hb dX4_find_29 rfl (lv_at hl 0 rfl) ?_
    refine lv_aload_n hx hb dX4_find_30 rfl (lv_at hl 1 rfl) ?_
    refine lv_aload_n hx hb dX4_find_31 rfl (lv_at hl 2 rfl) ?_
    refine lv_iload_n hx hb dX4_find_32 rfl (lv_at hl 3 rfl) ?_
    refine k_v (wr := [(bmornings, aI g 8 f_1)]) (k_V (n := 3) ⟨hx, hb, hml, hown, hT⟩ hK hP hD [0, 1, 3, 4, 5, 6, 7, 8, 9, 10, 11, 12, 13, 14, 15, 16, 17, 18, 19, 20, 21] rfl (by decide +kernel) (s_X4_fillMoves l g H.size h bfirst bsecond bbehind Fbbehind bmornings st sday sseed salive sstruck sopen sduels slines scoins srented Fsrented smornings Fsmornings shonours sused Fsused ssides Fssides slog la dduels dduelSides dduelMornings dhonour ddraw dusesOfKind FdusesOfKind dmen dmen_count dmen_names dmen_dies Fdmen_dies dmen_coins dmen_fathers dformulas dformulas_count dformulas_units dformulas_names dformulas_unitsOfThis dformulas_length dformulas_starts Fdformulas_starts dformulas_steps Fdformulas_steps dformulas_stack Fdformulas_stack dreasons dreasons_count dreasons_names dreasons_kinds Fdreasons_kinds dreasons_owners Fdreasons_owners dreasons_froms Fdreasons_froms dreasons_tos Fdreasons_tos dreasons_rents dreasons_sorts Fdreasons_sorts p0 (by first | with_reducible assumption | omega) (by first | with_reducible assumption | omega) (by first | with_reducible assumption | omega) (by first | with_reducible assumption | omega) (by first | with_reducible assumption | omega) hh5 (by first | with_reducible assumption | omega) (by first | with_reducible assumption | omega) (by first | with_reducible assumption | omega) (by first | with_reducible assumption | omega) (by first | with_reducible assumption | omega) (by first | with_reducible assumption | omega) (by first | with_reducible assumption | omega) hh14 (by first | with_reducible assumption | omega) hh16 hh17) (gV bw_258 bw_259 bw_260 bw_230 bw_255) rfl rfl (by decide +kernel) ⟨by decide, by decide⟩ (ci := 4) (q0 := 0) rfl rfl (fun _ _ _ _ _ => trivial) (fun _ _ _ => trivial) rfl rfl hl.1 (Nat.le_of_ble_eq_true rfl) dX4_find_33 ⟨by decide, by decide⟩) hP hD hS hA [0, 1, 3, 4, 5, 6, 7, 8, 9, 10, 11, 12, 13, 14, 15, 16, 17, 18, 19, 20, 21] [2] rfl rfl (by decide +kernel) (by decide +kernel) (pr_all fun f_5 => fun f_6 H locs hw0 hP hD hS => ?_)
    have hP : va_P g.1 vwCl [(bmornings, aI g 8 f_1), (h, .inr (4, [.int bfirst, .int bsecond, .ref bbehind, .ref bmornings])), (bbehind, aI g 128 f_5), (st, .inr (9, [.int sday, .int sseed, .int salive, .int sstruck, .int sopen, .int sduels, .int slines, .ref scoins, .ref srented, .ref smornings, .ref shonours, .ref sused, .ref ssides, .ref slog])), (srented, aI g 6 Fsrented), (smornings, aI g 8 Fsmornings), (sused, aI g 8 Fsused), (ssides, aI g 16 Fssides), (la, .inr (2, [.ref dmen, .ref dformulas, .ref dreasons, .int dduels, .ref dduelSides, .ref dduelMornings, .int dhonour, .int ddraw, .ref dusesOfKind])), (dusesOfKind, aI g 4 FdusesOfKind), (dmen, .inr (3, [.int dmen_count, .ref dmen_names, .ref dmen_dies, .ref dmen_coins, .ref dmen_fathers])), (dmen_dies, aI g 6 Fdmen_dies), (dformulas, .inr (0, [.int dformulas_count, .int dformulas_units, .ref dformulas_names, .int dformulas_unitsOfThis, .int dformulas_length, .ref dformulas_starts, .ref dformulas_steps, .ref dformulas_stack])), (dformulas_starts, aI g 5 Fdformulas_starts), (dformulas_steps, aI g 640 Fdformulas_steps), (dformulas_stack, aI g 32 f_6), (dreasons, .inr (6, [.int dreasons_count, .ref dreasons_names, .ref dreasons_kinds, .ref dreasons_owners, .ref dreasons_froms, .ref dreasons_tos, .ref dreasons_rents, .ref dreasons_sorts])), (dreasons_kinds, aI g 8 Fdreasons_kinds), (dreasons_owners, aI g 8 Fdreasons_owners), (dreasons_froms, aI g 8 Fdreasons_froms), (dreasons_tos, aI g 8 Fdreasons_tos), (dreasons_sorts, aI g 8 Fdreasons_sorts)] H := hP
    have hD : va_D A [(bmornings, aI g 8 f_1), (h, .inr (4, [.int bfirst, .int bsecond, .ref bbehind, .ref bmornings])), (bbehind, aI g 128 f_5), (st, .inr (9, [.int sday, .int sseed, .int salive, .int sstruck, .int sopen, .int sduels, .int slines, .ref scoins, .ref srented, .ref smornings, .ref shonours, .ref sused, .ref ssides, .ref slog])), (srented, aI g 6 Fsrented), (smornings, aI g 8 Fsmornings), (sused, aI g 8 Fsused), (ssides, aI g 16 Fssides), (la, .inr (2, [.ref dmen, .ref dformulas, .ref dreasons, .int dduels, .ref dduelSides, .ref dduelMornings, .int dhonour, .int ddraw, .ref dusesOfKind])), (dusesOfKind, aI g 4 FdusesOfKind), (dmen, .inr (3, [.int dmen_count, .ref dmen_names, .ref dmen_dies, .ref dmen_coins, .ref dmen_fathers])), (dmen_dies, aI g 6 Fdmen_dies), (dformulas, .inr (0, [.int dformulas_count, .int dformulas_units, .ref dformulas_names, .int dformulas_unitsOfThis, .int dformulas_length, .ref dformulas_starts, .ref dformulas_steps, .ref dformulas_stack])), (dformulas_starts, aI g 5 Fdformulas_starts), (dformulas_steps, aI g 640 Fdformulas_steps), (dformulas_stack, aI g 32 f_6), (dreasons, .inr (6, [.int dreasons_count, .ref dreasons_names, .ref dreasons_kinds, .ref dreasons_owners, .ref dreasons_froms, .ref dreasons_tos, .ref dreasons_rents, .ref dreasons_sorts])), (dreasons_kinds, aI g 8 Fdreasons_kinds), (dreasons_owners, aI g 8 Fdreasons_owners), (dreasons_froms, aI g 8 Fdreasons_froms), (dreasons_tos, aI g 8 Fdreasons_tos), (dreasons_sorts, aI g 8 Fdreasons_sorts)] := hD
    refine lv_aload_n hx hb dX4_find_36 rfl (lv_at hl 0 rfl) ?_
    refine lv_aload_n hx hb dX4_find_37 rfl (lv_at hl 2 rfl) ?_
    refine lv_iload_n hx hb dX4_find_38 rfl (lv_at hl 3 rfl) ?_
    refine k_i (wr := [(srented, aI g 6 Fsrented), (smornings, aI g 8 Fsmornings), (sused, aI g 8 Fsused), (la, .inr (2, [.ref dmen, .ref dformulas, .ref dreasons, .int dduels, .ref dduelSides, .ref dduelMornings, .int dhonour, .int ddraw, .ref dusesOfKind])), (dusesOfKind, aI g 4 FdusesOfKind), (dmen, .inr (3, [.int dmen_count, .ref dmen_names, .ref dmen_dies, .ref dmen_coins, .ref dmen_fathers])), (dmen_dies, aI g 6 Fdmen_dies), (dformulas, .inr (0, [.int dformulas_count, .int dformulas_units, .ref dformulas_names, .int dformulas_unitsOfThis, .int dformulas_length, .ref dformulas_starts, .ref dformulas_steps, .ref dformulas_stack])), (dformulas_starts, aI g 5 Fdformulas_starts), (dformulas_steps, aI g 640 Fdformulas_steps), (dformulas_stack, aI g 32 f_6), (dreasons, .inr (6, [.int dreasons_count, .ref dreasons_names, .ref dreasons_kinds, .ref dreasons_owners, .ref dreasons_froms, .ref dreasons_tos, .ref dreasons_rents, .ref dreasons_sorts])), (dreasons_kinds, aI g 8 Fdreasons_kinds), (dreasons_owners, aI g 8 Fdreasons_owners), (dreasons_froms, aI g 8 Fdreasons_froms), (dreasons_tos, aI g 8 Fdreasons_tos), (dreasons_sorts, aI g 8 Fdreasons_sorts)]) (k_V (n := 2) ⟨hx, hb, hml, hown, hT⟩ hK hP hD [1, 2, 0, 3, 7] rfl (by decide +kernel) (s_X4_findOne l g H.size h bfirst bsecond bbehind f_5 bmornings f_1 st sday sseed salive sstruck sopen sduels slines scoins srented smornings shonours sused ssides Fssides slog p0 (by first | with_reducible assumption | omega) (by first | with_reducible assumption | omega) (by first | with_reducible assumption | omega) (by first | with_reducible assumption | omega) (by first | with_reducible assumption | omega) hh5) (gV bw_261 bw_262 bw_263 bw_230 bw_231) rfl rfl (by decide +kernel) ⟨by decide, by decide⟩ (ci := 4) (q0 := 0) rfl rfl (fun _ _ _ _ _ => trivial) (fun _ _ _ => trivial) rfl rfl hl.1 (Nat.le_of_ble_eq_true rfl) dX4_find_39 ⟨by decide, by decide⟩) hP hD hS hA [1, 2, 0, 3, 7] [4, 5, 6, 8, 9, 10, 11, 12, 13, 14, 15, 16, 17, 18, 19, 20, 21] rfl rfl (by decide +kernel) (by decide +kernel) (fun r_7 => pr_all fun y_8 => fun f_9 H locs hw0 hP hD hS => ?_)
    have hP : va_P g.1 vwCl [(srented, aI g 6 Fsrented), (smornings, aI g 8 Fsmornings), (sused, aI g 8 Fsused), (la, .inr (2, [.ref dmen, .ref dformulas, .ref dreasons, .int dduels, .ref dduelSides, .ref dduelMornings, .int dhonour, .int ddraw, .ref dusesOfKind])), (dusesOfKind, aI g 4 FdusesOfKind), (dmen, .inr (3, [.int dmen_count, .ref dmen_names, .ref dmen_dies, .ref dmen_coins, .ref dmen_fathers])), (dmen_dies, aI g 6 Fdmen_dies), (dformulas, .inr (0, [.int dformulas_count, .int dformulas_units, .ref dformulas_names, .int dformulas_unitsOfThis, .int dformulas_length, .ref dformulas_starts, .ref dformulas_steps, .ref dformulas_stack])), (dformulas_starts, aI g 5 Fdformulas_starts), (dformulas_steps, aI g 640 Fdformulas_steps), (dformulas_stack, aI g 32 f_6), (dreasons, .inr (6, [.int dreasons_count, .ref dreasons_names, .ref dreasons_kinds, .ref dreasons_owners, .ref dreasons_froms, .ref dreasons_tos, .ref dreasons_rents, .ref dreasons_sorts])), (dreasons_kinds, aI g 8 Fdreasons_kinds), (dreasons_owners, aI g 8 Fdreasons_owners), (dreasons_froms, aI g 8 Fdreasons_froms), (dreasons_tos, aI g 8 Fdreasons_tos), (dreasons_sorts, aI g 8 Fdreasons_sorts), (h, .inr (4, [.int y_8, .int bsecond, .ref bbehind, .ref bmornings])), (bbehind, aI g 128 f_5), (bmornings, aI g 8 f_9), (st, .inr (9, [.int sday, .int sseed, .int salive, .int sstruck, .int sopen, .int sduels, .int slines, .ref scoins, .ref srented, .ref smornings, .ref shonours, .ref sused, .ref ssides, .ref slog])), (ssides, aI g 16 Fssides)] H := hP
    have hD : va_D A [(srented, aI g 6 Fsrented), (smornings, aI g 8 Fsmornings), (sused, aI g 8 Fsused), (la, .inr (2, [.ref dmen, .ref dformulas, .ref dreasons, .int dduels, .ref dduelSides, .ref dduelMornings, .int dhonour, .int ddraw, .ref dusesOfKind])), (dusesOfKind, aI g 4 FdusesOfKind), (dmen, .inr (3, [.int dmen_count, .ref dmen_names, .ref dmen_dies, .ref dmen_coins, .ref dmen_fathers])), (dmen_dies, aI g 6 Fdmen_dies), (dformulas, .inr (0, [.int dformulas_count, .int dformulas_units, .ref dformulas_names, .int dformulas_unitsOfThis, .int dformulas_length, .ref dformulas_starts, .ref dformulas_steps, .ref dformulas_stack])), (dformulas_starts, aI g 5 Fdformulas_starts), (dformulas_steps, aI g 640 Fdformulas_steps), (dformulas_stack, aI g 32 f_6), (dreasons, .inr (6, [.int dreasons_count, .ref dreasons_names, .ref dreasons_kinds, .ref dreasons_owners, .ref dreasons_froms, .ref dreasons_tos, .ref dreasons_rents, .ref dreasons_sorts])), (dreasons_kinds, aI g 8 Fdreasons_kinds), (dreasons_owners, aI g 8 Fdreasons_owners), (dreasons_froms, aI g 8 Fdreasons_froms), (dreasons_tos, aI g 8 Fdreasons_tos), (dreasons_sorts, aI g 8 Fdreasons_sorts), (h, .inr (4, [.int y_8, .int bsecond, .ref bbehind, .ref bmornings])), (bbehind, aI g 128 f_5), (bmornings, aI g 8 f_9), (st, .inr (9, [.int sday, .int sseed, .int salive, .int sstruck, .int sopen, .int sduels, .int slines, .ref scoins, .ref srented, .ref smornings, .ref shonours, .ref sused, .ref ssides, .ref slog])), (ssides, aI g 16 Fssides)] := hD
    have hw : (0 ≤ r_7.toInt ∧ r_7.toInt ≤ 1) ∧ (0 ≤ y_8.toInt ∧ y_8.toInt ≤ 128) := hw0
    clear hw0
    have w_10 := hw.1
    have w_11 := hw.2
    clear hw
    refine lv_if_eq (tgt := 47) hx hb dX4_find_42 (by decide) (fun c_12 => ?_) (fun c_12 => ?_)
    · have f_13 := E_eq (rfl : r_7.toInt = _) (by decide : (0 : Int32).toInt = 0) c_12
      refine lv_aload_n hx hb dX4_find_47 rfl (lv_at hl 0 rfl) ?_
      refine lv_aload_n hx hb dX4_find_48 rfl (lv_at hl 1 rfl) ?_
      refine lv_aload_n hx hb dX4_find_49 rfl (lv_at hl 2 rfl) ?_
      refine lv_iload_n hx hb dX4_find_50 rfl (lv_at hl 3 rfl) ?_
      refine k_i (wr := [(srented, aI g 6 Fsrented), (smornings, aI g 8 Fsmornings), (sused, aI g 8 Fsused), (dusesOfKind, aI g 4 FdusesOfKind), (dmen, .inr (3, [.int dmen_count, .ref dmen_names, .ref dmen_dies, .ref dmen_coins, .ref dmen_fathers])), (dmen_dies, aI g 6 Fdmen_dies), (dformulas, .inr (0, [.int dformulas_count, .int dformulas_units, .ref dformulas_names, .int dformulas_unitsOfThis, .int dformulas_length, .ref dformulas_starts, .ref dformulas_steps, .ref dformulas_stack])), (dformulas_starts, aI g 5 Fdformulas_starts), (dformulas_steps, aI g 640 Fdformulas_steps), (dformulas_stack, aI g 32 f_6), (dreasons_kinds, aI g 8 Fdreasons_kinds), (dreasons_owners, aI g 8 Fdreasons_owners), (dreasons_froms, aI g 8 Fdreasons_froms), (dreasons_tos, aI g 8 Fdreasons_tos)]) (k_V (n := 3) ⟨hx, hb, hml, hown, hT⟩ hK hP hD [17, 18, 19, 20, 21, 3, 11, 16] rfl (by decide +kernel) (s_X4_findTwo l g H.size h y_8 bsecond bbehind f_5 bmornings f_9 st sday sseed salive sstruck sopen sduels slines scoins srented smornings shonours sused ssides Fssides slog la dduels dduelSides dduelMornings dhonour ddraw dusesOfKind dmen dformulas dreasons dreasons_count dreasons_names dreasons_kinds dreasons_owners dreasons_froms dreasons_tos dreasons_rents dreasons_sorts Fdreasons_sorts p0 (by first | with_reducible assumption | omega) (by first | with_reducible assumption | omega) (by first | with_reducible assumption | omega) (by first | with_reducible assumption | omega) (by first | with_reducible assumption | omega) hh5 (by first | with_reducible assumption | omega) (by first | with_reducible assumption | omega) (by first | with_reducible assumption | omega)) (gV bw_264 bw_265 bw_266 bw_230 bw_245) rfl rfl (by decide +kernel) ⟨by decide, by decide⟩ (ci := 4) (q0 := 0) rfl rfl (fun _ _ _ _ _ => trivial) (fun _ _ _ => trivial) rfl rfl hl.1 (Nat.le_of_ble_eq_true rfl) dX4_find_51 ⟨by decide, by decide⟩) hP hD hS hA [17, 18, 19, 20, 21, 3, 11, 16] [0, 1, 2, 4, 5, 6, 7, 8, 9, 10, 12, 13, 14, 15] rfl rfl (by decide +kernel) (by decide +kernel) (fun r_14 => pr_all fun y_15 => pr_all fun y_16 => fun f_17 H locs hw0 hP hD hS => ?_)
      have hP : va_P g.1 vwCl [(srented, aI g 6 Fsrented), (smornings, aI g 8 Fsmornings), (sused, aI g 8 Fsused), (dusesOfKind, aI g 4 FdusesOfKind), (dmen, .inr (3, [.int dmen_count, .ref dmen_names, .ref dmen_dies, .ref dmen_coins, .ref dmen_fathers])), (dmen_dies, aI g 6 Fdmen_dies), (dformulas, .inr (0, [.int dformulas_count, .int dformulas_units, .ref dformulas_names, .int dformulas_unitsOfThis, .int dformulas_length, .ref dformulas_starts, .ref dformulas_steps, .ref dformulas_stack])), (dformulas_starts, aI g 5 Fdformulas_starts), (dformulas_steps, aI g 640 Fdformulas_steps), (dformulas_stack, aI g 32 f_6), (dreasons_kinds, aI g 8 Fdreasons_kinds), (dreasons_owners, aI g 8 Fdreasons_owners), (dreasons_froms, aI g 8 Fdreasons_froms), (dreasons_tos, aI g 8 Fdreasons_tos), (h, .inr (4, [.int y_15, .int y_16, .ref bbehind, .ref bmornings])), (bbehind, aI g 128 f_5), (bmornings, aI g 8 f_17), (st, .inr (9, [.int sday, .int sseed, .int salive, .int sstruck, .int sopen, .int sduels, .int slines, .ref scoins, .ref srented, .ref smornings, .ref shonours, .ref sused, .ref ssides, .ref slog])), (ssides, aI g 16 Fssides), (la, .inr (2, [.ref dmen, .ref dformulas, .ref dreasons, .int dduels, .ref dduelSides, .ref dduelMornings, .int dhonour, .int ddraw, .ref dusesOfKind])), (dreasons, .inr (6, [.int dreasons_count, .ref dreasons_names, .ref dreasons_kinds, .ref dreasons_owners, .ref dreasons_froms, .ref dreasons_tos, .ref dreasons_rents, .ref dreasons_sorts])), (dreasons_sorts, aI g 8 Fdreasons_sorts)] H := hP
      have hD : va_D A [(srented, aI g 6 Fsrented), (smornings, aI g 8 Fsmornings), (sused, aI g 8 Fsused), (dusesOfKind, aI g 4 FdusesOfKind), (dmen, .inr (3, [.int dmen_count, .ref dmen_names, .ref dmen_dies, .ref dmen_coins, .ref dmen_fathers])), (dmen_dies, aI g 6 Fdmen_dies), (dformulas, .inr (0, [.int dformulas_count, .int dformulas_units, .ref dformulas_names, .int dformulas_unitsOfThis, .int dformulas_length, .ref dformulas_starts, .ref dformulas_steps, .ref dformulas_stack])), (dformulas_starts, aI g 5 Fdformulas_starts), (dformulas_steps, aI g 640 Fdformulas_steps), (dformulas_stack, aI g 32 f_6), (dreasons_kinds, aI g 8 Fdreasons_kinds), (dreasons_owners, aI g 8 Fdreasons_owners), (dreasons_froms, aI g 8 Fdreasons_froms), (dreasons_tos, aI g 8 Fdreasons_tos), (h, .inr (4, [.int y_15, .int y_16, .ref bbehind, .ref bmornings])), (bbehind, aI g 128 f_5), (bmornings, aI g 8 f_17), (st, .inr (9, [.int sday, .int sseed, .int salive, .int sstruck, .int sopen, .int sduels, .int slines, .ref scoins, .ref srented, .ref smornings, .ref shonours, .ref sused, .ref ssides, .ref slog])), (ssides, aI g 16 Fssides), (la, .inr (2, [.ref dmen, .ref dformulas, .ref dreasons, .int dduels, .ref dduelSides, .ref dduelMornings, .int dhonour, .int ddraw, .ref dusesOfKind])), (dreasons, .inr (6, [.int dreasons_count, .ref dreasons_names, .ref dreasons_kinds, .ref dreasons_owners, .ref dreasons_froms, .ref dreasons_tos, .ref dreasons_rents, .ref dreasons_sorts])), (dreasons_sorts, aI g 8 Fdreasons_sorts)] := hD
      have hw : (0 ≤ r_14.toInt ∧ r_14.toInt ≤ 1) ∧ (0 ≤ y_15.toInt ∧ y_15.toInt ≤ 128) ∧ (0 ≤ y_16.toInt ∧ y_16.toInt ≤ 128) := hw0
      clear hw0
      have w_18 := hw.1
      have w_19 := hw.2.1
      have w_20 := hw.2.2
      clear hw
      refine lv_if_eq (tgt := 61) hx hb dX4_find_54 (by decide) (fun c_21 => ?_) (fun c_21 => ?_)
      · have f_22 := E_eq (rfl : r_14.toInt = _) (by decide : (0 : Int32).toInt = 0) c_21
        refine lv_iconst (v := (-1)) hx hb dX4_find_61 (by decide) ?_
        have hP9 : va_P g.1 vwCl [(h, .inr (4, [.int y_15, .int y_16, .ref bbehind, .ref bmornings])), (bbehind, aI g 128 f_5), (bmornings, aI g 8 f_17), (st, .inr (9, [.int sday, .int sseed, .int salive, .int sstruck, .int sopen, .int sduels, .int slines, .ref scoins, .ref srented, .ref smornings, .ref shonours, .ref sused, .ref ssides, .ref slog])), (srented, aI g 6 Fsrented), (smornings, aI g 8 Fsmornings), (sused, aI g 8 Fsused), (ssides, aI g 16 Fssides), (la, .inr (2, [.ref dmen, .ref dformulas, .ref dreasons, .int dduels, .ref dduelSides, .ref dduelMornings, .int dhonour, .int ddraw, .ref dusesOfKind])), (dusesOfKind, aI g 4 FdusesOfKind), (dmen, .inr (3, [.int dmen_count, .ref dmen_names, .ref dmen_dies, .ref dmen_coins, .ref dmen_fathers])), (dmen_dies, aI g 6 Fdmen_dies), (dformulas, .inr (0, [.int dformulas_count, .int dformulas_units, .ref dformulas_names, .int dformulas_unitsOfThis, .int dformulas_length, .ref dformulas_starts, .ref dformulas_steps, .ref dformulas_stack])), (dformulas_starts, aI g 5 Fdformulas_starts), (dformulas_steps, aI g 640 Fdformulas_steps), (dformulas_stack, aI g 32 f_6), (dreasons, .inr (6, [.int dreasons_count, .ref dreasons_names, .ref dreasons_kinds, .ref dreasons_owners, .ref dreasons_froms, .ref dreasons_tos, .ref dreasons_rents, .ref dreasons_sorts])), (dreasons_kinds, aI g 8 Fdreasons_kinds), (dreasons_owners, aI g 8 Fdreasons_owners), (dreasons_froms, aI g 8 Fdreasons_froms), (dreasons_tos, aI g 8 Fdreasons_tos), (dreasons_sorts, aI g 8 Fdreasons_sorts)] H := hP.sub [14, 15, 16, 17, 0, 1, 2, 18, 19, 3, 4, 5, 6, 7, 8, 9, 20, 10, 11, 12, 13, 21] rfl
        have hD9 : va_D A [(h, .inr (4, [.int y_15, .int y_16, .ref bbehind, .ref bmornings])), (bbehind, aI g 128 f_5), (bmornings, aI g 8 f_17), (st, .inr (9, [.int sday, .int sseed, .int salive, .int sstruck, .int sopen, .int sduels, .int slines, .ref scoins, .ref srented, .ref smornings, .ref shonours, .ref sused, .ref ssides, .ref slog])), (srented, aI g 6 Fsrented), (smornings, aI g 8 Fsmornings), (sused, aI g 8 Fsused), (ssides, aI g 16 Fssides), (la, .inr (2, [.ref dmen, .ref dformulas, .ref dreasons, .int dduels, .ref dduelSides, .ref dduelMornings, .int dhonour, .int ddraw, .ref dusesOfKind])), (dusesOfKind, aI g 4 FdusesOfKind), (dmen, .inr (3, [.int dmen_count, .ref dmen_names, .ref dmen_dies, .ref dmen_coins, .ref dmen_fathers])), (dmen_dies, aI g 6 Fdmen_dies), (dformulas, .inr (0, [.int dformulas_count, .int dformulas_units, .ref dformulas_names, .int dformulas_unitsOfThis, .int dformulas_length, .ref dformulas_starts, .ref dformulas_steps, .ref dformulas_stack])), (dformulas_starts, aI g 5 Fdformulas_starts), (dformulas_steps, aI g 640 Fdformulas_steps), (dformulas_stack, aI g 32 f_6), (dreasons, .inr (6, [.int dreasons_count, .ref dreasons_names, .ref dreasons_kinds, .ref dreasons_owners, .ref dreasons_froms, .ref dreasons_tos, .ref dreasons_rents, .ref dreasons_sorts])), (dreasons_kinds, aI g 8 Fdreasons_kinds), (dreasons_owners, aI g 8 Fdreasons_owners), (dreasons_froms, aI g 8 Fdreasons_froms), (dreasons_tos, aI g 8 Fdreasons_tos), (dreasons_sorts, aI g 8 Fdreasons_sorts)] := hD.sub [14, 15, 16, 17, 0, 1, 2, 18, 19, 3, 4, 5, 6, 7, 8, 9, 20, 10, 11, 12, 13, 21] (by decide +kernel) rfl
        exact W.iret (v := (-1)) hx hb hr (fun t ht hW => ⟨⟨(-1), (y_15, y_16, f_5, f_17, f_6), rfl, ⟨⟨by decide, by decide⟩, (by first | with_reducible assumption | omega), (by first | with_reducible assumption | omega)⟩, by rw [ht]; exact hP9, by rw [hAe]; exact hD9⟩, hS.F ht⟩) hS.2.2 dX4_find_62
      · have f_23 := E_ne (rfl : r_14.toInt = _) (by decide : (0 : Int32).toInt = 0) c_21
        refine lv_iconst (v := 2) hx hb dX4_find_57 (by decide) ?_
        refine lv_goto (tgt := 62) hx hb dX4_find_58 (by decide) ?_
        have hP9 : va_P g.1 vwCl [(h, .inr (4, [.int y_15, .int y_16, .ref bbehind, .ref bmornings])), (bbehind, aI g 128 f_5), (bmornings, aI g 8 f_17), (st, .inr (9, [.int sday, .int sseed, .int salive, .int sstruck, .int sopen, .int sduels, .int slines, .ref scoins, .ref srented, .ref smornings, .ref shonours, .ref sused, .ref ssides, .ref slog])), (srented, aI g 6 Fsrented), (smornings, aI g 8 Fsmornings), (sused, aI g 8 Fsused), (ssides, aI g 16 Fssides), (la, .inr (2, [.ref dmen, .ref dformulas, .ref dreasons, .int dduels, .ref dduelSides, .ref dduelMornings, .int dhonour, .int ddraw, .ref dusesOfKind])), (dusesOfKind, aI g 4 FdusesOfKind), (dmen, .inr (3, [.int dmen_count, .ref dmen_names, .ref dmen_dies, .ref dmen_coins, .ref dmen_fathers])), (dmen_dies, aI g 6 Fdmen_dies), (dformulas, .inr (0, [.int dformulas_count, .int dformulas_units, .ref dformulas_names, .int dformulas_unitsOfThis, .int dformulas_length, .ref dformulas_starts, .ref dformulas_steps, .ref dformulas_stack])), (dformulas_starts, aI g 5 Fdformulas_starts), (dformulas_steps, aI g 640 Fdformulas_steps), (dformulas_stack, aI g 32 f_6), (dreasons, .inr (6, [.int dreasons_count, .ref dreasons_names, .ref dreasons_kinds, .ref dreasons_owners, .ref dreasons_froms, .ref dreasons_tos, .ref dreasons_rents, .ref dreasons_sorts])), (dreasons_kinds, aI g 8 Fdreasons_kinds), (dreasons_owners, aI g 8 Fdreasons_owners), (dreasons_froms, aI g 8 Fdreasons_froms), (dreasons_tos, aI g 8 Fdreasons_tos), (dreasons_sorts, aI g 8 Fdreasons_sorts)] H := hP.sub [14, 15, 16, 17, 0, 1, 2, 18, 19, 3, 4, 5, 6, 7, 8, 9, 20, 10, 11, 12, 13, 21] rfl
        have hD9 : va_D A [(h, .inr (4, [.int y_15, .int y_16, .ref bbehind, .ref bmornings])), (bbehind, aI g 128 f_5), (bmornings, aI g 8 f_17), (st, .inr (9, [.int sday, .int sseed, .int salive, .int sstruck, .int sopen, .int sduels, .int slines, .ref scoins, .ref srented, .ref smornings, .ref shonours, .ref sused, .ref ssides, .ref slog])), (srented, aI g 6 Fsrented), (smornings, aI g 8 Fsmornings), (sused, aI g 8 Fsused), (ssides, aI g 16 Fssides), (la, .inr (2, [.ref dmen, .ref dformulas, .ref dreasons, .int dduels, .ref dduelSides, .ref dduelMornings, .int dhonour, .int ddraw, .ref dusesOfKind])), (dusesOfKind, aI g 4 FdusesOfKind), (dmen, .inr (3, [.int dmen_count, .ref dmen_names, .ref dmen_dies, .ref dmen_coins, .ref dmen_fathers])), (dmen_dies, aI g 6 Fdmen_dies), (dformulas, .inr (0, [.int dformulas_count, .int dformulas_units, .ref dformulas_names, .int dformulas_unitsOfThis, .int dformulas_length, .ref dformulas_starts, .ref dformulas_steps, .ref dformulas_stack])), (dformulas_starts, aI g 5 Fdformulas_starts), (dformulas_steps, aI g 640 Fdformulas_steps), (dformulas_stack, aI g 32 f_6), (dreasons, .inr (6, [.int dreasons_count, .ref dreasons_names, .ref dreasons_kinds, .ref dreasons_owners, .ref dreasons_froms, .ref dreasons_tos, .ref dreasons_rents, .ref dreasons_sorts])), (dreasons_kinds, aI g 8 Fdreasons_kinds), (dreasons_owners, aI g 8 Fdreasons_owners), (dreasons_froms, aI g 8 Fdreasons_froms), (dreasons_tos, aI g 8 Fdreasons_tos), (dreasons_sorts, aI g 8 Fdreasons_sorts)] := hD.sub [14, 15, 16, 17, 0, 1, 2, 18, 19, 3, 4, 5, 6, 7, 8, 9, 20, 10, 11, 12, 13, 21] (by decide +kernel) rfl
        exact W.iret (v := 2) hx hb hr (fun t ht hW => ⟨⟨2, (y_15, y_16, f_5, f_17, f_6), rfl, ⟨⟨by decide, by decide⟩, (by first | with_reducible assumption | omega), (by first | with_reducible assumption | omega)⟩, by rw [ht]; exact hP9, by rw [hAe]; exact hD9⟩, hS.F ht⟩) hS.2.2 dX4_find_62
    · have f_24 := E_ne (rfl : r_7.toInt = _) (by decide : (0 : Int32).toInt = 0) c_12
      refine lv_iconst (v := 1) hx hb dX4_find_45 (by decide) ?_
      have hP9 : va_P g.1 vwCl [(h, .inr (4, [.int y_8, .int bsecond, .ref bbehind, .ref bmornings])), (bbehind, aI g 128 f_5), (bmornings, aI g 8 f_9), (st, .inr (9, [.int sday, .int sseed, .int salive, .int sstruck, .int sopen, .int sduels, .int slines, .ref scoins, .ref srented, .ref smornings, .ref shonours, .ref sused, .ref ssides, .ref slog])), (srented, aI g 6 Fsrented), (smornings, aI g 8 Fsmornings), (sused, aI g 8 Fsused), (ssides, aI g 16 Fssides), (la, .inr (2, [.ref dmen, .ref dformulas, .ref dreasons, .int dduels, .ref dduelSides, .ref dduelMornings, .int dhonour, .int ddraw, .ref dusesOfKind])), (dusesOfKind, aI g 4 FdusesOfKind), (dmen, .inr (3, [.int dmen_count, .ref dmen_names, .ref dmen_dies, .ref dmen_coins, .ref dmen_fathers])), (dmen_dies, aI g 6 Fdmen_dies), (dformulas, .inr (0, [.int dformulas_count, .int dformulas_units, .ref dformulas_names, .int dformulas_unitsOfThis, .int dformulas_length, .ref dformulas_starts, .ref dformulas_steps, .ref dformulas_stack])), (dformulas_starts, aI g 5 Fdformulas_starts), (dformulas_steps, aI g 640 Fdformulas_steps), (dformulas_stack, aI g 32 f_6), (dreasons, .inr (6, [.int dreasons_count, .ref dreasons_names, .ref dreasons_kinds, .ref dreasons_owners, .ref dreasons_froms, .ref dreasons_tos, .ref dreasons_rents, .ref dreasons_sorts])), (dreasons_kinds, aI g 8 Fdreasons_kinds), (dreasons_owners, aI g 8 Fdreasons_owners), (dreasons_froms, aI g 8 Fdreasons_froms), (dreasons_tos, aI g 8 Fdreasons_tos), (dreasons_sorts, aI g 8 Fdreasons_sorts)] H := hP.sub [17, 18, 19, 20, 0, 1, 2, 21, 3, 4, 5, 6, 7, 8, 9, 10, 11, 12, 13, 14, 15, 16] rfl
      have hD9 : va_D A [(h, .inr (4, [.int y_8, .int bsecond, .ref bbehind, .ref bmornings])), (bbehind, aI g 128 f_5), (bmornings, aI g 8 f_9), (st, .inr (9, [.int sday, .int sseed, .int salive, .int sstruck, .int sopen, .int sduels, .int slines, .ref scoins, .ref srented, .ref smornings, .ref shonours, .ref sused, .ref ssides, .ref slog])), (srented, aI g 6 Fsrented), (smornings, aI g 8 Fsmornings), (sused, aI g 8 Fsused), (ssides, aI g 16 Fssides), (la, .inr (2, [.ref dmen, .ref dformulas, .ref dreasons, .int dduels, .ref dduelSides, .ref dduelMornings, .int dhonour, .int ddraw, .ref dusesOfKind])), (dusesOfKind, aI g 4 FdusesOfKind), (dmen, .inr (3, [.int dmen_count, .ref dmen_names, .ref dmen_dies, .ref dmen_coins, .ref dmen_fathers])), (dmen_dies, aI g 6 Fdmen_dies), (dformulas, .inr (0, [.int dformulas_count, .int dformulas_units, .ref dformulas_names, .int dformulas_unitsOfThis, .int dformulas_length, .ref dformulas_starts, .ref dformulas_steps, .ref dformulas_stack])), (dformulas_starts, aI g 5 Fdformulas_starts), (dformulas_steps, aI g 640 Fdformulas_steps), (dformulas_stack, aI g 32 f_6), (dreasons, .inr (6, [.int dreasons_count, .ref dreasons_names, .ref dreasons_kinds, .ref dreasons_owners, .ref dreasons_froms, .ref dreasons_tos, .ref dreasons_rents, .ref dreasons_sorts])), (dreasons_kinds, aI g 8 Fdreasons_kinds), (dreasons_owners, aI g 8 Fdreasons_owners), (dreasons_froms, aI g 8 Fdreasons_froms), (dreasons_tos, aI g 8 Fdreasons_tos), (dreasons_sorts, aI g 8 Fdreasons_sorts)] := hD.sub [17, 18, 19, 20, 0, 1, 2, 21, 3, 4, 5, 6, 7, 8, 9, 10, 11, 12, 13, 14, 15, 16] (by decide +kernel) rfl
      exact W.iret (v := 1) hx hb hr (fun t ht hW => ⟨⟨1, (y_8, bsecond, f_5, f_9, f_6), rfl, ⟨⟨by decide, by decide⟩, (by first | with_reducible assumption | omega), (by first | with_reducible assumption | omega)⟩, by rw [ht]; exact hP9, by rw [hAe]; exact hD9⟩, hS.F ht⟩) hS.2.2 dX4_find_46
  · have f_25 := E_eq (rfl : r_2.toInt = _) (by decide : (0 : Int32).toInt = 0) c_3
    refine lv_iconst (v := 0) hx hb dX4_find_27 (by decide) ?_
    have hP9 : va_P g.1 vwCl [(h, .inr (4, [.int bfirst, .int bsecond, .ref bbehind, .ref bmornings])), (bbehind, aI g 128 Fbbehind), (bmornings, aI g 8 f_1), (st, .inr (9, [.int sday, .int sseed, .int salive, .int sstruck, .int sopen, .int sduels, .int slines, .ref scoins, .ref srented, .ref smornings, .ref shonours, .ref sused, .ref ssides, .ref slog])), (srented, aI g 6 Fsrented), (smornings, aI g 8 Fsmornings), (sused, aI g 8 Fsused), (ssides, aI g 16 Fssides), (la, .inr (2, [.ref dmen, .ref dformulas, .ref dreasons, .int dduels, .ref dduelSides, .ref dduelMornings, .int dhonour, .int ddraw, .ref dusesOfKind])), (dusesOfKind, aI g 4 FdusesOfKind), (dmen, .inr (3, [.int dmen_count, .ref dmen_names, .ref dmen_dies, .ref dmen_coins, .ref dmen_fathers])), (dmen_dies, aI g 6 Fdmen_dies), (dformulas, .inr (0, [.int dformulas_count, .int dformulas_units, .ref dformulas_names, .int dformulas_unitsOfThis, .int dformulas_length, .ref dformulas_starts, .ref dformulas_steps, .ref dformulas_stack])), (dformulas_starts, aI g 5 Fdformulas_starts), (dformulas_steps, aI g 640 Fdformulas_steps), (dformulas_stack, aI g 32 Fdformulas_stack), (dreasons, .inr (6, [.int dreasons_count, .ref dreasons_names, .ref dreasons_kinds, .ref dreasons_owners, .ref dreasons_froms, .ref dreasons_tos, .ref dreasons_rents, .ref dreasons_sorts])), (dreasons_kinds, aI g 8 Fdreasons_kinds), (dreasons_owners, aI g 8 Fdreasons_owners), (dreasons_froms, aI g 8 Fdreasons_froms), (dreasons_tos, aI g 8 Fdreasons_tos), (dreasons_sorts, aI g 8 Fdreasons_sorts)] H := hP.sub [0, 1, 2, 3, 4, 5, 6, 7, 8, 9, 10, 11, 12, 13, 14, 15, 16, 17, 18, 19, 20, 21] rfl
    have hD9 : va_D A [(h, .inr (4, [.int bfirst, .int bsecond, .ref bbehind, .ref bmornings])), (bbehind, aI g 128 Fbbehind), (bmornings, aI g 8 f_1), (st, .inr (9, [.int sday, .int sseed, .int salive, .int sstruck, .int sopen, .int sduels, .int slines, .ref scoins, .ref srented, .ref smornings, .ref shonours, .ref sused, .ref ssides, .ref slog])), (srented, aI g 6 Fsrented), (smornings, aI g 8 Fsmornings), (sused, aI g 8 Fsused), (ssides, aI g 16 Fssides), (la, .inr (2, [.ref dmen, .ref dformulas, .ref dreasons, .int dduels, .ref dduelSides, .ref dduelMornings, .int dhonour, .int ddraw, .ref dusesOfKind])), (dusesOfKind, aI g 4 FdusesOfKind), (dmen, .inr (3, [.int dmen_count, .ref dmen_names, .ref dmen_dies, .ref dmen_coins, .ref dmen_fathers])), (dmen_dies, aI g 6 Fdmen_dies), (dformulas, .inr (0, [.int dformulas_count, .int dformulas_units, .ref dformulas_names, .int dformulas_unitsOfThis, .int dformulas_length, .ref dformulas_starts, .ref dformulas_steps, .ref dformulas_stack])), (dformulas_starts, aI g 5 Fdformulas_starts), (dformulas_steps, aI g 640 Fdformulas_steps), (dformulas_stack, aI g 32 Fdformulas_stack), (dreasons, .inr (6, [.int dreasons_count, .ref dreasons_names, .ref dreasons_kinds, .ref dreasons_owners, .ref dreasons_froms, .ref dreasons_tos, .ref dreasons_rents, .ref dreasons_sorts])), (dreasons_kinds, aI g 8 Fdreasons_kinds), (dreasons_owners, aI g 8 Fdreasons_owners), (dreasons_froms, aI g 8 Fdreasons_froms), (dreasons_tos, aI g 8 Fdreasons_tos), (dreasons_sorts, aI g 8 Fdreasons_sorts)] := hD.sub [0, 1, 2, 3, 4, 5, 6, 7, 8, 9, 10, 11, 12, 13, 14, 15, 16, 17, 18, 19, 20, 21] (by decide +kernel) rfl
    exact W.iret (v := 0) hx hb hr (fun t ht hW => ⟨⟨0, (bfirst, bsecond, Fbbehind, f_1, Fdformulas_stack), rfl, ⟨⟨by decide, by decide⟩, (by first | with_reducible assumption | omega), (by first | with_reducible assumption | omega)⟩, by rw [ht]; exact hP9, by rw [hAe]; exact hD9⟩, hS.F ht⟩) hS.2.2 dX4_find_28
