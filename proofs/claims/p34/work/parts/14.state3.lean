theorem bw_166 : Cond.methodLink RX9 126 yX9_ownerOf ∈ gT := gT_tb 946 (by decide +kernel) (by decide +kernel)
theorem bw_167 : Cond.instanceMethod yX9_ownerOf ∈ gT := gT_tb 882 (by decide +kernel) (by decide +kernel)
theorem bw_168 : Cond.selects RX9 yX9_ownerOf yX9_ownerOf ∈ gT := gT_tb 883 (by decide +kernel) (by decide +kernel)
theorem bw_169 : Cond.code yX9_isRentable cX9_isRentable 5 (some .boolean) ∈ gT := gT_tb 945 (by decide +kernel) (by decide +kernel)
theorem dX9_isRentable_0 : decode cX9_isRentable 0 = .ok (.aload_n 0, 1) := by decide +kernel
theorem dX9_isRentable_1 : decode cX9_isRentable 1 = .ok (.aload_n 1, 1) := by decide +kernel
theorem dX9_isRentable_2 : decode cX9_isRentable 2 = .ok (.iload_n 3, 1) := by decide +kernel
theorem dX9_isRentable_3 : decode cX9_isRentable 3 = .ok (.invokevirtual 126, 3) := by decide +kernel
theorem dX9_isRentable_6 : decode cX9_isRentable 6 = .ok (.istore 4, 2) := by decide +kernel
theorem dX9_isRentable_8 : decode cX9_isRentable 8 = .ok (.iload 4, 2) := by decide +kernel
theorem dX9_isRentable_10 : decode cX9_isRentable 10 = .ok (.iconst (-1), 1) := by decide +kernel
theorem dX9_isRentable_11 : decode cX9_isRentable 11 = .ok (.if_icmp .eq 26, 3) := by decide +kernel
theorem dX9_isRentable_14 : decode cX9_isRentable 14 = .ok (.iload 4, 2) := by decide +kernel
theorem dX9_isRentable_16 : decode cX9_isRentable 16 = .ok (.iload_n 2, 1) := by decide +kernel
theorem dX9_isRentable_17 : decode cX9_isRentable 17 = .ok (.if_icmp .eq 20, 3) := by decide +kernel
theorem dX9_isRentable_20 : decode cX9_isRentable 20 = .ok (.aload_n 0, 1) := by decide +kernel
theorem dX9_isRentable_21 : decode cX9_isRentable 21 = .ok (.getfield 15, 3) := by decide +kernel
theorem dX9_isRentable_24 : decode cX9_isRentable 24 = .ok (.iload_n 2, 1) := by decide +kernel
theorem dX9_isRentable_25 : decode cX9_isRentable 25 = .ok (.iaload, 1) := by decide +kernel
theorem dX9_isRentable_26 : decode cX9_isRentable 26 = .ok (.iload_n 3, 1) := by decide +kernel
theorem dX9_isRentable_27 : decode cX9_isRentable 27 = .ok (.ishr, 1) := by decide +kernel
theorem dX9_isRentable_28 : decode cX9_isRentable 28 = .ok (.iconst 1, 1) := by decide +kernel
theorem dX9_isRentable_29 : decode cX9_isRentable 29 = .ok (.iand, 1) := by decide +kernel
theorem dX9_isRentable_30 : decode cX9_isRentable 30 = .ok (.ifCond .ne 7, 3) := by decide +kernel
theorem dX9_isRentable_33 : decode cX9_isRentable 33 = .ok (.iconst 1, 1) := by decide +kernel
theorem dX9_isRentable_34 : decode cX9_isRentable 34 = .ok (.goto 4, 3) := by decide +kernel
theorem dX9_isRentable_37 : decode cX9_isRentable 37 = .ok (.iconst 0, 1) := by decide +kernel
theorem dX9_isRentable_38 : decode cX9_isRentable 38 = .ok (.ireturn, 1) := by decide +kernel
set_option maxHeartbeats 4000000 in
set_option maxRecDepth 100000 in
theorem s_X9_isRentable (l : Launch) (g : GG) (sz : Nat) (h : Nat) (bday : Int32) (bseed : Int32) (balive : Int32) (bstruck : Int32) (bopen : Int32) (bduels : Int32) (blines : Int32) (bcoins : Nat) (brented : Nat) (Fbrented : Nat → Int32) (bmornings : Nat) (bhonours : Nat) (bused : Nat) (bsides : Nat) (blog : Nat) (la : Nat) (dduels : Int32) (dduelSides : Nat) (dduelMornings : Nat) (dhonour : Int32) (ddraw : Int32) (dusesOfKind : Nat) (dmen : Nat) (dformulas : Nat) (dreasons : Nat) (dreasons_count : Int32) (dreasons_names : Nat) (dreasons_kinds : Nat) (dreasons_owners : Nat) (Fdreasons_owners : Nat → Int32) (dreasons_froms : Nat) (dreasons_tos : Nat) (dreasons_rents : Nat) (dreasons_sorts : Nat) (p0 : Int32) (p1 : Int32) (hh0 : 0 ≤ bseed.toInt ∧ bseed.toInt ≤ 999) (hh1 : 0 ≤ bduels.toInt ∧ bduels.toInt ≤ 8) (hh2 : 0 ≤ blines.toInt ∧ blines.toInt ≤ 60) (hh4 : 0 ≤ dduels.toInt ∧ dduels.toInt ≤ 6) (hh6 : 0 ≤ ddraw.toInt ∧ ddraw.toInt ≤ 999) (hh13 : 0 ≤ dreasons_count.toInt ∧ dreasons_count.toInt ≤ 8) (hh15 : Rg 8 (-1) 5 Fdreasons_owners) (hh16 : 0 ≤ p0.toInt ∧ p0.toInt ≤ 5) (hh17 : 0 ≤ p1.toInt ∧ p1.toInt ≤ 7) : Met l yX9_isRentable (.code yX9_isRentable cX9_isRentable 5 (some .boolean) :: gT) ({ frames := 2, cells := 0, slots := 0, locals := 44 }) (va_Pc [.ref h, .ref la, .int p0, .int p1] (Pst g sz [(h, .inr (9, [.int bday, .int bseed, .int balive, .int bstruck, .int bopen, .int bduels, .int blines, .ref bcoins, .ref brented, .ref bmornings, .ref bhonours, .ref bused, .ref bsides, .ref blog])), (brented, aI g 6 Fbrented), (la, .inr (2, [.ref dmen, .ref dformulas, .ref dreasons, .int dduels, .ref dduelSides, .ref dduelMornings, .int dhonour, .int ddraw, .ref dusesOfKind])), (dreasons, .inr (6, [.int dreasons_count, .ref dreasons_names, .ref dreasons_kinds, .ref dreasons_owners, .ref dreasons_froms, .ref dreasons_tos, .ref dreasons_rents, .ref dreasons_sorts])), (dreasons_owners, aI g 8 Fdreasons_owners)] nX)) (va_Qi (fun (r : Int32) => fun (_ : Unit) => (r = 1 ∧ (0 ≤ (Fdreasons_owners p1.toNatClampNeg).toInt)) ∨ (r = 0)) (Qst g [] sz (fun _ => [])) (va_A [] sz)) 0 0 (va_A [] sz) := by
  refine Met.ofW (cc := cX9_isRentable) (maxL := 5) (ret := (some .boolean)) (by decide) rfl ?_
  intro p e s m args below meth c s₁ B hml hv
  obtain ⟨rfl, hsz, hP, hK, hD0, hX⟩ := hv
  have hx := B.exec
  have hb := B.bytes
  have hr := B.returns
  have hT : ∀ w ∈ gT, w.before _ s = true := fun w h => atoms_spec (ws := .code yX9_isRentable cX9_isRentable 5 (some .boolean) :: gT) B.pre w (List.mem_cons_of_mem _ h)
  have hown : s.vm.findClass RX9 = some m.cls := findClass_of_methodNamed B.named
  have hlocks := B.notSynchronized
  subst hsz
  have hD := hD0
  generalize hAe : va_A [] s.heap.size = A at ⊢
  have hA : ∀ q : Nat, s.heap.size ≤ q → A q := fun q h => by rw [← hAe]; exact Or.inr h
  have hS : va_S A s.heap s.heap [] := va_S.rf
  have hl := lv_entry ([.ref h, .ref la, .int p0, .int p1]) (n := 5) (Nat.le_of_ble_eq_true rfl)
  rw [lg_entry_eq]
  generalize (lg_sl ([.ref h, .ref la, .int p0, .int p1]) ++ List.replicate (5 - (lg_sl ([.ref h, .ref la, .int p0, .int p1])).length) Slot.unset).toArray = ls at hl ⊢
  have hl : lv_has ls 5 [(0, .ref h), (1, .ref la), (2, .int p0), (3, .int p1)] := hl
  refine p_nH (fun H hH => ?_)
  have hP : va_P g.1 vwCl [(h, .inr (9, [.int bday, .int bseed, .int balive, .int bstruck, .int bopen, .int bduels, .int blines, .ref bcoins, .ref brented, .ref bmornings, .ref bhonours, .ref bused, .ref bsides, .ref blog])), (brented, aI g 6 Fbrented), (la, .inr (2, [.ref dmen, .ref dformulas, .ref dreasons, .int dduels, .ref dduelSides, .ref dduelMornings, .int dhonour, .int ddraw, .ref dusesOfKind])), (dreasons, .inr (6, [.int dreasons_count, .ref dreasons_names, .ref dreasons_kinds, .ref dreasons_owners, .ref dreasons_froms, .ref dreasons_tos, .ref dreasons_rents, .ref dreasons_sorts])), (dreasons_owners, aI g 8 Fdreasons_owners)] H := by rw [hH]; exact hP
  have hS : va_S A s.heap H [] := by rw [hH]; exact hS
  refine lv_aload_n hx hb dX9_isRentable_0 rfl (lv_at hl 0 rfl) ?_
  refine lv_aload_n hx hb dX9_isRentable_1 rfl (lv_at hl 1 rfl) ?_
  refine lv_iload_n hx hb dX9_isRentable_2 rfl (lv_at hl 3 rfl) ?_
  refine k_iR (k_V (n := 2) ⟨hx, hb, hml, hown, hT⟩ hK hP hD [0, 2, 3, 4] rfl (by decide +kernel) (s_X9_ownerOf l g H.size h bday bseed balive bstruck bopen bduels blines bcoins brented bmornings bhonours bused bsides blog la dduels dduelSides dduelMornings dhonour ddraw dusesOfKind dmen dformulas dreasons dreasons_count dreasons_names dreasons_kinds dreasons_owners Fdreasons_owners dreasons_froms dreasons_tos dreasons_rents dreasons_sorts p1 (by first | with_reducible assumption | omega) (by first | with_reducible assumption | omega) (by first | with_reducible assumption | omega) (by first | with_reducible assumption | omega) (by first | with_reducible assumption | omega) (by first | with_reducible assumption | omega) hh15 (by first | with_reducible assumption | omega)) (gV bw_166 bw_167 bw_168 bw_46 bw_69) rfl rfl (by decide +kernel) ⟨by decide, by decide⟩ (ci := 9) (q0 := 0) rfl rfl (fun _ _ _ _ _ => trivial) (fun _ _ _ => trivial) rfl rfl hl.1 (Nat.le_of_ble_eq_true rfl) dX9_isRentable_3 ⟨by decide, by decide⟩) hP hS hA (fun r_1 _ H locs hw0 hP hS => ?_)
  have hw : ((-1) ≤ r_1.toInt ∧ r_1.toInt ≤ 5) ∧ (r_1.toInt = -1 ∨ 0 ≤ (Fdreasons_owners p1.toNatClampNeg).toInt) := hw0
  clear hw0
  have w_2 := hw.1
  have w_3 := hw.2
  clear hw
  refine lv_istore (lv' := [(4, .int r_1), (0, .ref h), (1, .ref la), (2, .int p0), (3, .int p1)]) hx hb dX9_isRentable_6 hl (by decide) rfl (fun ls hl => ?_)
  refine lv_iload hx hb dX9_isRentable_8 (lv_at hl 0 rfl) ?_
  refine lv_iconst (v := (-1)) hx hb dX9_isRentable_10 (by decide) ?_
  refine lv_icmp_eq (tgt := 37) hx hb dX9_isRentable_11 (by decide) (fun c_4 => ?_) (fun c_4 => ?_)
  · have f_5 := E_eq (rfl : r_1.toInt = _) (by decide : ((-1) : Int32).toInt = (-1)) c_4
    refine lv_iconst (v := 0) hx hb dX9_isRentable_37 (by decide) ?_
    have hP9 : va_P g.1 vwCl [] H := hP.sub [] rfl
    have hD9 : va_D A [] := ⟨fun i j p q h => by simp at h, fun k q h => by simp at h⟩
    exact W.zret (v := 0) (ty := .boolean) hx hb hr rfl (fun t ht hW => ⟨⟨0, (), rfl, (Or.inr (rfl)), by rw [ht]; exact hP9, by rw [hAe]; exact hD9⟩, hS.F ht⟩) hS.2.2 dX9_isRentable_38
  · have f_6 := E_ne (rfl : r_1.toInt = _) (by decide : ((-1) : Int32).toInt = (-1)) c_4
    refine lv_iload hx hb dX9_isRentable_14 (lv_at hl 0 rfl) ?_
    refine lv_iload_n hx hb dX9_isRentable_16 rfl (lv_at hl 3 rfl) ?_
    refine lv_icmp_eq (tgt := 37) hx hb dX9_isRentable_17 (by decide) (fun c_7 => ?_) (fun c_7 => ?_)
    · have f_8 := E_eq (rfl : r_1.toInt = _) (rfl : p0.toInt = _) c_7
      refine lv_iconst (v := 0) hx hb dX9_isRentable_37 (by decide) ?_
      have hP9 : va_P g.1 vwCl [] H := hP.sub [] rfl
      have hD9 : va_D A [] := ⟨fun i j p q h => by simp at h, fun k q h => by simp at h⟩
      exact W.zret (v := 0) (ty := .boolean) hx hb hr rfl (fun t ht hW => ⟨⟨0, (), rfl, (Or.inr (rfl)), by rw [ht]; exact hP9, by rw [hAe]; exact hD9⟩, hS.F ht⟩) hS.2.2 dX9_isRentable_38
    · have f_9 := E_ne (rfl : r_1.toInt = _) (rfl : p0.toInt = _) c_7
      refine lv_aload_n hx hb dX9_isRentable_20 rfl (lv_at hl 1 rfl) ?_
      refine va_get (D := g.1) (ci := 9) (v := .ref brented) (C := RX9) (T := TX9) (N := 14) hx hb hT inF_X9 hown hK.1 hP 0 rfl rfl 8 (by decide) (hT _ bw_105) (fun _ h9 => h9) rfl dX9_isRentable_21 ?_
      refine lv_iload_n hx hb dX9_isRentable_24 rfl (lv_at hl 3 rfl) ?_
      have h_10 : vp_in p0 6 := vp_in_iff.mpr (by omega)
      refine va_iald hx hb hK.1 hP 1 1 rfl rfl (i := p0) h_10 dX9_isRentable_25 ?_
      refine lv_topi (fun x_11 ex_11 => ?_)
      have ux_11 := congrArg Int32.toInt ex_11
      refine lv_iload_n hx hb dX9_isRentable_26 rfl (lv_at hl 4 rfl) ?_
      refine lv_ishr hx hb dX9_isRentable_27 ?_
      refine lv_topi (fun x_12 ex_12 => ?_)
      refine lv_iconst (v := 1) hx hb dX9_isRentable_28 (by decide) ?_
      refine lv_iand hx hb dX9_isRentable_29 ?_
      refine lv_topi (fun x_13 ex_13 => ?_)
      have fx_13 : 0 ≤ x_13.toInt ∧ x_13.toInt ≤ 1 := by rw [ex_13]; exact I_and (by decide) (by decide)
      refine lv_if_ne (tgt := 37) hx hb dX9_isRentable_30 (by decide) (fun c_14 => ?_) (fun c_14 => ?_)
      · have f_15 := E_ne (rfl : x_13.toInt = _) (by decide : (0 : Int32).toInt = 0) c_14
        refine lv_iconst (v := 0) hx hb dX9_isRentable_37 (by decide) ?_
        have hP9 : va_P g.1 vwCl [] H := hP.sub [] rfl
        have hD9 : va_D A [] := ⟨fun i j p q h => by simp at h, fun k q h => by simp at h⟩
        exact W.zret (v := 0) (ty := .boolean) hx hb hr rfl (fun t ht hW => ⟨⟨0, (), rfl, (Or.inr (rfl)), by rw [ht]; exact hP9, by rw [hAe]; exact hD9⟩, hS.F ht⟩) hS.2.2 dX9_isRentable_38
      · have f_16 := E_eq (rfl : x_13.toInt = _) (by decide : (0 : Int32).toInt = 0) c_14
        refine lv_iconst (v := 1) hx hb dX9_isRentable_33 (by decide) ?_
        refine lv_goto (tgt := 38) hx hb dX9_isRentable_34 (by decide) ?_
        have hP9 : va_P g.1 vwCl [] H := hP.sub [] rfl
        have hD9 : va_D A [] := ⟨fun i j p q h => by simp at h, fun k q h => by simp at h⟩
        exact W.zret (v := 1) (ty := .boolean) hx hb hr rfl (fun t ht hW => ⟨⟨1, (), rfl, (Or.inl ⟨rfl, by omega⟩), by rw [ht]; exact hP9, by rw [hAe]; exact hD9⟩, hS.F ht⟩) hS.2.2 dX9_isRentable_38

theorem bw_170 : Cond.methodLink RX9 130 yX9_isRentable ∈ gT := gT_tb 942 (by decide +kernel) (by decide +kernel)
theorem bw_171 : Cond.instanceMethod yX9_isRentable ∈ gT := gT_tb 943 (by decide +kernel) (by decide +kernel)
theorem bw_172 : Cond.selects RX9 yX9_isRentable yX9_isRentable ∈ gT := gT_tb 944 (by decide +kernel) (by decide +kernel)
theorem bw_173 : Cond.code yX9_freeFrom cX9_freeFrom 4 (some .int) ∈ gT := gT_tb 941 (by decide +kernel) (by decide +kernel)
theorem dX9_freeFrom_0 : decode cX9_freeFrom 0 = .ok (.aload_n 0, 1) := by decide +kernel
theorem dX9_freeFrom_1 : decode cX9_freeFrom 1 = .ok (.aload_n 1, 1) := by decide +kernel
theorem dX9_freeFrom_2 : decode cX9_freeFrom 2 = .ok (.iload_n 2, 1) := by decide +kernel
theorem dX9_freeFrom_3 : decode cX9_freeFrom 3 = .ok (.iload_n 3, 1) := by decide +kernel
theorem dX9_freeFrom_4 : decode cX9_freeFrom 4 = .ok (.invokevirtual 130, 3) := by decide +kernel
theorem dX9_freeFrom_7 : decode cX9_freeFrom 7 = .ok (.ifCond .eq 23, 3) := by decide +kernel
theorem dX9_freeFrom_10 : decode cX9_freeFrom 10 = .ok (.aload_n 1, 1) := by decide +kernel
theorem dX9_freeFrom_11 : decode cX9_freeFrom 11 = .ok (.getfield 45, 3) := by decide +kernel
theorem dX9_freeFrom_14 : decode cX9_freeFrom 14 = .ok (.getfield 134, 3) := by decide +kernel
theorem dX9_freeFrom_17 : decode cX9_freeFrom 17 = .ok (.aload_n 1, 1) := by decide +kernel
theorem dX9_freeFrom_18 : decode cX9_freeFrom 18 = .ok (.getfield 117, 3) := by decide +kernel
theorem dX9_freeFrom_21 : decode cX9_freeFrom 21 = .ok (.getfield 121, 3) := by decide +kernel
theorem dX9_freeFrom_24 : decode cX9_freeFrom 24 = .ok (.iload_n 3, 1) := by decide +kernel
theorem dX9_freeFrom_25 : decode cX9_freeFrom 25 = .ok (.iaload, 1) := by decide +kernel
theorem dX9_freeFrom_26 : decode cX9_freeFrom 26 = .ok (.iaload, 1) := by decide +kernel
theorem dX9_freeFrom_27 : decode cX9_freeFrom 27 = .ok (.goto 4, 3) := by decide +kernel
theorem dX9_freeFrom_30 : decode cX9_freeFrom 30 = .ok (.iconst 0, 1) := by decide +kernel
theorem dX9_freeFrom_31 : decode cX9_freeFrom 31 = .ok (.ireturn, 1) := by decide +kernel
set_option maxHeartbeats 4000000 in
set_option maxRecDepth 100000 in
theorem s_X9_freeFrom (l : Launch) (g : GG) (sz : Nat) (h : Nat) (bday : Int32) (bseed : Int32) (balive : Int32) (bstruck : Int32) (bopen : Int32) (bduels : Int32) (blines : Int32) (bcoins : Nat) (brented : Nat) (Fbrented : Nat → Int32) (bmornings : Nat) (bhonours : Nat) (bused : Nat) (bsides : Nat) (blog : Nat) (la : Nat) (dduels : Int32) (dduelSides : Nat) (dduelMornings : Nat) (dhonour : Int32) (ddraw : Int32) (dusesOfKind : Nat) (dmen : Nat) (dmen_count : Int32) (dmen_names : Nat) (dmen_dies : Nat) (Fdmen_dies : Nat → Int32) (dmen_coins : Nat) (dmen_fathers : Nat) (dformulas : Nat) (dreasons : Nat) (dreasons_count : Int32) (dreasons_names : Nat) (dreasons_kinds : Nat) (dreasons_owners : Nat) (Fdreasons_owners : Nat → Int32) (dreasons_froms : Nat) (dreasons_tos : Nat) (dreasons_rents : Nat) (dreasons_sorts : Nat) (p0 : Int32) (p1 : Int32) (hh0 : 0 ≤ bseed.toInt ∧ bseed.toInt ≤ 999) (hh1 : 0 ≤ bduels.toInt ∧ bduels.toInt ≤ 8) (hh2 : 0 ≤ blines.toInt ∧ blines.toInt ≤ 60) (hh4 : 0 ≤ dduels.toInt ∧ dduels.toInt ≤ 6) (hh6 : 0 ≤ ddraw.toInt ∧ ddraw.toInt ≤ 999) (hh7 : 0 ≤ dmen_count.toInt ∧ dmen_count.toInt ≤ 6) (hh13 : 0 ≤ dreasons_count.toInt ∧ dreasons_count.toInt ≤ 8) (hh15 : Rg 8 (-1) 5 Fdreasons_owners) (hh16 : 0 ≤ p0.toInt ∧ p0.toInt ≤ 5) (hh17 : 0 ≤ p1.toInt ∧ p1.toInt ≤ 7) : Met l yX9_freeFrom (.code yX9_freeFrom cX9_freeFrom 4 (some .int) :: gT) ({ frames := 3, cells := 0, slots := 0, locals := 68 }) (va_Pc [.ref h, .ref la, .int p0, .int p1] (Pst g sz [(h, .inr (9, [.int bday, .int bseed, .int balive, .int bstruck, .int bopen, .int bduels, .int blines, .ref bcoins, .ref brented, .ref bmornings, .ref bhonours, .ref bused, .ref bsides, .ref blog])), (brented, aI g 6 Fbrented), (la, .inr (2, [.ref dmen, .ref dformulas, .ref dreasons, .int dduels, .ref dduelSides, .ref dduelMornings, .int dhonour, .int ddraw, .ref dusesOfKind])), (dmen, .inr (3, [.int dmen_count, .ref dmen_names, .ref dmen_dies, .ref dmen_coins, .ref dmen_fathers])), (dmen_dies, aI g 6 Fdmen_dies), (dreasons, .inr (6, [.int dreasons_count, .ref dreasons_names, .ref dreasons_kinds, .ref dreasons_owners, .ref dreasons_froms, .ref dreasons_tos, .ref dreasons_rents, .ref dreasons_sorts])), (dreasons_owners, aI g 8 Fdreasons_owners)] nX)) (va_Qi (fun (r : Int32) => fun (_ : Unit) => True) (Qst g [] sz (fun _ => [])) (va_A [] sz)) 0 0 (va_A [] sz) := by
  refine Met.ofW (cc := cX9_freeFrom) (maxL := 4) (ret := (some .int)) (by decide) rfl ?_
  intro p e s m args below meth c s₁ B hml hv
  obtain ⟨rfl, hsz, hP, hK, hD0, hX⟩ := hv
  have hx := B.exec
  have hb := B.bytes
  have hr := B.returns
  have hT : ∀ w ∈ gT, w.before _ s = true := fun w h => atoms_spec (ws := .code yX9_freeFrom cX9_freeFrom 4 (some .int) :: gT) B.pre w (List.mem_cons_of_mem _ h)
  have hown : s.vm.findClass RX9 = some m.cls := findClass_of_methodNamed B.named
  have hlocks := B.notSynchronized
  subst hsz
  have hD := hD0
  generalize hAe : va_A [] s.heap.size = A at ⊢
  have hA : ∀ q : Nat, s.heap.size ≤ q → A q := fun q h => by rw [← hAe]; exact Or.inr h
  have hS : va_S A s.heap s.heap [] := va_S.rf
  have hl := lv_entry ([.ref h, .ref la, .int p0, .int p1]) (n := 4) (Nat.le_of_ble_eq_true rfl)
  rw [lg_entry_eq]
  generalize (lg_sl ([.ref h, .ref la, .int p0, .int p1]) ++ List.replicate (4 - (lg_sl ([.ref h, .ref la, .int p0, .int p1])).length) Slot.unset).toArray = ls at hl ⊢
  have hl : lv_has ls 4 [(0, .ref h), (1, .ref la), (2, .int p0), (3, .int p1)] := hl
  refine p_nH (fun H hH => ?_)
  have hP : va_P g.1 vwCl [(h, .inr (9, [.int bday, .int bseed, .int balive, .int bstruck, .int bopen, .int bduels, .int blines, .ref bcoins, .ref brented, .ref bmornings, .ref bhonours, .ref bused, .ref bsides, .ref blog])), (brented, aI g 6 Fbrented), (la, .inr (2, [.ref dmen, .ref dformulas, .ref dreasons, .int dduels, .ref dduelSides, .ref dduelMornings, .int dhonour, .int ddraw, .ref dusesOfKind])), (dmen, .inr (3, [.int dmen_count, .ref dmen_names, .ref dmen_dies, .ref dmen_coins, .ref dmen_fathers])), (dmen_dies, aI g 6 Fdmen_dies), (dreasons, .inr (6, [.int dreasons_count, .ref dreasons_names, .ref dreasons_kinds, .ref dreasons_owners, .ref dreasons_froms, .ref dreasons_tos, .ref dreasons_rents, .ref dreasons_sorts])), (dreasons_owners, aI g 8 Fdreasons_owners)] H := by rw [hH]; exact hP
  have hS : va_S A s.heap H [] := by rw [hH]; exact hS
  refine lv_aload_n hx hb dX9_freeFrom_0 rfl (lv_at hl 0 rfl) ?_
  refine lv_aload_n hx hb dX9_freeFrom_1 rfl (lv_at hl 1 rfl) ?_
  refine lv_iload_n hx hb dX9_freeFrom_2 rfl (lv_at hl 2 rfl) ?_
  refine lv_iload_n hx hb dX9_freeFrom_3 rfl (lv_at hl 3 rfl) ?_
  refine k_iR (k_V (n := 3) ⟨hx, hb, hml, hown, hT⟩ hK hP hD [0, 1, 2, 5, 6] rfl (by decide +kernel) (s_X9_isRentable l g H.size h bday bseed balive bstruck bopen bduels blines bcoins brented Fbrented bmornings bhonours bused bsides blog la dduels dduelSides dduelMornings dhonour ddraw dusesOfKind dmen dformulas dreasons dreasons_count dreasons_names dreasons_kinds dreasons_owners Fdreasons_owners dreasons_froms dreasons_tos dreasons_rents dreasons_sorts p0 p1 (by first | with_reducible assumption | omega) (by first | with_reducible assumption | omega) (by first | with_reducible assumption | omega) (by first | with_reducible assumption | omega) (by first | with_reducible assumption | omega) (by first | with_reducible assumption | omega) hh15 (by first | with_reducible assumption | omega) (by first | with_reducible assumption | omega)) (gV bw_170 bw_171 bw_172 bw_46 bw_169) rfl rfl (by decide +kernel) ⟨by decide, by decide⟩ (ci := 9) (q0 := 0) rfl rfl (fun _ _ _ _ _ => trivial) (fun _ _ _ => trivial) rfl rfl hl.1 (Nat.le_of_ble_eq_true rfl) dX9_freeFrom_4 ⟨by decide, by decide⟩) hP hS hA (fun r_1 _ H locs hw0 hP hS => ?_)
  have hw : (r_1 = 1 ∧ (0 ≤ (Fdreasons_owners p1.toNatClampNeg).toInt)) ∨ (r_1 = 0) := hw0
  clear hw0
  rcases hw with ⟨e_3, w_2⟩ | e_4
  · subst e_3
    refine lv_if_eq (tgt := 30) hx hb dX9_freeFrom_7 (by decide) (fun c9 => absurd c9 (by decide)) (fun _ => ?_)
    refine lv_aload_n hx hb dX9_freeFrom_10 rfl (lv_at hl 1 rfl) ?_
    refine va_get (D := g.1) (ci := 2) (v := .ref dmen) (C := RX2) (T := TX2) (N := 9) hx hb hT inF_X2 hown hK.1 hP 2 rfl rfl 0 (by decide) (hT _ bw_53) (fun _ h9 => h9) rfl dX9_freeFrom_11 ?_
    refine va_get (D := g.1) (ci := 3) (v := .ref dmen_dies) (C := RX3) (T := TX3) (N := 5) hx hb hT inF_X3 hown hK.1 hP 3 rfl rfl 2 (by decide) (hT _ bw_95) (fun _ h9 => h9) rfl dX9_freeFrom_14 ?_
    refine lv_aload_n hx hb dX9_freeFrom_17 rfl (lv_at hl 1 rfl) ?_
    refine va_get (D := g.1) (ci := 2) (v := .ref dreasons) (C := RX2) (T := TX2) (N := 9) hx hb hT inF_X2 hown hK.1 hP 2 rfl rfl 2 (by decide) (hT _ bw_67) (fun _ h9 => h9) rfl dX9_freeFrom_18 ?_
    refine va_get (D := g.1) (ci := 6) (v := .ref dreasons_owners) (C := RX6) (T := TX6) (N := 8) hx hb hT inF_X6 hown hK.1 hP 5 rfl rfl 3 (by decide) (hT _ bw_68) (fun _ h9 => h9) rfl dX9_freeFrom_21 ?_
    refine lv_iload_n hx hb dX9_freeFrom_24 rfl (lv_at hl 3 rfl) ?_
    have h_5 : vp_in p1 8 := vp_in_iff.mpr (by omega)
    refine va_iald hx hb hK.1 hP 6 1 rfl rfl (i := p1) h_5 dX9_freeFrom_25 ?_
    refine lv_topi (fun x_6 ex_6 => ?_)
    have fx_6 : (-1) ≤ x_6.toInt ∧ x_6.toInt ≤ 5 := Rg.rd hh15 h_5 ex_6
    have ux_6 := congrArg Int32.toInt ex_6
    have h_7 : vp_in x_6 6 := vp_in_iff.mpr (by omega)
    refine va_iald hx hb hK.1 hP 4 1 rfl rfl (i := x_6) h_7 dX9_freeFrom_26 ?_
    refine lv_topi (fun x_8 ex_8 => ?_)
    have ux_8 := congrArg Int32.toInt ex_8
    refine lv_goto (tgt := 31) hx hb dX9_freeFrom_27 (by decide) ?_
    have hP9 : va_P g.1 vwCl [] H := hP.sub [] rfl
    have hD9 : va_D A [] := ⟨fun i j p q h => by simp at h, fun k q h => by simp at h⟩
    exact W.iret (v := x_8) hx hb hr (fun t ht hW => ⟨⟨x_8, (), rfl, trivial, by rw [ht]; exact hP9, by rw [hAe]; exact hD9⟩, hS.F ht⟩) hS.2.2 dX9_freeFrom_31
  · subst e_4
    refine lv_if_eq (tgt := 30) hx hb dX9_freeFrom_7 (by decide) (fun _ => ?_) (fun c9 => absurd (by decide) c9)
    refine lv_iconst (v := 0) hx hb dX9_freeFrom_30 (by decide) ?_
    have hP9 : va_P g.1 vwCl [] H := hP.sub [] rfl
    have hD9 : va_D A [] := ⟨fun i j p q h => by simp at h, fun k q h => by simp at h⟩
    exact W.iret (v := 0) hx hb hr (fun t ht hW => ⟨⟨0, (), rfl, trivial, by rw [ht]; exact hP9, by rw [hAe]; exact hD9⟩, hS.F ht⟩) hS.2.2 dX9_freeFrom_31

theorem bw_174 : Cond.methodLink RX9 137 yX9_isStruck ∈ gT := gT_tb 951 (by decide +kernel) (by decide +kernel)
theorem bw_175 : Cond.instanceMethod yX9_isStruck ∈ gT := gT_tb 887 (by decide +kernel) (by decide +kernel)
theorem bw_176 : Cond.selects RX9 yX9_isStruck yX9_isStruck ∈ gT := gT_tb 888 (by decide +kernel) (by decide +kernel)
theorem bw_177 : Cond.fieldLink RX9 140 "DuelDelays$Reasons" "sorts" "[I" ∈ gT := gT_tb 266 (by decide +kernel) (by decide +kernel)
theorem bw_178 : Cond.methodLink RX9 143 yX9_timesUsed ∈ gT := gT_tb 952 (by decide +kernel) (by decide +kernel)
theorem bw_179 : Cond.instanceMethod yX9_timesUsed ∈ gT := gT_tb 891 (by decide +kernel) (by decide +kernel)
theorem bw_180 : Cond.selects RX9 yX9_timesUsed yX9_timesUsed ∈ gT := gT_tb 892 (by decide +kernel) (by decide +kernel)
theorem bw_181 : Cond.code yX9_isGone cX9_isGone 3 (some .boolean) ∈ gT := gT_tb 950 (by decide +kernel) (by decide +kernel)
theorem dX9_isGone_0 : decode cX9_isGone 0 = .ok (.aload_n 0, 1) := by decide +kernel
theorem dX9_isGone_1 : decode cX9_isGone 1 = .ok (.iload_n 2, 1) := by decide +kernel
theorem dX9_isGone_2 : decode cX9_isGone 2 = .ok (.invokevirtual 137, 3) := by decide +kernel
theorem dX9_isGone_5 : decode cX9_isGone 5 = .ok (.ifCond .ne 24, 3) := by decide +kernel
theorem dX9_isGone_8 : decode cX9_isGone 8 = .ok (.aload_n 1, 1) := by decide +kernel
theorem dX9_isGone_9 : decode cX9_isGone 9 = .ok (.getfield 117, 3) := by decide +kernel
theorem dX9_isGone_12 : decode cX9_isGone 12 = .ok (.getfield 140, 3) := by decide +kernel
theorem dX9_isGone_15 : decode cX9_isGone 15 = .ok (.iload_n 2, 1) := by decide +kernel
theorem dX9_isGone_16 : decode cX9_isGone 16 = .ok (.iaload, 1) := by decide +kernel
theorem dX9_isGone_17 : decode cX9_isGone 17 = .ok (.iconst 2, 1) := by decide +kernel
theorem dX9_isGone_18 : decode cX9_isGone 18 = .ok (.if_icmp .ne 15, 3) := by decide +kernel
theorem dX9_isGone_21 : decode cX9_isGone 21 = .ok (.aload_n 0, 1) := by decide +kernel
theorem dX9_isGone_22 : decode cX9_isGone 22 = .ok (.iload_n 2, 1) := by decide +kernel
theorem dX9_isGone_23 : decode cX9_isGone 23 = .ok (.invokevirtual 143, 3) := by decide +kernel
theorem dX9_isGone_26 : decode cX9_isGone 26 = .ok (.ifCond .le 7, 3) := by decide +kernel
theorem dX9_isGone_29 : decode cX9_isGone 29 = .ok (.iconst 1, 1) := by decide +kernel
theorem dX9_isGone_30 : decode cX9_isGone 30 = .ok (.goto 4, 3) := by decide +kernel
theorem dX9_isGone_33 : decode cX9_isGone 33 = .ok (.iconst 0, 1) := by decide +kernel
theorem dX9_isGone_34 : decode cX9_isGone 34 = .ok (.ireturn, 1) := by decide +kernel
set_option maxHeartbeats 4000000 in
set_option maxRecDepth 100000 in
theorem s_X9_isGone (l : Launch) (g : GG) (sz : Nat) (h : Nat) (bday : Int32) (bseed : Int32) (balive : Int32) (bstruck : Int32) (bopen : Int32) (bduels : Int32) (blines : Int32) (bcoins : Nat) (brented : Nat) (bmornings : Nat) (bhonours : Nat) (bused : Nat) (Fbused : Nat → Int32) (bsides : Nat) (blog : Nat) (la : Nat) (dduels : Int32) (dduelSides : Nat) (dduelMornings : Nat) (dhonour : Int32) (ddraw : Int32) (dusesOfKind : Nat) (dmen : Nat) (dformulas : Nat) (dreasons : Nat) (dreasons_count : Int32) (dreasons_names : Nat) (dreasons_kinds : Nat) (dreasons_owners : Nat) (dreasons_froms : Nat) (dreasons_tos : Nat) (dreasons_rents : Nat) (dreasons_sorts : Nat) (Fdreasons_sorts : Nat → Int32) (p0 : Int32) (hh0 : 0 ≤ bseed.toInt ∧ bseed.toInt ≤ 999) (hh1 : 0 ≤ bduels.toInt ∧ bduels.toInt ≤ 8) (hh2 : 0 ≤ blines.toInt ∧ blines.toInt ≤ 60) (hh4 : 0 ≤ dduels.toInt ∧ dduels.toInt ≤ 6) (hh6 : 0 ≤ ddraw.toInt ∧ ddraw.toInt ≤ 999) (hh13 : 0 ≤ dreasons_count.toInt ∧ dreasons_count.toInt ≤ 8) (hh16 : 0 ≤ p0.toInt ∧ p0.toInt ≤ 7) : Met l yX9_isGone (.code yX9_isGone cX9_isGone 3 (some .boolean) :: gT) ({ frames := 2, cells := 0, slots := 0, locals := 45 }) (va_Pc [.ref h, .ref la, .int p0] (Pst g sz [(h, .inr (9, [.int bday, .int bseed, .int balive, .int bstruck, .int bopen, .int bduels, .int blines, .ref bcoins, .ref brented, .ref bmornings, .ref bhonours, .ref bused, .ref bsides, .ref blog])), (bused, aI g 8 Fbused), (la, .inr (2, [.ref dmen, .ref dformulas, .ref dreasons, .int dduels, .ref dduelSides, .ref dduelMornings, .int dhonour, .int ddraw, .ref dusesOfKind])), (dreasons, .inr (6, [.int dreasons_count, .ref dreasons_names, .ref dreasons_kinds, .ref dreasons_owners, .ref dreasons_froms, .ref dreasons_tos, .ref dreasons_rents, .ref dreasons_sorts])), (dreasons_sorts, aI g 8 Fdreasons_sorts)] nX)) (va_Qi (fun (r : Int32) => fun (_ : Unit) => 0 ≤ r.toInt ∧ r.toInt ≤ 1) (Qst g [] sz (fun _ => [])) (va_A [] sz)) 0 0 (va_A [] sz) := by
  refine Met.ofW (cc := cX9_isGone) (maxL := 3) (ret := (some .boolean)) (by decide) rfl ?_
  intro p e s m args below meth c s₁ B hml hv
  obtain ⟨rfl, hsz, hP, hK, hD0, hX⟩ := hv
  have hx := B.exec
  have hb := B.bytes
  have hr := B.returns
  have hT : ∀ w ∈ gT, w.before _ s = true := fun w h => atoms_spec (ws := .code yX9_isGone cX9_isGone 3 (some .boolean) :: gT) B.pre w (List.mem_cons_of_mem _ h)
  have hown : s.vm.findClass RX9 = some m.cls := findClass_of_methodNamed B.named
  have hlocks := B.notSynchronized
  subst hsz
  have hD := hD0
  generalize hAe : va_A [] s.heap.size = A at ⊢
  have hA : ∀ q : Nat, s.heap.size ≤ q → A q := fun q h => by rw [← hAe]; exact Or.inr h
  have hS : va_S A s.heap s.heap [] := va_S.rf
  have hl := lv_entry ([.ref h, .ref la, .int p0]) (n := 3) (Nat.le_of_ble_eq_true rfl)
  rw [lg_entry_eq]
  generalize (lg_sl ([.ref h, .ref la, .int p0]) ++ List.replicate (3 - (lg_sl ([.ref h, .ref la, .int p0])).length) Slot.unset).toArray = ls at hl ⊢
  have hl : lv_has ls 3 [(0, .ref h), (1, .ref la), (2, .int p0)] := hl
  refine p_nH (fun H hH => ?_)
  have hP : va_P g.1 vwCl [(h, .inr (9, [.int bday, .int bseed, .int balive, .int bstruck, .int bopen, .int bduels, .int blines, .ref bcoins, .ref brented, .ref bmornings, .ref bhonours, .ref bused, .ref bsides, .ref blog])), (bused, aI g 8 Fbused), (la, .inr (2, [.ref dmen, .ref dformulas, .ref dreasons, .int dduels, .ref dduelSides, .ref dduelMornings, .int dhonour, .int ddraw, .ref dusesOfKind])), (dreasons, .inr (6, [.int dreasons_count, .ref dreasons_names, .ref dreasons_kinds, .ref dreasons_owners, .ref dreasons_froms, .ref dreasons_tos, .ref dreasons_rents, .ref dreasons_sorts])), (dreasons_sorts, aI g 8 Fdreasons_sorts)] H := by rw [hH]; exact hP
  have hS : va_S A s.heap H [] := by rw [hH]; exact hS
  refine lv_aload_n hx hb dX9_isGone_0 rfl (lv_at hl 0 rfl) ?_
  refine lv_iload_n hx hb dX9_isGone_1 rfl (lv_at hl 2 rfl) ?_
  refine k_iR (k_V (n := 1) ⟨hx, hb, hml, hown, hT⟩ hK hP hD [0] rfl (by decide +kernel) (s_X9_isStruck l g H.size h bday bseed balive bstruck bopen bduels blines bcoins brented bmornings bhonours bused bsides blog p0 (by first | with_reducible assumption | omega) (by first | with_reducible assumption | omega) (by first | with_reducible assumption | omega)) (gV bw_174 bw_175 bw_176 bw_46 bw_30) rfl rfl (by decide +kernel) ⟨by decide, by decide⟩ (ci := 9) (q0 := 0) rfl rfl (fun _ _ _ _ _ => trivial) (fun _ _ _ => trivial) rfl rfl hl.1 (Nat.le_of_ble_eq_true rfl) dX9_isGone_2 ⟨by decide, by decide⟩) hP hS hA (fun r_1 _ H locs hw0 hP hS => ?_)
  have hw : 0 ≤ r_1.toInt ∧ r_1.toInt ≤ 1 := hw0
  clear hw0
  have w_2 := hw
  refine lv_if_ne (tgt := 29) hx hb dX9_isGone_5 (by decide) (fun c_3 => ?_) (fun c_3 => ?_)
  · have f_4 := E_ne (rfl : r_1.toInt = _) (by decide : (0 : Int32).toInt = 0) c_3
    refine lv_iconst (v := 1) hx hb dX9_isGone_29 (by decide) ?_
    refine lv_goto (tgt := 34) hx hb dX9_isGone_30 (by decide) ?_
    have hP9 : va_P g.1 vwCl [] H := hP.sub [] rfl
    have hD9 : va_D A [] := ⟨fun i j p q h => by simp at h, fun k q h => by simp at h⟩
    exact W.zret (v := 1) (ty := .boolean) hx hb hr rfl (fun t ht hW => ⟨⟨1, (), rfl, ⟨by decide, by decide⟩, by rw [ht]; exact hP9, by rw [hAe]; exact hD9⟩, hS.F ht⟩) hS.2.2 dX9_isGone_34
  · have f_5 := E_eq (rfl : r_1.toInt = _) (by decide : (0 : Int32).toInt = 0) c_3
    refine lv_aload_n hx hb dX9_isGone_8 rfl (lv_at hl 1 rfl) ?_
    refine va_get (D := g.1) (ci := 2) (v := .ref dreasons) (C := RX2) (T := TX2) (N := 9) hx hb hT inF_X2 hown hK.1 hP 2 rfl rfl 2 (by decide) (hT _ bw_67) (fun _ h9 => h9) rfl dX9_isGone_9 ?_
    refine va_get (D := g.1) (ci := 6) (v := .ref dreasons_sorts) (C := RX6) (T := TX6) (N := 8) hx hb hT inF_X6 hown hK.1 hP 3 rfl rfl 7 (by decide) (hT _ bw_177) (fun _ h9 => h9) rfl dX9_isGone_12 ?_
    refine lv_iload_n hx hb dX9_isGone_15 rfl (lv_at hl 2 rfl) ?_
    have h_6 : vp_in p0 8 := vp_in_iff.mpr (by omega)
    refine va_iald hx hb hK.1 hP 4 1 rfl rfl (i := p0) h_6 dX9_isGone_16 ?_
    refine lv_topi (fun x_7 ex_7 => ?_)
    have ux_7 := congrArg Int32.toInt ex_7
    refine lv_iconst (v := 2) hx hb dX9_isGone_17 (by decide) ?_
    refine lv_icmp_ne (tgt := 33) hx hb dX9_isGone_18 (by decide) (fun c_8 => ?_) (fun c_8 => ?_)
    · have f_9 := E_ne (rfl : x_7.toInt = _) (by decide : (2 : Int32).toInt = 2) c_8
      refine lv_iconst (v := 0) hx hb dX9_isGone_33 (by decide) ?_
      have hP9 : va_P g.1 vwCl [] H := hP.sub [] rfl
      have hD9 : va_D A [] := ⟨fun i j p q h => by simp at h, fun k q h => by simp at h⟩
      exact W.zret (v := 0) (ty := .boolean) hx hb hr rfl (fun t ht hW => ⟨⟨0, (), rfl, ⟨by decide, by decide⟩, by rw [ht]; exact hP9, by rw [hAe]; exact hD9⟩, hS.F ht⟩) hS.2.2 dX9_isGone_34
    · have f_10 := E_eq (rfl : x_7.toInt = _) (by decide : (2 : Int32).toInt = 2) c_8
      refine lv_aload_n hx hb dX9_isGone_21 rfl (lv_at hl 0 rfl) ?_
      refine lv_iload_n hx hb dX9_isGone_22 rfl (lv_at hl 2 rfl) ?_
      refine k_iR (k_V (n := 1) ⟨hx, hb, hml, hown, hT⟩ hK hP hD [0, 1] rfl (by decide +kernel) (s_X9_timesUsed l g H.size h bday bseed balive bstruck bopen bduels blines bcoins brented bmornings bhonours bused Fbused bsides blog p0 (by first | with_reducible assumption | omega) (by first | with_reducible assumption | omega) (by first | with_reducible assumption | omega)) (gV bw_178 bw_179 bw_180 bw_46 bw_66) rfl rfl (by decide +kernel) ⟨by decide, by decide⟩ (ci := 9) (q0 := 0) rfl rfl (fun _ _ _ _ _ => trivial) (fun _ _ _ => trivial) rfl rfl hl.1 (Nat.le_of_ble_eq_true rfl) dX9_isGone_23 ⟨by decide, by decide⟩) hP hS hA (fun r_11 _ H locs hw0 hP hS => ?_)
      refine lv_if_le (tgt := 33) hx hb dX9_isGone_26 (by decide) (fun c_12 => ?_) (fun c_12 => ?_)
      · have f_13 := E_le (rfl : r_11.toInt = _) (by decide : (0 : Int32).toInt = 0) c_12
        refine lv_iconst (v := 0) hx hb dX9_isGone_33 (by decide) ?_
        have hP9 : va_P g.1 vwCl [] H := hP.sub [] rfl
        have hD9 : va_D A [] := ⟨fun i j p q h => by simp at h, fun k q h => by simp at h⟩
        exact W.zret (v := 0) (ty := .boolean) hx hb hr rfl (fun t ht hW => ⟨⟨0, (), rfl, ⟨by decide, by decide⟩, by rw [ht]; exact hP9, by rw [hAe]; exact hD9⟩, hS.F ht⟩) hS.2.2 dX9_isGone_34
      · have f_14 := E_nle (rfl : r_11.toInt = _) (by decide : (0 : Int32).toInt = 0) c_12
        refine lv_iconst (v := 1) hx hb dX9_isGone_29 (by decide) ?_
        refine lv_goto (tgt := 34) hx hb dX9_isGone_30 (by decide) ?_
        have hP9 : va_P g.1 vwCl [] H := hP.sub [] rfl
        have hD9 : va_D A [] := ⟨fun i j p q h => by simp at h, fun k q h => by simp at h⟩
        exact W.zret (v := 1) (ty := .boolean) hx hb hr rfl (fun t ht hW => ⟨⟨1, (), rfl, ⟨by decide, by decide⟩, by rw [ht]; exact hP9, by rw [hAe]; exact hD9⟩, hS.F ht⟩) hS.2.2 dX9_isGone_34

theorem bw_182 : Cond.methodLink RX9 146 yX6_isInTime ∈ gT := gT_tb 933 (by decide +kernel) (by decide +kernel)
theorem bw_183 : Cond.instanceMethod yX6_isInTime ∈ gT := gT_tb 934 (by decide +kernel) (by decide +kernel)
theorem bw_184 : Cond.selects RX6 yX6_isInTime yX6_isInTime ∈ gT := gT_tb 935 (by decide +kernel) (by decide +kernel)
theorem bw_185 : Cond.initialized RX6 ∈ gT := gT_tb 11 (by decide +kernel) (by decide +kernel)
theorem bw_186 : Cond.methodLink RX9 153 yX9_freeFrom ∈ gT := gT_tb 938 (by decide +kernel) (by decide +kernel)
theorem bw_187 : Cond.instanceMethod yX9_freeFrom ∈ gT := gT_tb 939 (by decide +kernel) (by decide +kernel)
theorem bw_188 : Cond.selects RX9 yX9_freeFrom yX9_freeFrom ∈ gT := gT_tb 940 (by decide +kernel) (by decide +kernel)
theorem bw_189 : Cond.methodLink RX9 157 yX9_isGone ∈ gT := gT_tb 947 (by decide +kernel) (by decide +kernel)
theorem bw_190 : Cond.instanceMethod yX9_isGone ∈ gT := gT_tb 948 (by decide +kernel) (by decide +kernel)
theorem bw_191 : Cond.selects RX9 yX9_isGone yX9_isGone ∈ gT := gT_tb 949 (by decide +kernel) (by decide +kernel)
theorem bw_192 : Cond.code yX9_mayUse cX9_mayUse 6 (some .boolean) ∈ gT := gT_tb 932 (by decide +kernel) (by decide +kernel)
theorem dX9_mayUse_0 : decode cX9_mayUse 0 = .ok (.aload_n 1, 1) := by decide +kernel
theorem dX9_mayUse_1 : decode cX9_mayUse 1 = .ok (.getfield 117, 3) := by decide +kernel
theorem dX9_mayUse_4 : decode cX9_mayUse 4 = .ok (.getfield 140, 3) := by decide +kernel
theorem dX9_mayUse_7 : decode cX9_mayUse 7 = .ok (.iload 4, 2) := by decide +kernel
theorem dX9_mayUse_9 : decode cX9_mayUse 9 = .ok (.iaload, 1) := by decide +kernel
theorem dX9_mayUse_10 : decode cX9_mayUse 10 = .ok (.iload_n 3, 1) := by decide +kernel
theorem dX9_mayUse_11 : decode cX9_mayUse 11 = .ok (.iload 4, 2) := by decide +kernel
theorem dX9_mayUse_13 : decode cX9_mayUse 13 = .ok (.invokestatic 107, 3) := by decide +kernel
theorem dX9_mayUse_16 : decode cX9_mayUse 16 = .ok (.istore 5, 2) := by decide +kernel
theorem dX9_mayUse_18 : decode cX9_mayUse 18 = .ok (.aload_n 0, 1) := by decide +kernel
theorem dX9_mayUse_19 : decode cX9_mayUse 19 = .ok (.getfield 33, 3) := by decide +kernel
theorem dX9_mayUse_22 : decode cX9_mayUse 22 = .ok (.aload_n 0, 1) := by decide +kernel
theorem dX9_mayUse_23 : decode cX9_mayUse 23 = .ok (.getfield 18, 3) := by decide +kernel
theorem dX9_mayUse_26 : decode cX9_mayUse 26 = .ok (.iload_n 2, 1) := by decide +kernel
theorem dX9_mayUse_27 : decode cX9_mayUse 27 = .ok (.iaload, 1) := by decide +kernel
theorem dX9_mayUse_28 : decode cX9_mayUse 28 = .ok (.if_icmp .gt 65, 3) := by decide +kernel
theorem dX9_mayUse_31 : decode cX9_mayUse 31 = .ok (.aload_n 1, 1) := by decide +kernel
theorem dX9_mayUse_32 : decode cX9_mayUse 32 = .ok (.getfield 117, 3) := by decide +kernel
theorem dX9_mayUse_35 : decode cX9_mayUse 35 = .ok (.iload 4, 2) := by decide +kernel
theorem dX9_mayUse_37 : decode cX9_mayUse 37 = .ok (.aload_n 0, 1) := by decide +kernel
theorem dX9_mayUse_38 : decode cX9_mayUse 38 = .ok (.getfield 33, 3) := by decide +kernel
theorem dX9_mayUse_41 : decode cX9_mayUse 41 = .ok (.invokevirtual 146, 3) := by decide +kernel
theorem dX9_mayUse_44 : decode cX9_mayUse 44 = .ok (.ifCond .eq 49, 3) := by decide +kernel
theorem dX9_mayUse_47 : decode cX9_mayUse 47 = .ok (.aload_n 0, 1) := by decide +kernel
theorem dX9_mayUse_48 : decode cX9_mayUse 48 = .ok (.aload_n 1, 1) := by decide +kernel
theorem dX9_mayUse_49 : decode cX9_mayUse 49 = .ok (.aload_n 0, 1) := by decide +kernel
theorem dX9_mayUse_50 : decode cX9_mayUse 50 = .ok (.iload_n 2, 1) := by decide +kernel
theorem dX9_mayUse_51 : decode cX9_mayUse 51 = .ok (.iload_n 3, 1) := by decide +kernel
theorem dX9_mayUse_52 : decode cX9_mayUse 52 = .ok (.invokevirtual 150, 3) := by decide +kernel
theorem dX9_mayUse_55 : decode cX9_mayUse 55 = .ok (.iload 4, 2) := by decide +kernel
theorem dX9_mayUse_57 : decode cX9_mayUse 57 = .ok (.invokevirtual 153, 3) := by decide +kernel
theorem dX9_mayUse_60 : decode cX9_mayUse 60 = .ok (.aload_n 0, 1) := by decide +kernel
theorem dX9_mayUse_61 : decode cX9_mayUse 61 = .ok (.getfield 33, 3) := by decide +kernel
theorem dX9_mayUse_64 : decode cX9_mayUse 64 = .ok (.if_icmp .gt 29, 3) := by decide +kernel
theorem dX9_mayUse_67 : decode cX9_mayUse 67 = .ok (.aload_n 0, 1) := by decide +kernel
theorem dX9_mayUse_68 : decode cX9_mayUse 68 = .ok (.aload_n 1, 1) := by decide +kernel
theorem dX9_mayUse_69 : decode cX9_mayUse 69 = .ok (.iload 4, 2) := by decide +kernel
theorem dX9_mayUse_71 : decode cX9_mayUse 71 = .ok (.invokevirtual 157, 3) := by decide +kernel
theorem dX9_mayUse_74 : decode cX9_mayUse 74 = .ok (.ifCond .ne 19, 3) := by decide +kernel
theorem dX9_mayUse_77 : decode cX9_mayUse 77 = .ok (.aload_n 0, 1) := by decide +kernel
theorem dX9_mayUse_78 : decode cX9_mayUse 78 = .ok (.getfield 24, 3) := by decide +kernel
theorem dX9_mayUse_81 : decode cX9_mayUse 81 = .ok (.iload_n 2, 1) := by decide +kernel
theorem dX9_mayUse_82 : decode cX9_mayUse 82 = .ok (.iaload, 1) := by decide +kernel
theorem dX9_mayUse_83 : decode cX9_mayUse 83 = .ok (.iload 5, 2) := by decide +kernel
theorem dX9_mayUse_85 : decode cX9_mayUse 85 = .ok (.iand, 1) := by decide +kernel
theorem dX9_mayUse_86 : decode cX9_mayUse 86 = .ok (.ifCond .ne 7, 3) := by decide +kernel
theorem dX9_mayUse_89 : decode cX9_mayUse 89 = .ok (.iconst 1, 1) := by decide +kernel
theorem dX9_mayUse_90 : decode cX9_mayUse 90 = .ok (.goto 4, 3) := by decide +kernel
theorem dX9_mayUse_93 : decode cX9_mayUse 93 = .ok (.iconst 0, 1) := by decide +kernel
theorem dX9_mayUse_94 : decode cX9_mayUse 94 = .ok (.ireturn, 1) := by decide +kernel
set_option maxHeartbeats 4000000 in
set_option maxRecDepth 100000 in
theorem s_X9_mayUse (l : Launch) (g : GG) (sz : Nat) (h : Nat) (bday : Int32) (bseed : Int32) (balive : Int32) (bstruck : Int32) (bopen : Int32) (bduels : Int32) (blines : Int32) (bcoins : Nat) (brented : Nat) (Fbrented : Nat → Int32) (bmornings : Nat) (Fbmornings : Nat → Int32) (bhonours : Nat) (bused : Nat) (Fbused : Nat → Int32) (bsides : Nat) (Fbsides : Nat → Int32) (blog : Nat) (la : Nat) (dduels : Int32) (dduelSides : Nat) (dduelMornings : Nat) (dhonour : Int32) (ddraw : Int32) (dusesOfKind : Nat) (dmen : Nat) (dmen_count : Int32) (dmen_names : Nat) (dmen_dies : Nat) (Fdmen_dies : Nat → Int32) (dmen_coins : Nat) (dmen_fathers : Nat) (dformulas : Nat) (dreasons : Nat) (dreasons_count : Int32) (dreasons_names : Nat) (dreasons_kinds : Nat) (dreasons_owners : Nat) (Fdreasons_owners : Nat → Int32) (dreasons_froms : Nat) (Fdreasons_froms : Nat → Int32) (dreasons_tos : Nat) (Fdreasons_tos : Nat → Int32) (dreasons_rents : Nat) (dreasons_sorts : Nat) (Fdreasons_sorts : Nat → Int32) (p0 : Int32) (p1 : Int32) (p2 : Int32) (hh0 : 0 ≤ bseed.toInt ∧ bseed.toInt ≤ 999) (hh1 : 0 ≤ bduels.toInt ∧ bduels.toInt ≤ 8) (hh2 : 0 ≤ blines.toInt ∧ blines.toInt ≤ 60) (hh3 : Rg 16 0 5 Fbsides) (hh4 : 0 ≤ dduels.toInt ∧ dduels.toInt ≤ 6) (hh6 : 0 ≤ ddraw.toInt ∧ ddraw.toInt ≤ 999) (hh7 : 0 ≤ dmen_count.toInt ∧ dmen_count.toInt ≤ 6) (hh13 : 0 ≤ dreasons_count.toInt ∧ dreasons_count.toInt ≤ 8) (hh15 : Rg 8 (-1) 5 Fdreasons_owners) (hh16 : 0 ≤ p0.toInt ∧ p0.toInt ≤ 7) (hh17 : 0 ≤ p1.toInt ∧ p1.toInt ≤ 1) (hh18 : 0 ≤ p2.toInt ∧ p2.toInt ≤ 7) : Met l yX9_mayUse (.code yX9_mayUse cX9_mayUse 6 (some .boolean) :: gT) ({ frames := 4, cells := 0, slots := 0, locals := 91 }) (va_Pc [.ref h, .ref la, .int p0, .int p1, .int p2] (Pst g sz [(h, .inr (9, [.int bday, .int bseed, .int balive, .int bstruck, .int bopen, .int bduels, .int blines, .ref bcoins, .ref brented, .ref bmornings, .ref bhonours, .ref bused, .ref bsides, .ref blog])), (brented, aI g 6 Fbrented), (bmornings, aI g 8 Fbmornings), (bused, aI g 8 Fbused), (bsides, aI g 16 Fbsides), (la, .inr (2, [.ref dmen, .ref dformulas, .ref dreasons, .int dduels, .ref dduelSides, .ref dduelMornings, .int dhonour, .int ddraw, .ref dusesOfKind])), (dmen, .inr (3, [.int dmen_count, .ref dmen_names, .ref dmen_dies, .ref dmen_coins, .ref dmen_fathers])), (dmen_dies, aI g 6 Fdmen_dies), (dreasons, .inr (6, [.int dreasons_count, .ref dreasons_names, .ref dreasons_kinds, .ref dreasons_owners, .ref dreasons_froms, .ref dreasons_tos, .ref dreasons_rents, .ref dreasons_sorts])), (dreasons_owners, aI g 8 Fdreasons_owners), (dreasons_froms, aI g 8 Fdreasons_froms), (dreasons_tos, aI g 8 Fdreasons_tos), (dreasons_sorts, aI g 8 Fdreasons_sorts)] nX)) (va_Qi (fun (r : Int32) => fun (_ : Unit) => 0 ≤ r.toInt ∧ r.toInt ≤ 1) (Qst g [] sz (fun _ => [])) (va_A [] sz)) 0 0 (va_A [] sz) := by
  refine Met.ofW (cc := cX9_mayUse) (maxL := 6) (ret := (some .boolean)) (by decide) rfl ?_
  intro p e s m args below meth c s₁ B hml hv
  obtain ⟨rfl, hsz, hP, hK, hD0, hX⟩ := hv
  have hx := B.exec
  have hb := B.bytes
  have hr := B.returns
  have hT : ∀ w ∈ gT, w.before _ s = true := fun w h => atoms_spec (ws := .code yX9_mayUse cX9_mayUse 6 (some .boolean) :: gT) B.pre w (List.mem_cons_of_mem _ h)
  have hown : s.vm.findClass RX9 = some m.cls := findClass_of_methodNamed B.named
  have hlocks := B.notSynchronized
  subst hsz
  have hD := hD0
  generalize hAe : va_A [] s.heap.size = A at ⊢
  have hA : ∀ q : Nat, s.heap.size ≤ q → A q := fun q h => by rw [← hAe]; exact Or.inr h
  have hS : va_S A s.heap s.heap [] := va_S.rf
  have hl := lv_entry ([.ref h, .ref la, .int p0, .int p1, .int p2]) (n := 6) (Nat.le_of_ble_eq_true rfl)
  rw [lg_entry_eq]
  generalize (lg_sl ([.ref h, .ref la, .int p0, .int p1, .int p2]) ++ List.replicate (6 - (lg_sl ([.ref h, .ref la, .int p0, .int p1, .int p2])).length) Slot.unset).toArray = ls at hl ⊢
  have hl : lv_has ls 6 [(0, .ref h), (1, .ref la), (2, .int p0), (3, .int p1), (4, .int p2)] := hl
  refine p_nH (fun H hH => ?_)
  have hP : va_P g.1 vwCl [(h, .inr (9, [.int bday, .int bseed, .int balive, .int bstruck, .int bopen, .int bduels, .int blines, .ref bcoins, .ref brented, .ref bmornings, .ref bhonours, .ref bused, .ref bsides, .ref blog])), (brented, aI g 6 Fbrented), (bmornings, aI g 8 Fbmornings), (bused, aI g 8 Fbused), (bsides, aI g 16 Fbsides), (la, .inr (2, [.ref dmen, .ref dformulas, .ref dreasons, .int dduels, .ref dduelSides, .ref dduelMornings, .int dhonour, .int ddraw, .ref dusesOfKind])), (dmen, .inr (3, [.int dmen_count, .ref dmen_names, .ref dmen_dies, .ref dmen_coins, .ref dmen_fathers])), (dmen_dies, aI g 6 Fdmen_dies), (dreasons, .inr (6, [.int dreasons_count, .ref dreasons_names, .ref dreasons_kinds, .ref dreasons_owners, .ref dreasons_froms, .ref dreasons_tos, .ref dreasons_rents, .ref dreasons_sorts])), (dreasons_owners, aI g 8 Fdreasons_owners), (dreasons_froms, aI g 8 Fdreasons_froms), (dreasons_tos, aI g 8 Fdreasons_tos), (dreasons_sorts, aI g 8 Fdreasons_sorts)] H := by rw [hH]; exact hP
  have hS : va_S A s.heap H [] := by rw [hH]; exact hS
  refine lv_aload_n hx hb dX9_mayUse_0 rfl (lv_at hl 1 rfl) ?_
  refine va_get (D := g.1) (ci := 2) (v := .ref dreasons) (C := RX2) (T := TX2) (N := 9) hx hb hT inF_X2 hown hK.1 hP 5 rfl rfl 2 (by decide) (hT _ bw_67) (fun _ h9 => h9) rfl dX9_mayUse_1 ?_
  refine va_get (D := g.1) (ci := 6) (v := .ref dreasons_sorts) (C := RX6) (T := TX6) (N := 8) hx hb hT inF_X6 hown hK.1 hP 8 rfl rfl 7 (by decide) (hT _ bw_177) (fun _ h9 => h9) rfl dX9_mayUse_4 ?_
  refine lv_iload hx hb dX9_mayUse_7 (lv_at hl 4 rfl) ?_
  have h_1 : vp_in p2 8 := vp_in_iff.mpr (by omega)
  refine va_iald hx hb hK.1 hP 12 1 rfl rfl (i := p2) h_1 dX9_mayUse_9 ?_
  refine lv_topi (fun x_2 ex_2 => ?_)
  have ux_2 := congrArg Int32.toInt ex_2
  refine lv_iload_n hx hb dX9_mayUse_10 rfl (lv_at hl 3 rfl) ?_
  refine lv_iload hx hb dX9_mayUse_11 (lv_at hl 4 rfl) ?_
  refine k_iR (k_SN (n := 3) ⟨hx, hb, hml, hown, hT⟩ hK hP hD [] rfl (by decide +kernel) (s_X11_barringUses l g H.size x_2 p1 p2) (gI bw_22) bw_61 (eW_X9_107 hK.2) bw_62 rfl rfl (by decide +kernel) ⟨by decide, by decide⟩ (fun _ _ _ _ _ => trivial) (fun _ _ _ => trivial) rfl rfl hl.1 (Nat.le_of_ble_eq_true rfl) dX9_mayUse_13 ⟨by decide, by decide⟩) hP hS hA (fun r_3 _ H locs hw0 hP hS => ?_)
  refine lv_istore (lv' := [(5, .int r_3), (0, .ref h), (1, .ref la), (2, .int p0), (3, .int p1), (4, .int p2)]) hx hb dX9_mayUse_16 hl (by decide) rfl (fun ls hl => ?_)
  refine lv_aload_n hx hb dX9_mayUse_18 rfl (lv_at hl 1 rfl) ?_
  refine va_get (D := g.1) (ci := 9) (v := .int bday) (C := RX9) (T := TX9) (N := 14) hx hb hT inF_X9 hown hK.1 hP 0 rfl rfl 0 (by decide) (hT _ bw_41) (fun _ h9 => h9) rfl dX9_mayUse_19 ?_
  refine lv_aload_n hx hb dX9_mayUse_22 rfl (lv_at hl 1 rfl) ?_
  refine va_get (D := g.1) (ci := 9) (v := .ref bmornings) (C := RX9) (T := TX9) (N := 14) hx hb hT inF_X9 hown hK.1 hP 0 rfl rfl 9 (by decide) (hT _ bw_51) (fun _ h9 => h9) rfl dX9_mayUse_23 ?_
  refine lv_iload_n hx hb dX9_mayUse_26 rfl (lv_at hl 3 rfl) ?_
  have h_4 : vp_in p0 8 := vp_in_iff.mpr (by omega)
  refine va_iald hx hb hK.1 hP 2 1 rfl rfl (i := p0) h_4 dX9_mayUse_27 ?_
  refine lv_topi (fun x_5 ex_5 => ?_)
  have ux_5 := congrArg Int32.toInt ex_5
  refine lv_icmp_gt (tgt := 93) hx hb dX9_mayUse_28 (by decide) (fun c_6 => ?_) (fun c_6 => ?_)
  · have f_7 := E_lt (rfl : x_5.toInt = _) (rfl : bday.toInt = _) c_6
    refine lv_iconst (v := 0) hx hb dX9_mayUse_93 (by decide) ?_
    have hP9 : va_P g.1 vwCl [] H := hP.sub [] rfl
    have hD9 : va_D A [] := ⟨fun i j p q h => by simp at h, fun k q h => by simp at h⟩
    exact W.zret (v := 0) (ty := .boolean) hx hb hr rfl (fun t ht hW => ⟨⟨0, (), rfl, ⟨by decide, by decide⟩, by rw [ht]; exact hP9, by rw [hAe]; exact hD9⟩, hS.F ht⟩) hS.2.2 dX9_mayUse_94
  · have f_8 := E_nlt (rfl : x_5.toInt = _) (rfl : bday.toInt = _) c_6
    refine lv_aload_n hx hb dX9_mayUse_31 rfl (lv_at hl 2 rfl) ?_
    refine va_get (D := g.1) (ci := 2) (v := .ref dreasons) (C := RX2) (T := TX2) (N := 9) hx hb hT inF_X2 hown hK.1 hP 5 rfl rfl 2 (by decide) (hT _ bw_67) (fun _ h9 => h9) rfl dX9_mayUse_32 ?_
    refine lv_iload hx hb dX9_mayUse_35 (lv_at hl 5 rfl) ?_
    refine lv_aload_n hx hb dX9_mayUse_37 rfl (lv_at hl 1 rfl) ?_
    refine va_get (D := g.1) (ci := 9) (v := .int bday) (C := RX9) (T := TX9) (N := 14) hx hb hT inF_X9 hown hK.1 hP 0 rfl rfl 0 (by decide) (hT _ bw_41) (fun _ h9 => h9) rfl dX9_mayUse_38 ?_
    refine k_iR (k_V (n := 2) ⟨hx, hb, hml, hown, hT⟩ hK hP hD [8, 10, 11] rfl (by decide +kernel) (s_X6_isInTime l g H.size dreasons dreasons_count dreasons_names dreasons_kinds dreasons_owners dreasons_froms Fdreasons_froms dreasons_tos Fdreasons_tos dreasons_rents dreasons_sorts p2 bday (by first | with_reducible assumption | omega) (by first | with_reducible assumption | omega)) (gV bw_182 bw_183 bw_184 bw_185 bw_10) rfl rfl (by decide +kernel) ⟨by decide, by decide⟩ (ci := 6) (q0 := 0) rfl rfl (fun _ _ _ _ _ => trivial) (fun _ _ _ => trivial) rfl rfl hl.1 (Nat.le_of_ble_eq_true rfl) dX9_mayUse_41 ⟨by decide, by decide⟩) hP hS hA (fun r_9 _ H locs hw0 hP hS => ?_)
    have hw : 0 ≤ r_9.toInt ∧ r_9.toInt ≤ 1 := hw0
    clear hw0
    have w_10 := hw
    refine lv_if_eq (tgt := 93) hx hb dX9_mayUse_44 (by decide) (fun c_11 => ?_) (fun c_11 => ?_)
    · have f_12 := E_eq (rfl : r_9.toInt = _) (by decide : (0 : Int32).toInt = 0) c_11
      refine lv_iconst (v := 0) hx hb dX9_mayUse_93 (by decide) ?_
      have hP9 : va_P g.1 vwCl [] H := hP.sub [] rfl
      have hD9 : va_D A [] := ⟨fun i j p q h => by simp at h, fun k q h => by simp at h⟩
      exact W.zret (v := 0) (ty := .boolean) hx hb hr rfl (fun t ht hW => ⟨⟨0, (), rfl, ⟨by decide, by decide⟩, by rw [ht]; exact hP9, by rw [hAe]; exact hD9⟩, hS.F ht⟩) hS.2.2 dX9_mayUse_94
    · have f_13 := E_ne (rfl : r_9.toInt = _) (by decide : (0 : Int32).toInt = 0) c_11
      refine lv_aload_n hx hb dX9_mayUse_47 rfl (lv_at hl 1 rfl) ?_
      refine lv_aload_n hx hb dX9_mayUse_48 rfl (lv_at hl 2 rfl) ?_
      refine lv_aload_n hx hb dX9_mayUse_49 rfl (lv_at hl 1 rfl) ?_
      refine lv_iload_n hx hb dX9_mayUse_50 rfl (lv_at hl 3 rfl) ?_
      refine lv_iload_n hx hb dX9_mayUse_51 rfl (lv_at hl 4 rfl) ?_
      refine k_iR (k_V (n := 2) ⟨hx, hb, hml, hown, hT⟩ hK hP hD [0, 4] rfl (by decide +kernel) (s_X9_manOf l g H.size h bday bseed balive bstruck bopen bduels blines bcoins brented bmornings bhonours bused bsides Fbsides blog p0 p1 (by first | with_reducible assumption | omega) (by first | with_reducible assumption | omega) (by first | with_reducible assumption | omega) hh3 (by first | with_reducible assumption | omega) (by first | with_reducible assumption | omega)) (gV bw_75 bw_76 bw_77 bw_46 bw_36) rfl rfl (by decide +kernel) ⟨by decide, by decide⟩ (ci := 9) (q0 := 0) rfl rfl (fun _ _ _ _ _ => trivial) (fun _ _ _ => trivial) rfl rfl hl.1 (Nat.le_of_ble_eq_true rfl) dX9_mayUse_52 ⟨by decide, by decide⟩) hP hS hA (fun r_14 _ H locs hw0 hP hS => ?_)
      have hw : 0 ≤ r_14.toInt ∧ r_14.toInt ≤ 5 := hw0
      clear hw0
      have w_15 := hw
      refine lv_iload hx hb dX9_mayUse_55 (lv_at hl 5 rfl) ?_
      refine k_iR (k_V (n := 3) ⟨hx, hb, hml, hown, hT⟩ hK hP hD [0, 1, 5, 6, 7, 8, 9] rfl (by decide +kernel) (s_X9_freeFrom l g H.size h bday bseed balive bstruck bopen bduels blines bcoins brented Fbrented bmornings bhonours bused bsides blog la dduels dduelSides dduelMornings dhonour ddraw dusesOfKind dmen dmen_count dmen_names dmen_dies Fdmen_dies dmen_coins dmen_fathers dformulas dreasons dreasons_count dreasons_names dreasons_kinds dreasons_owners Fdreasons_owners dreasons_froms dreasons_tos dreasons_rents dreasons_sorts r_14 p2 (by first | with_reducible assumption | omega) (by first | with_reducible assumption | omega) (by first | with_reducible assumption | omega) (by first | with_reducible assumption | omega) (by first | with_reducible assumption | omega) (by first | with_reducible assumption | omega) (by first | with_reducible assumption | omega) hh15 (by first | with_reducible assumption | omega) (by first | with_reducible assumption | omega)) (gV bw_186 bw_187 bw_188 bw_46 bw_173) rfl rfl (by decide +kernel) ⟨by decide, by decide⟩ (ci := 9) (q0 := 0) rfl rfl (fun _ _ _ _ _ => trivial) (fun _ _ _ => trivial) rfl rfl hl.1 (Nat.le_of_ble_eq_true rfl) dX9_mayUse_57 ⟨by decide, by decide⟩) hP hS hA (fun r_16 _ H locs hw0 hP hS => ?_)
      refine lv_aload_n hx hb dX9_mayUse_60 rfl (lv_at hl 1 rfl) ?_
      refine va_get (D := g.1) (ci := 9) (v := .int bday) (C := RX9) (T := TX9) (N := 14) hx hb hT inF_X9 hown hK.1 hP 0 rfl rfl 0 (by decide) (hT _ bw_41) (fun _ h9 => h9) rfl dX9_mayUse_61 ?_
      refine lv_icmp_gt (tgt := 93) hx hb dX9_mayUse_64 (by decide) (fun c_17 => ?_) (fun c_17 => ?_)
      · have f_18 := E_lt (rfl : bday.toInt = _) (rfl : r_16.toInt = _) c_17
        refine lv_iconst (v := 0) hx hb dX9_mayUse_93 (by decide) ?_
        have hP9 : va_P g.1 vwCl [] H := hP.sub [] rfl
        have hD9 : va_D A [] := ⟨fun i j p q h => by simp at h, fun k q h => by simp at h⟩
        exact W.zret (v := 0) (ty := .boolean) hx hb hr rfl (fun t ht hW => ⟨⟨0, (), rfl, ⟨by decide, by decide⟩, by rw [ht]; exact hP9, by rw [hAe]; exact hD9⟩, hS.F ht⟩) hS.2.2 dX9_mayUse_94
      · have f_19 := E_nlt (rfl : bday.toInt = _) (rfl : r_16.toInt = _) c_17
        refine lv_aload_n hx hb dX9_mayUse_67 rfl (lv_at hl 1 rfl) ?_
        refine lv_aload_n hx hb dX9_mayUse_68 rfl (lv_at hl 2 rfl) ?_
        refine lv_iload hx hb dX9_mayUse_69 (lv_at hl 5 rfl) ?_
        refine k_iR (k_V (n := 2) ⟨hx, hb, hml, hown, hT⟩ hK hP hD [0, 3, 5, 8, 12] rfl (by decide +kernel) (s_X9_isGone l g H.size h bday bseed balive bstruck bopen bduels blines bcoins brented bmornings bhonours bused Fbused bsides blog la dduels dduelSides dduelMornings dhonour ddraw dusesOfKind dmen dformulas dreasons dreasons_count dreasons_names dreasons_kinds dreasons_owners dreasons_froms dreasons_tos dreasons_rents dreasons_sorts Fdreasons_sorts p2 (by first | with_reducible assumption | omega) (by first | with_reducible assumption | omega) (by first | with_reducible assumption | omega) (by first | with_reducible assumption | omega) (by first | with_reducible assumption | omega) (by first | with_reducible assumption | omega) (by first | with_reducible assumption | omega)) (gV bw_189 bw_190 bw_191 bw_46 bw_181) rfl rfl (by decide +kernel) ⟨by decide, by decide⟩ (ci := 9) (q0 := 0) rfl rfl (fun _ _ _ _ _ => trivial) (fun _ _ _ => trivial) rfl rfl hl.1 (Nat.le_of_ble_eq_true rfl) dX9_mayUse_71 ⟨by decide, by decide⟩) hP hS hA (fun r_20 _ H locs hw0 hP hS => ?_)
        have hw : 0 ≤ r_20.toInt ∧ r_20.toInt ≤ 1 := hw0
        clear hw0
        have w_21 := hw
        refine lv_if_ne (tgt := 93) hx hb dX9_mayUse_74 (by decide) (fun c_22 => ?_) (fun c_22 => ?_)
        · have f_23 := E_ne (rfl : r_20.toInt = _) (by decide : (0 : Int32).toInt = 0) c_22
          refine lv_iconst (v := 0) hx hb dX9_mayUse_93 (by decide) ?_
          have hP9 : va_P g.1 vwCl [] H := hP.sub [] rfl
          have hD9 : va_D A [] := ⟨fun i j p q h => by simp at h, fun k q h => by simp at h⟩
          exact W.zret (v := 0) (ty := .boolean) hx hb hr rfl (fun t ht hW => ⟨⟨0, (), rfl, ⟨by decide, by decide⟩, by rw [ht]; exact hP9, by rw [hAe]; exact hD9⟩, hS.F ht⟩) hS.2.2 dX9_mayUse_94
        · have f_24 := E_eq (rfl : r_20.toInt = _) (by decide : (0 : Int32).toInt = 0) c_22
          refine lv_aload_n hx hb dX9_mayUse_77 rfl (lv_at hl 1 rfl) ?_
          refine va_get (D := g.1) (ci := 9) (v := .ref bused) (C := RX9) (T := TX9) (N := 14) hx hb hT inF_X9 hown hK.1 hP 0 rfl rfl 11 (by decide) (hT _ bw_60) (fun _ h9 => h9) rfl dX9_mayUse_78 ?_
          refine lv_iload_n hx hb dX9_mayUse_81 rfl (lv_at hl 3 rfl) ?_
          have h_25 : vp_in p0 8 := vp_in_iff.mpr (by omega)
          refine va_iald hx hb hK.1 hP 3 1 rfl rfl (i := p0) h_25 dX9_mayUse_82 ?_
          refine lv_topi (fun x_26 ex_26 => ?_)
          have ux_26 := congrArg Int32.toInt ex_26
          refine lv_iload hx hb dX9_mayUse_83 (lv_at hl 0 rfl) ?_
          refine lv_iand hx hb dX9_mayUse_85 ?_
          refine lv_topi (fun x_27 ex_27 => ?_)
          refine lv_if_ne (tgt := 93) hx hb dX9_mayUse_86 (by decide) (fun c_28 => ?_) (fun c_28 => ?_)
          · have f_29 := E_ne (rfl : x_27.toInt = _) (by decide : (0 : Int32).toInt = 0) c_28
            refine lv_iconst (v := 0) hx hb dX9_mayUse_93 (by decide) ?_
            have hP9 : va_P g.1 vwCl [] H := hP.sub [] rfl
            have hD9 : va_D A [] := ⟨fun i j p q h => by simp at h, fun k q h => by simp at h⟩
            exact W.zret (v := 0) (ty := .boolean) hx hb hr rfl (fun t ht hW => ⟨⟨0, (), rfl, ⟨by decide, by decide⟩, by rw [ht]; exact hP9, by rw [hAe]; exact hD9⟩, hS.F ht⟩) hS.2.2 dX9_mayUse_94
          · have f_30 := E_eq (rfl : x_27.toInt = _) (by decide : (0 : Int32).toInt = 0) c_28
            refine lv_iconst (v := 1) hx hb dX9_mayUse_89 (by decide) ?_
            refine lv_goto (tgt := 94) hx hb dX9_mayUse_90 (by decide) ?_
            have hP9 : va_P g.1 vwCl [] H := hP.sub [] rfl
            have hD9 : va_D A [] := ⟨fun i j p q h => by simp at h, fun k q h => by simp at h⟩
            exact W.zret (v := 1) (ty := .boolean) hx hb hr rfl (fun t ht hW => ⟨⟨1, (), rfl, ⟨by decide, by decide⟩, by rw [ht]; exact hP9, by rw [hAe]; exact hD9⟩, hS.F ht⟩) hS.2.2 dX9_mayUse_94

theorem bw_193 : Cond.fieldLink RX9 161 "DuelDelays$Reasons" "count" "I" ∈ gT := gT_tb 239 (by decide +kernel) (by decide +kernel)
theorem bw_194 : Cond.methodLink RX9 162 yX9_mayUse ∈ gT := gT_tb 929 (by decide +kernel) (by decide +kernel)
theorem bw_195 : Cond.instanceMethod yX9_mayUse ∈ gT := gT_tb 930 (by decide +kernel) (by decide +kernel)
theorem bw_196 : Cond.selects RX9 yX9_mayUse yX9_mayUse ∈ gT := gT_tb 931 (by decide +kernel) (by decide +kernel)
theorem bw_197 : Cond.code yX9_usable cX9_usable 6 (some .int) ∈ gT := gT_tb 927 (by decide +kernel) (by decide +kernel)
theorem dX9_usable_0 : decode cX9_usable 0 = .ok (.iconst 0, 1) := by decide +kernel
theorem dX9_usable_1 : decode cX9_usable 1 = .ok (.istore 4, 2) := by decide +kernel
theorem dX9_usable_3 : decode cX9_usable 3 = .ok (.iconst 0, 1) := by decide +kernel
theorem dX9_usable_4 : decode cX9_usable 4 = .ok (.istore 5, 2) := by decide +kernel
theorem dX9_usable_6 : decode cX9_usable 6 = .ok (.aload_n 0, 1) := by decide +kernel
theorem dX9_usable_7 : decode cX9_usable 7 = .ok (.iload_n 2, 1) := by decide +kernel
theorem dX9_usable_8 : decode cX9_usable 8 = .ok (.invokevirtual 93, 3) := by decide +kernel
theorem dX9_usable_11 : decode cX9_usable 11 = .ok (.ifCond .eq 42, 3) := by decide +kernel
theorem dX9_usable_14 : decode cX9_usable 14 = .ok (.iload 5, 2) := by decide +kernel
theorem dX9_usable_16 : decode cX9_usable 16 = .ok (.aload_n 1, 1) := by decide +kernel
theorem dX9_usable_17 : decode cX9_usable 17 = .ok (.getfield 117, 3) := by decide +kernel
theorem dX9_usable_20 : decode cX9_usable 20 = .ok (.getfield 161, 3) := by decide +kernel
theorem dX9_usable_23 : decode cX9_usable 23 = .ok (.if_icmp .ge 30, 3) := by decide +kernel
theorem dX9_usable_26 : decode cX9_usable 26 = .ok (.aload_n 0, 1) := by decide +kernel
theorem dX9_usable_27 : decode cX9_usable 27 = .ok (.aload_n 1, 1) := by decide +kernel
theorem dX9_usable_28 : decode cX9_usable 28 = .ok (.iload_n 2, 1) := by decide +kernel
theorem dX9_usable_29 : decode cX9_usable 29 = .ok (.iload_n 3, 1) := by decide +kernel
theorem dX9_usable_30 : decode cX9_usable 30 = .ok (.iload 5, 2) := by decide +kernel
theorem dX9_usable_32 : decode cX9_usable 32 = .ok (.invokevirtual 162, 3) := by decide +kernel
theorem dX9_usable_35 : decode cX9_usable 35 = .ok (.ifCond .eq 12, 3) := by decide +kernel
theorem dX9_usable_38 : decode cX9_usable 38 = .ok (.iload 4, 2) := by decide +kernel
theorem dX9_usable_40 : decode cX9_usable 40 = .ok (.iconst 1, 1) := by decide +kernel
theorem dX9_usable_41 : decode cX9_usable 41 = .ok (.iload 5, 2) := by decide +kernel
theorem dX9_usable_43 : decode cX9_usable 43 = .ok (.ishl, 1) := by decide +kernel
theorem dX9_usable_44 : decode cX9_usable 44 = .ok (.ior, 1) := by decide +kernel
theorem dX9_usable_45 : decode cX9_usable 45 = .ok (.istore 4, 2) := by decide +kernel
theorem dX9_usable_47 : decode cX9_usable 47 = .ok (.iinc 5 1, 3) := by decide +kernel
theorem dX9_usable_50 : decode cX9_usable 50 = .ok (.goto (-44), 3) := by decide +kernel
theorem dX9_usable_53 : decode cX9_usable 53 = .ok (.iload 4, 2) := by decide +kernel
theorem dX9_usable_55 : decode cX9_usable 55 = .ok (.ireturn, 1) := by decide +kernel
set_option maxHeartbeats 4000000 in
set_option maxRecDepth 100000 in
theorem s_X9_usable (l : Launch) (g : GG) (sz : Nat) (h : Nat) (bday : Int32) (bseed : Int32) (balive : Int32) (bstruck : Int32) (bopen : Int32) (bduels : Int32) (blines : Int32) (bcoins : Nat) (brented : Nat) (Fbrented : Nat → Int32) (bmornings : Nat) (Fbmornings : Nat → Int32) (bhonours : Nat) (bused : Nat) (Fbused : Nat → Int32) (bsides : Nat) (Fbsides : Nat → Int32) (blog : Nat) (la : Nat) (dduels : Int32) (dduelSides : Nat) (dduelMornings : Nat) (dhonour : Int32) (ddraw : Int32) (dusesOfKind : Nat) (dmen : Nat) (dmen_count : Int32) (dmen_names : Nat) (dmen_dies : Nat) (Fdmen_dies : Nat → Int32) (dmen_coins : Nat) (dmen_fathers : Nat) (dformulas : Nat) (dreasons : Nat) (dreasons_count : Int32) (dreasons_names : Nat) (dreasons_kinds : Nat) (dreasons_owners : Nat) (Fdreasons_owners : Nat → Int32) (dreasons_froms : Nat) (Fdreasons_froms : Nat → Int32) (dreasons_tos : Nat) (Fdreasons_tos : Nat → Int32) (dreasons_rents : Nat) (dreasons_sorts : Nat) (Fdreasons_sorts : Nat → Int32) (p0 : Int32) (p1 : Int32) (hh0 : 0 ≤ bseed.toInt ∧ bseed.toInt ≤ 999) (hh1 : 0 ≤ bduels.toInt ∧ bduels.toInt ≤ 8) (hh2 : 0 ≤ blines.toInt ∧ blines.toInt ≤ 60) (hh3 : Rg 16 0 5 Fbsides) (hh4 : 0 ≤ dduels.toInt ∧ dduels.toInt ≤ 6) (hh6 : 0 ≤ ddraw.toInt ∧ ddraw.toInt ≤ 999) (hh7 : 0 ≤ dmen_count.toInt ∧ dmen_count.toInt ≤ 6) (hh13 : 0 ≤ dreasons_count.toInt ∧ dreasons_count.toInt ≤ 8) (hh15 : Rg 8 (-1) 5 Fdreasons_owners) (hh16 : 0 ≤ p0.toInt ∧ p0.toInt ≤ 7) (hh17 : 0 ≤ p1.toInt ∧ p1.toInt ≤ 1) : Met l yX9_usable (.code yX9_usable cX9_usable 6 (some .int) :: gT) ({ frames := 5, cells := 0, slots := 0, locals := 116 }) (va_Pc [.ref h, .ref la, .int p0, .int p1] (Pst g sz [(h, .inr (9, [.int bday, .int bseed, .int balive, .int bstruck, .int bopen, .int bduels, .int blines, .ref bcoins, .ref brented, .ref bmornings, .ref bhonours, .ref bused, .ref bsides, .ref blog])), (brented, aI g 6 Fbrented), (bmornings, aI g 8 Fbmornings), (bused, aI g 8 Fbused), (bsides, aI g 16 Fbsides), (la, .inr (2, [.ref dmen, .ref dformulas, .ref dreasons, .int dduels, .ref dduelSides, .ref dduelMornings, .int dhonour, .int ddraw, .ref dusesOfKind])), (dmen, .inr (3, [.int dmen_count, .ref dmen_names, .ref dmen_dies, .ref dmen_coins, .ref dmen_fathers])), (dmen_dies, aI g 6 Fdmen_dies), (dreasons, .inr (6, [.int dreasons_count, .ref dreasons_names, .ref dreasons_kinds, .ref dreasons_owners, .ref dreasons_froms, .ref dreasons_tos, .ref dreasons_rents, .ref dreasons_sorts])), (dreasons_owners, aI g 8 Fdreasons_owners), (dreasons_froms, aI g 8 Fdreasons_froms), (dreasons_tos, aI g 8 Fdreasons_tos), (dreasons_sorts, aI g 8 Fdreasons_sorts)] nX)) (va_Qi (fun (r : Int32) => fun (_ : Unit) => True) (Qst g [] sz (fun _ => [])) (va_A [] sz)) 0 0 (va_A [] sz) := by
  refine Met.ofW (cc := cX9_usable) (maxL := 6) (ret := (some .int)) (by decide) rfl ?_
  intro p e s m args below meth c s₁ B hml hv
  obtain ⟨rfl, hsz, hP, hK, hD0, hX⟩ := hv
  have hx := B.exec
  have hb := B.bytes
  have hr := B.returns
  have hT : ∀ w ∈ gT, w.before _ s = true := fun w h => atoms_spec (ws := .code yX9_usable cX9_usable 6 (some .int) :: gT) B.pre w (List.mem_cons_of_mem _ h)
  have hown : s.vm.findClass RX9 = some m.cls := findClass_of_methodNamed B.named
  have hlocks := B.notSynchronized
  subst hsz
  have hD := hD0
  generalize hAe : va_A [] s.heap.size = A at ⊢
  have hA : ∀ q : Nat, s.heap.size ≤ q → A q := fun q h => by rw [← hAe]; exact Or.inr h
  have hS : va_S A s.heap s.heap [] := va_S.rf
  have hl := lv_entry ([.ref h, .ref la, .int p0, .int p1]) (n := 6) (Nat.le_of_ble_eq_true rfl)
  rw [lg_entry_eq]
  generalize (lg_sl ([.ref h, .ref la, .int p0, .int p1]) ++ List.replicate (6 - (lg_sl ([.ref h, .ref la, .int p0, .int p1])).length) Slot.unset).toArray = ls at hl ⊢
  have hl : lv_has ls 6 [(0, .ref h), (1, .ref la), (2, .int p0), (3, .int p1)] := hl
  refine p_nH (fun H hH => ?_)
  have hP : va_P g.1 vwCl [(h, .inr (9, [.int bday, .int bseed, .int balive, .int bstruck, .int bopen, .int bduels, .int blines, .ref bcoins, .ref brented, .ref bmornings, .ref bhonours, .ref bused, .ref bsides, .ref blog])), (brented, aI g 6 Fbrented), (bmornings, aI g 8 Fbmornings), (bused, aI g 8 Fbused), (bsides, aI g 16 Fbsides), (la, .inr (2, [.ref dmen, .ref dformulas, .ref dreasons, .int dduels, .ref dduelSides, .ref dduelMornings, .int dhonour, .int ddraw, .ref dusesOfKind])), (dmen, .inr (3, [.int dmen_count, .ref dmen_names, .ref dmen_dies, .ref dmen_coins, .ref dmen_fathers])), (dmen_dies, aI g 6 Fdmen_dies), (dreasons, .inr (6, [.int dreasons_count, .ref dreasons_names, .ref dreasons_kinds, .ref dreasons_owners, .ref dreasons_froms, .ref dreasons_tos, .ref dreasons_rents, .ref dreasons_sorts])), (dreasons_owners, aI g 8 Fdreasons_owners), (dreasons_froms, aI g 8 Fdreasons_froms), (dreasons_tos, aI g 8 Fdreasons_tos), (dreasons_sorts, aI g 8 Fdreasons_sorts)] H := by rw [hH]; exact hP
  have hS : va_S A s.heap H [] := by rw [hH]; exact hS
  refine lv_iconst (v := 0) hx hb dX9_usable_0 (by decide) ?_
  refine lv_istore (lv' := [(4, .int 0), (0, .ref h), (1, .ref la), (2, .int p0), (3, .int p1)]) hx hb dX9_usable_1 hl (by decide) rfl (fun ls hl => ?_)
  refine lv_iconst (v := 0) hx hb dX9_usable_3 (by decide) ?_
  refine lv_istore (lv' := [(5, .int 0), (4, .int 0), (0, .ref h), (1, .ref la), (2, .int p0), (3, .int p1)]) hx hb dX9_usable_4 hl (by decide) rfl (fun ls hl => ?_)
  refine k_floop 6 (fun n H locs ls => ∃ (L_1 : Int32) (L_2 : Int32), (0 ≤ L_1.toInt ∧ L_1.toInt ≤ 8) ∧ 8 - L_1.toInt ≤ (n : Int) ∧ va_P g.1 vwCl [(h, .inr (9, [.int bday, .int bseed, .int balive, .int bstruck, .int bopen, .int bduels, .int blines, .ref bcoins, .ref brented, .ref bmornings, .ref bhonours, .ref bused, .ref bsides, .ref blog])), (brented, aI g 6 Fbrented), (bmornings, aI g 8 Fbmornings), (bused, aI g 8 Fbused), (bsides, aI g 16 Fbsides), (la, .inr (2, [.ref dmen, .ref dformulas, .ref dreasons, .int dduels, .ref dduelSides, .ref dduelMornings, .int dhonour, .int ddraw, .ref dusesOfKind])), (dmen, .inr (3, [.int dmen_count, .ref dmen_names, .ref dmen_dies, .ref dmen_coins, .ref dmen_fathers])), (dmen_dies, aI g 6 Fdmen_dies), (dreasons, .inr (6, [.int dreasons_count, .ref dreasons_names, .ref dreasons_kinds, .ref dreasons_owners, .ref dreasons_froms, .ref dreasons_tos, .ref dreasons_rents, .ref dreasons_sorts])), (dreasons_owners, aI g 8 Fdreasons_owners), (dreasons_froms, aI g 8 Fdreasons_froms), (dreasons_tos, aI g 8 Fdreasons_tos), (dreasons_sorts, aI g 8 Fdreasons_sorts)] H ∧ va_S A s.heap H locs ∧ lv_has ls 6 [(5, .int L_1), (4, .int L_2), (0, .ref h), (1, .ref la), (2, .int p0), (3, .int p1)]) (fun n H locs ls hI ih => ?_) ((8 - 0 : Int)).toNat ⟨0, 0, by decide, by have k0 : (0 : Int32).toInt = 0 := (by decide); omega, hP, hS, hl⟩
  refine hI.elim (fun L_1 hI => hI.elim (fun L_2 hI => ?_))
  have g_3 := hI.1
  have hm_4 := hI.2.1
  have hP := hI.2.2.1
  have hS := hI.2.2.2.1
  have hl := hI.2.2.2.2
  clear hI
  refine lv_aload_n hx hb dX9_usable_6 rfl (lv_at hl 2 rfl) ?_
  refine lv_iload_n hx hb dX9_usable_7 rfl (lv_at hl 4 rfl) ?_
  refine k_iR (k_V (n := 1) ⟨hx, hb, hml, hown, hT⟩ hK hP hD [0] rfl (by decide +kernel) (s_X9_isOpen l g H.size h bday bseed balive bstruck bopen bduels blines bcoins brented bmornings bhonours bused bsides blog p0 (by first | with_reducible assumption | omega) (by first | with_reducible assumption | omega) (by first | with_reducible assumption | omega)) (gV bw_43 bw_44 bw_45 bw_46 bw_32) rfl rfl (by decide +kernel) ⟨by decide, by decide⟩ (ci := 9) (q0 := 0) rfl rfl (fun _ _ _ _ _ => trivial) (fun _ _ _ => trivial) rfl rfl hl.1 (Nat.le_of_ble_eq_true rfl) dX9_usable_8 ⟨by decide, by decide⟩) hP hS hA (fun r_5 _ H locs hw0 hP hS => ?_)
  have hw : 0 ≤ r_5.toInt ∧ r_5.toInt ≤ 1 := hw0
  clear hw0
  have w_6 := hw
  refine lv_if_eq (tgt := 53) hx hb dX9_usable_11 (by decide) (fun c_7 => ?_) (fun c_7 => ?_)
  · have f_8 := E_eq (rfl : r_5.toInt = _) (by decide : (0 : Int32).toInt = 0) c_7
    refine lv_iload hx hb dX9_usable_53 (lv_at hl 1 rfl) ?_
    have hP9 : va_P g.1 vwCl [] H := hP.sub [] rfl
    have hD9 : va_D A [] := ⟨fun i j p q h => by simp at h, fun k q h => by simp at h⟩
    exact W.iret (v := L_2) hx hb hr (fun t ht hW => ⟨⟨L_2, (), rfl, trivial, by rw [ht]; exact hP9, by rw [hAe]; exact hD9⟩, hS.F ht⟩) hS.2.2 dX9_usable_55
  · have f_9 := E_ne (rfl : r_5.toInt = _) (by decide : (0 : Int32).toInt = 0) c_7
    refine lv_iload hx hb dX9_usable_14 (lv_at hl 0 rfl) ?_
    refine lv_aload_n hx hb dX9_usable_16 rfl (lv_at hl 3 rfl) ?_
    refine va_get (D := g.1) (ci := 2) (v := .ref dreasons) (C := RX2) (T := TX2) (N := 9) hx hb hT inF_X2 hown hK.1 hP 5 rfl rfl 2 (by decide) (hT _ bw_67) (fun _ h9 => h9) rfl dX9_usable_17 ?_
    refine va_get (D := g.1) (ci := 6) (v := .int dreasons_count) (C := RX6) (T := TX6) (N := 8) hx hb hT inF_X6 hown hK.1 hP 8 rfl rfl 0 (by decide) (hT _ bw_193) (fun _ h9 => h9) rfl dX9_usable_20 ?_
    refine lv_icmp_ge (tgt := 53) hx hb dX9_usable_23 (by decide) (fun c_10 => ?_) (fun c_10 => ?_)
    · have f_11 := E_le (rfl : dreasons_count.toInt = _) (rfl : L_1.toInt = _) c_10
      refine lv_iload hx hb dX9_usable_53 (lv_at hl 1 rfl) ?_
      have hP9 : va_P g.1 vwCl [] H := hP.sub [] rfl
      have hD9 : va_D A [] := ⟨fun i j p q h => by simp at h, fun k q h => by simp at h⟩
      exact W.iret (v := L_2) hx hb hr (fun t ht hW => ⟨⟨L_2, (), rfl, trivial, by rw [ht]; exact hP9, by rw [hAe]; exact hD9⟩, hS.F ht⟩) hS.2.2 dX9_usable_55
    · have f_12 := E_nle (rfl : dreasons_count.toInt = _) (rfl : L_1.toInt = _) c_10
      refine lv_aload_n hx hb dX9_usable_26 rfl (lv_at hl 2 rfl) ?_
      refine lv_aload_n hx hb dX9_usable_27 rfl (lv_at hl 3 rfl) ?_
      refine lv_iload_n hx hb dX9_usable_28 rfl (lv_at hl 4 rfl) ?_
      refine lv_iload_n hx hb dX9_usable_29 rfl (lv_at hl 5 rfl) ?_
      refine lv_iload hx hb dX9_usable_30 (lv_at hl 0 rfl) ?_
      refine k_iR (k_V (n := 4) ⟨hx, hb, hml, hown, hT⟩ hK hP hD [0, 1, 2, 3, 4, 5, 6, 7, 8, 9, 10, 11, 12] rfl (by decide +kernel) (s_X9_mayUse l g H.size h bday bseed balive bstruck bopen bduels blines bcoins brented Fbrented bmornings Fbmornings bhonours bused Fbused bsides Fbsides blog la dduels dduelSides dduelMornings dhonour ddraw dusesOfKind dmen dmen_count dmen_names dmen_dies Fdmen_dies dmen_coins dmen_fathers dformulas dreasons dreasons_count dreasons_names dreasons_kinds dreasons_owners Fdreasons_owners dreasons_froms Fdreasons_froms dreasons_tos Fdreasons_tos dreasons_rents dreasons_sorts Fdreasons_sorts p0 p1 L_1 (by first | with_reducible assumption | omega) (by first | with_reducible assumption | omega) (by first | with_reducible assumption | omega) hh3 (by first | with_reducible assumption | omega) (by first | with_reducible assumption | omega) (by first | with_reducible assumption | omega) (by first | with_reducible assumption | omega) hh15 (by first | with_reducible assumption | omega) (by first | with_reducible assumption | omega) (by first | with_reducible assumption | omega)) (gV bw_194 bw_195 bw_196 bw_46 bw_192) rfl rfl (by decide +kernel) ⟨by decide, by decide⟩ (ci := 9) (q0 := 0) rfl rfl (fun _ _ _ _ _ => trivial) (fun _ _ _ => trivial) rfl rfl hl.1 (Nat.le_of_ble_eq_true rfl) dX9_usable_32 ⟨by decide, by decide⟩) hP hS hA (fun r_13 _ H locs hw0 hP hS => ?_)
      have hw : 0 ≤ r_13.toInt ∧ r_13.toInt ≤ 1 := hw0
      clear hw0
      have w_14 := hw
      refine lv_if_eq (tgt := 47) hx hb dX9_usable_35 (by decide) (fun c_15 => ?_) (fun c_15 => ?_)
      · have f_16 := E_eq (rfl : r_13.toInt = _) (by decide : (0 : Int32).toInt = 0) c_15
        obtain ⟨x_17, ex_17⟩ : ∃ y : Int32, y = L_1 + 1 := ⟨_, rfl⟩
        have fx_17 : x_17.toInt = L_1.toInt + 1 := by rw [ex_17]; exact I_add rfl (by decide) (by omega) (by omega)
        refine lv_iinc (v := x_17) (lv' := [(5, .int x_17), (4, .int L_2), (0, .ref h), (1, .ref la), (2, .int p0), (3, .int p1)]) hx hb dX9_usable_47 hl (k := 0) rfl (by rw [ex_17]; rfl) (by decide) rfl (fun ls hl => ?_)
        refine lv_goto (tgt := 6) hx hb dX9_usable_50 (by decide) ?_
        exact ih (n - 1) (by omega) H locs ls ⟨x_17, L_2, (by first | with_reducible assumption | omega), by omega, hP.sub [0, 1, 2, 3, 4, 5, 6, 7, 8, 9, 10, 11, 12] rfl, hS, lv_sub hl [0, 1, 2, 3, 4, 5] rfl⟩
      · have f_18 := E_ne (rfl : r_13.toInt = _) (by decide : (0 : Int32).toInt = 0) c_15
        refine lv_iload hx hb dX9_usable_38 (lv_at hl 1 rfl) ?_
        refine lv_iconst (v := 1) hx hb dX9_usable_40 (by decide) ?_
        refine lv_iload hx hb dX9_usable_41 (lv_at hl 0 rfl) ?_
        refine lv_ishl hx hb dX9_usable_43 ?_
        refine lv_topi (fun x_19 ex_19 => ?_)
        refine lv_ior hx hb dX9_usable_44 ?_
        refine lv_topi (fun x_20 ex_20 => ?_)
        refine lv_istore (lv' := [(4, .int x_20), (5, .int L_1), (0, .ref h), (1, .ref la), (2, .int p0), (3, .int p1)]) hx hb dX9_usable_45 hl (by decide) rfl (fun ls hl => ?_)
        obtain ⟨x_21, ex_21⟩ : ∃ y : Int32, y = L_1 + 1 := ⟨_, rfl⟩
        have fx_21 : x_21.toInt = L_1.toInt + 1 := by rw [ex_21]; exact I_add rfl (by decide) (by omega) (by omega)
        refine lv_iinc (v := x_21) (lv' := [(5, .int x_21), (4, .int x_20), (0, .ref h), (1, .ref la), (2, .int p0), (3, .int p1)]) hx hb dX9_usable_47 hl (k := 1) rfl (by rw [ex_21]; rfl) (by decide) rfl (fun ls hl => ?_)
        refine lv_goto (tgt := 6) hx hb dX9_usable_50 (by decide) ?_
        exact ih (n - 1) (by omega) H locs ls ⟨x_21, x_20, (by first | with_reducible assumption | omega), by omega, hP.sub [0, 1, 2, 3, 4, 5, 6, 7, 8, 9, 10, 11, 12] rfl, hS, lv_sub hl [0, 1, 2, 3, 4, 5] rfl⟩

theorem bw_198 : Cond.fieldLink RX9 166 "DuelDelays$Reasons" "kinds" "[I" ∈ gT := gT_tb 247 (by decide +kernel) (by decide +kernel)
theorem bw_199 : Cond.methodLink RX9 169 yX2_worthOf ∈ gT := gT_tb 998 (by decide +kernel) (by decide +kernel)
theorem bw_200 : Cond.instanceMethod yX2_worthOf ∈ gT := gT_tb 901 (by decide +kernel) (by decide +kernel)
theorem bw_201 : Cond.selects RX2 yX2_worthOf yX2_worthOf ∈ gT := gT_tb 902 (by decide +kernel) (by decide +kernel)
theorem bw_202 : Cond.initialized RX2 ∈ gT := gT_tb 8 (by decide +kernel) (by decide +kernel)
theorem bw_203 : Cond.methodLink RX9 172 Lib.Math.min.name ∈ gT := gT_tb 1003 (by decide +kernel) (by decide +kernel)
theorem bw_204 : Cond.code yX9_putOffBy cX9_putOffBy 5 (some .int) ∈ gT := gT_tb 1002 (by decide +kernel) (by decide +kernel)
theorem dX9_putOffBy_0 : decode cX9_putOffBy 0 = .ok (.aload_n 1, 1) := by decide +kernel
theorem dX9_putOffBy_1 : decode cX9_putOffBy 1 = .ok (.aload_n 1, 1) := by decide +kernel
theorem dX9_putOffBy_2 : decode cX9_putOffBy 2 = .ok (.getfield 117, 3) := by decide +kernel
theorem dX9_putOffBy_5 : decode cX9_putOffBy 5 = .ok (.getfield 166, 3) := by decide +kernel
theorem dX9_putOffBy_8 : decode cX9_putOffBy 8 = .ok (.iload_n 3, 1) := by decide +kernel
theorem dX9_putOffBy_9 : decode cX9_putOffBy 9 = .ok (.iaload, 1) := by decide +kernel
theorem dX9_putOffBy_10 : decode cX9_putOffBy 10 = .ok (.aload_n 0, 1) := by decide +kernel
theorem dX9_putOffBy_11 : decode cX9_putOffBy 11 = .ok (.getfield 24, 3) := by decide +kernel
theorem dX9_putOffBy_14 : decode cX9_putOffBy 14 = .ok (.iload_n 2, 1) := by decide +kernel
theorem dX9_putOffBy_15 : decode cX9_putOffBy 15 = .ok (.iaload, 1) := by decide +kernel
theorem dX9_putOffBy_16 : decode cX9_putOffBy 16 = .ok (.aload_n 0, 1) := by decide +kernel
theorem dX9_putOffBy_17 : decode cX9_putOffBy 17 = .ok (.getfield 33, 3) := by decide +kernel
theorem dX9_putOffBy_20 : decode cX9_putOffBy 20 = .ok (.invokevirtual 169, 3) := by decide +kernel
theorem dX9_putOffBy_23 : decode cX9_putOffBy 23 = .ok (.istore 4, 2) := by decide +kernel
theorem dX9_putOffBy_25 : decode cX9_putOffBy 25 = .ok (.sipush 9999, 3) := by decide +kernel
theorem dX9_putOffBy_28 : decode cX9_putOffBy 28 = .ok (.aload_n 0, 1) := by decide +kernel
theorem dX9_putOffBy_29 : decode cX9_putOffBy 29 = .ok (.getfield 18, 3) := by decide +kernel
theorem dX9_putOffBy_32 : decode cX9_putOffBy 32 = .ok (.iload_n 2, 1) := by decide +kernel
theorem dX9_putOffBy_33 : decode cX9_putOffBy 33 = .ok (.iaload, 1) := by decide +kernel
theorem dX9_putOffBy_34 : decode cX9_putOffBy 34 = .ok (.iload 4, 2) := by decide +kernel
theorem dX9_putOffBy_36 : decode cX9_putOffBy 36 = .ok (.iadd, 1) := by decide +kernel
theorem dX9_putOffBy_37 : decode cX9_putOffBy 37 = .ok (.invokestatic 172, 3) := by decide +kernel
theorem dX9_putOffBy_40 : decode cX9_putOffBy 40 = .ok (.ireturn, 1) := by decide +kernel
set_option maxHeartbeats 4000000 in
set_option maxRecDepth 100000 in
theorem s_X9_putOffBy (l : Launch) (g : GG) (sz : Nat) (h : Nat) (bday : Int32) (bseed : Int32) (balive : Int32) (bstruck : Int32) (bopen : Int32) (bduels : Int32) (blines : Int32) (bcoins : Nat) (brented : Nat) (bmornings : Nat) (Fbmornings : Nat → Int32) (bhonours : Nat) (bused : Nat) (Fbused : Nat → Int32) (bsides : Nat) (blog : Nat) (la : Nat) (dduels : Int32) (dduelSides : Nat) (dduelMornings : Nat) (dhonour : Int32) (ddraw : Int32) (dusesOfKind : Nat) (FdusesOfKind : Nat → Int32) (dmen : Nat) (dformulas : Nat) (dformulas_count : Int32) (dformulas_units : Int32) (dformulas_names : Nat) (dformulas_unitsOfThis : Int32) (dformulas_length : Int32) (dformulas_starts : Nat) (Fdformulas_starts : Nat → Int32) (dformulas_steps : Nat) (Fdformulas_steps : Nat → Int32) (dformulas_stack : Nat) (Fdformulas_stack : Nat → Int32) (dreasons : Nat) (dreasons_count : Int32) (dreasons_names : Nat) (dreasons_kinds : Nat) (Fdreasons_kinds : Nat → Int32) (dreasons_owners : Nat) (dreasons_froms : Nat) (dreasons_tos : Nat) (dreasons_rents : Nat) (dreasons_sorts : Nat) (p0 : Int32) (p1 : Int32) (hh0 : 0 ≤ bseed.toInt ∧ bseed.toInt ≤ 999) (hh1 : 0 ≤ bduels.toInt ∧ bduels.toInt ≤ 8) (hh2 : 0 ≤ blines.toInt ∧ blines.toInt ≤ 60) (hh4 : 0 ≤ dduels.toInt ∧ dduels.toInt ≤ 6) (hh6 : 0 ≤ ddraw.toInt ∧ ddraw.toInt ≤ 999) (hh8 : 0 ≤ dformulas_count.toInt ∧ dformulas_count.toInt ≤ 4) (hh9 : 0 ≤ dformulas_units.toInt ∧ dformulas_units.toInt ≤ 60) (hh10 : 0 ≤ dformulas_unitsOfThis.toInt ∧ dformulas_unitsOfThis.toInt ≤ 30) (hh11 : 0 ≤ dformulas_length.toInt ∧ dformulas_length.toInt ≤ 640) (hh12 : Rg 5 0 640 Fdformulas_starts) (hh13 : 0 ≤ dreasons_count.toInt ∧ dreasons_count.toInt ≤ 8) (hh14 : Rg 8 0 3 Fdreasons_kinds) (hh16 : 0 ≤ p0.toInt ∧ p0.toInt ≤ 7) (hh17 : 0 ≤ p1.toInt ∧ p1.toInt ≤ 7) : Met l yX9_putOffBy (.code yX9_putOffBy cX9_putOffBy 5 (some .int) :: gT) ({ frames := 3, cells := 0, slots := 0, locals := 85 }) (va_Pc [.ref h, .ref la, .int p0, .int p1] (Pst g sz [(h, .inr (9, [.int bday, .int bseed, .int balive, .int bstruck, .int bopen, .int bduels, .int blines, .ref bcoins, .ref brented, .ref bmornings, .ref bhonours, .ref bused, .ref bsides, .ref blog])), (bmornings, aI g 8 Fbmornings), (bused, aI g 8 Fbused), (la, .inr (2, [.ref dmen, .ref dformulas, .ref dreasons, .int dduels, .ref dduelSides, .ref dduelMornings, .int dhonour, .int ddraw, .ref dusesOfKind])), (dusesOfKind, aI g 4 FdusesOfKind), (dformulas, .inr (0, [.int dformulas_count, .int dformulas_units, .ref dformulas_names, .int dformulas_unitsOfThis, .int dformulas_length, .ref dformulas_starts, .ref dformulas_steps, .ref dformulas_stack])), (dformulas_starts, aI g 5 Fdformulas_starts), (dformulas_steps, aI g 640 Fdformulas_steps), (dformulas_stack, aI g 32 Fdformulas_stack), (dreasons, .inr (6, [.int dreasons_count, .ref dreasons_names, .ref dreasons_kinds, .ref dreasons_owners, .ref dreasons_froms, .ref dreasons_tos, .ref dreasons_rents, .ref dreasons_sorts])), (dreasons_kinds, aI g 8 Fdreasons_kinds)] nX)) (va_Qi (fun (r : Int32) => fun (o0_F : (Nat → Int32)) => (-2147483648) ≤ r.toInt ∧ r.toInt ≤ 9999) (Qst g [(h, .inr (9, [.int bday, .int bseed, .int balive, .int bstruck, .int bopen, .int bduels, .int blines, .ref bcoins, .ref brented, .ref bmornings, .ref bhonours, .ref bused, .ref bsides, .ref blog])), (bmornings, aI g 8 Fbmornings), (bused, aI g 8 Fbused), (la, .inr (2, [.ref dmen, .ref dformulas, .ref dreasons, .int dduels, .ref dduelSides, .ref dduelMornings, .int dhonour, .int ddraw, .ref dusesOfKind])), (dusesOfKind, aI g 4 FdusesOfKind), (dformulas, .inr (0, [.int dformulas_count, .int dformulas_units, .ref dformulas_names, .int dformulas_unitsOfThis, .int dformulas_length, .ref dformulas_starts, .ref dformulas_steps, .ref dformulas_stack])), (dformulas_starts, aI g 5 Fdformulas_starts), (dformulas_steps, aI g 640 Fdformulas_steps), (dformulas_stack, aI g 32 Fdformulas_stack), (dreasons, .inr (6, [.int dreasons_count, .ref dreasons_names, .ref dreasons_kinds, .ref dreasons_owners, .ref dreasons_froms, .ref dreasons_tos, .ref dreasons_rents, .ref dreasons_sorts])), (dreasons_kinds, aI g 8 Fdreasons_kinds)] sz (fun (o0_F : (Nat → Int32)) => [(h, .inr (9, [.int bday, .int bseed, .int balive, .int bstruck, .int bopen, .int bduels, .int blines, .ref bcoins, .ref brented, .ref bmornings, .ref bhonours, .ref bused, .ref bsides, .ref blog])), (bmornings, aI g 8 Fbmornings), (bused, aI g 8 Fbused), (la, .inr (2, [.ref dmen, .ref dformulas, .ref dreasons, .int dduels, .ref dduelSides, .ref dduelMornings, .int dhonour, .int ddraw, .ref dusesOfKind])), (dusesOfKind, aI g 4 FdusesOfKind), (dformulas, .inr (0, [.int dformulas_count, .int dformulas_units, .ref dformulas_names, .int dformulas_unitsOfThis, .int dformulas_length, .ref dformulas_starts, .ref dformulas_steps, .ref dformulas_stack])), (dformulas_starts, aI g 5 Fdformulas_starts), (dformulas_steps, aI g 640 Fdformulas_steps), (dformulas_stack, aI g 32 o0_F), (dreasons, .inr (6, [.int dreasons_count, .ref dreasons_names, .ref dreasons_kinds, .ref dreasons_owners, .ref dreasons_froms, .ref dreasons_tos, .ref dreasons_rents, .ref dreasons_sorts])), (dreasons_kinds, aI g 8 Fdreasons_kinds)])) (va_A [(h, .inr (9, [.int bday, .int bseed, .int balive, .int bstruck, .int bopen, .int bduels, .int blines, .ref bcoins, .ref brented, .ref bmornings, .ref bhonours, .ref bused, .ref bsides, .ref blog])), (bmornings, aI g 8 Fbmornings), (bused, aI g 8 Fbused), (la, .inr (2, [.ref dmen, .ref dformulas, .ref dreasons, .int dduels, .ref dduelSides, .ref dduelMornings, .int dhonour, .int ddraw, .ref dusesOfKind])), (dusesOfKind, aI g 4 FdusesOfKind), (dformulas, .inr (0, [.int dformulas_count, .int dformulas_units, .ref dformulas_names, .int dformulas_unitsOfThis, .int dformulas_length, .ref dformulas_starts, .ref dformulas_steps, .ref dformulas_stack])), (dformulas_starts, aI g 5 Fdformulas_starts), (dformulas_steps, aI g 640 Fdformulas_steps), (dformulas_stack, aI g 32 Fdformulas_stack), (dreasons, .inr (6, [.int dreasons_count, .ref dreasons_names, .ref dreasons_kinds, .ref dreasons_owners, .ref dreasons_froms, .ref dreasons_tos, .ref dreasons_rents, .ref dreasons_sorts])), (dreasons_kinds, aI g 8 Fdreasons_kinds)] sz)) 0 0 (va_A [(h, .inr (9, [.int bday, .int bseed, .int balive, .int bstruck, .int bopen, .int bduels, .int blines, .ref bcoins, .ref brented, .ref bmornings, .ref bhonours, .ref bused, .ref bsides, .ref blog])), (bmornings, aI g 8 Fbmornings), (bused, aI g 8 Fbused), (la, .inr (2, [.ref dmen, .ref dformulas, .ref dreasons, .int dduels, .ref dduelSides, .ref dduelMornings, .int dhonour, .int ddraw, .ref dusesOfKind])), (dusesOfKind, aI g 4 FdusesOfKind), (dformulas, .inr (0, [.int dformulas_count, .int dformulas_units, .ref dformulas_names, .int dformulas_unitsOfThis, .int dformulas_length, .ref dformulas_starts, .ref dformulas_steps, .ref dformulas_stack])), (dformulas_starts, aI g 5 Fdformulas_starts), (dformulas_steps, aI g 640 Fdformulas_steps), (dformulas_stack, aI g 32 Fdformulas_stack), (dreasons, .inr (6, [.int dreasons_count, .ref dreasons_names, .ref dreasons_kinds, .ref dreasons_owners, .ref dreasons_froms, .ref dreasons_tos, .ref dreasons_rents, .ref dreasons_sorts])), (dreasons_kinds, aI g 8 Fdreasons_kinds)] sz) := by
  refine Met.ofW (cc := cX9_putOffBy) (maxL := 5) (ret := (some .int)) (by decide) rfl ?_
  intro p e s m args below meth c s₁ B hml hv
  obtain ⟨rfl, hsz, hP, hK, hD0, hX⟩ := hv
  have hx := B.exec
  have hb := B.bytes
  have hr := B.returns
  have hT : ∀ w ∈ gT, w.before _ s = true := fun w h => atoms_spec (ws := .code yX9_putOffBy cX9_putOffBy 5 (some .int) :: gT) B.pre w (List.mem_cons_of_mem _ h)
  have hown : s.vm.findClass RX9 = some m.cls := findClass_of_methodNamed B.named
  have hlocks := B.notSynchronized
  subst hsz
  have hD := hD0.self (sz := s.heap.size)
  generalize hAe : va_A [(h, .inr (9, [.int bday, .int bseed, .int balive, .int bstruck, .int bopen, .int bduels, .int blines, .ref bcoins, .ref brented, .ref bmornings, .ref bhonours, .ref bused, .ref bsides, .ref blog])), (bmornings, aI g 8 Fbmornings), (bused, aI g 8 Fbused), (la, .inr (2, [.ref dmen, .ref dformulas, .ref dreasons, .int dduels, .ref dduelSides, .ref dduelMornings, .int dhonour, .int ddraw, .ref dusesOfKind])), (dusesOfKind, aI g 4 FdusesOfKind), (dformulas, .inr (0, [.int dformulas_count, .int dformulas_units, .ref dformulas_names, .int dformulas_unitsOfThis, .int dformulas_length, .ref dformulas_starts, .ref dformulas_steps, .ref dformulas_stack])), (dformulas_starts, aI g 5 Fdformulas_starts), (dformulas_steps, aI g 640 Fdformulas_steps), (dformulas_stack, aI g 32 Fdformulas_stack), (dreasons, .inr (6, [.int dreasons_count, .ref dreasons_names, .ref dreasons_kinds, .ref dreasons_owners, .ref dreasons_froms, .ref dreasons_tos, .ref dreasons_rents, .ref dreasons_sorts])), (dreasons_kinds, aI g 8 Fdreasons_kinds)] s.heap.size = A at hD ⊢
  have hA : ∀ q : Nat, s.heap.size ≤ q → A q := fun q h => by rw [← hAe]; exact Or.inr h
  have hS : va_S A s.heap s.heap [] := va_S.rf
  have hl := lv_entry ([.ref h, .ref la, .int p0, .int p1]) (n := 5) (Nat.le_of_ble_eq_true rfl)
  rw [lg_entry_eq]
  generalize (lg_sl ([.ref h, .ref la, .int p0, .int p1]) ++ List.replicate (5 - (lg_sl ([.ref h, .ref la, .int p0, .int p1])).length) Slot.unset).toArray = ls at hl ⊢
  have hl : lv_has ls 5 [(0, .ref h), (1, .ref la), (2, .int p0), (3, .int p1)] := hl
  refine p_nH (fun H hH => ?_)
  have hP : va_P g.1 vwCl [(h, .inr (9, [.int bday, .int bseed, .int balive, .int bstruck, .int bopen, .int bduels, .int blines, .ref bcoins, .ref brented, .ref bmornings, .ref bhonours, .ref bused, .ref bsides, .ref blog])), (bmornings, aI g 8 Fbmornings), (bused, aI g 8 Fbused), (la, .inr (2, [.ref dmen, .ref dformulas, .ref dreasons, .int dduels, .ref dduelSides, .ref dduelMornings, .int dhonour, .int ddraw, .ref dusesOfKind])), (dusesOfKind, aI g 4 FdusesOfKind), (dformulas, .inr (0, [.int dformulas_count, .int dformulas_units, .ref dformulas_names, .int dformulas_unitsOfThis, .int dformulas_length, .ref dformulas_starts, .ref dformulas_steps, .ref dformulas_stack])), (dformulas_starts, aI g 5 Fdformulas_starts), (dformulas_steps, aI g 640 Fdformulas_steps), (dformulas_stack, aI g 32 Fdformulas_stack), (dreasons, .inr (6, [.int dreasons_count, .ref dreasons_names, .ref dreasons_kinds, .ref dreasons_owners, .ref dreasons_froms, .ref dreasons_tos, .ref dreasons_rents, .ref dreasons_sorts])), (dreasons_kinds, aI g 8 Fdreasons_kinds)] H := by rw [hH]; exact hP
  have hS : va_S A s.heap H [] := by rw [hH]; exact hS
  refine lv_aload_n hx hb dX9_putOffBy_0 rfl (lv_at hl 1 rfl) ?_
  refine lv_aload_n hx hb dX9_putOffBy_1 rfl (lv_at hl 1 rfl) ?_
  refine va_get (D := g.1) (ci := 2) (v := .ref dreasons) (C := RX2) (T := TX2) (N := 9) hx hb hT inF_X2 hown hK.1 hP 3 rfl rfl 2 (by decide) (hT _ bw_67) (fun _ h9 => h9) rfl dX9_putOffBy_2 ?_
  refine va_get (D := g.1) (ci := 6) (v := .ref dreasons_kinds) (C := RX6) (T := TX6) (N := 8) hx hb hT inF_X6 hown hK.1 hP 9 rfl rfl 2 (by decide) (hT _ bw_198) (fun _ h9 => h9) rfl dX9_putOffBy_5 ?_
  refine lv_iload_n hx hb dX9_putOffBy_8 rfl (lv_at hl 3 rfl) ?_
  have h_1 : vp_in p1 8 := vp_in_iff.mpr (by omega)
  refine va_iald hx hb hK.1 hP 10 1 rfl rfl (i := p1) h_1 dX9_putOffBy_9 ?_
  refine lv_topi (fun x_2 ex_2 => ?_)
  have fx_2 : 0 ≤ x_2.toInt ∧ x_2.toInt ≤ 3 := Rg.rd hh14 h_1 ex_2
  have ux_2 := congrArg Int32.toInt ex_2
  refine lv_aload_n hx hb dX9_putOffBy_10 rfl (lv_at hl 0 rfl) ?_
  refine va_get (D := g.1) (ci := 9) (v := .ref bused) (C := RX9) (T := TX9) (N := 14) hx hb hT inF_X9 hown hK.1 hP 0 rfl rfl 11 (by decide) (hT _ bw_60) (fun _ h9 => h9) rfl dX9_putOffBy_11 ?_
  refine lv_iload_n hx hb dX9_putOffBy_14 rfl (lv_at hl 2 rfl) ?_
  have h_3 : vp_in p0 8 := vp_in_iff.mpr (by omega)
  refine va_iald hx hb hK.1 hP 2 1 rfl rfl (i := p0) h_3 dX9_putOffBy_15 ?_
  refine lv_topi (fun x_4 ex_4 => ?_)
  have ux_4 := congrArg Int32.toInt ex_4
  refine lv_aload_n hx hb dX9_putOffBy_16 rfl (lv_at hl 0 rfl) ?_
  refine va_get (D := g.1) (ci := 9) (v := .int bday) (C := RX9) (T := TX9) (N := 14) hx hb hT inF_X9 hown hK.1 hP 0 rfl rfl 0 (by decide) (hT _ bw_41) (fun _ h9 => h9) rfl dX9_putOffBy_17 ?_
  refine k_i (wr := [(h, .inr (9, [.int bday, .int bseed, .int balive, .int bstruck, .int bopen, .int bduels, .int blines, .ref bcoins, .ref brented, .ref bmornings, .ref bhonours, .ref bused, .ref bsides, .ref blog])), (bmornings, aI g 8 Fbmornings), (bused, aI g 8 Fbused), (dreasons, .inr (6, [.int dreasons_count, .ref dreasons_names, .ref dreasons_kinds, .ref dreasons_owners, .ref dreasons_froms, .ref dreasons_tos, .ref dreasons_rents, .ref dreasons_sorts])), (dreasons_kinds, aI g 8 Fdreasons_kinds)]) (k_V (n := 3) ⟨hx, hb, hml, hown, hT⟩ hK hP hD [3, 4, 5, 6, 7, 8] rfl (by decide +kernel) (s_X2_worthOf l g H.size la dduels dduelSides dduelMornings dhonour ddraw dusesOfKind FdusesOfKind dmen dformulas dformulas_count dformulas_units dformulas_names dformulas_unitsOfThis dformulas_length dformulas_starts Fdformulas_starts dformulas_steps Fdformulas_steps dformulas_stack Fdformulas_stack dreasons x_2 x_4 bday (by first | with_reducible assumption | omega) (by first | with_reducible assumption | omega) (by first | with_reducible assumption | omega) (by first | with_reducible assumption | omega) (by first | with_reducible assumption | omega) (by first | with_reducible assumption | omega) hh12 (by first | with_reducible assumption | omega)) (gV bw_199 bw_200 bw_201 bw_202 bw_165) rfl rfl (by decide +kernel) ⟨by decide, by decide⟩ (ci := 2) (q0 := 0) rfl rfl (fun _ _ _ _ _ => trivial) (fun _ _ _ => trivial) rfl rfl hl.1 (Nat.le_of_ble_eq_true rfl) dX9_putOffBy_20 ⟨by decide, by decide⟩) hP hD hS hA [3, 4, 5, 6, 7, 8] [0, 1, 2, 9, 10] rfl rfl (by decide +kernel) (by decide +kernel) (fun r_5 => fun f_6 H locs hw0 hP hD hS => ?_)
  have hP : va_P g.1 vwCl [(h, .inr (9, [.int bday, .int bseed, .int balive, .int bstruck, .int bopen, .int bduels, .int blines, .ref bcoins, .ref brented, .ref bmornings, .ref bhonours, .ref bused, .ref bsides, .ref blog])), (bmornings, aI g 8 Fbmornings), (bused, aI g 8 Fbused), (dreasons, .inr (6, [.int dreasons_count, .ref dreasons_names, .ref dreasons_kinds, .ref dreasons_owners, .ref dreasons_froms, .ref dreasons_tos, .ref dreasons_rents, .ref dreasons_sorts])), (dreasons_kinds, aI g 8 Fdreasons_kinds), (la, .inr (2, [.ref dmen, .ref dformulas, .ref dreasons, .int dduels, .ref dduelSides, .ref dduelMornings, .int dhonour, .int ddraw, .ref dusesOfKind])), (dusesOfKind, aI g 4 FdusesOfKind), (dformulas, .inr (0, [.int dformulas_count, .int dformulas_units, .ref dformulas_names, .int dformulas_unitsOfThis, .int dformulas_length, .ref dformulas_starts, .ref dformulas_steps, .ref dformulas_stack])), (dformulas_starts, aI g 5 Fdformulas_starts), (dformulas_steps, aI g 640 Fdformulas_steps), (dformulas_stack, aI g 32 f_6)] H := hP
  have hD : va_D A [(h, .inr (9, [.int bday, .int bseed, .int balive, .int bstruck, .int bopen, .int bduels, .int blines, .ref bcoins, .ref brented, .ref bmornings, .ref bhonours, .ref bused, .ref bsides, .ref blog])), (bmornings, aI g 8 Fbmornings), (bused, aI g 8 Fbused), (dreasons, .inr (6, [.int dreasons_count, .ref dreasons_names, .ref dreasons_kinds, .ref dreasons_owners, .ref dreasons_froms, .ref dreasons_tos, .ref dreasons_rents, .ref dreasons_sorts])), (dreasons_kinds, aI g 8 Fdreasons_kinds), (la, .inr (2, [.ref dmen, .ref dformulas, .ref dreasons, .int dduels, .ref dduelSides, .ref dduelMornings, .int dhonour, .int ddraw, .ref dusesOfKind])), (dusesOfKind, aI g 4 FdusesOfKind), (dformulas, .inr (0, [.int dformulas_count, .int dformulas_units, .ref dformulas_names, .int dformulas_unitsOfThis, .int dformulas_length, .ref dformulas_starts, .ref dformulas_steps, .ref dformulas_stack])), (dformulas_starts, aI g 5 Fdformulas_starts), (dformulas_steps, aI g 640 Fdformulas_steps), (dformulas_stack, aI g 32 f_6)] := hD
  have hw : 1 ≤ r_5.toInt ∧ r_5.toInt ≤ 365 := hw0
  clear hw0
  have w_7 := hw
  refine lv_istore (lv' := [(4, .int r_5), (0, .ref h), (1, .ref la), (2, .int p0), (3, .int p1)]) hx hb dX9_putOffBy_23 hl (by decide) rfl (fun ls hl => ?_)
  refine lv_sipush (v := 9999) hx hb dX9_putOffBy_25 (by decide) ?_
  refine lv_aload_n hx hb dX9_putOffBy_28 rfl (lv_at hl 1 rfl) ?_
  refine va_get (D := g.1) (ci := 9) (v := .ref bmornings) (C := RX9) (T := TX9) (N := 14) hx hb hT inF_X9 hown hK.1 hP 0 rfl rfl 9 (by decide) (hT _ bw_51) (fun _ h9 => h9) rfl dX9_putOffBy_29 ?_
  refine lv_iload_n hx hb dX9_putOffBy_32 rfl (lv_at hl 3 rfl) ?_
  have h_8 : vp_in p0 8 := vp_in_iff.mpr (by omega)
  refine va_iald hx hb hK.1 hP 1 1 rfl rfl (i := p0) h_8 dX9_putOffBy_33 ?_
  refine lv_topi (fun x_9 ex_9 => ?_)
  have ux_9 := congrArg Int32.toInt ex_9
  refine lv_iload hx hb dX9_putOffBy_34 (lv_at hl 0 rfl) ?_
  refine lv_iadd hx hb dX9_putOffBy_36 ?_
  refine lv_topi (fun x_10 ex_10 => ?_)
  refine va_mmin hx hb (hml.trans hl.1.symm) hown (hT _ bw_203) (hT _ bw_160) (hT _ bw_161) (hT _ bw_159) (Nat.le_of_ble_eq_true rfl) (Nat.le_of_ble_eq_true rfl) (Nat.le_of_ble_eq_true rfl) (Nat.le_of_ble_eq_true rfl) dX9_putOffBy_37 ?_
  refine lv_topi (fun x_11 ex_11 => ?_)
  have fx_11 : x_11.toInt = min 9999 x_10.toInt := by rw [ex_11]; exact I_min (by decide : (9999 : Int32).toInt = 9999) rfl
  have hP9 : va_P g.1 vwCl [(h, .inr (9, [.int bday, .int bseed, .int balive, .int bstruck, .int bopen, .int bduels, .int blines, .ref bcoins, .ref brented, .ref bmornings, .ref bhonours, .ref bused, .ref bsides, .ref blog])), (bmornings, aI g 8 Fbmornings), (bused, aI g 8 Fbused), (la, .inr (2, [.ref dmen, .ref dformulas, .ref dreasons, .int dduels, .ref dduelSides, .ref dduelMornings, .int dhonour, .int ddraw, .ref dusesOfKind])), (dusesOfKind, aI g 4 FdusesOfKind), (dformulas, .inr (0, [.int dformulas_count, .int dformulas_units, .ref dformulas_names, .int dformulas_unitsOfThis, .int dformulas_length, .ref dformulas_starts, .ref dformulas_steps, .ref dformulas_stack])), (dformulas_starts, aI g 5 Fdformulas_starts), (dformulas_steps, aI g 640 Fdformulas_steps), (dformulas_stack, aI g 32 f_6), (dreasons, .inr (6, [.int dreasons_count, .ref dreasons_names, .ref dreasons_kinds, .ref dreasons_owners, .ref dreasons_froms, .ref dreasons_tos, .ref dreasons_rents, .ref dreasons_sorts])), (dreasons_kinds, aI g 8 Fdreasons_kinds)] H := hP.sub [0, 1, 2, 5, 6, 7, 8, 9, 10, 3, 4] rfl
  have hD9 : va_D A [(h, .inr (9, [.int bday, .int bseed, .int balive, .int bstruck, .int bopen, .int bduels, .int blines, .ref bcoins, .ref brented, .ref bmornings, .ref bhonours, .ref bused, .ref bsides, .ref blog])), (bmornings, aI g 8 Fbmornings), (bused, aI g 8 Fbused), (la, .inr (2, [.ref dmen, .ref dformulas, .ref dreasons, .int dduels, .ref dduelSides, .ref dduelMornings, .int dhonour, .int ddraw, .ref dusesOfKind])), (dusesOfKind, aI g 4 FdusesOfKind), (dformulas, .inr (0, [.int dformulas_count, .int dformulas_units, .ref dformulas_names, .int dformulas_unitsOfThis, .int dformulas_length, .ref dformulas_starts, .ref dformulas_steps, .ref dformulas_stack])), (dformulas_starts, aI g 5 Fdformulas_starts), (dformulas_steps, aI g 640 Fdformulas_steps), (dformulas_stack, aI g 32 f_6), (dreasons, .inr (6, [.int dreasons_count, .ref dreasons_names, .ref dreasons_kinds, .ref dreasons_owners, .ref dreasons_froms, .ref dreasons_tos, .ref dreasons_rents, .ref dreasons_sorts])), (dreasons_kinds, aI g 8 Fdreasons_kinds)] := hD.sub [0, 1, 2, 5, 6, 7, 8, 9, 10, 3, 4] (by decide +kernel) rfl
  exact W.iret (v := x_11) hx hb hr (fun t ht hW => ⟨⟨x_11, f_6, rfl, (by have q9 := I_rng x_11; omega), by rw [ht]; exact hP9, by rw [hAe]; exact hD9⟩, hS.F ht⟩) hS.2.2 dX9_putOffBy_40

theorem bw_205 : Cond.methodLink RX9 177 yX9_putOffBy ∈ gT := gT_tb 999 (by decide +kernel) (by decide +kernel)
theorem bw_206 : Cond.instanceMethod yX9_putOffBy ∈ gT := gT_tb 1000 (by decide +kernel) (by decide +kernel)
theorem bw_207 : Cond.selects RX9 yX9_putOffBy yX9_putOffBy ∈ gT := gT_tb 1001 (by decide +kernel) (by decide +kernel)
theorem bw_208 : Cond.methodLink RX9 180 yX9_addLine ∈ gT := gT_tb 1004 (by decide +kernel) (by decide +kernel)
theorem bw_209 : Cond.instanceMethod yX9_addLine ∈ gT := gT_tb 1006 (by decide +kernel) (by decide +kernel)
theorem bw_210 : Cond.selects RX9 yX9_addLine yX9_addLine ∈ gT := gT_sl 31 (by decide +kernel) (by decide +kernel)
theorem bw_211 : Cond.code yX9_use cX9_use 7 none ∈ gT := gT_tb 997 (by decide +kernel) (by decide +kernel)
theorem dX9_use_0 : decode cX9_use 0 = .ok (.aload_n 0, 1) := by decide +kernel
theorem dX9_use_1 : decode cX9_use 1 = .ok (.iload_n 2, 1) := by decide +kernel
theorem dX9_use_2 : decode cX9_use 2 = .ok (.iload_n 3, 1) := by decide +kernel
theorem dX9_use_3 : decode cX9_use 3 = .ok (.invokevirtual 150, 3) := by decide +kernel
theorem dX9_use_6 : decode cX9_use 6 = .ok (.istore 5, 2) := by decide +kernel
theorem dX9_use_8 : decode cX9_use 8 = .ok (.aload_n 1, 1) := by decide +kernel
theorem dX9_use_9 : decode cX9_use 9 = .ok (.aload_n 1, 1) := by decide +kernel
theorem dX9_use_10 : decode cX9_use 10 = .ok (.getfield 117, 3) := by decide +kernel
theorem dX9_use_13 : decode cX9_use 13 = .ok (.getfield 166, 3) := by decide +kernel
theorem dX9_use_16 : decode cX9_use 16 = .ok (.iload 4, 2) := by decide +kernel
theorem dX9_use_18 : decode cX9_use 18 = .ok (.iaload, 1) := by decide +kernel
theorem dX9_use_19 : decode cX9_use 19 = .ok (.aload_n 0, 1) := by decide +kernel
theorem dX9_use_20 : decode cX9_use 20 = .ok (.getfield 24, 3) := by decide +kernel
theorem dX9_use_23 : decode cX9_use 23 = .ok (.iload_n 2, 1) := by decide +kernel
theorem dX9_use_24 : decode cX9_use 24 = .ok (.iaload, 1) := by decide +kernel
theorem dX9_use_25 : decode cX9_use 25 = .ok (.aload_n 0, 1) := by decide +kernel
theorem dX9_use_26 : decode cX9_use 26 = .ok (.getfield 33, 3) := by decide +kernel
theorem dX9_use_29 : decode cX9_use 29 = .ok (.invokevirtual 169, 3) := by decide +kernel
theorem dX9_use_32 : decode cX9_use 32 = .ok (.istore 6, 2) := by decide +kernel
theorem dX9_use_34 : decode cX9_use 34 = .ok (.aload_n 0, 1) := by decide +kernel
theorem dX9_use_35 : decode cX9_use 35 = .ok (.getfield 18, 3) := by decide +kernel
theorem dX9_use_38 : decode cX9_use 38 = .ok (.iload_n 2, 1) := by decide +kernel
theorem dX9_use_39 : decode cX9_use 39 = .ok (.aload_n 0, 1) := by decide +kernel
theorem dX9_use_40 : decode cX9_use 40 = .ok (.aload_n 1, 1) := by decide +kernel
theorem dX9_use_41 : decode cX9_use 41 = .ok (.iload_n 2, 1) := by decide +kernel
theorem dX9_use_42 : decode cX9_use 42 = .ok (.iload 4, 2) := by decide +kernel
theorem dX9_use_44 : decode cX9_use 44 = .ok (.invokevirtual 177, 3) := by decide +kernel
theorem dX9_use_47 : decode cX9_use 47 = .ok (.iastore, 1) := by decide +kernel
theorem dX9_use_48 : decode cX9_use 48 = .ok (.aload_n 0, 1) := by decide +kernel
theorem dX9_use_49 : decode cX9_use 49 = .ok (.getfield 21, 3) := by decide +kernel
theorem dX9_use_52 : decode cX9_use 52 = .ok (.iload_n 2, 1) := by decide +kernel
theorem dX9_use_53 : decode cX9_use 53 = .ok (.iload 5, 2) := by decide +kernel
theorem dX9_use_55 : decode cX9_use 55 = .ok (.iastore, 1) := by decide +kernel
theorem dX9_use_56 : decode cX9_use 56 = .ok (.aload_n 0, 1) := by decide +kernel
theorem dX9_use_57 : decode cX9_use 57 = .ok (.getfield 24, 3) := by decide +kernel
theorem dX9_use_60 : decode cX9_use 60 = .ok (.iload_n 2, 1) := by decide +kernel
theorem dX9_use_61 : decode cX9_use 61 = .ok (.dup2, 1) := by decide +kernel
theorem dX9_use_62 : decode cX9_use 62 = .ok (.iaload, 1) := by decide +kernel
theorem dX9_use_63 : decode cX9_use 63 = .ok (.iconst 1, 1) := by decide +kernel
theorem dX9_use_64 : decode cX9_use 64 = .ok (.iload_n 3, 1) := by decide +kernel
theorem dX9_use_65 : decode cX9_use 65 = .ok (.bipush 8, 2) := by decide +kernel
theorem dX9_use_67 : decode cX9_use 67 = .ok (.imul, 1) := by decide +kernel
theorem dX9_use_68 : decode cX9_use 68 = .ok (.iload 4, 2) := by decide +kernel
theorem dX9_use_70 : decode cX9_use 70 = .ok (.iadd, 1) := by decide +kernel
theorem dX9_use_71 : decode cX9_use 71 = .ok (.ishl, 1) := by decide +kernel
theorem dX9_use_72 : decode cX9_use 72 = .ok (.ior, 1) := by decide +kernel
theorem dX9_use_73 : decode cX9_use 73 = .ok (.iastore, 1) := by decide +kernel
theorem dX9_use_74 : decode cX9_use 74 = .ok (.aload_n 0, 1) := by decide +kernel
theorem dX9_use_75 : decode cX9_use 75 = .ok (.iload_n 2, 1) := by decide +kernel
theorem dX9_use_76 : decode cX9_use 76 = .ok (.iload 5, 2) := by decide +kernel
theorem dX9_use_78 : decode cX9_use 78 = .ok (.iload 4, 2) := by decide +kernel
theorem dX9_use_80 : decode cX9_use 80 = .ok (.iload 6, 2) := by decide +kernel
theorem dX9_use_82 : decode cX9_use 82 = .ok (.invokevirtual 180, 3) := by decide +kernel
theorem dX9_use_85 : decode cX9_use 85 = .ok (.return_, 1) := by decide +kernel
set_option maxHeartbeats 4000000 in
set_option maxRecDepth 100000 in
theorem s_X9_use (l : Launch) (g : GG) (sz : Nat) (h : Nat) (bday : Int32) (bseed : Int32) (balive : Int32) (bstruck : Int32) (bopen : Int32) (bduels : Int32) (blines : Int32) (bcoins : Nat) (brented : Nat) (bmornings : Nat) (Fbmornings : Nat → Int32) (bhonours : Nat) (Fbhonours : Nat → Int32) (bused : Nat) (Fbused : Nat → Int32) (bsides : Nat) (Fbsides : Nat → Int32) (blog : Nat) (Fblog : Nat → Int32) (la : Nat) (dduels : Int32) (dduelSides : Nat) (dduelMornings : Nat) (dhonour : Int32) (ddraw : Int32) (dusesOfKind : Nat) (FdusesOfKind : Nat → Int32) (dmen : Nat) (dformulas : Nat) (dformulas_count : Int32) (dformulas_units : Int32) (dformulas_names : Nat) (dformulas_unitsOfThis : Int32) (dformulas_length : Int32) (dformulas_starts : Nat) (Fdformulas_starts : Nat → Int32) (dformulas_steps : Nat) (Fdformulas_steps : Nat → Int32) (dformulas_stack : Nat) (Fdformulas_stack : Nat → Int32) (dreasons : Nat) (dreasons_count : Int32) (dreasons_names : Nat) (dreasons_kinds : Nat) (Fdreasons_kinds : Nat → Int32) (dreasons_owners : Nat) (dreasons_froms : Nat) (dreasons_tos : Nat) (dreasons_rents : Nat) (dreasons_sorts : Nat) (p0 : Int32) (p1 : Int32) (p2 : Int32) (hh0 : 0 ≤ bseed.toInt ∧ bseed.toInt ≤ 999) (hh1 : 0 ≤ bduels.toInt ∧ bduels.toInt ≤ 8) (hh2 : 0 ≤ blines.toInt ∧ blines.toInt ≤ 60) (hh3 : Rg 16 0 5 Fbsides) (hh4 : 0 ≤ dduels.toInt ∧ dduels.toInt ≤ 6) (hh6 : 0 ≤ ddraw.toInt ∧ ddraw.toInt ≤ 999) (hh8 : 0 ≤ dformulas_count.toInt ∧ dformulas_count.toInt ≤ 4) (hh9 : 0 ≤ dformulas_units.toInt ∧ dformulas_units.toInt ≤ 60) (hh10 : 0 ≤ dformulas_unitsOfThis.toInt ∧ dformulas_unitsOfThis.toInt ≤ 30) (hh11 : 0 ≤ dformulas_length.toInt ∧ dformulas_length.toInt ≤ 640) (hh12 : Rg 5 0 640 Fdformulas_starts) (hh13 : 0 ≤ dreasons_count.toInt ∧ dreasons_count.toInt ≤ 8) (hh14 : Rg 8 0 3 Fdreasons_kinds) (hh16 : 0 ≤ p0.toInt ∧ p0.toInt ≤ 7) (hh17 : 0 ≤ p1.toInt ∧ p1.toInt ≤ 1) (hh18 : 0 ≤ p2.toInt ∧ p2.toInt ≤ 7) : Met l yX9_use (.code yX9_use cX9_use 7 none :: gT) ({ frames := 4, cells := 0, slots := 0, locals := 109 }) (va_Pc [.ref h, .ref la, .int p0, .int p1, .int p2] (Pst g sz [(h, .inr (9, [.int bday, .int bseed, .int balive, .int bstruck, .int bopen, .int bduels, .int blines, .ref bcoins, .ref brented, .ref bmornings, .ref bhonours, .ref bused, .ref bsides, .ref blog])), (bmornings, aI g 8 Fbmornings), (bhonours, aI g 8 Fbhonours), (bused, aI g 8 Fbused), (bsides, aI g 16 Fbsides), (blog, aI g 60 Fblog), (la, .inr (2, [.ref dmen, .ref dformulas, .ref dreasons, .int dduels, .ref dduelSides, .ref dduelMornings, .int dhonour, .int ddraw, .ref dusesOfKind])), (dusesOfKind, aI g 4 FdusesOfKind), (dformulas, .inr (0, [.int dformulas_count, .int dformulas_units, .ref dformulas_names, .int dformulas_unitsOfThis, .int dformulas_length, .ref dformulas_starts, .ref dformulas_steps, .ref dformulas_stack])), (dformulas_starts, aI g 5 Fdformulas_starts), (dformulas_steps, aI g 640 Fdformulas_steps), (dformulas_stack, aI g 32 Fdformulas_stack), (dreasons, .inr (6, [.int dreasons_count, .ref dreasons_names, .ref dreasons_kinds, .ref dreasons_owners, .ref dreasons_froms, .ref dreasons_tos, .ref dreasons_rents, .ref dreasons_sorts])), (dreasons_kinds, aI g 8 Fdreasons_kinds)] nX)) (va_Qv (fun ((o0_lines, o1_F, o2_F, o3_F, o4_F, o5_F) : Int32 × (Nat → Int32) × (Nat → Int32) × (Nat → Int32) × (Nat → Int32) × (Nat → Int32)) => 0 ≤ o0_lines.toInt ∧ o0_lines.toInt ≤ 60) (Qst g [(h, .inr (9, [.int bday, .int bseed, .int balive, .int bstruck, .int bopen, .int bduels, .int blines, .ref bcoins, .ref brented, .ref bmornings, .ref bhonours, .ref bused, .ref bsides, .ref blog])), (bmornings, aI g 8 Fbmornings), (bhonours, aI g 8 Fbhonours), (bused, aI g 8 Fbused), (bsides, aI g 16 Fbsides), (blog, aI g 60 Fblog), (la, .inr (2, [.ref dmen, .ref dformulas, .ref dreasons, .int dduels, .ref dduelSides, .ref dduelMornings, .int dhonour, .int ddraw, .ref dusesOfKind])), (dusesOfKind, aI g 4 FdusesOfKind), (dformulas, .inr (0, [.int dformulas_count, .int dformulas_units, .ref dformulas_names, .int dformulas_unitsOfThis, .int dformulas_length, .ref dformulas_starts, .ref dformulas_steps, .ref dformulas_stack])), (dformulas_starts, aI g 5 Fdformulas_starts), (dformulas_steps, aI g 640 Fdformulas_steps), (dformulas_stack, aI g 32 Fdformulas_stack), (dreasons, .inr (6, [.int dreasons_count, .ref dreasons_names, .ref dreasons_kinds, .ref dreasons_owners, .ref dreasons_froms, .ref dreasons_tos, .ref dreasons_rents, .ref dreasons_sorts])), (dreasons_kinds, aI g 8 Fdreasons_kinds)] sz (fun ((o0_lines, o1_F, o2_F, o3_F, o4_F, o5_F) : Int32 × (Nat → Int32) × (Nat → Int32) × (Nat → Int32) × (Nat → Int32) × (Nat → Int32)) => [(h, .inr (9, [.int bday, .int bseed, .int balive, .int bstruck, .int bopen, .int bduels, .int o0_lines, .ref bcoins, .ref brented, .ref bmornings, .ref bhonours, .ref bused, .ref bsides, .ref blog])), (bmornings, aI g 8 o1_F), (bhonours, aI g 8 o2_F), (bused, aI g 8 o3_F), (bsides, aI g 16 Fbsides), (blog, aI g 60 o4_F), (la, .inr (2, [.ref dmen, .ref dformulas, .ref dreasons, .int dduels, .ref dduelSides, .ref dduelMornings, .int dhonour, .int ddraw, .ref dusesOfKind])), (dusesOfKind, aI g 4 FdusesOfKind), (dformulas, .inr (0, [.int dformulas_count, .int dformulas_units, .ref dformulas_names, .int dformulas_unitsOfThis, .int dformulas_length, .ref dformulas_starts, .ref dformulas_steps, .ref dformulas_stack])), (dformulas_starts, aI g 5 Fdformulas_starts), (dformulas_steps, aI g 640 Fdformulas_steps), (dformulas_stack, aI g 32 o5_F), (dreasons, .inr (6, [.int dreasons_count, .ref dreasons_names, .ref dreasons_kinds, .ref dreasons_owners, .ref dreasons_froms, .ref dreasons_tos, .ref dreasons_rents, .ref dreasons_sorts])), (dreasons_kinds, aI g 8 Fdreasons_kinds)])) (va_A [(h, .inr (9, [.int bday, .int bseed, .int balive, .int bstruck, .int bopen, .int bduels, .int blines, .ref bcoins, .ref brented, .ref bmornings, .ref bhonours, .ref bused, .ref bsides, .ref blog])), (bmornings, aI g 8 Fbmornings), (bhonours, aI g 8 Fbhonours), (bused, aI g 8 Fbused), (bsides, aI g 16 Fbsides), (blog, aI g 60 Fblog), (la, .inr (2, [.ref dmen, .ref dformulas, .ref dreasons, .int dduels, .ref dduelSides, .ref dduelMornings, .int dhonour, .int ddraw, .ref dusesOfKind])), (dusesOfKind, aI g 4 FdusesOfKind), (dformulas, .inr (0, [.int dformulas_count, .int dformulas_units, .ref dformulas_names, .int dformulas_unitsOfThis, .int dformulas_length, .ref dformulas_starts, .ref dformulas_steps, .ref dformulas_stack])), (dformulas_starts, aI g 5 Fdformulas_starts), (dformulas_steps, aI g 640 Fdformulas_steps), (dformulas_stack, aI g 32 Fdformulas_stack), (dreasons, .inr (6, [.int dreasons_count, .ref dreasons_names, .ref dreasons_kinds, .ref dreasons_owners, .ref dreasons_froms, .ref dreasons_tos, .ref dreasons_rents, .ref dreasons_sorts])), (dreasons_kinds, aI g 8 Fdreasons_kinds)] sz)) 0 0 (va_A [(h, .inr (9, [.int bday, .int bseed, .int balive, .int bstruck, .int bopen, .int bduels, .int blines, .ref bcoins, .ref brented, .ref bmornings, .ref bhonours, .ref bused, .ref bsides, .ref blog])), (bmornings, aI g 8 Fbmornings), (bhonours, aI g 8 Fbhonours), (bused, aI g 8 Fbused), (bsides, aI g 16 Fbsides), (blog, aI g 60 Fblog), (la, .inr (2, [.ref dmen, .ref dformulas, .ref dreasons, .int dduels, .ref dduelSides, .ref dduelMornings, .int dhonour, .int ddraw, .ref dusesOfKind])), (dusesOfKind, aI g 4 FdusesOfKind), (dformulas, .inr (0, [.int dformulas_count, .int dformulas_units, .ref dformulas_names, .int dformulas_unitsOfThis, .int dformulas_length, .ref dformulas_starts, .ref dformulas_steps, .ref dformulas_stack])), (dformulas_starts, aI g 5 Fdformulas_starts), (dformulas_steps, aI g 640 Fdformulas_steps), (dformulas_stack, aI g 32 Fdformulas_stack), (dreasons, .inr (6, [.int dreasons_count, .ref dreasons_names, .ref dreasons_kinds, .ref dreasons_owners, .ref dreasons_froms, .ref dreasons_tos, .ref dreasons_rents, .ref dreasons_sorts])), (dreasons_kinds, aI g 8 Fdreasons_kinds)] sz) := by
  refine Met.ofW (cc := cX9_use) (maxL := 7) (ret := none) (by decide) rfl ?_
  intro p e s m args below meth c s₁ B hml hv
  obtain ⟨rfl, hsz, hP, hK, hD0, hX⟩ := hv
  have hx := B.exec
  have hb := B.bytes
  have hr := B.returns
  have hT : ∀ w ∈ gT, w.before _ s = true := fun w h => atoms_spec (ws := .code yX9_use cX9_use 7 none :: gT) B.pre w (List.mem_cons_of_mem _ h)
  have hown : s.vm.findClass RX9 = some m.cls := findClass_of_methodNamed B.named
  have hlocks := B.notSynchronized
  subst hsz
  have hD := hD0.self (sz := s.heap.size)
  generalize hAe : va_A [(h, .inr (9, [.int bday, .int bseed, .int balive, .int bstruck, .int bopen, .int bduels, .int blines, .ref bcoins, .ref brented, .ref bmornings, .ref bhonours, .ref bused, .ref bsides, .ref blog])), (bmornings, aI g 8 Fbmornings), (bhonours, aI g 8 Fbhonours), (bused, aI g 8 Fbused), (bsides, aI g 16 Fbsides), (blog, aI g 60 Fblog), (la, .inr (2, [.ref dmen, .ref dformulas, .ref dreasons, .int dduels, .ref dduelSides, .ref dduelMornings, .int dhonour, .int ddraw, .ref dusesOfKind])), (dusesOfKind, aI g 4 FdusesOfKind), (dformulas, .inr (0, [.int dformulas_count, .int dformulas_units, .ref dformulas_names, .int dformulas_unitsOfThis, .int dformulas_length, .ref dformulas_starts, .ref dformulas_steps, .ref dformulas_stack])), (dformulas_starts, aI g 5 Fdformulas_starts), (dformulas_steps, aI g 640 Fdformulas_steps), (dformulas_stack, aI g 32 Fdformulas_stack), (dreasons, .inr (6, [.int dreasons_count, .ref dreasons_names, .ref dreasons_kinds, .ref dreasons_owners, .ref dreasons_froms, .ref dreasons_tos, .ref dreasons_rents, .ref dreasons_sorts])), (dreasons_kinds, aI g 8 Fdreasons_kinds)] s.heap.size = A at hD ⊢
  have hA : ∀ q : Nat, s.heap.size ≤ q → A q := fun q h => by rw [← hAe]; exact Or.inr h
  have hS : va_S A s.heap s.heap [] := va_S.rf
  have hl := lv_entry ([.ref h, .ref la, .int p0, .int p1, .int p2]) (n := 7) (Nat.le_of_ble_eq_true rfl)
  rw [lg_entry_eq]
  generalize (lg_sl ([.ref h, .ref la, .int p0, .int p1, .int p2]) ++ List.replicate (7 - (lg_sl ([.ref h, .ref la, .int p0, .int p1, .int p2])).length) Slot.unset).toArray = ls at hl ⊢
  have hl : lv_has ls 7 [(0, .ref h), (1, .ref la), (2, .int p0), (3, .int p1), (4, .int p2)] := hl
  refine p_nH (fun H hH => ?_)
  have hP : va_P g.1 vwCl [(h, .inr (9, [.int bday, .int bseed, .int balive, .int bstruck, .int bopen, .int bduels, .int blines, .ref bcoins, .ref brented, .ref bmornings, .ref bhonours, .ref bused, .ref bsides, .ref blog])), (bmornings, aI g 8 Fbmornings), (bhonours, aI g 8 Fbhonours), (bused, aI g 8 Fbused), (bsides, aI g 16 Fbsides), (blog, aI g 60 Fblog), (la, .inr (2, [.ref dmen, .ref dformulas, .ref dreasons, .int dduels, .ref dduelSides, .ref dduelMornings, .int dhonour, .int ddraw, .ref dusesOfKind])), (dusesOfKind, aI g 4 FdusesOfKind), (dformulas, .inr (0, [.int dformulas_count, .int dformulas_units, .ref dformulas_names, .int dformulas_unitsOfThis, .int dformulas_length, .ref dformulas_starts, .ref dformulas_steps, .ref dformulas_stack])), (dformulas_starts, aI g 5 Fdformulas_starts), (dformulas_steps, aI g 640 Fdformulas_steps), (dformulas_stack, aI g 32 Fdformulas_stack), (dreasons, .inr (6, [.int dreasons_count, .ref dreasons_names, .ref dreasons_kinds, .ref dreasons_owners, .ref dreasons_froms, .ref dreasons_tos, .ref dreasons_rents, .ref dreasons_sorts])), (dreasons_kinds, aI g 8 Fdreasons_kinds)] H := by rw [hH]; exact hP
  have hS : va_S A s.heap H [] := by rw [hH]; exact hS
  refine lv_aload_n hx hb dX9_use_0 rfl (lv_at hl 0 rfl) ?_
  refine lv_iload_n hx hb dX9_use_1 rfl (lv_at hl 2 rfl) ?_
  refine lv_iload_n hx hb dX9_use_2 rfl (lv_at hl 3 rfl) ?_
  refine k_iR (k_V (n := 2) ⟨hx, hb, hml, hown, hT⟩ hK hP hD [0, 4] rfl (by decide +kernel) (s_X9_manOf l g H.size h bday bseed balive bstruck bopen bduels blines bcoins brented bmornings bhonours bused bsides Fbsides blog p0 p1 (by first | with_reducible assumption | omega) (by first | with_reducible assumption | omega) (by first | with_reducible assumption | omega) hh3 (by first | with_reducible assumption | omega) (by first | with_reducible assumption | omega)) (gV bw_75 bw_76 bw_77 bw_46 bw_36) rfl rfl (by decide +kernel) ⟨by decide, by decide⟩ (ci := 9) (q0 := 0) rfl rfl (fun _ _ _ _ _ => trivial) (fun _ _ _ => trivial) rfl rfl hl.1 (Nat.le_of_ble_eq_true rfl) dX9_use_3 ⟨by decide, by decide⟩) hP hS hA (fun r_1 _ H locs hw0 hP hS => ?_)
  have hw : 0 ≤ r_1.toInt ∧ r_1.toInt ≤ 5 := hw0
  clear hw0
  have w_2 := hw
  refine lv_istore (lv' := [(5, .int r_1), (0, .ref h), (1, .ref la), (2, .int p0), (3, .int p1), (4, .int p2)]) hx hb dX9_use_6 hl (by decide) rfl (fun ls hl => ?_)
  refine lv_aload_n hx hb dX9_use_8 rfl (lv_at hl 2 rfl) ?_
  refine lv_aload_n hx hb dX9_use_9 rfl (lv_at hl 2 rfl) ?_
  refine va_get (D := g.1) (ci := 2) (v := .ref dreasons) (C := RX2) (T := TX2) (N := 9) hx hb hT inF_X2 hown hK.1 hP 6 rfl rfl 2 (by decide) (hT _ bw_67) (fun _ h9 => h9) rfl dX9_use_10 ?_
  refine va_get (D := g.1) (ci := 6) (v := .ref dreasons_kinds) (C := RX6) (T := TX6) (N := 8) hx hb hT inF_X6 hown hK.1 hP 12 rfl rfl 2 (by decide) (hT _ bw_198) (fun _ h9 => h9) rfl dX9_use_13 ?_
  refine lv_iload hx hb dX9_use_16 (lv_at hl 5 rfl) ?_
  have h_3 : vp_in p2 8 := vp_in_iff.mpr (by omega)
  refine va_iald hx hb hK.1 hP 13 1 rfl rfl (i := p2) h_3 dX9_use_18 ?_
  refine lv_topi (fun x_4 ex_4 => ?_)
  have fx_4 : 0 ≤ x_4.toInt ∧ x_4.toInt ≤ 3 := Rg.rd hh14 h_3 ex_4
  have ux_4 := congrArg Int32.toInt ex_4
  refine lv_aload_n hx hb dX9_use_19 rfl (lv_at hl 1 rfl) ?_
  refine va_get (D := g.1) (ci := 9) (v := .ref bused) (C := RX9) (T := TX9) (N := 14) hx hb hT inF_X9 hown hK.1 hP 0 rfl rfl 11 (by decide) (hT _ bw_60) (fun _ h9 => h9) rfl dX9_use_20 ?_
  refine lv_iload_n hx hb dX9_use_23 rfl (lv_at hl 3 rfl) ?_
  have h_5 : vp_in p0 8 := vp_in_iff.mpr (by omega)
  refine va_iald hx hb hK.1 hP 3 1 rfl rfl (i := p0) h_5 dX9_use_24 ?_
  refine lv_topi (fun x_6 ex_6 => ?_)
  have ux_6 := congrArg Int32.toInt ex_6
  refine lv_aload_n hx hb dX9_use_25 rfl (lv_at hl 1 rfl) ?_
  refine va_get (D := g.1) (ci := 9) (v := .int bday) (C := RX9) (T := TX9) (N := 14) hx hb hT inF_X9 hown hK.1 hP 0 rfl rfl 0 (by decide) (hT _ bw_41) (fun _ h9 => h9) rfl dX9_use_26 ?_
  refine k_i (wr := [(h, .inr (9, [.int bday, .int bseed, .int balive, .int bstruck, .int bopen, .int bduels, .int blines, .ref bcoins, .ref brented, .ref bmornings, .ref bhonours, .ref bused, .ref bsides, .ref blog])), (bmornings, aI g 8 Fbmornings), (bhonours, aI g 8 Fbhonours), (bused, aI g 8 Fbused), (bsides, aI g 16 Fbsides), (blog, aI g 60 Fblog), (dreasons, .inr (6, [.int dreasons_count, .ref dreasons_names, .ref dreasons_kinds, .ref dreasons_owners, .ref dreasons_froms, .ref dreasons_tos, .ref dreasons_rents, .ref dreasons_sorts])), (dreasons_kinds, aI g 8 Fdreasons_kinds)]) (k_V (n := 3) ⟨hx, hb, hml, hown, hT⟩ hK hP hD [6, 7, 8, 9, 10, 11] rfl (by decide +kernel) (s_X2_worthOf l g H.size la dduels dduelSides dduelMornings dhonour ddraw dusesOfKind FdusesOfKind dmen dformulas dformulas_count dformulas_units dformulas_names dformulas_unitsOfThis dformulas_length dformulas_starts Fdformulas_starts dformulas_steps Fdformulas_steps dformulas_stack Fdformulas_stack dreasons x_4 x_6 bday (by first | with_reducible assumption | omega) (by first | with_reducible assumption | omega) (by first | with_reducible assumption | omega) (by first | with_reducible assumption | omega) (by first | with_reducible assumption | omega) (by first | with_reducible assumption | omega) hh12 (by first | with_reducible assumption | omega)) (gV bw_199 bw_200 bw_201 bw_202 bw_165) rfl rfl (by decide +kernel) ⟨by decide, by decide⟩ (ci := 2) (q0 := 0) rfl rfl (fun _ _ _ _ _ => trivial) (fun _ _ _ => trivial) rfl rfl hl.1 (Nat.le_of_ble_eq_true rfl) dX9_use_29 ⟨by decide, by decide⟩) hP hD hS hA [6, 7, 8, 9, 10, 11] [0, 1, 2, 3, 4, 5, 12, 13] rfl rfl (by decide +kernel) (by decide +kernel) (fun r_7 => fun f_8 H locs hw0 hP hD hS => ?_)
  have hP : va_P g.1 vwCl [(h, .inr (9, [.int bday, .int bseed, .int balive, .int bstruck, .int bopen, .int bduels, .int blines, .ref bcoins, .ref brented, .ref bmornings, .ref bhonours, .ref bused, .ref bsides, .ref blog])), (bmornings, aI g 8 Fbmornings), (bhonours, aI g 8 Fbhonours), (bused, aI g 8 Fbused), (bsides, aI g 16 Fbsides), (blog, aI g 60 Fblog), (dreasons, .inr (6, [.int dreasons_count, .ref dreasons_names, .ref dreasons_kinds, .ref dreasons_owners, .ref dreasons_froms, .ref dreasons_tos, .ref dreasons_rents, .ref dreasons_sorts])), (dreasons_kinds, aI g 8 Fdreasons_kinds), (la, .inr (2, [.ref dmen, .ref dformulas, .ref dreasons, .int dduels, .ref dduelSides, .ref dduelMornings, .int dhonour, .int ddraw, .ref dusesOfKind])), (dusesOfKind, aI g 4 FdusesOfKind), (dformulas, .inr (0, [.int dformulas_count, .int dformulas_units, .ref dformulas_names, .int dformulas_unitsOfThis, .int dformulas_length, .ref dformulas_starts, .ref dformulas_steps, .ref dformulas_stack])), (dformulas_starts, aI g 5 Fdformulas_starts), (dformulas_steps, aI g 640 Fdformulas_steps), (dformulas_stack, aI g 32 f_8)] H := hP
  have hD : va_D A [(h, .inr (9, [.int bday, .int bseed, .int balive, .int bstruck, .int bopen, .int bduels, .int blines, .ref bcoins, .ref brented, .ref bmornings, .ref bhonours, .ref bused, .ref bsides, .ref blog])), (bmornings, aI g 8 Fbmornings), (bhonours, aI g 8 Fbhonours), (bused, aI g 8 Fbused), (bsides, aI g 16 Fbsides), (blog, aI g 60 Fblog), (dreasons, .inr (6, [.int dreasons_count, .ref dreasons_names, .ref dreasons_kinds, .ref dreasons_owners, .ref dreasons_froms, .ref dreasons_tos, .ref dreasons_rents, .ref dreasons_sorts])), (dreasons_kinds, aI g 8 Fdreasons_kinds), (la, .inr (2, [.ref dmen, .ref dformulas, .ref dreasons, .int dduels, .ref dduelSides, .ref dduelMornings, .int dhonour, .int ddraw, .ref dusesOfKind])), (dusesOfKind, aI g 4 FdusesOfKind), (dformulas, .inr (0, [.int dformulas_count, .int dformulas_units, .ref dformulas_names, .int dformulas_unitsOfThis, .int dformulas_length, .ref dformulas_starts, .ref dformulas_steps, .ref dformulas_stack])), (dformulas_starts, aI g 5 Fdformulas_starts), (dformulas_steps, aI g 640 Fdformulas_steps), (dformulas_stack, aI g 32 f_8)] := hD
  have hw : 1 ≤ r_7.toInt ∧ r_7.toInt ≤ 365 := hw0
  clear hw0
  have w_9 := hw
  refine lv_istore (lv' := [(6, .int r_7), (5, .int r_1), (0, .ref h), (1, .ref la), (2, .int p0), (3, .int p1), (4, .int p2)]) hx hb dX9_use_32 hl (by decide) rfl (fun ls hl => ?_)
  refine lv_aload_n hx hb dX9_use_34 rfl (lv_at hl 2 rfl) ?_
  refine va_get (D := g.1) (ci := 9) (v := .ref bmornings) (C := RX9) (T := TX9) (N := 14) hx hb hT inF_X9 hown hK.1 hP 0 rfl rfl 9 (by decide) (hT _ bw_51) (fun _ h9 => h9) rfl dX9_use_35 ?_
  refine lv_iload_n hx hb dX9_use_38 rfl (lv_at hl 4 rfl) ?_
  refine lv_aload_n hx hb dX9_use_39 rfl (lv_at hl 2 rfl) ?_
  refine lv_aload_n hx hb dX9_use_40 rfl (lv_at hl 3 rfl) ?_
  refine lv_iload_n hx hb dX9_use_41 rfl (lv_at hl 4 rfl) ?_
  refine lv_iload hx hb dX9_use_42 (lv_at hl 6 rfl) ?_
  refine k_i (wr := [(bhonours, aI g 8 Fbhonours), (bsides, aI g 16 Fbsides), (blog, aI g 60 Fblog)]) (k_V (n := 3) ⟨hx, hb, hml, hown, hT⟩ hK hP hD [0, 1, 3, 8, 9, 10, 11, 12, 13, 6, 7] rfl (by decide +kernel) (s_X9_putOffBy l g H.size h bday bseed balive bstruck bopen bduels blines bcoins brented bmornings Fbmornings bhonours bused Fbused bsides blog la dduels dduelSides dduelMornings dhonour ddraw dusesOfKind FdusesOfKind dmen dformulas dformulas_count dformulas_units dformulas_names dformulas_unitsOfThis dformulas_length dformulas_starts Fdformulas_starts dformulas_steps Fdformulas_steps dformulas_stack f_8 dreasons dreasons_count dreasons_names dreasons_kinds Fdreasons_kinds dreasons_owners dreasons_froms dreasons_tos dreasons_rents dreasons_sorts p0 p2 (by first | with_reducible assumption | omega) (by first | with_reducible assumption | omega) (by first | with_reducible assumption | omega) (by first | with_reducible assumption | omega) (by first | with_reducible assumption | omega) (by first | with_reducible assumption | omega) (by first | with_reducible assumption | omega) (by first | with_reducible assumption | omega) (by first | with_reducible assumption | omega) hh12 (by first | with_reducible assumption | omega) hh14 (by first | with_reducible assumption | omega) (by first | with_reducible assumption | omega)) (gV bw_205 bw_206 bw_207 bw_46 bw_204) rfl rfl (by decide +kernel) ⟨by decide, by decide⟩ (ci := 9) (q0 := 0) rfl rfl (fun _ _ _ _ _ => trivial) (fun _ _ _ => trivial) rfl rfl hl.1 (Nat.le_of_ble_eq_true rfl) dX9_use_44 ⟨by decide, by decide⟩) hP hD hS hA [0, 1, 3, 8, 9, 10, 11, 12, 13, 6, 7] [2, 4, 5] rfl rfl (by decide +kernel) (by decide +kernel) (fun r_10 => fun f_11 H locs hw0 hP hD hS => ?_)
  have hP : va_P g.1 vwCl [(bhonours, aI g 8 Fbhonours), (bsides, aI g 16 Fbsides), (blog, aI g 60 Fblog), (h, .inr (9, [.int bday, .int bseed, .int balive, .int bstruck, .int bopen, .int bduels, .int blines, .ref bcoins, .ref brented, .ref bmornings, .ref bhonours, .ref bused, .ref bsides, .ref blog])), (bmornings, aI g 8 Fbmornings), (bused, aI g 8 Fbused), (la, .inr (2, [.ref dmen, .ref dformulas, .ref dreasons, .int dduels, .ref dduelSides, .ref dduelMornings, .int dhonour, .int ddraw, .ref dusesOfKind])), (dusesOfKind, aI g 4 FdusesOfKind), (dformulas, .inr (0, [.int dformulas_count, .int dformulas_units, .ref dformulas_names, .int dformulas_unitsOfThis, .int dformulas_length, .ref dformulas_starts, .ref dformulas_steps, .ref dformulas_stack])), (dformulas_starts, aI g 5 Fdformulas_starts), (dformulas_steps, aI g 640 Fdformulas_steps), (dformulas_stack, aI g 32 f_11), (dreasons, .inr (6, [.int dreasons_count, .ref dreasons_names, .ref dreasons_kinds, .ref dreasons_owners, .ref dreasons_froms, .ref dreasons_tos, .ref dreasons_rents, .ref dreasons_sorts])), (dreasons_kinds, aI g 8 Fdreasons_kinds)] H := hP
  have hD : va_D A [(bhonours, aI g 8 Fbhonours), (bsides, aI g 16 Fbsides), (blog, aI g 60 Fblog), (h, .inr (9, [.int bday, .int bseed, .int balive, .int bstruck, .int bopen, .int bduels, .int blines, .ref bcoins, .ref brented, .ref bmornings, .ref bhonours, .ref bused, .ref bsides, .ref blog])), (bmornings, aI g 8 Fbmornings), (bused, aI g 8 Fbused), (la, .inr (2, [.ref dmen, .ref dformulas, .ref dreasons, .int dduels, .ref dduelSides, .ref dduelMornings, .int dhonour, .int ddraw, .ref dusesOfKind])), (dusesOfKind, aI g 4 FdusesOfKind), (dformulas, .inr (0, [.int dformulas_count, .int dformulas_units, .ref dformulas_names, .int dformulas_unitsOfThis, .int dformulas_length, .ref dformulas_starts, .ref dformulas_steps, .ref dformulas_stack])), (dformulas_starts, aI g 5 Fdformulas_starts), (dformulas_steps, aI g 640 Fdformulas_steps), (dformulas_stack, aI g 32 f_11), (dreasons, .inr (6, [.int dreasons_count, .ref dreasons_names, .ref dreasons_kinds, .ref dreasons_owners, .ref dreasons_froms, .ref dreasons_tos, .ref dreasons_rents, .ref dreasons_sorts])), (dreasons_kinds, aI g 8 Fdreasons_kinds)] := hD
  have hw : (-2147483648) ≤ r_10.toInt ∧ r_10.toInt ≤ 9999 := hw0
  clear hw0
  have w_12 := hw
  have h_13 : vp_in p0 8 := vp_in_iff.mpr (by omega)
  refine va_iast hx hb hK.1 hP hD hS 4 1 rfl rfl (i := p0) (x := r_10) h_13 dX9_use_47 (fun H locs hP hD hS => ?_)
  generalize upd Fbmornings (p0 : Int32).toNatClampNeg r_10 = f_14 at hP hD
  have hP : va_P g.1 vwCl [(bhonours, aI g 8 Fbhonours), (bsides, aI g 16 Fbsides), (blog, aI g 60 Fblog), (h, .inr (9, [.int bday, .int bseed, .int balive, .int bstruck, .int bopen, .int bduels, .int blines, .ref bcoins, .ref brented, .ref bmornings, .ref bhonours, .ref bused, .ref bsides, .ref blog])), (bmornings, aI g 8 f_14), (bused, aI g 8 Fbused), (la, .inr (2, [.ref dmen, .ref dformulas, .ref dreasons, .int dduels, .ref dduelSides, .ref dduelMornings, .int dhonour, .int ddraw, .ref dusesOfKind])), (dusesOfKind, aI g 4 FdusesOfKind), (dformulas, .inr (0, [.int dformulas_count, .int dformulas_units, .ref dformulas_names, .int dformulas_unitsOfThis, .int dformulas_length, .ref dformulas_starts, .ref dformulas_steps, .ref dformulas_stack])), (dformulas_starts, aI g 5 Fdformulas_starts), (dformulas_steps, aI g 640 Fdformulas_steps), (dformulas_stack, aI g 32 f_11), (dreasons, .inr (6, [.int dreasons_count, .ref dreasons_names, .ref dreasons_kinds, .ref dreasons_owners, .ref dreasons_froms, .ref dreasons_tos, .ref dreasons_rents, .ref dreasons_sorts])), (dreasons_kinds, aI g 8 Fdreasons_kinds)] H := hP
  have hD : va_D A [(bhonours, aI g 8 Fbhonours), (bsides, aI g 16 Fbsides), (blog, aI g 60 Fblog), (h, .inr (9, [.int bday, .int bseed, .int balive, .int bstruck, .int bopen, .int bduels, .int blines, .ref bcoins, .ref brented, .ref bmornings, .ref bhonours, .ref bused, .ref bsides, .ref blog])), (bmornings, aI g 8 f_14), (bused, aI g 8 Fbused), (la, .inr (2, [.ref dmen, .ref dformulas, .ref dreasons, .int dduels, .ref dduelSides, .ref dduelMornings, .int dhonour, .int ddraw, .ref dusesOfKind])), (dusesOfKind, aI g 4 FdusesOfKind), (dformulas, .inr (0, [.int dformulas_count, .int dformulas_units, .ref dformulas_names, .int dformulas_unitsOfThis, .int dformulas_length, .ref dformulas_starts, .ref dformulas_steps, .ref dformulas_stack])), (dformulas_starts, aI g 5 Fdformulas_starts), (dformulas_steps, aI g 640 Fdformulas_steps), (dformulas_stack, aI g 32 f_11), (dreasons, .inr (6, [.int dreasons_count, .ref dreasons_names, .ref dreasons_kinds, .ref dreasons_owners, .ref dreasons_froms, .ref dreasons_tos, .ref dreasons_rents, .ref dreasons_sorts])), (dreasons_kinds, aI g 8 Fdreasons_kinds)] := hD
  refine lv_aload_n hx hb dX9_use_48 rfl (lv_at hl 2 rfl) ?_
  refine va_get (D := g.1) (ci := 9) (v := .ref bhonours) (C := RX9) (T := TX9) (N := 14) hx hb hT inF_X9 hown hK.1 hP 3 rfl rfl 10 (by decide) (hT _ bw_70) (fun _ h9 => h9) rfl dX9_use_49 ?_
  refine lv_iload_n hx hb dX9_use_52 rfl (lv_at hl 4 rfl) ?_
  refine lv_iload hx hb dX9_use_53 (lv_at hl 1 rfl) ?_
  have h_15 : vp_in p0 8 := vp_in_iff.mpr (by omega)
  refine va_iast hx hb hK.1 hP hD hS 0 1 rfl rfl (i := p0) (x := r_1) h_15 dX9_use_55 (fun H locs hP hD hS => ?_)
  generalize upd Fbhonours (p0 : Int32).toNatClampNeg r_1 = f_16 at hP hD
  have hP : va_P g.1 vwCl [(bhonours, aI g 8 f_16), (bsides, aI g 16 Fbsides), (blog, aI g 60 Fblog), (h, .inr (9, [.int bday, .int bseed, .int balive, .int bstruck, .int bopen, .int bduels, .int blines, .ref bcoins, .ref brented, .ref bmornings, .ref bhonours, .ref bused, .ref bsides, .ref blog])), (bmornings, aI g 8 f_14), (bused, aI g 8 Fbused), (la, .inr (2, [.ref dmen, .ref dformulas, .ref dreasons, .int dduels, .ref dduelSides, .ref dduelMornings, .int dhonour, .int ddraw, .ref dusesOfKind])), (dusesOfKind, aI g 4 FdusesOfKind), (dformulas, .inr (0, [.int dformulas_count, .int dformulas_units, .ref dformulas_names, .int dformulas_unitsOfThis, .int dformulas_length, .ref dformulas_starts, .ref dformulas_steps, .ref dformulas_stack])), (dformulas_starts, aI g 5 Fdformulas_starts), (dformulas_steps, aI g 640 Fdformulas_steps), (dformulas_stack, aI g 32 f_11), (dreasons, .inr (6, [.int dreasons_count, .ref dreasons_names, .ref dreasons_kinds, .ref dreasons_owners, .ref dreasons_froms, .ref dreasons_tos, .ref dreasons_rents, .ref dreasons_sorts])), (dreasons_kinds, aI g 8 Fdreasons_kinds)] H := hP
  have hD : va_D A [(bhonours, aI g 8 f_16), (bsides, aI g 16 Fbsides), (blog, aI g 60 Fblog), (h, .inr (9, [.int bday, .int bseed, .int balive, .int bstruck, .int bopen, .int bduels, .int blines, .ref bcoins, .ref brented, .ref bmornings, .ref bhonours, .ref bused, .ref bsides, .ref blog])), (bmornings, aI g 8 f_14), (bused, aI g 8 Fbused), (la, .inr (2, [.ref dmen, .ref dformulas, .ref dreasons, .int dduels, .ref dduelSides, .ref dduelMornings, .int dhonour, .int ddraw, .ref dusesOfKind])), (dusesOfKind, aI g 4 FdusesOfKind), (dformulas, .inr (0, [.int dformulas_count, .int dformulas_units, .ref dformulas_names, .int dformulas_unitsOfThis, .int dformulas_length, .ref dformulas_starts, .ref dformulas_steps, .ref dformulas_stack])), (dformulas_starts, aI g 5 Fdformulas_starts), (dformulas_steps, aI g 640 Fdformulas_steps), (dformulas_stack, aI g 32 f_11), (dreasons, .inr (6, [.int dreasons_count, .ref dreasons_names, .ref dreasons_kinds, .ref dreasons_owners, .ref dreasons_froms, .ref dreasons_tos, .ref dreasons_rents, .ref dreasons_sorts])), (dreasons_kinds, aI g 8 Fdreasons_kinds)] := hD
  refine lv_aload_n hx hb dX9_use_56 rfl (lv_at hl 2 rfl) ?_
  refine va_get (D := g.1) (ci := 9) (v := .ref bused) (C := RX9) (T := TX9) (N := 14) hx hb hT inF_X9 hown hK.1 hP 3 rfl rfl 11 (by decide) (hT _ bw_60) (fun _ h9 => h9) rfl dX9_use_57 ?_
  refine lv_iload_n hx hb dX9_use_60 rfl (lv_at hl 4 rfl) ?_
  refine lv_dup2_11 hx hb dX9_use_61 rfl rfl ?_
  have h_17 : vp_in p0 8 := vp_in_iff.mpr (by omega)
  refine va_iald hx hb hK.1 hP 5 1 rfl rfl (i := p0) h_17 dX9_use_62 ?_
  refine lv_topi (fun x_18 ex_18 => ?_)
  have ux_18 := congrArg Int32.toInt ex_18
  refine lv_iconst (v := 1) hx hb dX9_use_63 (by decide) ?_
  refine lv_iload_n hx hb dX9_use_64 rfl (lv_at hl 5 rfl) ?_
  refine lv_bipush (v := 8) hx hb dX9_use_65 (by decide) ?_
  refine lv_imul hx hb dX9_use_67 ?_
  refine lv_topi (fun x_19 ex_19 => ?_)
  have fx_19 : x_19.toInt = p1.toInt * 8 := by rw [ex_19]; exact I_mul rfl (by decide : (8 : Int32).toInt = 8) (by omega) (by omega)
  refine lv_iload hx hb dX9_use_68 (lv_at hl 6 rfl) ?_
  refine lv_iadd hx hb dX9_use_70 ?_
  refine lv_topi (fun x_20 ex_20 => ?_)
  have fx_20 : x_20.toInt = x_19.toInt + p2.toInt := by rw [ex_20]; exact I_add rfl rfl (by omega) (by omega)
  refine lv_ishl hx hb dX9_use_71 ?_
  refine lv_topi (fun x_21 ex_21 => ?_)
  refine lv_ior hx hb dX9_use_72 ?_
  refine lv_topi (fun x_22 ex_22 => ?_)
  have h_23 : vp_in p0 8 := vp_in_iff.mpr (by omega)
  refine va_iast hx hb hK.1 hP hD hS 5 1 rfl rfl (i := p0) (x := x_22) h_23 dX9_use_73 (fun H locs hP hD hS => ?_)
  generalize upd Fbused (p0 : Int32).toNatClampNeg x_22 = f_24 at hP hD
  have hP : va_P g.1 vwCl [(bhonours, aI g 8 f_16), (bsides, aI g 16 Fbsides), (blog, aI g 60 Fblog), (h, .inr (9, [.int bday, .int bseed, .int balive, .int bstruck, .int bopen, .int bduels, .int blines, .ref bcoins, .ref brented, .ref bmornings, .ref bhonours, .ref bused, .ref bsides, .ref blog])), (bmornings, aI g 8 f_14), (bused, aI g 8 f_24), (la, .inr (2, [.ref dmen, .ref dformulas, .ref dreasons, .int dduels, .ref dduelSides, .ref dduelMornings, .int dhonour, .int ddraw, .ref dusesOfKind])), (dusesOfKind, aI g 4 FdusesOfKind), (dformulas, .inr (0, [.int dformulas_count, .int dformulas_units, .ref dformulas_names, .int dformulas_unitsOfThis, .int dformulas_length, .ref dformulas_starts, .ref dformulas_steps, .ref dformulas_stack])), (dformulas_starts, aI g 5 Fdformulas_starts), (dformulas_steps, aI g 640 Fdformulas_steps), (dformulas_stack, aI g 32 f_11), (dreasons, .inr (6, [.int dreasons_count, .ref dreasons_names, .ref dreasons_kinds, .ref dreasons_owners, .ref dreasons_froms, .ref dreasons_tos, .ref dreasons_rents, .ref dreasons_sorts])), (dreasons_kinds, aI g 8 Fdreasons_kinds)] H := hP
  have hD : va_D A [(bhonours, aI g 8 f_16), (bsides, aI g 16 Fbsides), (blog, aI g 60 Fblog), (h, .inr (9, [.int bday, .int bseed, .int balive, .int bstruck, .int bopen, .int bduels, .int blines, .ref bcoins, .ref brented, .ref bmornings, .ref bhonours, .ref bused, .ref bsides, .ref blog])), (bmornings, aI g 8 f_14), (bused, aI g 8 f_24), (la, .inr (2, [.ref dmen, .ref dformulas, .ref dreasons, .int dduels, .ref dduelSides, .ref dduelMornings, .int dhonour, .int ddraw, .ref dusesOfKind])), (dusesOfKind, aI g 4 FdusesOfKind), (dformulas, .inr (0, [.int dformulas_count, .int dformulas_units, .ref dformulas_names, .int dformulas_unitsOfThis, .int dformulas_length, .ref dformulas_starts, .ref dformulas_steps, .ref dformulas_stack])), (dformulas_starts, aI g 5 Fdformulas_starts), (dformulas_steps, aI g 640 Fdformulas_steps), (dformulas_stack, aI g 32 f_11), (dreasons, .inr (6, [.int dreasons_count, .ref dreasons_names, .ref dreasons_kinds, .ref dreasons_owners, .ref dreasons_froms, .ref dreasons_tos, .ref dreasons_rents, .ref dreasons_sorts])), (dreasons_kinds, aI g 8 Fdreasons_kinds)] := hD
  refine lv_aload_n hx hb dX9_use_74 rfl (lv_at hl 2 rfl) ?_
  refine lv_iload_n hx hb dX9_use_75 rfl (lv_at hl 4 rfl) ?_
  refine lv_iload hx hb dX9_use_76 (lv_at hl 1 rfl) ?_
  refine lv_iload hx hb dX9_use_78 (lv_at hl 6 rfl) ?_
  refine lv_iload hx hb dX9_use_80 (lv_at hl 0 rfl) ?_
  refine k_v (wr := [(bhonours, aI g 8 f_16), (bsides, aI g 16 Fbsides), (bmornings, aI g 8 f_14), (bused, aI g 8 f_24), (la, .inr (2, [.ref dmen, .ref dformulas, .ref dreasons, .int dduels, .ref dduelSides, .ref dduelMornings, .int dhonour, .int ddraw, .ref dusesOfKind])), (dusesOfKind, aI g 4 FdusesOfKind), (dformulas, .inr (0, [.int dformulas_count, .int dformulas_units, .ref dformulas_names, .int dformulas_unitsOfThis, .int dformulas_length, .ref dformulas_starts, .ref dformulas_steps, .ref dformulas_stack])), (dformulas_starts, aI g 5 Fdformulas_starts), (dformulas_steps, aI g 640 Fdformulas_steps), (dformulas_stack, aI g 32 f_11), (dreasons, .inr (6, [.int dreasons_count, .ref dreasons_names, .ref dreasons_kinds, .ref dreasons_owners, .ref dreasons_froms, .ref dreasons_tos, .ref dreasons_rents, .ref dreasons_sorts])), (dreasons_kinds, aI g 8 Fdreasons_kinds)]) (k_V (n := 4) ⟨hx, hb, hml, hown, hT⟩ hK hP hD [3, 2] rfl (by decide +kernel) (s_X9_addLine l g H.size h bday bseed balive bstruck bopen bduels blines bcoins brented bmornings bhonours bused bsides blog Fblog p0 r_1 p2 r_7 (by first | with_reducible assumption | omega) (by first | with_reducible assumption | omega) (by first | with_reducible assumption | omega)) (gV bw_208 bw_209 bw_210 bw_46 bw_42) rfl rfl (by decide +kernel) ⟨by decide, by decide⟩ (ci := 9) (q0 := 0) rfl rfl (fun _ _ _ _ _ => trivial) (fun _ _ _ => trivial) rfl rfl hl.1 (Nat.le_of_ble_eq_true rfl) dX9_use_82 ⟨by decide, by decide⟩) hP hD hS hA [3, 2] [0, 1, 4, 5, 6, 7, 8, 9, 10, 11, 12, 13] rfl rfl (by decide +kernel) (by decide +kernel) (pr_all fun y_25 => fun f_26 H locs hw0 hP hD hS => ?_)
  have hP : va_P g.1 vwCl [(bhonours, aI g 8 f_16), (bsides, aI g 16 Fbsides), (bmornings, aI g 8 f_14), (bused, aI g 8 f_24), (la, .inr (2, [.ref dmen, .ref dformulas, .ref dreasons, .int dduels, .ref dduelSides, .ref dduelMornings, .int dhonour, .int ddraw, .ref dusesOfKind])), (dusesOfKind, aI g 4 FdusesOfKind), (dformulas, .inr (0, [.int dformulas_count, .int dformulas_units, .ref dformulas_names, .int dformulas_unitsOfThis, .int dformulas_length, .ref dformulas_starts, .ref dformulas_steps, .ref dformulas_stack])), (dformulas_starts, aI g 5 Fdformulas_starts), (dformulas_steps, aI g 640 Fdformulas_steps), (dformulas_stack, aI g 32 f_11), (dreasons, .inr (6, [.int dreasons_count, .ref dreasons_names, .ref dreasons_kinds, .ref dreasons_owners, .ref dreasons_froms, .ref dreasons_tos, .ref dreasons_rents, .ref dreasons_sorts])), (dreasons_kinds, aI g 8 Fdreasons_kinds), (h, .inr (9, [.int bday, .int bseed, .int balive, .int bstruck, .int bopen, .int bduels, .int y_25, .ref bcoins, .ref brented, .ref bmornings, .ref bhonours, .ref bused, .ref bsides, .ref blog])), (blog, aI g 60 f_26)] H := hP
  have hD : va_D A [(bhonours, aI g 8 f_16), (bsides, aI g 16 Fbsides), (bmornings, aI g 8 f_14), (bused, aI g 8 f_24), (la, .inr (2, [.ref dmen, .ref dformulas, .ref dreasons, .int dduels, .ref dduelSides, .ref dduelMornings, .int dhonour, .int ddraw, .ref dusesOfKind])), (dusesOfKind, aI g 4 FdusesOfKind), (dformulas, .inr (0, [.int dformulas_count, .int dformulas_units, .ref dformulas_names, .int dformulas_unitsOfThis, .int dformulas_length, .ref dformulas_starts, .ref dformulas_steps, .ref dformulas_stack])), (dformulas_starts, aI g 5 Fdformulas_starts), (dformulas_steps, aI g 640 Fdformulas_steps), (dformulas_stack, aI g 32 f_11), (dreasons, .inr (6, [.int dreasons_count, .ref dreasons_names, .ref dreasons_kinds, .ref dreasons_owners, .ref dreasons_froms, .ref dreasons_tos, .ref dreasons_rents, .ref dreasons_sorts])), (dreasons_kinds, aI g 8 Fdreasons_kinds), (h, .inr (9, [.int bday, .int bseed, .int balive, .int bstruck, .int bopen, .int bduels, .int y_25, .ref bcoins, .ref brented, .ref bmornings, .ref bhonours, .ref bused, .ref bsides, .ref blog])), (blog, aI g 60 f_26)] := hD
  have hw : 0 ≤ y_25.toInt ∧ y_25.toInt ≤ 60 := hw0
  clear hw0
  have w_27 := hw
  have hP9 : va_P g.1 vwCl [(h, .inr (9, [.int bday, .int bseed, .int balive, .int bstruck, .int bopen, .int bduels, .int y_25, .ref bcoins, .ref brented, .ref bmornings, .ref bhonours, .ref bused, .ref bsides, .ref blog])), (bmornings, aI g 8 f_14), (bhonours, aI g 8 f_16), (bused, aI g 8 f_24), (bsides, aI g 16 Fbsides), (blog, aI g 60 f_26), (la, .inr (2, [.ref dmen, .ref dformulas, .ref dreasons, .int dduels, .ref dduelSides, .ref dduelMornings, .int dhonour, .int ddraw, .ref dusesOfKind])), (dusesOfKind, aI g 4 FdusesOfKind), (dformulas, .inr (0, [.int dformulas_count, .int dformulas_units, .ref dformulas_names, .int dformulas_unitsOfThis, .int dformulas_length, .ref dformulas_starts, .ref dformulas_steps, .ref dformulas_stack])), (dformulas_starts, aI g 5 Fdformulas_starts), (dformulas_steps, aI g 640 Fdformulas_steps), (dformulas_stack, aI g 32 f_11), (dreasons, .inr (6, [.int dreasons_count, .ref dreasons_names, .ref dreasons_kinds, .ref dreasons_owners, .ref dreasons_froms, .ref dreasons_tos, .ref dreasons_rents, .ref dreasons_sorts])), (dreasons_kinds, aI g 8 Fdreasons_kinds)] H := hP.sub [12, 2, 0, 3, 1, 13, 4, 5, 6, 7, 8, 9, 10, 11] rfl
  have hD9 : va_D A [(h, .inr (9, [.int bday, .int bseed, .int balive, .int bstruck, .int bopen, .int bduels, .int y_25, .ref bcoins, .ref brented, .ref bmornings, .ref bhonours, .ref bused, .ref bsides, .ref blog])), (bmornings, aI g 8 f_14), (bhonours, aI g 8 f_16), (bused, aI g 8 f_24), (bsides, aI g 16 Fbsides), (blog, aI g 60 f_26), (la, .inr (2, [.ref dmen, .ref dformulas, .ref dreasons, .int dduels, .ref dduelSides, .ref dduelMornings, .int dhonour, .int ddraw, .ref dusesOfKind])), (dusesOfKind, aI g 4 FdusesOfKind), (dformulas, .inr (0, [.int dformulas_count, .int dformulas_units, .ref dformulas_names, .int dformulas_unitsOfThis, .int dformulas_length, .ref dformulas_starts, .ref dformulas_steps, .ref dformulas_stack])), (dformulas_starts, aI g 5 Fdformulas_starts), (dformulas_steps, aI g 640 Fdformulas_steps), (dformulas_stack, aI g 32 f_11), (dreasons, .inr (6, [.int dreasons_count, .ref dreasons_names, .ref dreasons_kinds, .ref dreasons_owners, .ref dreasons_froms, .ref dreasons_tos, .ref dreasons_rents, .ref dreasons_sorts])), (dreasons_kinds, aI g 8 Fdreasons_kinds)] := hD.sub [12, 2, 0, 3, 1, 13, 4, 5, 6, 7, 8, 9, 10, 11] (by decide +kernel) rfl
  exact W.vret hx hb hr (fun t ht hW => ⟨⟨(y_25, f_14, f_16, f_24, f_26, f_11), rfl, (by first | with_reducible assumption | omega), by rw [ht]; exact hP9, by rw [hAe]; exact hD9⟩, hS.F ht⟩) hS.2.2 dX9_use_85
