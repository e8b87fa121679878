theorem bw_82 : Cond.code yX9_earlierOn cX9_earlierOn 6 (some .int) ∈ gT := gT_tb 1181 (by decide +kernel) (by decide +kernel)
theorem dX9_earlierOn_0 : decode cX9_earlierOn 0 = .ok (.iconst 0, 1) := by decide +kernel
theorem dX9_earlierOn_1 : decode cX9_earlierOn 1 = .ok (.istore 4, 2) := by decide +kernel
theorem dX9_earlierOn_3 : decode cX9_earlierOn 3 = .ok (.iconst 0, 1) := by decide +kernel
theorem dX9_earlierOn_4 : decode cX9_earlierOn 4 = .ok (.istore 5, 2) := by decide +kernel
theorem dX9_earlierOn_6 : decode cX9_earlierOn 6 = .ok (.iload 5, 2) := by decide +kernel
theorem dX9_earlierOn_8 : decode cX9_earlierOn 8 = .ok (.iload_n 3, 1) := by decide +kernel
theorem dX9_earlierOn_9 : decode cX9_earlierOn 9 = .ok (.if_icmp .ge 42, 3) := by decide +kernel
theorem dX9_earlierOn_12 : decode cX9_earlierOn 12 = .ok (.aload_n 0, 1) := by decide +kernel
theorem dX9_earlierOn_13 : decode cX9_earlierOn 13 = .ok (.iload 5, 2) := by decide +kernel
theorem dX9_earlierOn_15 : decode cX9_earlierOn 15 = .ok (.invokevirtual 93, 3) := by decide +kernel
theorem dX9_earlierOn_18 : decode cX9_earlierOn 18 = .ok (.ifCond .eq 27, 3) := by decide +kernel
theorem dX9_earlierOn_21 : decode cX9_earlierOn 21 = .ok (.aload_n 0, 1) := by decide +kernel
theorem dX9_earlierOn_22 : decode cX9_earlierOn 22 = .ok (.iload 5, 2) := by decide +kernel
theorem dX9_earlierOn_24 : decode cX9_earlierOn 24 = .ok (.iload_n 1, 1) := by decide +kernel
theorem dX9_earlierOn_25 : decode cX9_earlierOn 25 = .ok (.invokevirtual 97, 3) := by decide +kernel
theorem dX9_earlierOn_28 : decode cX9_earlierOn 28 = .ok (.iconst (-1), 1) := by decide +kernel
theorem dX9_earlierOn_29 : decode cX9_earlierOn 29 = .ok (.if_icmp .eq 16, 3) := by decide +kernel
theorem dX9_earlierOn_32 : decode cX9_earlierOn 32 = .ok (.aload_n 2, 1) := by decide +kernel
theorem dX9_earlierOn_33 : decode cX9_earlierOn 33 = .ok (.iload 5, 2) := by decide +kernel
theorem dX9_earlierOn_35 : decode cX9_earlierOn 35 = .ok (.iaload, 1) := by decide +kernel
theorem dX9_earlierOn_36 : decode cX9_earlierOn 36 = .ok (.aload_n 2, 1) := by decide +kernel
theorem dX9_earlierOn_37 : decode cX9_earlierOn 37 = .ok (.iload_n 3, 1) := by decide +kernel
theorem dX9_earlierOn_38 : decode cX9_earlierOn 38 = .ok (.iaload, 1) := by decide +kernel
theorem dX9_earlierOn_39 : decode cX9_earlierOn 39 = .ok (.if_icmp .ne 6, 3) := by decide +kernel
theorem dX9_earlierOn_42 : decode cX9_earlierOn 42 = .ok (.iinc 4 1, 3) := by decide +kernel
theorem dX9_earlierOn_45 : decode cX9_earlierOn 45 = .ok (.iinc 5 1, 3) := by decide +kernel
theorem dX9_earlierOn_48 : decode cX9_earlierOn 48 = .ok (.goto (-42), 3) := by decide +kernel
theorem dX9_earlierOn_51 : decode cX9_earlierOn 51 = .ok (.iload 4, 2) := by decide +kernel
theorem dX9_earlierOn_53 : decode cX9_earlierOn 53 = .ok (.ireturn, 1) := by decide +kernel
set_option maxHeartbeats 4000000 in
set_option maxRecDepth 100000 in
theorem s_X9_earlierOn (l : Launch) (g : GG) (sz : Nat) (h : Nat) (bday : Int32) (bseed : Int32) (balive : Int32) (bstruck : Int32) (bopen : Int32) (bduels : Int32) (blines : Int32) (bcoins : Nat) (brented : Nat) (bmornings : Nat) (bhonours : Nat) (bused : Nat) (bsides : Nat) (Fbsides : Nat → Int32) (blog : Nat) (ga : Nat) (Fga : Nat → Int32) (p0 : Int32) (p1 : Int32) (hh0 : 0 ≤ bseed.toInt ∧ bseed.toInt ≤ 999) (hh1 : 0 ≤ bduels.toInt ∧ bduels.toInt ≤ 8) (hh2 : 0 ≤ blines.toInt ∧ blines.toInt ≤ 60) (hh3 : Rg 16 0 5 Fbsides) (hh4 : 0 ≤ p1.toInt ∧ p1.toInt ≤ 7) : Met l yX9_earlierOn (.code yX9_earlierOn cX9_earlierOn 6 (some .int) :: gT) ({ frames := 1, cells := 0, slots := 0, locals := 22 }) (va_Pc [.ref h, .int p0, .ref ga, .int p1] (Pst g sz [(h, .inr (9, [.int bday, .int bseed, .int balive, .int bstruck, .int bopen, .int bduels, .int blines, .ref bcoins, .ref brented, .ref bmornings, .ref bhonours, .ref bused, .ref bsides, .ref blog])), (bsides, aI g 16 Fbsides), (ga, aI g 8 Fga)] nX)) (va_Qi (fun (r : Int32) => fun (_ : Unit) => True) (Qst g [] sz (fun _ => [])) (va_A [] sz)) 0 0 (va_A [] sz) := by
  refine Met.ofW (cc := cX9_earlierOn) (maxL := 6) (ret := (some .int)) (by decide) rfl ?_
  intro p e s m args below meth c s₁ B hml hv
  obtain ⟨rfl, hsz, hP, hK, hD0, hX⟩ := hv
  have hx := B.exec
  have hb := B.bytes
  have hr := B.returns
  have hT : ∀ w ∈ gT, w.before _ s = true := fun w h => atoms_spec (ws := .code yX9_earlierOn cX9_earlierOn 6 (some .int) :: gT) B.pre w (List.mem_cons_of_mem _ h)
  have hown : s.vm.findClass RX9 = some m.cls := findClass_of_methodNamed B.named
  have hlocks := B.notSynchronized
  subst hsz
  have hD := hD0
  generalize hAe : va_A [] s.heap.size = A at ⊢
  have hA : ∀ q : Nat, s.heap.size ≤ q → A q := fun q h => by rw [← hAe]; exact Or.inr h
  have hS : va_S A s.heap s.heap [] := va_S.rf
  have hl := lv_entry ([.ref h, .int p0, .ref ga, .int p1]) (n := 6) (Nat.le_of_ble_eq_true rfl)
  rw [lg_entry_eq]
  generalize (lg_sl ([.ref h, .int p0, .ref ga, .int p1]) ++ List.replicate (6 - (lg_sl ([.ref h, .int p0, .ref ga, .int p1])).length) Slot.unset).toArray = ls at hl ⊢
  have hl : lv_has ls 6 [(0, .ref h), (1, .int p0), (2, .ref ga), (3, .int p1)] := hl
  refine p_nH (fun H hH => ?_)
  have hP : va_P g.1 vwCl [(h, .inr (9, [.int bday, .int bseed, .int balive, .int bstruck, .int bopen, .int bduels, .int blines, .ref bcoins, .ref brented, .ref bmornings, .ref bhonours, .ref bused, .ref bsides, .ref blog])), (bsides, aI g 16 Fbsides), (ga, aI g 8 Fga)] H := by rw [hH]; exact hP
  have hS : va_S A s.heap H [] := by rw [hH]; exact hS
  refine lv_iconst (v := 0) hx hb dX9_earlierOn_0 (by decide) ?_
  refine lv_istore (lv' := [(4, .int 0), (0, .ref h), (1, .int p0), (2, .ref ga), (3, .int p1)]) hx hb dX9_earlierOn_1 hl (by decide) rfl (fun ls hl => ?_)
  refine lv_iconst (v := 0) hx hb dX9_earlierOn_3 (by decide) ?_
  refine lv_istore (lv' := [(5, .int 0), (4, .int 0), (0, .ref h), (1, .int p0), (2, .ref ga), (3, .int p1)]) hx hb dX9_earlierOn_4 hl (by decide) rfl (fun ls hl => ?_)
  refine k_floop 6 (fun n H locs ls => ∃ (L_1 : Int32) (L_2 : Int32), (0 ≤ L_1.toInt ∧ L_1.toInt ≤ 8) ∧ 8 - L_1.toInt ≤ (n : Int) ∧ va_P g.1 vwCl [(h, .inr (9, [.int bday, .int bseed, .int balive, .int bstruck, .int bopen, .int bduels, .int blines, .ref bcoins, .ref brented, .ref bmornings, .ref bhonours, .ref bused, .ref bsides, .ref blog])), (bsides, aI g 16 Fbsides), (ga, aI g 8 Fga)] H ∧ va_S A s.heap H locs ∧ lv_has ls 6 [(5, .int L_1), (4, .int L_2), (0, .ref h), (1, .int p0), (2, .ref ga), (3, .int p1)]) (fun n H locs ls hI ih => ?_) ((8 - 0 : Int)).toNat ⟨0, 0, by decide, by have k0 : (0 : Int32).toInt = 0 := (by decide); omega, hP, hS, hl⟩
  refine hI.elim (fun L_1 hI => hI.elim (fun L_2 hI => ?_))
  have g_3 := hI.1
  have hm_4 := hI.2.1
  have hP := hI.2.2.1
  have hS := hI.2.2.2.1
  have hl := hI.2.2.2.2
  clear hI
  refine lv_iload hx hb dX9_earlierOn_6 (lv_at hl 0 rfl) ?_
  refine lv_iload_n hx hb dX9_earlierOn_8 rfl (lv_at hl 5 rfl) ?_
  refine lv_icmp_ge (tgt := 51) hx hb dX9_earlierOn_9 (by decide) (fun c_5 => ?_) (fun c_5 => ?_)
  · have f_6 := E_le (rfl : p1.toInt = _) (rfl : L_1.toInt = _) c_5
    refine lv_iload hx hb dX9_earlierOn_51 (lv_at hl 1 rfl) ?_
    have hP9 : va_P g.1 vwCl [] H := hP.sub [] rfl
    have hD9 : va_D A [] := ⟨fun i j p q h => by simp at h, fun k q h => by simp at h⟩
    exact W.iret (v := L_2) hx hb hr (fun t ht hW => ⟨⟨L_2, (), rfl, trivial, by rw [ht]; exact hP9, by rw [hAe]; exact hD9⟩, hS.F ht⟩) hS.2.2 dX9_earlierOn_53
  · have f_7 := E_nle (rfl : p1.toInt = _) (rfl : L_1.toInt = _) c_5
    refine lv_aload_n hx hb dX9_earlierOn_12 rfl (lv_at hl 2 rfl) ?_
    refine lv_iload hx hb dX9_earlierOn_13 (lv_at hl 0 rfl) ?_
    refine k_iR (k_V (n := 1) ⟨hx, hb, hml, hown, hT⟩ hK hP hD [0] rfl (by decide +kernel) (s_X9_isOpen l g H.size h bday bseed balive bstruck bopen bduels blines bcoins brented bmornings bhonours bused bsides blog L_1 (by first | with_reducible assumption | omega) (by first | with_reducible assumption | omega) (by first | with_reducible assumption | omega)) (gV bw_43 bw_44 bw_45 bw_46 bw_32) rfl rfl (by decide +kernel) ⟨by decide, by decide⟩ (ci := 9) (q0 := 0) rfl rfl (fun _ _ _ _ _ => trivial) (fun _ _ _ => trivial) rfl rfl hl.1 (Nat.le_of_ble_eq_true rfl) dX9_earlierOn_15 ⟨by decide, by decide⟩) hP hS hA (fun r_8 _ H locs hw0 hP hS => ?_)
    have hw : 0 ≤ r_8.toInt ∧ r_8.toInt ≤ 1 := hw0
    clear hw0
    have w_9 := hw
    refine lv_if_eq (tgt := 45) hx hb dX9_earlierOn_18 (by decide) (fun c_10 => ?_) (fun c_10 => ?_)
    · have f_11 := E_eq (rfl : r_8.toInt = _) (by decide : (0 : Int32).toInt = 0) c_10
      obtain ⟨x_12, ex_12⟩ : ∃ y : Int32, y = L_1 + 1 := ⟨_, rfl⟩
      have fx_12 : x_12.toInt = L_1.toInt + 1 := by rw [ex_12]; exact I_add rfl (by decide) (by omega) (by omega)
      refine lv_iinc (v := x_12) (lv' := [(5, .int x_12), (4, .int L_2), (0, .ref h), (1, .int p0), (2, .ref ga), (3, .int p1)]) hx hb dX9_earlierOn_45 hl (k := 0) rfl (by rw [ex_12]; rfl) (by decide) rfl (fun ls hl => ?_)
      refine lv_goto (tgt := 6) hx hb dX9_earlierOn_48 (by decide) ?_
      exact ih (n - 1) (by omega) H locs ls ⟨x_12, L_2, (by first | with_reducible assumption | omega), by omega, hP.sub [0, 1, 2] rfl, hS, lv_sub hl [0, 1, 2, 3, 4, 5] rfl⟩
    · have f_13 := E_ne (rfl : r_8.toInt = _) (by decide : (0 : Int32).toInt = 0) c_10
      refine lv_aload_n hx hb dX9_earlierOn_21 rfl (lv_at hl 2 rfl) ?_
      refine lv_iload hx hb dX9_earlierOn_22 (lv_at hl 0 rfl) ?_
      refine lv_iload_n hx hb dX9_earlierOn_24 rfl (lv_at hl 3 rfl) ?_
      refine k_iR (k_V (n := 2) ⟨hx, hb, hml, hown, hT⟩ hK hP hD [0, 1] rfl (by decide +kernel) (s_X9_sideOf l g H.size h bday bseed balive bstruck bopen bduels blines bcoins brented bmornings bhonours bused bsides Fbsides blog L_1 p0 (by first | with_reducible assumption | omega) (by first | with_reducible assumption | omega) (by first | with_reducible assumption | omega) hh3 (by first | with_reducible assumption | omega)) (gV bw_47 bw_48 bw_49 bw_46 bw_37) rfl rfl (by decide +kernel) ⟨by decide, by decide⟩ (ci := 9) (q0 := 0) rfl rfl (fun _ _ _ _ _ => trivial) (fun _ _ _ => trivial) rfl rfl hl.1 (Nat.le_of_ble_eq_true rfl) dX9_earlierOn_25 ⟨by decide, by decide⟩) hP hS hA (fun r_14 _ H locs hw0 hP hS => ?_)
      have hw : (-1) ≤ r_14.toInt ∧ r_14.toInt ≤ 1 := hw0
      clear hw0
      have w_15 := hw
      refine lv_iconst (v := (-1)) hx hb dX9_earlierOn_28 (by decide) ?_
      refine lv_icmp_eq (tgt := 45) hx hb dX9_earlierOn_29 (by decide) (fun c_16 => ?_) (fun c_16 => ?_)
      · have f_17 := E_eq (rfl : r_14.toInt = _) (by decide : ((-1) : Int32).toInt = (-1)) c_16
        obtain ⟨x_18, ex_18⟩ : ∃ y : Int32, y = L_1 + 1 := ⟨_, rfl⟩
        have fx_18 : x_18.toInt = L_1.toInt + 1 := by rw [ex_18]; exact I_add rfl (by decide) (by omega) (by omega)
        refine lv_iinc (v := x_18) (lv' := [(5, .int x_18), (4, .int L_2), (0, .ref h), (1, .int p0), (2, .ref ga), (3, .int p1)]) hx hb dX9_earlierOn_45 hl (k := 0) rfl (by rw [ex_18]; rfl) (by decide) rfl (fun ls hl => ?_)
        refine lv_goto (tgt := 6) hx hb dX9_earlierOn_48 (by decide) ?_
        exact ih (n - 1) (by omega) H locs ls ⟨x_18, L_2, (by first | with_reducible assumption | omega), by omega, hP.sub [0, 1, 2] rfl, hS, lv_sub hl [0, 1, 2, 3, 4, 5] rfl⟩
      · have f_19 := E_ne (rfl : r_14.toInt = _) (by decide : ((-1) : Int32).toInt = (-1)) c_16
        refine lv_aload_n hx hb dX9_earlierOn_32 rfl (lv_at hl 4 rfl) ?_
        refine lv_iload hx hb dX9_earlierOn_33 (lv_at hl 0 rfl) ?_
        have h_20 : vp_in L_1 8 := vp_in_iff.mpr (by omega)
        refine va_iald hx hb hK.1 hP 2 1 rfl rfl (i := L_1) h_20 dX9_earlierOn_35 ?_
        refine lv_topi (fun x_21 ex_21 => ?_)
        have ux_21 := congrArg Int32.toInt ex_21
        refine lv_aload_n hx hb dX9_earlierOn_36 rfl (lv_at hl 4 rfl) ?_
        refine lv_iload_n hx hb dX9_earlierOn_37 rfl (lv_at hl 5 rfl) ?_
        have h_22 : vp_in p1 8 := vp_in_iff.mpr (by omega)
        refine va_iald hx hb hK.1 hP 2 1 rfl rfl (i := p1) h_22 dX9_earlierOn_38 ?_
        refine lv_topi (fun x_23 ex_23 => ?_)
        have ux_23 := congrArg Int32.toInt ex_23
        refine lv_icmp_ne (tgt := 45) hx hb dX9_earlierOn_39 (by decide) (fun c_24 => ?_) (fun c_24 => ?_)
        · have f_25 := E_ne (rfl : x_21.toInt = _) (rfl : x_23.toInt = _) c_24
          obtain ⟨x_26, ex_26⟩ : ∃ y : Int32, y = L_1 + 1 := ⟨_, rfl⟩
          have fx_26 : x_26.toInt = L_1.toInt + 1 := by rw [ex_26]; exact I_add rfl (by decide) (by omega) (by omega)
          refine lv_iinc (v := x_26) (lv' := [(5, .int x_26), (4, .int L_2), (0, .ref h), (1, .int p0), (2, .ref ga), (3, .int p1)]) hx hb dX9_earlierOn_45 hl (k := 0) rfl (by rw [ex_26]; rfl) (by decide) rfl (fun ls hl => ?_)
          refine lv_goto (tgt := 6) hx hb dX9_earlierOn_48 (by decide) ?_
          exact ih (n - 1) (by omega) H locs ls ⟨x_26, L_2, (by first | with_reducible assumption | omega), by omega, hP.sub [0, 1, 2] rfl, hS, lv_sub hl [0, 1, 2, 3, 4, 5] rfl⟩
        · have f_27 := E_eq (rfl : x_21.toInt = _) (rfl : x_23.toInt = _) c_24
          obtain ⟨x_28, ex_28⟩ : ∃ y : Int32, y = L_2 + 1 := ⟨_, rfl⟩
          refine lv_iinc (v := x_28) (lv' := [(4, .int x_28), (5, .int L_1), (0, .ref h), (1, .int p0), (2, .ref ga), (3, .int p1)]) hx hb dX9_earlierOn_42 hl (k := 1) rfl (by rw [ex_28]; rfl) (by decide) rfl (fun ls hl => ?_)
          obtain ⟨x_29, ex_29⟩ : ∃ y : Int32, y = L_1 + 1 := ⟨_, rfl⟩
          have fx_29 : x_29.toInt = L_1.toInt + 1 := by rw [ex_29]; exact I_add rfl (by decide) (by omega) (by omega)
          refine lv_iinc (v := x_29) (lv' := [(5, .int x_29), (4, .int x_28), (0, .ref h), (1, .int p0), (2, .ref ga), (3, .int p1)]) hx hb dX9_earlierOn_45 hl (k := 1) rfl (by rw [ex_29]; rfl) (by decide) rfl (fun ls hl => ?_)
          refine lv_goto (tgt := 6) hx hb dX9_earlierOn_48 (by decide) ?_
          exact ih (n - 1) (by omega) H locs ls ⟨x_29, x_28, (by first | with_reducible assumption | omega), by omega, hP.sub [0, 1, 2] rfl, hS, lv_sub hl [0, 1, 2, 3, 4, 5] rfl⟩

theorem bw_83 : Cond.methodLink RX9 197 yX9_earlierOn ∈ gT := gT_tb 1178 (by decide +kernel) (by decide +kernel)
theorem bw_84 : Cond.instanceMethod yX9_earlierOn ∈ gT := gT_tb 1180 (by decide +kernel) (by decide +kernel)
theorem bw_85 : Cond.selects RX9 yX9_earlierOn yX9_earlierOn ∈ gT := gT_sl 44 (by decide +kernel) (by decide +kernel)
theorem bw_86 : Cond.code yX9_clashes cX9_clashes 5 (some .int) ∈ gT := gT_tb 1177 (by decide +kernel) (by decide +kernel)
theorem dX9_clashes_0 : decode cX9_clashes 0 = .ok (.iconst 0, 1) := by decide +kernel
theorem dX9_clashes_1 : decode cX9_clashes 1 = .ok (.istore_n 3, 1) := by decide +kernel
theorem dX9_clashes_2 : decode cX9_clashes 2 = .ok (.iconst 0, 1) := by decide +kernel
theorem dX9_clashes_3 : decode cX9_clashes 3 = .ok (.istore 4, 2) := by decide +kernel
theorem dX9_clashes_5 : decode cX9_clashes 5 = .ok (.iload 4, 2) := by decide +kernel
theorem dX9_clashes_7 : decode cX9_clashes 7 = .ok (.aload_n 0, 1) := by decide +kernel
theorem dX9_clashes_8 : decode cX9_clashes 8 = .ok (.getfield 63, 3) := by decide +kernel
theorem dX9_clashes_11 : decode cX9_clashes 11 = .ok (.if_icmp .ge 44, 3) := by decide +kernel
theorem dX9_clashes_14 : decode cX9_clashes 14 = .ok (.aload_n 0, 1) := by decide +kernel
theorem dX9_clashes_15 : decode cX9_clashes 15 = .ok (.iload 4, 2) := by decide +kernel
theorem dX9_clashes_17 : decode cX9_clashes 17 = .ok (.invokevirtual 93, 3) := by decide +kernel
theorem dX9_clashes_20 : decode cX9_clashes 20 = .ok (.ifCond .eq 29, 3) := by decide +kernel
theorem dX9_clashes_23 : decode cX9_clashes 23 = .ok (.aload_n 0, 1) := by decide +kernel
theorem dX9_clashes_24 : decode cX9_clashes 24 = .ok (.iload 4, 2) := by decide +kernel
theorem dX9_clashes_26 : decode cX9_clashes 26 = .ok (.iload_n 1, 1) := by decide +kernel
theorem dX9_clashes_27 : decode cX9_clashes 27 = .ok (.invokevirtual 97, 3) := by decide +kernel
theorem dX9_clashes_30 : decode cX9_clashes 30 = .ok (.iconst (-1), 1) := by decide +kernel
theorem dX9_clashes_31 : decode cX9_clashes 31 = .ok (.if_icmp .eq 18, 3) := by decide +kernel
theorem dX9_clashes_34 : decode cX9_clashes 34 = .ok (.aload_n 0, 1) := by decide +kernel
theorem dX9_clashes_35 : decode cX9_clashes 35 = .ok (.iload_n 1, 1) := by decide +kernel
theorem dX9_clashes_36 : decode cX9_clashes 36 = .ok (.aload_n 2, 1) := by decide +kernel
theorem dX9_clashes_37 : decode cX9_clashes 37 = .ok (.iload 4, 2) := by decide +kernel
theorem dX9_clashes_39 : decode cX9_clashes 39 = .ok (.invokevirtual 197, 3) := by decide +kernel
theorem dX9_clashes_42 : decode cX9_clashes 42 = .ok (.iconst 1, 1) := by decide +kernel
theorem dX9_clashes_43 : decode cX9_clashes 43 = .ok (.if_icmp .ne 6, 3) := by decide +kernel
theorem dX9_clashes_46 : decode cX9_clashes 46 = .ok (.iinc 3 1, 3) := by decide +kernel
theorem dX9_clashes_49 : decode cX9_clashes 49 = .ok (.iinc 4 1, 3) := by decide +kernel
theorem dX9_clashes_52 : decode cX9_clashes 52 = .ok (.goto (-47), 3) := by decide +kernel
theorem dX9_clashes_55 : decode cX9_clashes 55 = .ok (.iload_n 3, 1) := by decide +kernel
theorem dX9_clashes_56 : decode cX9_clashes 56 = .ok (.ireturn, 1) := by decide +kernel
set_option maxHeartbeats 4000000 in
set_option maxRecDepth 100000 in
theorem s_X9_clashes (l : Launch) (g : GG) (sz : Nat) (h : Nat) (bday : Int32) (bseed : Int32) (balive : Int32) (bstruck : Int32) (bopen : Int32) (bduels : Int32) (blines : Int32) (bcoins : Nat) (brented : Nat) (bmornings : Nat) (bhonours : Nat) (bused : Nat) (bsides : Nat) (Fbsides : Nat → Int32) (blog : Nat) (ga : Nat) (Fga : Nat → Int32) (p0 : Int32) (hh0 : 0 ≤ bseed.toInt ∧ bseed.toInt ≤ 999) (hh1 : 0 ≤ bduels.toInt ∧ bduels.toInt ≤ 8) (hh2 : 0 ≤ blines.toInt ∧ blines.toInt ≤ 60) (hh3 : Rg 16 0 5 Fbsides) : Met l yX9_clashes (.code yX9_clashes cX9_clashes 5 (some .int) :: gT) ({ frames := 2, cells := 0, slots := 0, locals := 47 }) (va_Pc [.ref h, .int p0, .ref ga] (Pst g sz [(h, .inr (9, [.int bday, .int bseed, .int balive, .int bstruck, .int bopen, .int bduels, .int blines, .ref bcoins, .ref brented, .ref bmornings, .ref bhonours, .ref bused, .ref bsides, .ref blog])), (bsides, aI g 16 Fbsides), (ga, aI g 8 Fga)] nX)) (va_Qi (fun (r : Int32) => fun (_ : Unit) => True) (Qst g [] sz (fun _ => [])) (va_A [] sz)) 0 0 (va_A [] sz) := by
  refine Met.ofW (cc := cX9_clashes) (maxL := 5) (ret := (some .int)) (by decide) rfl ?_
  intro p e s m args below meth c s₁ B hml hv
  obtain ⟨rfl, hsz, hP, hK, hD0, hX⟩ := hv
  have hx := B.exec
  have hb := B.bytes
  have hr := B.returns
  have hT : ∀ w ∈ gT, w.before _ s = true := fun w h => atoms_spec (ws := .code yX9_clashes cX9_clashes 5 (some .int) :: gT) B.pre w (List.mem_cons_of_mem _ h)
  have hown : s.vm.findClass RX9 = some m.cls := findClass_of_methodNamed B.named
  have hlocks := B.notSynchronized
  subst hsz
  have hD := hD0
  generalize hAe : va_A [] s.heap.size = A at ⊢
  have hA : ∀ q : Nat, s.heap.size ≤ q → A q := fun q h => by rw [← hAe]; exact Or.inr h
  have hS : va_S A s.heap s.heap [] := va_S.rf
  have hl := lv_entry ([.ref h, .int p0, .ref ga]) (n := 5) (Nat.le_of_ble_eq_true rfl)
  rw [lg_entry_eq]
  generalize (lg_sl ([.ref h, .int p0, .ref ga]) ++ List.replicate (5 - (lg_sl ([.ref h, .int p0, .ref ga])).length) Slot.unset).toArray = ls at hl ⊢
  have hl : lv_has ls 5 [(0, .ref h), (1, .int p0), (2, .ref ga)] := hl
  refine p_nH (fun H hH => ?_)
  have hP : va_P g.1 vwCl [(h, .inr (9, [.int bday, .int bseed, .int balive, .int bstruck, .int bopen, .int bduels, .int blines, .ref bcoins, .ref brented, .ref bmornings, .ref bhonours, .ref bused, .ref bsides, .ref blog])), (bsides, aI g 16 Fbsides), (ga, aI g 8 Fga)] H := by rw [hH]; exact hP
  have hS : va_S A s.heap H [] := by rw [hH]; exact hS
  refine lv_iconst (v := 0) hx hb dX9_clashes_0 (by decide) ?_
  refine lv_istore_n (lv' := [(3, .int 0), (0, .ref h), (1, .int p0), (2, .ref ga)]) hx hb dX9_clashes_1 rfl hl (by decide) rfl (fun ls hl => ?_)
  refine lv_iconst (v := 0) hx hb dX9_clashes_2 (by decide) ?_
  refine lv_istore (lv' := [(4, .int 0), (3, .int 0), (0, .ref h), (1, .int p0), (2, .ref ga)]) hx hb dX9_clashes_3 hl (by decide) rfl (fun ls hl => ?_)
  refine k_floop 5 (fun n H locs ls => ∃ (L_1 : Int32) (L_2 : Int32), (0 ≤ L_1.toInt ∧ L_1.toInt ≤ 8) ∧ 8 - L_1.toInt ≤ (n : Int) ∧ va_P g.1 vwCl [(h, .inr (9, [.int bday, .int bseed, .int balive, .int bstruck, .int bopen, .int bduels, .int blines, .ref bcoins, .ref brented, .ref bmornings, .ref bhonours, .ref bused, .ref bsides, .ref blog])), (bsides, aI g 16 Fbsides), (ga, aI g 8 Fga)] H ∧ va_S A s.heap H locs ∧ lv_has ls 5 [(4, .int L_1), (3, .int L_2), (0, .ref h), (1, .int p0), (2, .ref ga)]) (fun n H locs ls hI ih => ?_) ((8 - 0 : Int)).toNat ⟨0, 0, by decide, by have k0 : (0 : Int32).toInt = 0 := (by decide); omega, hP, hS, hl⟩
  refine hI.elim (fun L_1 hI => hI.elim (fun L_2 hI => ?_))
  have g_3 := hI.1
  have hm_4 := hI.2.1
  have hP := hI.2.2.1
  have hS := hI.2.2.2.1
  have hl := hI.2.2.2.2
  clear hI
  refine lv_iload hx hb dX9_clashes_5 (lv_at hl 0 rfl) ?_
  refine lv_aload_n hx hb dX9_clashes_7 rfl (lv_at hl 2 rfl) ?_
  refine va_get (D := g.1) (ci := 9) (v := .int bduels) (C := RX9) (T := TX9) (N := 14) hx hb hT inF_X9 hown hK.1 hP 0 rfl rfl 5 (by decide) (hT _ bw_33) (fun _ h9 => h9) rfl dX9_clashes_8 ?_
  refine lv_icmp_ge (tgt := 55) hx hb dX9_clashes_11 (by decide) (fun c_5 => ?_) (fun c_5 => ?_)
  · have f_6 := E_le (rfl : bduels.toInt = _) (rfl : L_1.toInt = _) c_5
    refine lv_iload_n hx hb dX9_clashes_55 rfl (lv_at hl 1 rfl) ?_
    have hP9 : va_P g.1 vwCl [] H := hP.sub [] rfl
    have hD9 : va_D A [] := ⟨fun i j p q h => by simp at h, fun k q h => by simp at h⟩
    exact W.iret (v := L_2) hx hb hr (fun t ht hW => ⟨⟨L_2, (), rfl, trivial, by rw [ht]; exact hP9, by rw [hAe]; exact hD9⟩, hS.F ht⟩) hS.2.2 dX9_clashes_56
  · have f_7 := E_nle (rfl : bduels.toInt = _) (rfl : L_1.toInt = _) c_5
    refine lv_aload_n hx hb dX9_clashes_14 rfl (lv_at hl 2 rfl) ?_
    refine lv_iload hx hb dX9_clashes_15 (lv_at hl 0 rfl) ?_
    refine k_iR (k_V (n := 1) ⟨hx, hb, hml, hown, hT⟩ hK hP hD [0] rfl (by decide +kernel) (s_X9_isOpen l g H.size h bday bseed balive bstruck bopen bduels blines bcoins brented bmornings bhonours bused bsides blog L_1 (by first | with_reducible assumption | omega) (by first | with_reducible assumption | omega) (by first | with_reducible assumption | omega)) (gV bw_43 bw_44 bw_45 bw_46 bw_32) rfl rfl (by decide +kernel) ⟨by decide, by decide⟩ (ci := 9) (q0 := 0) rfl rfl (fun _ _ _ _ _ => trivial) (fun _ _ _ => trivial) rfl rfl hl.1 (Nat.le_of_ble_eq_true rfl) dX9_clashes_17 ⟨by decide, by decide⟩) hP hS hA (fun r_8 _ H locs hw0 hP hS => ?_)
    have hw : 0 ≤ r_8.toInt ∧ r_8.toInt ≤ 1 := hw0
    clear hw0
    have w_9 := hw
    refine lv_if_eq (tgt := 49) hx hb dX9_clashes_20 (by decide) (fun c_10 => ?_) (fun c_10 => ?_)
    · have f_11 := E_eq (rfl : r_8.toInt = _) (by decide : (0 : Int32).toInt = 0) c_10
      obtain ⟨x_12, ex_12⟩ : ∃ y : Int32, y = L_1 + 1 := ⟨_, rfl⟩
      have fx_12 : x_12.toInt = L_1.toInt + 1 := by rw [ex_12]; exact I_add rfl (by decide) (by omega) (by omega)
      refine lv_iinc (v := x_12) (lv' := [(4, .int x_12), (3, .int L_2), (0, .ref h), (1, .int p0), (2, .ref ga)]) hx hb dX9_clashes_49 hl (k := 0) rfl (by rw [ex_12]; rfl) (by decide) rfl (fun ls hl => ?_)
      refine lv_goto (tgt := 5) hx hb dX9_clashes_52 (by decide) ?_
      exact ih (n - 1) (by omega) H locs ls ⟨x_12, L_2, (by first | with_reducible assumption | omega), by omega, hP.sub [0, 1, 2] rfl, hS, lv_sub hl [0, 1, 2, 3, 4] rfl⟩
    · have f_13 := E_ne (rfl : r_8.toInt = _) (by decide : (0 : Int32).toInt = 0) c_10
      refine lv_aload_n hx hb dX9_clashes_23 rfl (lv_at hl 2 rfl) ?_
      refine lv_iload hx hb dX9_clashes_24 (lv_at hl 0 rfl) ?_
      refine lv_iload_n hx hb dX9_clashes_26 rfl (lv_at hl 3 rfl) ?_
      refine k_iR (k_V (n := 2) ⟨hx, hb, hml, hown, hT⟩ hK hP hD [0, 1] rfl (by decide +kernel) (s_X9_sideOf l g H.size h bday bseed balive bstruck bopen bduels blines bcoins brented bmornings bhonours bused bsides Fbsides blog L_1 p0 (by first | with_reducible assumption | omega) (by first | with_reducible assumption | omega) (by first | with_reducible assumption | omega) hh3 (by first | with_reducible assumption | omega)) (gV bw_47 bw_48 bw_49 bw_46 bw_37) rfl rfl (by decide +kernel) ⟨by decide, by decide⟩ (ci := 9) (q0 := 0) rfl rfl (fun _ _ _ _ _ => trivial) (fun _ _ _ => trivial) rfl rfl hl.1 (Nat.le_of_ble_eq_true rfl) dX9_clashes_27 ⟨by decide, by decide⟩) hP hS hA (fun r_14 _ H locs hw0 hP hS => ?_)
      have hw : (-1) ≤ r_14.toInt ∧ r_14.toInt ≤ 1 := hw0
      clear hw0
      have w_15 := hw
      refine lv_iconst (v := (-1)) hx hb dX9_clashes_30 (by decide) ?_
      refine lv_icmp_eq (tgt := 49) hx hb dX9_clashes_31 (by decide) (fun c_16 => ?_) (fun c_16 => ?_)
      · have f_17 := E_eq (rfl : r_14.toInt = _) (by decide : ((-1) : Int32).toInt = (-1)) c_16
        obtain ⟨x_18, ex_18⟩ : ∃ y : Int32, y = L_1 + 1 := ⟨_, rfl⟩
        have fx_18 : x_18.toInt = L_1.toInt + 1 := by rw [ex_18]; exact I_add rfl (by decide) (by omega) (by omega)
        refine lv_iinc (v := x_18) (lv' := [(4, .int x_18), (3, .int L_2), (0, .ref h), (1, .int p0), (2, .ref ga)]) hx hb dX9_clashes_49 hl (k := 0) rfl (by rw [ex_18]; rfl) (by decide) rfl (fun ls hl => ?_)
        refine lv_goto (tgt := 5) hx hb dX9_clashes_52 (by decide) ?_
        exact ih (n - 1) (by omega) H locs ls ⟨x_18, L_2, (by first | with_reducible assumption | omega), by omega, hP.sub [0, 1, 2] rfl, hS, lv_sub hl [0, 1, 2, 3, 4] rfl⟩
      · have f_19 := E_ne (rfl : r_14.toInt = _) (by decide : ((-1) : Int32).toInt = (-1)) c_16
        refine lv_aload_n hx hb dX9_clashes_34 rfl (lv_at hl 2 rfl) ?_
        refine lv_iload_n hx hb dX9_clashes_35 rfl (lv_at hl 3 rfl) ?_
        refine lv_aload_n hx hb dX9_clashes_36 rfl (lv_at hl 4 rfl) ?_
        refine lv_iload hx hb dX9_clashes_37 (lv_at hl 0 rfl) ?_
        refine k_iR (k_V (n := 3) ⟨hx, hb, hml, hown, hT⟩ hK hP hD [0, 1, 2] rfl (by decide +kernel) (s_X9_earlierOn l g H.size h bday bseed balive bstruck bopen bduels blines bcoins brented bmornings bhonours bused bsides Fbsides blog ga Fga p0 L_1 (by first | with_reducible assumption | omega) (by first | with_reducible assumption | omega) (by first | with_reducible assumption | omega) hh3 (by first | with_reducible assumption | omega)) (gV bw_83 bw_84 bw_85 bw_46 bw_82) rfl rfl (by decide +kernel) ⟨by decide, by decide⟩ (ci := 9) (q0 := 0) rfl rfl (fun _ _ _ _ _ => trivial) (fun _ _ _ => trivial) rfl rfl hl.1 (Nat.le_of_ble_eq_true rfl) dX9_clashes_39 ⟨by decide, by decide⟩) hP hS hA (fun r_20 _ H locs hw0 hP hS => ?_)
        refine lv_iconst (v := 1) hx hb dX9_clashes_42 (by decide) ?_
        refine lv_icmp_ne (tgt := 49) hx hb dX9_clashes_43 (by decide) (fun c_21 => ?_) (fun c_21 => ?_)
        · have f_22 := E_ne (rfl : r_20.toInt = _) (by decide : (1 : Int32).toInt = 1) c_21
          obtain ⟨x_23, ex_23⟩ : ∃ y : Int32, y = L_1 + 1 := ⟨_, rfl⟩
          have fx_23 : x_23.toInt = L_1.toInt + 1 := by rw [ex_23]; exact I_add rfl (by decide) (by omega) (by omega)
          refine lv_iinc (v := x_23) (lv' := [(4, .int x_23), (3, .int L_2), (0, .ref h), (1, .int p0), (2, .ref ga)]) hx hb dX9_clashes_49 hl (k := 0) rfl (by rw [ex_23]; rfl) (by decide) rfl (fun ls hl => ?_)
          refine lv_goto (tgt := 5) hx hb dX9_clashes_52 (by decide) ?_
          exact ih (n - 1) (by omega) H locs ls ⟨x_23, L_2, (by first | with_reducible assumption | omega), by omega, hP.sub [0, 1, 2] rfl, hS, lv_sub hl [0, 1, 2, 3, 4] rfl⟩
        · have f_24 := E_eq (rfl : r_20.toInt = _) (by decide : (1 : Int32).toInt = 1) c_21
          obtain ⟨x_25, ex_25⟩ : ∃ y : Int32, y = L_2 + 1 := ⟨_, rfl⟩
          refine lv_iinc (v := x_25) (lv' := [(3, .int x_25), (4, .int L_1), (0, .ref h), (1, .int p0), (2, .ref ga)]) hx hb dX9_clashes_46 hl (k := 1) rfl (by rw [ex_25]; rfl) (by decide) rfl (fun ls hl => ?_)
          obtain ⟨x_26, ex_26⟩ : ∃ y : Int32, y = L_1 + 1 := ⟨_, rfl⟩
          have fx_26 : x_26.toInt = L_1.toInt + 1 := by rw [ex_26]; exact I_add rfl (by decide) (by omega) (by omega)
          refine lv_iinc (v := x_26) (lv' := [(4, .int x_26), (3, .int x_25), (0, .ref h), (1, .int p0), (2, .ref ga)]) hx hb dX9_clashes_49 hl (k := 1) rfl (by rw [ex_26]; rfl) (by decide) rfl (fun ls hl => ?_)
          refine lv_goto (tgt := 5) hx hb dX9_clashes_52 (by decide) ?_
          exact ih (n - 1) (by omega) H locs ls ⟨x_26, x_25, (by first | with_reducible assumption | omega), by omega, hP.sub [0, 1, 2] rfl, hS, lv_sub hl [0, 1, 2, 3, 4] rfl⟩

set_option maxHeartbeats 4000000 in
set_option maxRecDepth 100000 in
theorem s_X9_earlierOn_own (l : Launch) (g : GG) (sz : Nat) (h : Nat) (bday : Int32) (bseed : Int32) (balive : Int32) (bstruck : Int32) (bopen : Int32) (bduels : Int32) (blines : Int32) (bcoins : Nat) (brented : Nat) (bmornings : Nat) (Fbmornings : Nat → Int32) (bhonours : Nat) (bused : Nat) (bsides : Nat) (Fbsides : Nat → Int32) (blog : Nat) (p0 : Int32) (p1 : Int32) (hh0 : 0 ≤ bseed.toInt ∧ bseed.toInt ≤ 999) (hh1 : 0 ≤ bduels.toInt ∧ bduels.toInt ≤ 8) (hh2 : 0 ≤ blines.toInt ∧ blines.toInt ≤ 60) (hh3 : Rg 16 0 5 Fbsides) (hh4 : 0 ≤ p1.toInt ∧ p1.toInt ≤ 7) : Met l yX9_earlierOn (.code yX9_earlierOn cX9_earlierOn 6 (some .int) :: gT) ({ frames := 1, cells := 0, slots := 0, locals := 22 }) (va_Pc [.ref h, .int p0, .ref bmornings, .int p1] (Pst g sz [(h, .inr (9, [.int bday, .int bseed, .int balive, .int bstruck, .int bopen, .int bduels, .int blines, .ref bcoins, .ref brented, .ref bmornings, .ref bhonours, .ref bused, .ref bsides, .ref blog])), (bmornings, aI g 8 Fbmornings), (bsides, aI g 16 Fbsides)] nX)) (va_Qi (fun (r : Int32) => fun (_ : Unit) => True) (Qst g [] sz (fun _ => [])) (va_A [] sz)) 0 0 (va_A [] sz) := by
  refine Met.ofW (cc := cX9_earlierOn) (maxL := 6) (ret := (some .int)) (by decide) rfl ?_
  intro p e s m args below meth c s₁ B hml hv
  obtain ⟨rfl, hsz, hP, hK, hD0, hX⟩ := hv
  have hx := B.exec
  have hb := B.bytes
  have hr := B.returns
  have hT : ∀ w ∈ gT, w.before _ s = true := fun w h => atoms_spec (ws := .code yX9_earlierOn cX9_earlierOn 6 (some .int) :: gT) B.pre w (List.mem_cons_of_mem _ h)
  have hown : s.vm.findClass RX9 = some m.cls := findClass_of_methodNamed B.named
  have hlocks := B.notSynchronized
  subst hsz
  have hD := hD0
  generalize hAe : va_A [] s.heap.size = A at ⊢
  have hA : ∀ q : Nat, s.heap.size ≤ q → A q := fun q h => by rw [← hAe]; exact Or.inr h
  have hS : va_S A s.heap s.heap [] := va_S.rf
  have hl := lv_entry ([.ref h, .int p0, .ref bmornings, .int p1]) (n := 6) (Nat.le_of_ble_eq_true rfl)
  rw [lg_entry_eq]
  generalize (lg_sl ([.ref h, .int p0, .ref bmornings, .int p1]) ++ List.replicate (6 - (lg_sl ([.ref h, .int p0, .ref bmornings, .int p1])).length) Slot.unset).toArray = ls at hl ⊢
  have hl : lv_has ls 6 [(0, .ref h), (1, .int p0), (2, .ref bmornings), (3, .int p1)] := hl
  refine p_nH (fun H hH => ?_)
  have hP : va_P g.1 vwCl [(h, .inr (9, [.int bday, .int bseed, .int balive, .int bstruck, .int bopen, .int bduels, .int blines, .ref bcoins, .ref brented, .ref bmornings, .ref bhonours, .ref bused, .ref bsides, .ref blog])), (bmornings, aI g 8 Fbmornings), (bsides, aI g 16 Fbsides)] H := by rw [hH]; exact hP
  have hS : va_S A s.heap H [] := by rw [hH]; exact hS
  refine lv_iconst (v := 0) hx hb dX9_earlierOn_0 (by decide) ?_
  refine lv_istore (lv' := [(4, .int 0), (0, .ref h), (1, .int p0), (2, .ref bmornings), (3, .int p1)]) hx hb dX9_earlierOn_1 hl (by decide) rfl (fun ls hl => ?_)
  refine lv_iconst (v := 0) hx hb dX9_earlierOn_3 (by decide) ?_
  refine lv_istore (lv' := [(5, .int 0), (4, .int 0), (0, .ref h), (1, .int p0), (2, .ref bmornings), (3, .int p1)]) hx hb dX9_earlierOn_4 hl (by decide) rfl (fun ls hl => ?_)
  refine k_floop 6 (fun n H locs ls => ∃ (L_1 : Int32) (L_2 : Int32), (0 ≤ L_1.toInt ∧ L_1.toInt ≤ 8) ∧ 8 - L_1.toInt ≤ (n : Int) ∧ va_P g.1 vwCl [(h, .inr (9, [.int bday, .int bseed, .int balive, .int bstruck, .int bopen, .int bduels, .int blines, .ref bcoins, .ref brented, .ref bmornings, .ref bhonours, .ref bused, .ref bsides, .ref blog])), (bmornings, aI g 8 Fbmornings), (bsides, aI g 16 Fbsides)] H ∧ va_S A s.heap H locs ∧ lv_has ls 6 [(5, .int L_1), (4, .int L_2), (0, .ref h), (1, .int p0), (2, .ref bmornings), (3, .int p1)]) (fun n H locs ls hI ih => ?_) ((8 - 0 : Int)).toNat ⟨0, 0, by decide, by have k0 : (0 : Int32).toInt = 0 := (by decide); omega, hP, hS, hl⟩
  refine hI.elim (fun L_1 hI => hI.elim (fun L_2 hI => ?_))
  have g_3 := hI.1
  have hm_4 := hI.2.1
  have hP := hI.2.2.1
  have hS := hI.2.2.2.1
  have hl := hI.2.2.2.2
  clear hI
  refine lv_iload hx hb dX9_earlierOn_6 (lv_at hl 0 rfl) ?_
  refine lv_iload_n hx hb dX9_earlierOn_8 rfl (lv_at hl 5 rfl) ?_
  refine lv_icmp_ge (tgt := 51) hx hb dX9_earlierOn_9 (by decide) (fun c_5 => ?_) (fun c_5 => ?_)
  · have f_6 := E_le (rfl : p1.toInt = _) (rfl : L_1.toInt = _) c_5
    refine lv_iload hx hb dX9_earlierOn_51 (lv_at hl 1 rfl) ?_
    have hP9 : va_P g.1 vwCl [] H := hP.sub [] rfl
    have hD9 : va_D A [] := ⟨fun i j p q h => by simp at h, fun k q h => by simp at h⟩
    exact W.iret (v := L_2) hx hb hr (fun t ht hW => ⟨⟨L_2, (), rfl, trivial, by rw [ht]; exact hP9, by rw [hAe]; exact hD9⟩, hS.F ht⟩) hS.2.2 dX9_earlierOn_53
  · have f_7 := E_nle (rfl : p1.toInt = _) (rfl : L_1.toInt = _) c_5
    refine lv_aload_n hx hb dX9_earlierOn_12 rfl (lv_at hl 2 rfl) ?_
    refine lv_iload hx hb dX9_earlierOn_13 (lv_at hl 0 rfl) ?_
    refine k_iR (k_V (n := 1) ⟨hx, hb, hml, hown, hT⟩ hK hP hD [0] rfl (by decide +kernel) (s_X9_isOpen l g H.size h bday bseed balive bstruck bopen bduels blines bcoins brented bmornings bhonours bused bsides blog L_1 (by first | with_reducible assumption | omega) (by first | with_reducible assumption | omega) (by first | with_reducible assumption | omega)) (gV bw_43 bw_44 bw_45 bw_46 bw_32) rfl rfl (by decide +kernel) ⟨by decide, by decide⟩ (ci := 9) (q0 := 0) rfl rfl (fun _ _ _ _ _ => trivial) (fun _ _ _ => trivial) rfl rfl hl.1 (Nat.le_of_ble_eq_true rfl) dX9_earlierOn_15 ⟨by decide, by decide⟩) hP hS hA (fun r_8 _ H locs hw0 hP hS => ?_)
    have hw : 0 ≤ r_8.toInt ∧ r_8.toInt ≤ 1 := hw0
    clear hw0
    have w_9 := hw
    refine lv_if_eq (tgt := 45) hx hb dX9_earlierOn_18 (by decide) (fun c_10 => ?_) (fun c_10 => ?_)
    · have f_11 := E_eq (rfl : r_8.toInt = _) (by decide : (0 : Int32).toInt = 0) c_10
      obtain ⟨x_12, ex_12⟩ : ∃ y : Int32, y = L_1 + 1 := ⟨_, rfl⟩
      have fx_12 : x_12.toInt = L_1.toInt + 1 := by rw [ex_12]; exact I_add rfl (by decide) (by omega) (by omega)
      refine lv_iinc (v := x_12) (lv' := [(5, .int x_12), (4, .int L_2), (0, .ref h), (1, .int p0), (2, .ref bmornings), (3, .int p1)]) hx hb dX9_earlierOn_45 hl (k := 0) rfl (by rw [ex_12]; rfl) (by decide) rfl (fun ls hl => ?_)
      refine lv_goto (tgt := 6) hx hb dX9_earlierOn_48 (by decide) ?_
      exact ih (n - 1) (by omega) H locs ls ⟨x_12, L_2, (by first | with_reducible assumption | omega), by omega, hP.sub [0, 1, 2] rfl, hS, lv_sub hl [0, 1, 2, 3, 4, 5] rfl⟩
    · have f_13 := E_ne (rfl : r_8.toInt = _) (by decide : (0 : Int32).toInt = 0) c_10
      refine lv_aload_n hx hb dX9_earlierOn_21 rfl (lv_at hl 2 rfl) ?_
      refine lv_iload hx hb dX9_earlierOn_22 (lv_at hl 0 rfl) ?_
      refine lv_iload_n hx hb dX9_earlierOn_24 rfl (lv_at hl 3 rfl) ?_
      refine k_iR (k_V (n := 2) ⟨hx, hb, hml, hown, hT⟩ hK hP hD [0, 2] rfl (by decide +kernel) (s_X9_sideOf l g H.size h bday bseed balive bstruck bopen bduels blines bcoins brented bmornings bhonours bused bsides Fbsides blog L_1 p0 (by first | with_reducible assumption | omega) (by first | with_reducible assumption | omega) (by first | with_reducible assumption | omega) hh3 (by first | with_reducible assumption | omega)) (gV bw_47 bw_48 bw_49 bw_46 bw_37) rfl rfl (by decide +kernel) ⟨by decide, by decide⟩ (ci := 9) (q0 := 0) rfl rfl (fun _ _ _ _ _ => trivial) (fun _ _ _ => trivial) rfl rfl hl.1 (Nat.le_of_ble_eq_true rfl) dX9_earlierOn_25 ⟨by decide, by decide⟩) hP hS hA (fun r_14 _ H locs hw0 hP hS => ?_)
      have hw : (-1) ≤ r_14.toInt ∧ r_14.toInt ≤ 1 := hw0
      clear hw0
      have w_15 := hw
      refine lv_iconst (v := (-1)) hx hb dX9_earlierOn_28 (by decide) ?_
      refine lv_icmp_eq (tgt := 45) hx hb dX9_earlierOn_29 (by decide) (fun c_16 => ?_) (fun c_16 => ?_)
      · have f_17 := E_eq (rfl : r_14.toInt = _) (by decide : ((-1) : Int32).toInt = (-1)) c_16
        obtain ⟨x_18, ex_18⟩ : ∃ y : Int32, y = L_1 + 1 := ⟨_, rfl⟩
        have fx_18 : x_18.toInt = L_1.toInt + 1 := by rw [ex_18]; exact I_add rfl (by decide) (by omega) (by omega)
        refine lv_iinc (v := x_18) (lv' := [(5, .int x_18), (4, .int L_2), (0, .ref h), (1, .int p0), (2, .ref bmornings), (3, .int p1)]) hx hb dX9_earlierOn_45 hl (k := 0) rfl (by rw [ex_18]; rfl) (by decide) rfl (fun ls hl => ?_)
        refine lv_goto (tgt := 6) hx hb dX9_earlierOn_48 (by decide) ?_
        exact ih (n - 1) (by omega) H locs ls ⟨x_18, L_2, (by first | with_reducible assumption | omega), by omega, hP.sub [0, 1, 2] rfl, hS, lv_sub hl [0, 1, 2, 3, 4, 5] rfl⟩
      · have f_19 := E_ne (rfl : r_14.toInt = _) (by decide : ((-1) : Int32).toInt = (-1)) c_16
        refine lv_aload_n hx hb dX9_earlierOn_32 rfl (lv_at hl 4 rfl) ?_
        refine lv_iload hx hb dX9_earlierOn_33 (lv_at hl 0 rfl) ?_
        have h_20 : vp_in L_1 8 := vp_in_iff.mpr (by omega)
        refine va_iald hx hb hK.1 hP 1 1 rfl rfl (i := L_1) h_20 dX9_earlierOn_35 ?_
        refine lv_topi (fun x_21 ex_21 => ?_)
        have ux_21 := congrArg Int32.toInt ex_21
        refine lv_aload_n hx hb dX9_earlierOn_36 rfl (lv_at hl 4 rfl) ?_
        refine lv_iload_n hx hb dX9_earlierOn_37 rfl (lv_at hl 5 rfl) ?_
        have h_22 : vp_in p1 8 := vp_in_iff.mpr (by omega)
        refine va_iald hx hb hK.1 hP 1 1 rfl rfl (i := p1) h_22 dX9_earlierOn_38 ?_
        refine lv_topi (fun x_23 ex_23 => ?_)
        have ux_23 := congrArg Int32.toInt ex_23
        refine lv_icmp_ne (tgt := 45) hx hb dX9_earlierOn_39 (by decide) (fun c_24 => ?_) (fun c_24 => ?_)
        · have f_25 := E_ne (rfl : x_21.toInt = _) (rfl : x_23.toInt = _) c_24
          obtain ⟨x_26, ex_26⟩ : ∃ y : Int32, y = L_1 + 1 := ⟨_, rfl⟩
          have fx_26 : x_26.toInt = L_1.toInt + 1 := by rw [ex_26]; exact I_add rfl (by decide) (by omega) (by omega)
          refine lv_iinc (v := x_26) (lv' := [(5, .int x_26), (4, .int L_2), (0, .ref h), (1, .int p0), (2, .ref bmornings), (3, .int p1)]) hx hb dX9_earlierOn_45 hl (k := 0) rfl (by rw [ex_26]; rfl) (by decide) rfl (fun ls hl => ?_)
          refine lv_goto (tgt := 6) hx hb dX9_earlierOn_48 (by decide) ?_
          exact ih (n - 1) (by omega) H locs ls ⟨x_26, L_2, (by first | with_reducible assumption | omega), by omega, hP.sub [0, 1, 2] rfl, hS, lv_sub hl [0, 1, 2, 3, 4, 5] rfl⟩
        · have f_27 := E_eq (rfl : x_21.toInt = _) (rfl : x_23.toInt = _) c_24
          obtain ⟨x_28, ex_28⟩ : ∃ y : Int32, y = L_2 + 1 := ⟨_, rfl⟩
          refine lv_iinc (v := x_28) (lv' := [(4, .int x_28), (5, .int L_1), (0, .ref h), (1, .int p0), (2, .ref bmornings), (3, .int p1)]) hx hb dX9_earlierOn_42 hl (k := 1) rfl (by rw [ex_28]; rfl) (by decide) rfl (fun ls hl => ?_)
          obtain ⟨x_29, ex_29⟩ : ∃ y : Int32, y = L_1 + 1 := ⟨_, rfl⟩
          have fx_29 : x_29.toInt = L_1.toInt + 1 := by rw [ex_29]; exact I_add rfl (by decide) (by omega) (by omega)
          refine lv_iinc (v := x_29) (lv' := [(5, .int x_29), (4, .int x_28), (0, .ref h), (1, .int p0), (2, .ref bmornings), (3, .int p1)]) hx hb dX9_earlierOn_45 hl (k := 1) rfl (by rw [ex_29]; rfl) (by decide) rfl (fun ls hl => ?_)
          refine lv_goto (tgt := 6) hx hb dX9_earlierOn_48 (by decide) ?_
          exact ih (n - 1) (by omega) H locs ls ⟨x_29, x_28, (by first | with_reducible assumption | omega), by omega, hP.sub [0, 1, 2] rfl, hS, lv_sub hl [0, 1, 2, 3, 4, 5] rfl⟩

set_option maxHeartbeats 4000000 in
set_option maxRecDepth 100000 in
theorem s_X9_clashes_own (l : Launch) (g : GG) (sz : Nat) (h : Nat) (bday : Int32) (bseed : Int32) (balive : Int32) (bstruck : Int32) (bopen : Int32) (bduels : Int32) (blines : Int32) (bcoins : Nat) (brented : Nat) (bmornings : Nat) (Fbmornings : Nat → Int32) (bhonours : Nat) (bused : Nat) (bsides : Nat) (Fbsides : Nat → Int32) (blog : Nat) (p0 : Int32) (hh0 : 0 ≤ bseed.toInt ∧ bseed.toInt ≤ 999) (hh1 : 0 ≤ bduels.toInt ∧ bduels.toInt ≤ 8) (hh2 : 0 ≤ blines.toInt ∧ blines.toInt ≤ 60) (hh3 : Rg 16 0 5 Fbsides) : Met l yX9_clashes (.code yX9_clashes cX9_clashes 5 (some .int) :: gT) ({ frames := 2, cells := 0, slots := 0, locals := 47 }) (va_Pc [.ref h, .int p0, .ref bmornings] (Pst g sz [(h, .inr (9, [.int bday, .int bseed, .int balive, .int bstruck, .int bopen, .int bduels, .int blines, .ref bcoins, .ref brented, .ref bmornings, .ref bhonours, .ref bused, .ref bsides, .ref blog])), (bmornings, aI g 8 Fbmornings), (bsides, aI g 16 Fbsides)] nX)) (va_Qi (fun (r : Int32) => fun (_ : Unit) => True) (Qst g [] sz (fun _ => [])) (va_A [] sz)) 0 0 (va_A [] sz) := by
  refine Met.ofW (cc := cX9_clashes) (maxL := 5) (ret := (some .int)) (by decide) rfl ?_
  intro p e s m args below meth c s₁ B hml hv
  obtain ⟨rfl, hsz, hP, hK, hD0, hX⟩ := hv
  have hx := B.exec
  have hb := B.bytes
  have hr := B.returns
  have hT : ∀ w ∈ gT, w.before _ s = true := fun w h => atoms_spec (ws := .code yX9_clashes cX9_clashes 5 (some .int) :: gT) B.pre w (List.mem_cons_of_mem _ h)
  have hown : s.vm.findClass RX9 = some m.cls := findClass_of_methodNamed B.named
  have hlocks := B.notSynchronized
  subst hsz
  have hD := hD0
  generalize hAe : va_A [] s.heap.size = A at ⊢
  have hA : ∀ q : Nat, s.heap.size ≤ q → A q := fun q h => by rw [← hAe]; exact Or.inr h
  have hS : va_S A s.heap s.heap [] := va_S.rf
  have hl := lv_entry ([.ref h, .int p0, .ref bmornings]) (n := 5) (Nat.le_of_ble_eq_true rfl)
  rw [lg_entry_eq]
  generalize (lg_sl ([.ref h, .int p0, .ref bmornings]) ++ List.replicate (5 - (lg_sl ([.ref h, .int p0, .ref bmornings])).length) Slot.unset).toArray = ls at hl ⊢
  have hl : lv_has ls 5 [(0, .ref h), (1, .int p0), (2, .ref bmornings)] := hl
  refine p_nH (fun H hH => ?_)
  have hP : va_P g.1 vwCl [(h, .inr (9, [.int bday, .int bseed, .int balive, .int bstruck, .int bopen, .int bduels, .int blines, .ref bcoins, .ref brented, .ref bmornings, .ref bhonours, .ref bused, .ref bsides, .ref blog])), (bmornings, aI g 8 Fbmornings), (bsides, aI g 16 Fbsides)] H := by rw [hH]; exact hP
  have hS : va_S A s.heap H [] := by rw [hH]; exact hS
  refine lv_iconst (v := 0) hx hb dX9_clashes_0 (by decide) ?_
  refine lv_istore_n (lv' := [(3, .int 0), (0, .ref h), (1, .int p0), (2, .ref bmornings)]) hx hb dX9_clashes_1 rfl hl (by decide) rfl (fun ls hl => ?_)
  refine lv_iconst (v := 0) hx hb dX9_clashes_2 (by decide) ?_
  refine lv_istore (lv' := [(4, .int 0), (3, .int 0), (0, .ref h), (1, .int p0), (2, .ref bmornings)]) hx hb dX9_clashes_3 hl (by decide) rfl (fun ls hl => ?_)
  refine k_floop 5 (fun n H locs ls => ∃ (L_1 : Int32) (L_2 : Int32), (0 ≤ L_1.toInt ∧ L_1.toInt ≤ 8) ∧ 8 - L_1.toInt ≤ (n : Int) ∧ va_P g.1 vwCl [(h, .inr (9, [.int bday, .int bseed, .int balive, .int bstruck, .int bopen, .int bduels, .int blines, .ref bcoins, .ref brented, .ref bmornings, .ref bhonours, .ref bused, .ref bsides, .ref blog])), (bmornings, aI g 8 Fbmornings), (bsides, aI g 16 Fbsides)] H ∧ va_S A s.heap H locs ∧ lv_has ls 5 [(4, .int L_1), (3, .int L_2), (0, .ref h), (1, .int p0), (2, .ref bmornings)]) (fun n H locs ls hI ih => ?_) ((8 - 0 : Int)).toNat ⟨0, 0, by decide, by have k0 : (0 : Int32).toInt = 0 := (by decide); omega, hP, hS, hl⟩
  refine hI.elim (fun L_1 hI => hI.elim (fun L_2 hI => ?_))
  have g_3 := hI.1
  have hm_4 := hI.2.1
  have hP := hI.2.2.1
  have hS := hI.2.2.2.1
  have hl := hI.2.2.2.2
  clear hI
  refine lv_iload hx hb dX9_clashes_5 (lv_at hl 0 rfl) ?_
  refine lv_aload_n hx hb dX9_clashes_7 rfl (lv_at hl 2 rfl) ?_
  refine va_get (D := g.1) (ci := 9) (v := .int bduels) (C := RX9) (T := TX9) (N := 14) hx hb hT inF_X9 hown hK.1 hP 0 rfl rfl 5 (by decide) (hT _ bw_33) (fun _ h9 => h9) rfl dX9_clashes_8 ?_
  refine lv_icmp_ge (tgt := 55) hx hb dX9_clashes_11 (by decide) (fun c_5 => ?_) (fun c_5 => ?_)
  · have f_6 := E_le (rfl : bduels.toInt = _) (rfl : L_1.toInt = _) c_5
    refine lv_iload_n hx hb dX9_clashes_55 rfl (lv_at hl 1 rfl) ?_
    have hP9 : va_P g.1 vwCl [] H := hP.sub [] rfl
    have hD9 : va_D A [] := ⟨fun i j p q h => by simp at h, fun k q h => by simp at h⟩
    exact W.iret (v := L_2) hx hb hr (fun t ht hW => ⟨⟨L_2, (), rfl, trivial, by rw [ht]; exact hP9, by rw [hAe]; exact hD9⟩, hS.F ht⟩) hS.2.2 dX9_clashes_56
  · have f_7 := E_nle (rfl : bduels.toInt = _) (rfl : L_1.toInt = _) c_5
    refine lv_aload_n hx hb dX9_clashes_14 rfl (lv_at hl 2 rfl) ?_
    refine lv_iload hx hb dX9_clashes_15 (lv_at hl 0 rfl) ?_
    refine k_iR (k_V (n := 1) ⟨hx, hb, hml, hown, hT⟩ hK hP hD [0] rfl (by decide +kernel) (s_X9_isOpen l g H.size h bday bseed balive bstruck bopen bduels blines bcoins brented bmornings bhonours bused bsides blog L_1 (by first | with_reducible assumption | omega) (by first | with_reducible assumption | omega) (by first | with_reducible assumption | omega)) (gV bw_43 bw_44 bw_45 bw_46 bw_32) rfl rfl (by decide +kernel) ⟨by decide, by decide⟩ (ci := 9) (q0 := 0) rfl rfl (fun _ _ _ _ _ => trivial) (fun _ _ _ => trivial) rfl rfl hl.1 (Nat.le_of_ble_eq_true rfl) dX9_clashes_17 ⟨by decide, by decide⟩) hP hS hA (fun r_8 _ H locs hw0 hP hS => ?_)
    have hw : 0 ≤ r_8.toInt ∧ r_8.toInt ≤ 1 := hw0
    clear hw0
    have w_9 := hw
    refine lv_if_eq (tgt := 49) hx hb dX9_clashes_20 (by decide) (fun c_10 => ?_) (fun c_10 => ?_)
    · have f_11 := E_eq (rfl : r_8.toInt = _) (by decide : (0 : Int32).toInt = 0) c_10
      obtain ⟨x_12, ex_12⟩ : ∃ y : Int32, y = L_1 + 1 := ⟨_, rfl⟩
      have fx_12 : x_12.toInt = L_1.toInt + 1 := by rw [ex_12]; exact I_add rfl (by decide) (by omega) (by omega)
      refine lv_iinc (v := x_12) (lv' := [(4, .int x_12), (3, .int L_2), (0, .ref h), (1, .int p0), (2, .ref bmornings)]) hx hb dX9_clashes_49 hl (k := 0) rfl (by rw [ex_12]; rfl) (by decide) rfl (fun ls hl => ?_)
      refine lv_goto (tgt := 5) hx hb dX9_clashes_52 (by decide) ?_
      exact ih (n - 1) (by omega) H locs ls ⟨x_12, L_2, (by first | with_reducible assumption | omega), by omega, hP.sub [0, 1, 2] rfl, hS, lv_sub hl [0, 1, 2, 3, 4] rfl⟩
    · have f_13 := E_ne (rfl : r_8.toInt = _) (by decide : (0 : Int32).toInt = 0) c_10
      refine lv_aload_n hx hb dX9_clashes_23 rfl (lv_at hl 2 rfl) ?_
      refine lv_iload hx hb dX9_clashes_24 (lv_at hl 0 rfl) ?_
      refine lv_iload_n hx hb dX9_clashes_26 rfl (lv_at hl 3 rfl) ?_
      refine k_iR (k_V (n := 2) ⟨hx, hb, hml, hown, hT⟩ hK hP hD [0, 2] rfl (by decide +kernel) (s_X9_sideOf l g H.size h bday bseed balive bstruck bopen bduels blines bcoins brented bmornings bhonours bused bsides Fbsides blog L_1 p0 (by first | with_reducible assumption | omega) (by first | with_reducible assumption | omega) (by first | with_reducible assumption | omega) hh3 (by first | with_reducible assumption | omega)) (gV bw_47 bw_48 bw_49 bw_46 bw_37) rfl rfl (by decide +kernel) ⟨by decide, by decide⟩ (ci := 9) (q0 := 0) rfl rfl (fun _ _ _ _ _ => trivial) (fun _ _ _ => trivial) rfl rfl hl.1 (Nat.le_of_ble_eq_true rfl) dX9_clashes_27 ⟨by decide, by decide⟩) hP hS hA (fun r_14 _ H locs hw0 hP hS => ?_)
      have hw : (-1) ≤ r_14.toInt ∧ r_14.toInt ≤ 1 := hw0
      clear hw0
      have w_15 := hw
      refine lv_iconst (v := (-1)) hx hb dX9_clashes_30 (by decide) ?_
      refine lv_icmp_eq (tgt := 49) hx hb dX9_clashes_31 (by decide) (fun c_16 => ?_) (fun c_16 => ?_)
      · have f_17 := E_eq (rfl : r_14.toInt = _) (by decide : ((-1) : Int32).toInt = (-1)) c_16
        obtain ⟨x_18, ex_18⟩ : ∃ y : Int32, y = L_1 + 1 := ⟨_, rfl⟩
        have fx_18 : x_18.toInt = L_1.toInt + 1 := by rw [ex_18]; exact I_add rfl (by decide) (by omega) (by omega)
        refine lv_iinc (v := x_18) (lv' := [(4, .int x_18), (3, .int L_2), (0, .ref h), (1, .int p0), (2, .ref bmornings)]) hx hb dX9_clashes_49 hl (k := 0) rfl (by rw [ex_18]; rfl) (by decide) rfl (fun ls hl => ?_)
        refine lv_goto (tgt := 5) hx hb dX9_clashes_52 (by decide) ?_
        exact ih (n - 1) (by omega) H locs ls ⟨x_18, L_2, (by first | with_reducible assumption | omega), by omega, hP.sub [0, 1, 2] rfl, hS, lv_sub hl [0, 1, 2, 3, 4] rfl⟩
      · have f_19 := E_ne (rfl : r_14.toInt = _) (by decide : ((-1) : Int32).toInt = (-1)) c_16
        refine lv_aload_n hx hb dX9_clashes_34 rfl (lv_at hl 2 rfl) ?_
        refine lv_iload_n hx hb dX9_clashes_35 rfl (lv_at hl 3 rfl) ?_
        refine lv_aload_n hx hb dX9_clashes_36 rfl (lv_at hl 4 rfl) ?_
        refine lv_iload hx hb dX9_clashes_37 (lv_at hl 0 rfl) ?_
        refine k_iR (k_V (n := 3) ⟨hx, hb, hml, hown, hT⟩ hK hP hD [0, 2, 1] rfl (by decide +kernel) (s_X9_earlierOn l g H.size h bday bseed balive bstruck bopen bduels blines bcoins brented bmornings bhonours bused bsides Fbsides blog bmornings Fbmornings p0 L_1 (by first | with_reducible assumption | omega) (by first | with_reducible assumption | omega) (by first | with_reducible assumption | omega) hh3 (by first | with_reducible assumption | omega)) (gV bw_83 bw_84 bw_85 bw_46 bw_82) rfl rfl (by decide +kernel) ⟨by decide, by decide⟩ (ci := 9) (q0 := 0) rfl rfl (fun _ _ _ _ _ => trivial) (fun _ _ _ => trivial) rfl rfl hl.1 (Nat.le_of_ble_eq_true rfl) dX9_clashes_39 ⟨by decide, by decide⟩) hP hS hA (fun r_20 _ H locs hw0 hP hS => ?_)
        refine lv_iconst (v := 1) hx hb dX9_clashes_42 (by decide) ?_
        refine lv_icmp_ne (tgt := 49) hx hb dX9_clashes_43 (by decide) (fun c_21 => ?_) (fun c_21 => ?_)
        · have f_22 := E_ne (rfl : r_20.toInt = _) (by decide : (1 : Int32).toInt = 1) c_21
          obtain ⟨x_23, ex_23⟩ : ∃ y : Int32, y = L_1 + 1 := ⟨_, rfl⟩
          have fx_23 : x_23.toInt = L_1.toInt + 1 := by rw [ex_23]; exact I_add rfl (by decide) (by omega) (by omega)
          refine lv_iinc (v := x_23) (lv' := [(4, .int x_23), (3, .int L_2), (0, .ref h), (1, .int p0), (2, .ref bmornings)]) hx hb dX9_clashes_49 hl (k := 0) rfl (by rw [ex_23]; rfl) (by decide) rfl (fun ls hl => ?_)
          refine lv_goto (tgt := 5) hx hb dX9_clashes_52 (by decide) ?_
          exact ih (n - 1) (by omega) H locs ls ⟨x_23, L_2, (by first | with_reducible assumption | omega), by omega, hP.sub [0, 1, 2] rfl, hS, lv_sub hl [0, 1, 2, 3, 4] rfl⟩
        · have f_24 := E_eq (rfl : r_20.toInt = _) (by decide : (1 : Int32).toInt = 1) c_21
          obtain ⟨x_25, ex_25⟩ : ∃ y : Int32, y = L_2 + 1 := ⟨_, rfl⟩
          refine lv_iinc (v := x_25) (lv' := [(3, .int x_25), (4, .int L_1), (0, .ref h), (1, .int p0), (2, .ref bmornings)]) hx hb dX9_clashes_46 hl (k := 1) rfl (by rw [ex_25]; rfl) (by decide) rfl (fun ls hl => ?_)
          obtain ⟨x_26, ex_26⟩ : ∃ y : Int32, y = L_1 + 1 := ⟨_, rfl⟩
          have fx_26 : x_26.toInt = L_1.toInt + 1 := by rw [ex_26]; exact I_add rfl (by decide) (by omega) (by omega)
          refine lv_iinc (v := x_26) (lv' := [(4, .int x_26), (3, .int x_25), (0, .ref h), (1, .int p0), (2, .ref bmornings)]) hx hb dX9_clashes_49 hl (k := 1) rfl (by rw [ex_26]; rfl) (by decide) rfl (fun ls hl => ?_)
          refine lv_goto (tgt := 5) hx hb dX9_clashes_52 (by decide) ?_
          exact ih (n - 1) (by omega) H locs ls ⟨x_26, x_25, (by first | with_reducible assumption | omega), by omega, hP.sub [0, 1, 2] rfl, hS, lv_sub hl [0, 1, 2, 3, 4] rfl⟩

theorem bw_87 : Cond.fieldLink RX9 42 "DuelDelays$State" "seed" "I" ∈ gT := gT_tb 450 (by decide +kernel) (by decide +kernel)
theorem bw_88 : Cond.methodLink RX9 184 yX9_bury ∈ gT := gT_tb 1035 (by decide +kernel) (by decide +kernel)
theorem bw_89 : Cond.instanceMethod yX9_bury ∈ gT := gT_tb 1037 (by decide +kernel) (by decide +kernel)
theorem bw_90 : Cond.selects RX9 yX9_bury yX9_bury ∈ gT := gT_sl 32 (by decide +kernel) (by decide +kernel)
theorem bw_91 : Cond.code yX9_fight cX9_fight 3 none ∈ gT := gT_tb 1044 (by decide +kernel) (by decide +kernel)
theorem dX9_fight_0 : decode cX9_fight 0 = .ok (.aload_n 0, 1) := by decide +kernel
theorem dX9_fight_1 : decode cX9_fight 1 = .ok (.aload_n 0, 1) := by decide +kernel
theorem dX9_fight_2 : decode cX9_fight 2 = .ok (.getfield 42, 3) := by decide +kernel
theorem dX9_fight_5 : decode cX9_fight 5 = .ok (.sipush 137, 3) := by decide +kernel
theorem dX9_fight_8 : decode cX9_fight 8 = .ok (.imul, 1) := by decide +kernel
theorem dX9_fight_9 : decode cX9_fight 9 = .ok (.bipush 71, 2) := by decide +kernel
theorem dX9_fight_11 : decode cX9_fight 11 = .ok (.iadd, 1) := by decide +kernel
theorem dX9_fight_12 : decode cX9_fight 12 = .ok (.sipush 1000, 3) := by decide +kernel
theorem dX9_fight_15 : decode cX9_fight 15 = .ok (.irem, 1) := by decide +kernel
theorem dX9_fight_16 : decode cX9_fight 16 = .ok (.putfield 42, 3) := by decide +kernel
theorem dX9_fight_19 : decode cX9_fight 19 = .ok (.aload_n 0, 1) := by decide +kernel
theorem dX9_fight_20 : decode cX9_fight 20 = .ok (.dup, 1) := by decide +kernel
theorem dX9_fight_21 : decode cX9_fight 21 = .ok (.getfield 60, 3) := by decide +kernel
theorem dX9_fight_24 : decode cX9_fight 24 = .ok (.iconst 1, 1) := by decide +kernel
theorem dX9_fight_25 : decode cX9_fight 25 = .ok (.iload_n 2, 1) := by decide +kernel
theorem dX9_fight_26 : decode cX9_fight 26 = .ok (.ishl, 1) := by decide +kernel
theorem dX9_fight_27 : decode cX9_fight 27 = .ok (.iconst (-1), 1) := by decide +kernel
theorem dX9_fight_28 : decode cX9_fight 28 = .ok (.ixor, 1) := by decide +kernel
theorem dX9_fight_29 : decode cX9_fight 29 = .ok (.iand, 1) := by decide +kernel
theorem dX9_fight_30 : decode cX9_fight 30 = .ok (.putfield 60, 3) := by decide +kernel
theorem dX9_fight_33 : decode cX9_fight 33 = .ok (.aload_n 0, 1) := by decide +kernel
theorem dX9_fight_34 : decode cX9_fight 34 = .ok (.aload_n 1, 1) := by decide +kernel
theorem dX9_fight_35 : decode cX9_fight 35 = .ok (.aload_n 0, 1) := by decide +kernel
theorem dX9_fight_36 : decode cX9_fight 36 = .ok (.iload_n 2, 1) := by decide +kernel
theorem dX9_fight_37 : decode cX9_fight 37 = .ok (.aload_n 0, 1) := by decide +kernel
theorem dX9_fight_38 : decode cX9_fight 38 = .ok (.getfield 42, 3) := by decide +kernel
theorem dX9_fight_41 : decode cX9_fight 41 = .ok (.iconst 2, 1) := by decide +kernel
theorem dX9_fight_42 : decode cX9_fight 42 = .ok (.irem, 1) := by decide +kernel
theorem dX9_fight_43 : decode cX9_fight 43 = .ok (.invokevirtual 150, 3) := by decide +kernel
theorem dX9_fight_46 : decode cX9_fight 46 = .ok (.invokevirtual 184, 3) := by decide +kernel
theorem dX9_fight_49 : decode cX9_fight 49 = .ok (.return_, 1) := by decide +kernel
set_option maxHeartbeats 4000000 in
set_option maxRecDepth 100000 in
theorem s_X9_fight (l : Launch) (g : GG) (sz : Nat) (h : Nat) (bday : Int32) (bseed : Int32) (balive : Int32) (bstruck : Int32) (bopen : Int32) (bduels : Int32) (blines : Int32) (bcoins : Nat) (brented : Nat) (bmornings : Nat) (bhonours : Nat) (bused : Nat) (bsides : Nat) (Fbsides : Nat → Int32) (blog : Nat) (la : Nat) (dduels : Int32) (dduelSides : Nat) (dduelMornings : Nat) (dhonour : Int32) (ddraw : Int32) (dusesOfKind : Nat) (dmen : Nat) (dmen_count : Int32) (dmen_names : Nat) (dmen_dies : Nat) (dmen_coins : Nat) (dmen_fathers : Nat) (Fdmen_fathers : Nat → Int32) (dformulas : Nat) (dreasons : Nat) (p0 : Int32) (hh0 : 0 ≤ bseed.toInt ∧ bseed.toInt ≤ 999) (hh1 : 0 ≤ bduels.toInt ∧ bduels.toInt ≤ 8) (hh2 : 0 ≤ blines.toInt ∧ blines.toInt ≤ 60) (hh3 : Rg 16 0 5 Fbsides) (hh4 : 0 ≤ dduels.toInt ∧ dduels.toInt ≤ 6) (hh6 : 0 ≤ ddraw.toInt ∧ ddraw.toInt ≤ 999) (hh7 : 0 ≤ dmen_count.toInt ∧ dmen_count.toInt ≤ 6) (hh16 : 0 ≤ p0.toInt ∧ p0.toInt ≤ 7) : Met l yX9_fight (.code yX9_fight cX9_fight 3 none :: gT) ({ frames := 3, cells := 0, slots := 0, locals := 71 }) (va_Pc [.ref h, .ref la, .int p0] (Pst g sz [(h, .inr (9, [.int bday, .int bseed, .int balive, .int bstruck, .int bopen, .int bduels, .int blines, .ref bcoins, .ref brented, .ref bmornings, .ref bhonours, .ref bused, .ref bsides, .ref blog])), (bsides, aI g 16 Fbsides), (la, .inr (2, [.ref dmen, .ref dformulas, .ref dreasons, .int dduels, .ref dduelSides, .ref dduelMornings, .int dhonour, .int ddraw, .ref dusesOfKind])), (dmen, .inr (3, [.int dmen_count, .ref dmen_names, .ref dmen_dies, .ref dmen_coins, .ref dmen_fathers])), (dmen_fathers, aI g 6 Fdmen_fathers)] nX)) (va_Qv (fun ((o0_seed, o1_alive, o2_open, o3_F) : Int32 × Int32 × Int32 × (Nat → Int32)) => (0 ≤ o0_seed.toInt ∧ o0_seed.toInt ≤ 999) ∧ (Rg 16 0 5 o3_F)) (Qst g [(h, .inr (9, [.int bday, .int bseed, .int balive, .int bstruck, .int bopen, .int bduels, .int blines, .ref bcoins, .ref brented, .ref bmornings, .ref bhonours, .ref bused, .ref bsides, .ref blog])), (bsides, aI g 16 Fbsides), (la, .inr (2, [.ref dmen, .ref dformulas, .ref dreasons, .int dduels, .ref dduelSides, .ref dduelMornings, .int dhonour, .int ddraw, .ref dusesOfKind])), (dmen, .inr (3, [.int dmen_count, .ref dmen_names, .ref dmen_dies, .ref dmen_coins, .ref dmen_fathers])), (dmen_fathers, aI g 6 Fdmen_fathers)] sz (fun ((o0_seed, o1_alive, o2_open, o3_F) : Int32 × Int32 × Int32 × (Nat → Int32)) => [(h, .inr (9, [.int bday, .int o0_seed, .int o1_alive, .int bstruck, .int o2_open, .int bduels, .int blines, .ref bcoins, .ref brented, .ref bmornings, .ref bhonours, .ref bused, .ref bsides, .ref blog])), (bsides, aI g 16 o3_F), (la, .inr (2, [.ref dmen, .ref dformulas, .ref dreasons, .int dduels, .ref dduelSides, .ref dduelMornings, .int dhonour, .int ddraw, .ref dusesOfKind])), (dmen, .inr (3, [.int dmen_count, .ref dmen_names, .ref dmen_dies, .ref dmen_coins, .ref dmen_fathers])), (dmen_fathers, aI g 6 Fdmen_fathers)])) (va_A [(h, .inr (9, [.int bday, .int bseed, .int balive, .int bstruck, .int bopen, .int bduels, .int blines, .ref bcoins, .ref brented, .ref bmornings, .ref bhonours, .ref bused, .ref bsides, .ref blog])), (bsides, aI g 16 Fbsides), (la, .inr (2, [.ref dmen, .ref dformulas, .ref dreasons, .int dduels, .ref dduelSides, .ref dduelMornings, .int dhonour, .int ddraw, .ref dusesOfKind])), (dmen, .inr (3, [.int dmen_count, .ref dmen_names, .ref dmen_dies, .ref dmen_coins, .ref dmen_fathers])), (dmen_fathers, aI g 6 Fdmen_fathers)] sz)) 0 0 (va_A [(h, .inr (9, [.int bday, .int bseed, .int balive, .int bstruck, .int bopen, .int bduels, .int blines, .ref bcoins, .ref brented, .ref bmornings, .ref bhonours, .ref bused, .ref bsides, .ref blog])), (bsides, aI g 16 Fbsides), (la, .inr (2, [.ref dmen, .ref dformulas, .ref dreasons, .int dduels, .ref dduelSides, .ref dduelMornings, .int dhonour, .int ddraw, .ref dusesOfKind])), (dmen, .inr (3, [.int dmen_count, .ref dmen_names, .ref dmen_dies, .ref dmen_coins, .ref dmen_fathers])), (dmen_fathers, aI g 6 Fdmen_fathers)] sz) := by
  refine Met.ofW (cc := cX9_fight) (maxL := 3) (ret := none) (by decide) rfl ?_
  intro p e s m args below meth c s₁ B hml hv
  obtain ⟨rfl, hsz, hP, hK, hD0, hX⟩ := hv
  have hx := B.exec
  have hb := B.bytes
  have hr := B.returns
  have hT : ∀ w ∈ gT, w.before _ s = true := fun w h => atoms_spec (ws := .code yX9_fight cX9_fight 3 none :: gT) B.pre w (List.mem_cons_of_mem _ h)
  have hown : s.vm.findClass RX9 = some m.cls := findClass_of_methodNamed B.named
  have hlocks := B.notSynchronized
  subst hsz
  have hD := hD0.self (sz := s.heap.size)
  generalize hAe : va_A [(h, .inr (9, [.int bday, .int bseed, .int balive, .int bstruck, .int bopen, .int bduels, .int blines, .ref bcoins, .ref brented, .ref bmornings, .ref bhonours, .ref bused, .ref bsides, .ref blog])), (bsides, aI g 16 Fbsides), (la, .inr (2, [.ref dmen, .ref dformulas, .ref dreasons, .int dduels, .ref dduelSides, .ref dduelMornings, .int dhonour, .int ddraw, .ref dusesOfKind])), (dmen, .inr (3, [.int dmen_count, .ref dmen_names, .ref dmen_dies, .ref dmen_coins, .ref dmen_fathers])), (dmen_fathers, aI g 6 Fdmen_fathers)] s.heap.size = A at hD ⊢
  have hA : ∀ q : Nat, s.heap.size ≤ q → A q := fun q h => by rw [← hAe]; exact Or.inr h
  have hS : va_S A s.heap s.heap [] := va_S.rf
  have hl := lv_entry ([.ref h, .ref la, .int p0]) (n := 3) (Nat.le_of_ble_eq_true rfl)
  rw [lg_entry_eq]
  generalize (lg_sl ([.ref h, .ref la, .int p0]) ++ List.replicate (3 - (lg_sl ([.ref h, .ref la, .int p0])).length) Slot.unset).toArray = ls at hl ⊢
  have hl : lv_has ls 3 [(0, .ref h), (1, .ref la), (2, .int p0)] := hl
  refine p_nH (fun H hH => ?_)
  have hP : va_P g.1 vwCl [(h, .inr (9, [.int bday, .int bseed, .int balive, .int bstruck, .int bopen, .int bduels, .int blines, .ref bcoins, .ref brented, .ref bmornings, .ref bhonours, .ref bused, .ref bsides, .ref blog])), (bsides, aI g 16 Fbsides), (la, .inr (2, [.ref dmen, .ref dformulas, .ref dreasons, .int dduels, .ref dduelSides, .ref dduelMornings, .int dhonour, .int ddraw, .ref dusesOfKind])), (dmen, .inr (3, [.int dmen_count, .ref dmen_names, .ref dmen_dies, .ref dmen_coins, .ref dmen_fathers])), (dmen_fathers, aI g 6 Fdmen_fathers)] H := by rw [hH]; exact hP
  have hS : va_S A s.heap H [] := by rw [hH]; exact hS
  refine lv_aload_n hx hb dX9_fight_0 rfl (lv_at hl 0 rfl) ?_
  refine lv_aload_n hx hb dX9_fight_1 rfl (lv_at hl 0 rfl) ?_
  refine va_get (D := g.1) (ci := 9) (v := .int bseed) (C := RX9) (T := TX9) (N := 14) hx hb hT inF_X9 hown hK.1 hP 0 rfl rfl 1 (by decide) (hT _ bw_87) (fun _ h9 => h9) rfl dX9_fight_2 ?_
  refine lv_sipush (v := 137) hx hb dX9_fight_5 (by decide) ?_
  refine lv_imul hx hb dX9_fight_8 ?_
  refine lv_topi (fun x_1 ex_1 => ?_)
  have fx_1 : x_1.toInt = bseed.toInt * 137 := by rw [ex_1]; exact I_mul rfl (by decide : (137 : Int32).toInt = 137) (by omega) (by omega)
  refine lv_bipush (v := 71) hx hb dX9_fight_9 (by decide) ?_
  refine lv_iadd hx hb dX9_fight_11 ?_
  refine lv_topi (fun x_2 ex_2 => ?_)
  have fx_2 : x_2.toInt = x_1.toInt + 71 := by rw [ex_2]; exact I_add rfl (by decide : (71 : Int32).toInt = 71) (by omega) (by omega)
  refine lv_sipush (v := 1000) hx hb dX9_fight_12 (by decide) ?_
  refine lv_irem hx hb dX9_fight_15 (by decide) ?_
  refine lv_topi (fun x_3 ex_3 => ?_)
  have fx_3 : x_3.toInt = x_2.toInt % 1000 := by rw [ex_3]; exact I_rem rfl (by decide : (1000 : Int32).toInt = 1000) (by omega) (by decide)
  refine va_put (D := g.1) (ci := 9) (v := .int x_3) (ty := .int) (C := RX9) (T := TX9) (N := 14) hx hb hT inF_X9 tyX9 tyX9_ok nmX9 hown hK.1 hP hD hS 0 rfl rfl 1 (by decide) (hT _ bw_87) (fun _ h9 => h9) rfl (by decide +kernel) rfl rfl (Nat.le_of_ble_eq_true rfl) dX9_fight_16 (fun H locs hP hD hS => ?_)
  have hP : va_P g.1 vwCl [(h, .inr (9, [.int bday, .int x_3, .int balive, .int bstruck, .int bopen, .int bduels, .int blines, .ref bcoins, .ref brented, .ref bmornings, .ref bhonours, .ref bused, .ref bsides, .ref blog])), (bsides, aI g 16 Fbsides), (la, .inr (2, [.ref dmen, .ref dformulas, .ref dreasons, .int dduels, .ref dduelSides, .ref dduelMornings, .int dhonour, .int ddraw, .ref dusesOfKind])), (dmen, .inr (3, [.int dmen_count, .ref dmen_names, .ref dmen_dies, .ref dmen_coins, .ref dmen_fathers])), (dmen_fathers, aI g 6 Fdmen_fathers)] H := hP
  have hD : va_D A [(h, .inr (9, [.int bday, .int x_3, .int balive, .int bstruck, .int bopen, .int bduels, .int blines, .ref bcoins, .ref brented, .ref bmornings, .ref bhonours, .ref bused, .ref bsides, .ref blog])), (bsides, aI g 16 Fbsides), (la, .inr (2, [.ref dmen, .ref dformulas, .ref dreasons, .int dduels, .ref dduelSides, .ref dduelMornings, .int dhonour, .int ddraw, .ref dusesOfKind])), (dmen, .inr (3, [.int dmen_count, .ref dmen_names, .ref dmen_dies, .ref dmen_coins, .ref dmen_fathers])), (dmen_fathers, aI g 6 Fdmen_fathers)] := hD
  refine lv_aload_n hx hb dX9_fight_19 rfl (lv_at hl 0 rfl) ?_
  refine lv_dup hx hb dX9_fight_20 rfl ?_
  refine va_get (D := g.1) (ci := 9) (v := .int bopen) (C := RX9) (T := TX9) (N := 14) hx hb hT inF_X9 hown hK.1 hP 0 rfl rfl 4 (by decide) (hT _ bw_31) (fun _ h9 => h9) rfl dX9_fight_21 ?_
  refine lv_iconst (v := 1) hx hb dX9_fight_24 (by decide) ?_
  refine lv_iload_n hx hb dX9_fight_25 rfl (lv_at hl 2 rfl) ?_
  refine lv_ishl hx hb dX9_fight_26 ?_
  refine lv_topi (fun x_4 ex_4 => ?_)
  refine lv_iconst (v := (-1)) hx hb dX9_fight_27 (by decide) ?_
  refine lv_ixor hx hb dX9_fight_28 ?_
  refine lv_topi (fun x_5 ex_5 => ?_)
  refine lv_iand hx hb dX9_fight_29 ?_
  refine lv_topi (fun x_6 ex_6 => ?_)
  refine va_put (D := g.1) (ci := 9) (v := .int x_6) (ty := .int) (C := RX9) (T := TX9) (N := 14) hx hb hT inF_X9 tyX9 tyX9_ok nmX9 hown hK.1 hP hD hS 0 rfl rfl 4 (by decide) (hT _ bw_31) (fun _ h9 => h9) rfl (by decide +kernel) rfl rfl (Nat.le_of_ble_eq_true rfl) dX9_fight_30 (fun H locs hP hD hS => ?_)
  have hP : va_P g.1 vwCl [(h, .inr (9, [.int bday, .int x_3, .int balive, .int bstruck, .int x_6, .int bduels, .int blines, .ref bcoins, .ref brented, .ref bmornings, .ref bhonours, .ref bused, .ref bsides, .ref blog])), (bsides, aI g 16 Fbsides), (la, .inr (2, [.ref dmen, .ref dformulas, .ref dreasons, .int dduels, .ref dduelSides, .ref dduelMornings, .int dhonour, .int ddraw, .ref dusesOfKind])), (dmen, .inr (3, [.int dmen_count, .ref dmen_names, .ref dmen_dies, .ref dmen_coins, .ref dmen_fathers])), (dmen_fathers, aI g 6 Fdmen_fathers)] H := hP
  have hD : va_D A [(h, .inr (9, [.int bday, .int x_3, .int balive, .int bstruck, .int x_6, .int bduels, .int blines, .ref bcoins, .ref brented, .ref bmornings, .ref bhonours, .ref bused, .ref bsides, .ref blog])), (bsides, aI g 16 Fbsides), (la, .inr (2, [.ref dmen, .ref dformulas, .ref dreasons, .int dduels, .ref dduelSides, .ref dduelMornings, .int dhonour, .int ddraw, .ref dusesOfKind])), (dmen, .inr (3, [.int dmen_count, .ref dmen_names, .ref dmen_dies, .ref dmen_coins, .ref dmen_fathers])), (dmen_fathers, aI g 6 Fdmen_fathers)] := hD
  refine lv_aload_n hx hb dX9_fight_33 rfl (lv_at hl 0 rfl) ?_
  refine lv_aload_n hx hb dX9_fight_34 rfl (lv_at hl 1 rfl) ?_
  refine lv_aload_n hx hb dX9_fight_35 rfl (lv_at hl 0 rfl) ?_
  refine lv_iload_n hx hb dX9_fight_36 rfl (lv_at hl 2 rfl) ?_
  refine lv_aload_n hx hb dX9_fight_37 rfl (lv_at hl 0 rfl) ?_
  refine va_get (D := g.1) (ci := 9) (v := .int x_3) (C := RX9) (T := TX9) (N := 14) hx hb hT inF_X9 hown hK.1 hP 0 rfl rfl 1 (by decide) (hT _ bw_87) (fun _ h9 => h9) rfl dX9_fight_38 ?_
  refine lv_iconst (v := 2) hx hb dX9_fight_41 (by decide) ?_
  refine lv_irem hx hb dX9_fight_42 (by decide) ?_
  refine lv_topi (fun x_7 ex_7 => ?_)
  have fx_7 : x_7.toInt = x_3.toInt % 2 := by rw [ex_7]; exact I_rem rfl (by decide : (2 : Int32).toInt = 2) (by omega) (by decide)
  refine k_iR (k_V (n := 2) ⟨hx, hb, hml, hown, hT⟩ hK hP hD [0, 1] rfl (by decide +kernel) (s_X9_manOf l g H.size h bday x_3 balive bstruck x_6 bduels blines bcoins brented bmornings bhonours bused bsides Fbsides blog p0 x_7 (by first | with_reducible assumption | omega) (by first | with_reducible assumption | omega) (by first | with_reducible assumption | omega) hh3 (by first | with_reducible assumption | omega) (by first | with_reducible assumption | omega)) (gV bw_75 bw_76 bw_77 bw_46 bw_36) rfl rfl (by decide +kernel) ⟨by decide, by decide⟩ (ci := 9) (q0 := 0) rfl rfl (fun _ _ _ _ _ => trivial) (fun _ _ _ => trivial) rfl rfl hl.1 (Nat.le_of_ble_eq_true rfl) dX9_fight_43 ⟨by decide, by decide⟩) hP hS hA (fun r_8 _ H locs hw0 hP hS => ?_)
  have hw : 0 ≤ r_8.toInt ∧ r_8.toInt ≤ 5 := hw0
  clear hw0
  have w_9 := hw
  refine k_v (wr := []) (k_V (n := 2) ⟨hx, hb, hml, hown, hT⟩ hK hP hD [0, 1, 2, 3, 4] rfl (by decide +kernel) (s_X9_bury l g H.size h bday x_3 balive bstruck x_6 bduels blines bcoins brented bmornings bhonours bused bsides Fbsides blog la dduels dduelSides dduelMornings dhonour ddraw dusesOfKind dmen dmen_count dmen_names dmen_dies dmen_coins dmen_fathers Fdmen_fathers dformulas dreasons r_8 (by first | with_reducible assumption | omega) (by first | with_reducible assumption | omega) (by first | with_reducible assumption | omega) hh3 (by first | with_reducible assumption | omega) (by first | with_reducible assumption | omega) (by first | with_reducible assumption | omega)) (gV bw_88 bw_89 bw_90 bw_46 bw_81) rfl rfl (by decide +kernel) ⟨by decide, by decide⟩ (ci := 9) (q0 := 0) rfl rfl (fun _ _ _ _ _ => trivial) (fun _ _ _ => trivial) rfl rfl hl.1 (Nat.le_of_ble_eq_true rfl) dX9_fight_46 ⟨by decide, by decide⟩) hP hD hS hA [0, 1, 2, 3, 4] [] rfl rfl (by decide +kernel) (by decide +kernel) (pr_all fun y_10 => pr_all fun y_11 => fun f_12 H locs hw0 hP hD hS => ?_)
  have hP : va_P g.1 vwCl [(h, .inr (9, [.int bday, .int x_3, .int y_10, .int bstruck, .int y_11, .int bduels, .int blines, .ref bcoins, .ref brented, .ref bmornings, .ref bhonours, .ref bused, .ref bsides, .ref blog])), (bsides, aI g 16 f_12), (la, .inr (2, [.ref dmen, .ref dformulas, .ref dreasons, .int dduels, .ref dduelSides, .ref dduelMornings, .int dhonour, .int ddraw, .ref dusesOfKind])), (dmen, .inr (3, [.int dmen_count, .ref dmen_names, .ref dmen_dies, .ref dmen_coins, .ref dmen_fathers])), (dmen_fathers, aI g 6 Fdmen_fathers)] H := hP
  have hD : va_D A [(h, .inr (9, [.int bday, .int x_3, .int y_10, .int bstruck, .int y_11, .int bduels, .int blines, .ref bcoins, .ref brented, .ref bmornings, .ref bhonours, .ref bused, .ref bsides, .ref blog])), (bsides, aI g 16 f_12), (la, .inr (2, [.ref dmen, .ref dformulas, .ref dreasons, .int dduels, .ref dduelSides, .ref dduelMornings, .int dhonour, .int ddraw, .ref dusesOfKind])), (dmen, .inr (3, [.int dmen_count, .ref dmen_names, .ref dmen_dies, .ref dmen_coins, .ref dmen_fathers])), (dmen_fathers, aI g 6 Fdmen_fathers)] := hD
  have hw : Rg 16 0 5 f_12 := hw0
  clear hw0
  have w_13 := hw
  have hP9 : va_P g.1 vwCl [(h, .inr (9, [.int bday, .int x_3, .int y_10, .int bstruck, .int y_11, .int bduels, .int blines, .ref bcoins, .ref brented, .ref bmornings, .ref bhonours, .ref bused, .ref bsides, .ref blog])), (bsides, aI g 16 f_12), (la, .inr (2, [.ref dmen, .ref dformulas, .ref dreasons, .int dduels, .ref dduelSides, .ref dduelMornings, .int dhonour, .int ddraw, .ref dusesOfKind])), (dmen, .inr (3, [.int dmen_count, .ref dmen_names, .ref dmen_dies, .ref dmen_coins, .ref dmen_fathers])), (dmen_fathers, aI g 6 Fdmen_fathers)] H := hP.sub [0, 1, 2, 3, 4] rfl
  have hD9 : va_D A [(h, .inr (9, [.int bday, .int x_3, .int y_10, .int bstruck, .int y_11, .int bduels, .int blines, .ref bcoins, .ref brented, .ref bmornings, .ref bhonours, .ref bused, .ref bsides, .ref blog])), (bsides, aI g 16 f_12), (la, .inr (2, [.ref dmen, .ref dformulas, .ref dreasons, .int dduels, .ref dduelSides, .ref dduelMornings, .int dhonour, .int ddraw, .ref dusesOfKind])), (dmen, .inr (3, [.int dmen_count, .ref dmen_names, .ref dmen_dies, .ref dmen_coins, .ref dmen_fathers])), (dmen_fathers, aI g 6 Fdmen_fathers)] := hD.sub [0, 1, 2, 3, 4] (by decide +kernel) rfl
  exact W.vret hx hb hr (fun t ht hW => ⟨⟨(x_3, y_10, y_11, f_12), rfl, ⟨(by first | with_reducible assumption | omega), w_13⟩, by rw [ht]; exact hP9, by rw [hAe]; exact hD9⟩, hS.F ht⟩) hS.2.2 dX9_fight_49

theorem bw_92 : Cond.methodLink RX9 188 yX9_fight ∈ gT := gT_tb 1041 (by decide +kernel) (by decide +kernel)
theorem bw_93 : Cond.instanceMethod yX9_fight ∈ gT := gT_tb 1043 (by decide +kernel) (by decide +kernel)
theorem bw_94 : Cond.selects RX9 yX9_fight yX9_fight ∈ gT := gT_sl 33 (by decide +kernel) (by decide +kernel)
theorem bw_95 : Cond.fieldLink RX9 134 "DuelDelays$Men" "dies" "[I" ∈ gT := gT_tb 174 (by decide +kernel) (by decide +kernel)
theorem bw_96 : Cond.code yX9_passDay cX9_passDay 3 none ∈ gT := gT_tb 1034 (by decide +kernel) (by decide +kernel)
theorem dX9_passDay_0 : decode cX9_passDay 0 = .ok (.aload_n 0, 1) := by decide +kernel
theorem dX9_passDay_1 : decode cX9_passDay 1 = .ok (.dup, 1) := by decide +kernel
theorem dX9_passDay_2 : decode cX9_passDay 2 = .ok (.getfield 33, 3) := by decide +kernel
theorem dX9_passDay_5 : decode cX9_passDay 5 = .ok (.iconst 1, 1) := by decide +kernel
theorem dX9_passDay_6 : decode cX9_passDay 6 = .ok (.iadd, 1) := by decide +kernel
theorem dX9_passDay_7 : decode cX9_passDay 7 = .ok (.putfield 33, 3) := by decide +kernel
theorem dX9_passDay_10 : decode cX9_passDay 10 = .ok (.iconst 0, 1) := by decide +kernel
theorem dX9_passDay_11 : decode cX9_passDay 11 = .ok (.istore_n 2, 1) := by decide +kernel
theorem dX9_passDay_12 : decode cX9_passDay 12 = .ok (.iload_n 2, 1) := by decide +kernel
theorem dX9_passDay_13 : decode cX9_passDay 13 = .ok (.aload_n 1, 1) := by decide +kernel
theorem dX9_passDay_14 : decode cX9_passDay 14 = .ok (.getfield 45, 3) := by decide +kernel
theorem dX9_passDay_17 : decode cX9_passDay 17 = .ok (.getfield 49, 3) := by decide +kernel
theorem dX9_passDay_20 : decode cX9_passDay 20 = .ok (.if_icmp .ge 39, 3) := by decide +kernel
theorem dX9_passDay_23 : decode cX9_passDay 23 = .ok (.aload_n 1, 1) := by decide +kernel
theorem dX9_passDay_24 : decode cX9_passDay 24 = .ok (.getfield 45, 3) := by decide +kernel
theorem dX9_passDay_27 : decode cX9_passDay 27 = .ok (.getfield 134, 3) := by decide +kernel
theorem dX9_passDay_30 : decode cX9_passDay 30 = .ok (.iload_n 2, 1) := by decide +kernel
theorem dX9_passDay_31 : decode cX9_passDay 31 = .ok (.iaload, 1) := by decide +kernel
theorem dX9_passDay_32 : decode cX9_passDay 32 = .ok (.aload_n 0, 1) := by decide +kernel
theorem dX9_passDay_33 : decode cX9_passDay 33 = .ok (.getfield 33, 3) := by decide +kernel
theorem dX9_passDay_36 : decode cX9_passDay 36 = .ok (.if_icmp .ne 17, 3) := by decide +kernel
theorem dX9_passDay_39 : decode cX9_passDay 39 = .ok (.aload_n 0, 1) := by decide +kernel
theorem dX9_passDay_40 : decode cX9_passDay 40 = .ok (.iload_n 2, 1) := by decide +kernel
theorem dX9_passDay_41 : decode cX9_passDay 41 = .ok (.invokevirtual 104, 3) := by decide +kernel
theorem dX9_passDay_44 : decode cX9_passDay 44 = .ok (.ifCond .eq 9, 3) := by decide +kernel
theorem dX9_passDay_47 : decode cX9_passDay 47 = .ok (.aload_n 0, 1) := by decide +kernel
theorem dX9_passDay_48 : decode cX9_passDay 48 = .ok (.aload_n 1, 1) := by decide +kernel
theorem dX9_passDay_49 : decode cX9_passDay 49 = .ok (.iload_n 2, 1) := by decide +kernel
theorem dX9_passDay_50 : decode cX9_passDay 50 = .ok (.invokevirtual 184, 3) := by decide +kernel
theorem dX9_passDay_53 : decode cX9_passDay 53 = .ok (.iinc 2 1, 3) := by decide +kernel
theorem dX9_passDay_56 : decode cX9_passDay 56 = .ok (.goto (-44), 3) := by decide +kernel
theorem dX9_passDay_59 : decode cX9_passDay 59 = .ok (.iconst 0, 1) := by decide +kernel
theorem dX9_passDay_60 : decode cX9_passDay 60 = .ok (.istore_n 2, 1) := by decide +kernel
theorem dX9_passDay_61 : decode cX9_passDay 61 = .ok (.iload_n 2, 1) := by decide +kernel
theorem dX9_passDay_62 : decode cX9_passDay 62 = .ok (.aload_n 0, 1) := by decide +kernel
theorem dX9_passDay_63 : decode cX9_passDay 63 = .ok (.getfield 63, 3) := by decide +kernel
theorem dX9_passDay_66 : decode cX9_passDay 66 = .ok (.if_icmp .ge 36, 3) := by decide +kernel
theorem dX9_passDay_69 : decode cX9_passDay 69 = .ok (.aload_n 0, 1) := by decide +kernel
theorem dX9_passDay_70 : decode cX9_passDay 70 = .ok (.iload_n 2, 1) := by decide +kernel
theorem dX9_passDay_71 : decode cX9_passDay 71 = .ok (.invokevirtual 93, 3) := by decide +kernel
theorem dX9_passDay_74 : decode cX9_passDay 74 = .ok (.ifCond .eq 22, 3) := by decide +kernel
theorem dX9_passDay_77 : decode cX9_passDay 77 = .ok (.aload_n 0, 1) := by decide +kernel
theorem dX9_passDay_78 : decode cX9_passDay 78 = .ok (.getfield 18, 3) := by decide +kernel
theorem dX9_passDay_81 : decode cX9_passDay 81 = .ok (.iload_n 2, 1) := by decide +kernel
theorem dX9_passDay_82 : decode cX9_passDay 82 = .ok (.iaload, 1) := by decide +kernel
theorem dX9_passDay_83 : decode cX9_passDay 83 = .ok (.aload_n 0, 1) := by decide +kernel
theorem dX9_passDay_84 : decode cX9_passDay 84 = .ok (.getfield 33, 3) := by decide +kernel
theorem dX9_passDay_87 : decode cX9_passDay 87 = .ok (.if_icmp .ne 9, 3) := by decide +kernel
theorem dX9_passDay_90 : decode cX9_passDay 90 = .ok (.aload_n 0, 1) := by decide +kernel
theorem dX9_passDay_91 : decode cX9_passDay 91 = .ok (.aload_n 1, 1) := by decide +kernel
theorem dX9_passDay_92 : decode cX9_passDay 92 = .ok (.iload_n 2, 1) := by decide +kernel
theorem dX9_passDay_93 : decode cX9_passDay 93 = .ok (.invokevirtual 188, 3) := by decide +kernel
theorem dX9_passDay_96 : decode cX9_passDay 96 = .ok (.iinc 2 1, 3) := by decide +kernel
theorem dX9_passDay_99 : decode cX9_passDay 99 = .ok (.goto (-38), 3) := by decide +kernel
theorem dX9_passDay_102 : decode cX9_passDay 102 = .ok (.return_, 1) := by decide +kernel
set_option maxHeartbeats 4000000 in
set_option maxRecDepth 100000 in
theorem s_X9_passDay (l : Launch) (g : GG) (sz : Nat) (h : Nat) (bday : Int32) (bseed : Int32) (balive : Int32) (bstruck : Int32) (bopen : Int32) (bduels : Int32) (blines : Int32) (bcoins : Nat) (brented : Nat) (bmornings : Nat) (Fbmornings : Nat → Int32) (bhonours : Nat) (bused : Nat) (bsides : Nat) (Fbsides : Nat → Int32) (blog : Nat) (la : Nat) (dduels : Int32) (dduelSides : Nat) (dduelMornings : Nat) (dhonour : Int32) (ddraw : Int32) (dusesOfKind : Nat) (dmen : Nat) (dmen_count : Int32) (dmen_names : Nat) (dmen_dies : Nat) (Fdmen_dies : Nat → Int32) (dmen_coins : Nat) (dmen_fathers : Nat) (Fdmen_fathers : Nat → Int32) (dformulas : Nat) (dreasons : Nat) (hh0 : 0 ≤ bseed.toInt ∧ bseed.toInt ≤ 999) (hh1 : 0 ≤ bduels.toInt ∧ bduels.toInt ≤ 8) (hh2 : 0 ≤ blines.toInt ∧ blines.toInt ≤ 60) (hh3 : Rg 16 0 5 Fbsides) (hh4 : 0 ≤ dduels.toInt ∧ dduels.toInt ≤ 6) (hh6 : 0 ≤ ddraw.toInt ∧ ddraw.toInt ≤ 999) (hh7 : 0 ≤ dmen_count.toInt ∧ dmen_count.toInt ≤ 6) : Met l yX9_passDay (.code yX9_passDay cX9_passDay 3 none :: gT) ({ frames := 4, cells := 0, slots := 0, locals := 93 }) (va_Pc [.ref h, .ref la] (Pst g sz [(h, .inr (9, [.int bday, .int bseed, .int balive, .int bstruck, .int bopen, .int bduels, .int blines, .ref bcoins, .ref brented, .ref bmornings, .ref bhonours, .ref bused, .ref bsides, .ref blog])), (bmornings, aI g 8 Fbmornings), (bsides, aI g 16 Fbsides), (la, .inr (2, [.ref dmen, .ref dformulas, .ref dreasons, .int dduels, .ref dduelSides, .ref dduelMornings, .int dhonour, .int ddraw, .ref dusesOfKind])), (dmen, .inr (3, [.int dmen_count, .ref dmen_names, .ref dmen_dies, .ref dmen_coins, .ref dmen_fathers])), (dmen_dies, aI g 6 Fdmen_dies), (dmen_fathers, aI g 6 Fdmen_fathers)] nX)) (va_Qv (fun ((o0_day, o1_seed, o2_alive, o3_open, o4_F) : Int32 × Int32 × Int32 × Int32 × (Nat → Int32)) => (0 ≤ o1_seed.toInt ∧ o1_seed.toInt ≤ 999) ∧ (Rg 16 0 5 o4_F)) (Qst g [(h, .inr (9, [.int bday, .int bseed, .int balive, .int bstruck, .int bopen, .int bduels, .int blines, .ref bcoins, .ref brented, .ref bmornings, .ref bhonours, .ref bused, .ref bsides, .ref blog])), (bmornings, aI g 8 Fbmornings), (bsides, aI g 16 Fbsides), (la, .inr (2, [.ref dmen, .ref dformulas, .ref dreasons, .int dduels, .ref dduelSides, .ref dduelMornings, .int dhonour, .int ddraw, .ref dusesOfKind])), (dmen, .inr (3, [.int dmen_count, .ref dmen_names, .ref dmen_dies, .ref dmen_coins, .ref dmen_fathers])), (dmen_dies, aI g 6 Fdmen_dies), (dmen_fathers, aI g 6 Fdmen_fathers)] sz (fun ((o0_day, o1_seed, o2_alive, o3_open, o4_F) : Int32 × Int32 × Int32 × Int32 × (Nat → Int32)) => [(h, .inr (9, [.int o0_day, .int o1_seed, .int o2_alive, .int bstruck, .int o3_open, .int bduels, .int blines, .ref bcoins, .ref brented, .ref bmornings, .ref bhonours, .ref bused, .ref bsides, .ref blog])), (bmornings, aI g 8 Fbmornings), (bsides, aI g 16 o4_F), (la, .inr (2, [.ref dmen, .ref dformulas, .ref dreasons, .int dduels, .ref dduelSides, .ref dduelMornings, .int dhonour, .int ddraw, .ref dusesOfKind])), (dmen, .inr (3, [.int dmen_count, .ref dmen_names, .ref dmen_dies, .ref dmen_coins, .ref dmen_fathers])), (dmen_dies, aI g 6 Fdmen_dies), (dmen_fathers, aI g 6 Fdmen_fathers)])) (va_A [(h, .inr (9, [.int bday, .int bseed, .int balive, .int bstruck, .int bopen, .int bduels, .int blines, .ref bcoins, .ref brented, .ref bmornings, .ref bhonours, .ref bused, .ref bsides, .ref blog])), (bmornings, aI g 8 Fbmornings), (bsides, aI g 16 Fbsides), (la, .inr (2, [.ref dmen, .ref dformulas, .ref dreasons, .int dduels, .ref dduelSides, .ref dduelMornings, .int dhonour, .int ddraw, .ref dusesOfKind])), (dmen, .inr (3, [.int dmen_count, .ref dmen_names, .ref dmen_dies, .ref dmen_coins, .ref dmen_fathers])), (dmen_dies, aI g 6 Fdmen_dies), (dmen_fathers, aI g 6 Fdmen_fathers)] sz)) 0 0 (va_A [(h, .inr (9, [.int bday, .int bseed, .int balive, .int bstruck, .int bopen, .int bduels, .int blines, .ref bcoins, .ref brented, .ref bmornings, .ref bhonours, .ref bused, .ref bsides, .ref blog])), (bmornings, aI g 8 Fbmornings), (bsides, aI g 16 Fbsides), (la, .inr (2, [.ref dmen, .ref dformulas, .ref dreasons, .int dduels, .ref dduelSides, .ref dduelMornings, .int dhonour, .int ddraw, .ref dusesOfKind])), (dmen, .inr (3, [.int dmen_count, .ref dmen_names, .ref dmen_dies, .ref dmen_coins, .ref dmen_fathers])), (dmen_dies, aI g 6 Fdmen_dies), (dmen_fathers, aI g 6 Fdmen_fathers)] sz) := by
  refine Met.ofW (cc := cX9_passDay) (maxL := 3) (ret := none) (by decide) rfl ?_
  intro p e s m args below meth c s₁ B hml hv
  obtain ⟨rfl, hsz, hP, hK, hD0, hX⟩ := hv
  have hx := B.exec
  have hb := B.bytes
  have hr := B.returns
  have hT : ∀ w ∈ gT, w.before _ s = true := fun w h => atoms_spec (ws := .code yX9_passDay cX9_passDay 3 none :: gT) B.pre w (List.mem_cons_of_mem _ h)
  have hown : s.vm.findClass RX9 = some m.cls := findClass_of_methodNamed B.named
  have hlocks := B.notSynchronized
  subst hsz
  have hD := hD0.self (sz := s.heap.size)
  generalize hAe : va_A [(h, .inr (9, [.int bday, .int bseed, .int balive, .int bstruck, .int bopen, .int bduels, .int blines, .ref bcoins, .ref brented, .ref bmornings, .ref bhonours, .ref bused, .ref bsides, .ref blog])), (bmornings, aI g 8 Fbmornings), (bsides, aI g 16 Fbsides), (la, .inr (2, [.ref dmen, .ref dformulas, .ref dreasons, .int dduels, .ref dduelSides, .ref dduelMornings, .int dhonour, .int ddraw, .ref dusesOfKind])), (dmen, .inr (3, [.int dmen_count, .ref dmen_names, .ref dmen_dies, .ref dmen_coins, .ref dmen_fathers])), (dmen_dies, aI g 6 Fdmen_dies), (dmen_fathers, aI g 6 Fdmen_fathers)] s.heap.size = A at hD ⊢
  have hA : ∀ q : Nat, s.heap.size ≤ q → A q := fun q h => by rw [← hAe]; exact Or.inr h
  have hS : va_S A s.heap s.heap [] := va_S.rf
  have hl := lv_entry ([.ref h, .ref la]) (n := 3) (Nat.le_of_ble_eq_true rfl)
  rw [lg_entry_eq]
  generalize (lg_sl ([.ref h, .ref la]) ++ List.replicate (3 - (lg_sl ([.ref h, .ref la])).length) Slot.unset).toArray = ls at hl ⊢
  have hl : lv_has ls 3 [(0, .ref h), (1, .ref la)] := hl
  refine p_nH (fun H hH => ?_)
  have hP : va_P g.1 vwCl [(h, .inr (9, [.int bday, .int bseed, .int balive, .int bstruck, .int bopen, .int bduels, .int blines, .ref bcoins, .ref brented, .ref bmornings, .ref bhonours, .ref bused, .ref bsides, .ref blog])), (bmornings, aI g 8 Fbmornings), (bsides, aI g 16 Fbsides), (la, .inr (2, [.ref dmen, .ref dformulas, .ref dreasons, .int dduels, .ref dduelSides, .ref dduelMornings, .int dhonour, .int ddraw, .ref dusesOfKind])), (dmen, .inr (3, [.int dmen_count, .ref dmen_names, .ref dmen_dies, .ref dmen_coins, .ref dmen_fathers])), (dmen_dies, aI g 6 Fdmen_dies), (dmen_fathers, aI g 6 Fdmen_fathers)] H := by rw [hH]; exact hP
  have hS : va_S A s.heap H [] := by rw [hH]; exact hS
  refine lv_aload_n hx hb dX9_passDay_0 rfl (lv_at hl 0 rfl) ?_
  refine lv_dup hx hb dX9_passDay_1 rfl ?_
  refine va_get (D := g.1) (ci := 9) (v := .int bday) (C := RX9) (T := TX9) (N := 14) hx hb hT inF_X9 hown hK.1 hP 0 rfl rfl 0 (by decide) (hT _ bw_41) (fun _ h9 => h9) rfl dX9_passDay_2 ?_
  refine lv_iconst (v := 1) hx hb dX9_passDay_5 (by decide) ?_
  refine lv_iadd hx hb dX9_passDay_6 ?_
  refine lv_topi (fun x_1 ex_1 => ?_)
  refine va_put (D := g.1) (ci := 9) (v := .int x_1) (ty := .int) (C := RX9) (T := TX9) (N := 14) hx hb hT inF_X9 tyX9 tyX9_ok nmX9 hown hK.1 hP hD hS 0 rfl rfl 0 (by decide) (hT _ bw_41) (fun _ h9 => h9) rfl (by decide +kernel) rfl rfl (Nat.le_of_ble_eq_true rfl) dX9_passDay_7 (fun H locs hP hD hS => ?_)
  have hP : va_P g.1 vwCl [(h, .inr (9, [.int x_1, .int bseed, .int balive, .int bstruck, .int bopen, .int bduels, .int blines, .ref bcoins, .ref brented, .ref bmornings, .ref bhonours, .ref bused, .ref bsides, .ref blog])), (bmornings, aI g 8 Fbmornings), (bsides, aI g 16 Fbsides), (la, .inr (2, [.ref dmen, .ref dformulas, .ref dreasons, .int dduels, .ref dduelSides, .ref dduelMornings, .int dhonour, .int ddraw, .ref dusesOfKind])), (dmen, .inr (3, [.int dmen_count, .ref dmen_names, .ref dmen_dies, .ref dmen_coins, .ref dmen_fathers])), (dmen_dies, aI g 6 Fdmen_dies), (dmen_fathers, aI g 6 Fdmen_fathers)] H := hP
  have hD : va_D A [(h, .inr (9, [.int x_1, .int bseed, .int balive, .int bstruck, .int bopen, .int bduels, .int blines, .ref bcoins, .ref brented, .ref bmornings, .ref bhonours, .ref bused, .ref bsides, .ref blog])), (bmornings, aI g 8 Fbmornings), (bsides, aI g 16 Fbsides), (la, .inr (2, [.ref dmen, .ref dformulas, .ref dreasons, .int dduels, .ref dduelSides, .ref dduelMornings, .int dhonour, .int ddraw, .ref dusesOfKind])), (dmen, .inr (3, [.int dmen_count, .ref dmen_names, .ref dmen_dies, .ref dmen_coins, .ref dmen_fathers])), (dmen_dies, aI g 6 Fdmen_dies), (dmen_fathers, aI g 6 Fdmen_fathers)] := hD
  refine lv_iconst (v := 0) hx hb dX9_passDay_10 (by decide) ?_
  refine lv_istore_n (lv' := [(2, .int 0), (0, .ref h), (1, .ref la)]) hx hb dX9_passDay_11 rfl hl (by decide) rfl (fun ls hl => ?_)
  refine k_floop 12 (fun n H locs ls => ∃ (L_2 : Int32) (L_3 : Int32) (L_4 : Int32) (f_5 : Nat → Int32), (0 ≤ L_2.toInt ∧ L_2.toInt ≤ 6) ∧ (Rg 16 0 5 f_5) ∧ 6 - L_2.toInt ≤ (n : Int) ∧ va_P g.1 vwCl [(h, .inr (9, [.int x_1, .int bseed, .int L_3, .int bstruck, .int L_4, .int bduels, .int blines, .ref bcoins, .ref brented, .ref bmornings, .ref bhonours, .ref bused, .ref bsides, .ref blog])), (bmornings, aI g 8 Fbmornings), (bsides, aI g 16 f_5), (la, .inr (2, [.ref dmen, .ref dformulas, .ref dreasons, .int dduels, .ref dduelSides, .ref dduelMornings, .int dhonour, .int ddraw, .ref dusesOfKind])), (dmen, .inr (3, [.int dmen_count, .ref dmen_names, .ref dmen_dies, .ref dmen_coins, .ref dmen_fathers])), (dmen_dies, aI g 6 Fdmen_dies), (dmen_fathers, aI g 6 Fdmen_fathers)] H ∧ va_D A [(h, .inr (9, [.int x_1, .int bseed, .int L_3, .int bstruck, .int L_4, .int bduels, .int blines, .ref bcoins, .ref brented, .ref bmornings, .ref bhonours, .ref bused, .ref bsides, .ref blog])), (bmornings, aI g 8 Fbmornings), (bsides, aI g 16 f_5), (la, .inr (2, [.ref dmen, .ref dformulas, .ref dreasons, .int dduels, .ref dduelSides, .ref dduelMornings, .int dhonour, .int ddraw, .ref dusesOfKind])), (dmen, .inr (3, [.int dmen_count, .ref dmen_names, .ref dmen_dies, .ref dmen_coins, .ref dmen_fathers])), (dmen_dies, aI g 6 Fdmen_dies), (dmen_fathers, aI g 6 Fdmen_fathers)] ∧ va_S A s.heap H locs ∧ lv_has ls 3 [(2, .int L_2), (0, .ref h), (1, .ref la)]) (fun n H locs ls hI ih => ?_) ((6 - 0 : Int)).toNat ⟨0, balive, bopen, Fbsides, by decide, hh3, by have k0 : (0 : Int32).toInt = 0 := (by decide); omega, hP, hD, hS, hl⟩
  refine hI.elim (fun L_2 hI => hI.elim (fun L_3 hI => hI.elim (fun L_4 hI => hI.elim (fun f_5 hI => ?_))))
  have g_6 := hI.1
  have g_7 := hI.2.1
  have hm_8 := hI.2.2.1
  have hP := hI.2.2.2.1
  have hD := hI.2.2.2.2.1
  have hS := hI.2.2.2.2.2.1
  have hl := hI.2.2.2.2.2.2
  clear hI
  refine lv_iload_n hx hb dX9_passDay_12 rfl (lv_at hl 0 rfl) ?_
  refine lv_aload_n hx hb dX9_passDay_13 rfl (lv_at hl 2 rfl) ?_
  refine va_get (D := g.1) (ci := 2) (v := .ref dmen) (C := RX2) (T := TX2) (N := 9) hx hb hT inF_X2 hown hK.1 hP 3 rfl rfl 0 (by decide) (hT _ bw_53) (fun _ h9 => h9) rfl dX9_passDay_14 ?_
  refine va_get (D := g.1) (ci := 3) (v := .int dmen_count) (C := RX3) (T := TX3) (N := 5) hx hb hT inF_X3 hown hK.1 hP 4 rfl rfl 0 (by decide) (hT _ bw_54) (fun _ h9 => h9) rfl dX9_passDay_17 ?_
  refine lv_icmp_ge (tgt := 59) hx hb dX9_passDay_20 (by decide) (fun c_9 => ?_) (fun c_9 => ?_)
  · have f_10 := E_le (rfl : dmen_count.toInt = _) (rfl : L_2.toInt = _) c_9
    refine lv_iconst (v := 0) hx hb dX9_passDay_59 (by decide) ?_
    refine lv_istore_n (lv' := [(2, .int 0), (0, .ref h), (1, .ref la)]) hx hb dX9_passDay_60 rfl hl (by decide) rfl (fun ls hl => ?_)
    refine k_floop 61 (fun n H locs ls => ∃ (L_11 : Int32) (L_12 : Int32) (L_13 : Int32) (L_14 : Int32) (f_15 : Nat → Int32), (0 ≤ L_11.toInt ∧ L_11.toInt ≤ 8) ∧ (0 ≤ L_14.toInt ∧ L_14.toInt ≤ 999) ∧ (Rg 16 0 5 f_15) ∧ 8 - L_11.toInt ≤ (n : Int) ∧ va_P g.1 vwCl [(h, .inr (9, [.int x_1, .int L_14, .int L_12, .int bstruck, .int L_13, .int bduels, .int blines, .ref bcoins, .ref brented, .ref bmornings, .ref bhonours, .ref bused, .ref bsides, .ref blog])), (bmornings, aI g 8 Fbmornings), (bsides, aI g 16 f_15), (la, .inr (2, [.ref dmen, .ref dformulas, .ref dreasons, .int dduels, .ref dduelSides, .ref dduelMornings, .int dhonour, .int ddraw, .ref dusesOfKind])), (dmen, .inr (3, [.int dmen_count, .ref dmen_names, .ref dmen_dies, .ref dmen_coins, .ref dmen_fathers])), (dmen_dies, aI g 6 Fdmen_dies), (dmen_fathers, aI g 6 Fdmen_fathers)] H ∧ va_D A [(h, .inr (9, [.int x_1, .int L_14, .int L_12, .int bstruck, .int L_13, .int bduels, .int blines, .ref bcoins, .ref brented, .ref bmornings, .ref bhonours, .ref bused, .ref bsides, .ref blog])), (bmornings, aI g 8 Fbmornings), (bsides, aI g 16 f_15), (la, .inr (2, [.ref dmen, .ref dformulas, .ref dreasons, .int dduels, .ref dduelSides, .ref dduelMornings, .int dhonour, .int ddraw, .ref dusesOfKind])), (dmen, .inr (3, [.int dmen_count, .ref dmen_names, .ref dmen_dies, .ref dmen_coins, .ref dmen_fathers])), (dmen_dies, aI g 6 Fdmen_dies), (dmen_fathers, aI g 6 Fdmen_fathers)] ∧ va_S A s.heap H locs ∧ lv_has ls 3 [(2, .int L_11), (0, .ref h), (1, .ref la)]) (fun n1 H locs ls hI ih1 => ?_) ((8 - 0 : Int)).toNat ⟨0, L_3, L_4, bseed, f_5, by decide, (by first | with_reducible assumption | omega), g_7, by have k0 : (0 : Int32).toInt = 0 := (by decide); omega, hP, hD, hS, hl⟩
    refine hI.elim (fun L_11 hI => hI.elim (fun L_12 hI => hI.elim (fun L_13 hI => hI.elim (fun L_14 hI => hI.elim (fun f_15 hI => ?_)))))
    have g_16 := hI.1
    have g_17 := hI.2.1
    have g_18 := hI.2.2.1
    have hm_19 := hI.2.2.2.1
    have hP := hI.2.2.2.2.1
    have hD := hI.2.2.2.2.2.1
    have hS := hI.2.2.2.2.2.2.1
    have hl := hI.2.2.2.2.2.2.2
    clear hI
    refine lv_iload_n hx hb dX9_passDay_61 rfl (lv_at hl 0 rfl) ?_
    refine lv_aload_n hx hb dX9_passDay_62 rfl (lv_at hl 1 rfl) ?_
    refine va_get (D := g.1) (ci := 9) (v := .int bduels) (C := RX9) (T := TX9) (N := 14) hx hb hT inF_X9 hown hK.1 hP 0 rfl rfl 5 (by decide) (hT _ bw_33) (fun _ h9 => h9) rfl dX9_passDay_63 ?_
    refine lv_icmp_ge (tgt := 102) hx hb dX9_passDay_66 (by decide) (fun c_20 => ?_) (fun c_20 => ?_)
    · have f_21 := E_le (rfl : bduels.toInt = _) (rfl : L_11.toInt = _) c_20
      have hP9 : va_P g.1 vwCl [(h, .inr (9, [.int x_1, .int L_14, .int L_12, .int bstruck, .int L_13, .int bduels, .int blines, .ref bcoins, .ref brented, .ref bmornings, .ref bhonours, .ref bused, .ref bsides, .ref blog])), (bmornings, aI g 8 Fbmornings), (bsides, aI g 16 f_15), (la, .inr (2, [.ref dmen, .ref dformulas, .ref dreasons, .int dduels, .ref dduelSides, .ref dduelMornings, .int dhonour, .int ddraw, .ref dusesOfKind])), (dmen, .inr (3, [.int dmen_count, .ref dmen_names, .ref dmen_dies, .ref dmen_coins, .ref dmen_fathers])), (dmen_dies, aI g 6 Fdmen_dies), (dmen_fathers, aI g 6 Fdmen_fathers)] H := hP.sub [0, 1, 2, 3, 4, 5, 6] rfl
      have hD9 : va_D A [(h, .inr (9, [.int x_1, .int L_14, .int L_12, .int bstruck, .int L_13, .int bduels, .int blines, .ref bcoins, .ref brented, .ref bmornings, .ref bhonours, .ref bused, .ref bsides, .ref blog])), (bmornings, aI g 8 Fbmornings), (bsides, aI g 16 f_15), (la, .inr (2, [.ref dmen, .ref dformulas, .ref dreasons, .int dduels, .ref dduelSides, .ref dduelMornings, .int dhonour, .int ddraw, .ref dusesOfKind])), (dmen, .inr (3, [.int dmen_count, .ref dmen_names, .ref dmen_dies, .ref dmen_coins, .ref dmen_fathers])), (dmen_dies, aI g 6 Fdmen_dies), (dmen_fathers, aI g 6 Fdmen_fathers)] := hD.sub [0, 1, 2, 3, 4, 5, 6] (by decide +kernel) rfl
      exact W.vret hx hb hr (fun t ht hW => ⟨⟨(x_1, L_14, L_12, L_13, f_15), rfl, ⟨(by first | with_reducible assumption | omega), g_18⟩, by rw [ht]; exact hP9, by rw [hAe]; exact hD9⟩, hS.F ht⟩) hS.2.2 dX9_passDay_102
    · have f_22 := E_nle (rfl : bduels.toInt = _) (rfl : L_11.toInt = _) c_20
      refine lv_aload_n hx hb dX9_passDay_69 rfl (lv_at hl 1 rfl) ?_
      refine lv_iload_n hx hb dX9_passDay_70 rfl (lv_at hl 0 rfl) ?_
      refine k_iR (k_V (n := 1) ⟨hx, hb, hml, hown, hT⟩ hK hP hD [0] rfl (by decide +kernel) (s_X9_isOpen l g H.size h x_1 L_14 L_12 bstruck L_13 bduels blines bcoins brented bmornings bhonours bused bsides blog L_11 (by first | with_reducible assumption | omega) (by first | with_reducible assumption | omega) (by first | with_reducible assumption | omega)) (gV bw_43 bw_44 bw_45 bw_46 bw_32) rfl rfl (by decide +kernel) ⟨by decide, by decide⟩ (ci := 9) (q0 := 0) rfl rfl (fun _ _ _ _ _ => trivial) (fun _ _ _ => trivial) rfl rfl hl.1 (Nat.le_of_ble_eq_true rfl) dX9_passDay_71 ⟨by decide, by decide⟩) hP hS hA (fun r_23 _ H locs hw0 hP hS => ?_)
      have hw : 0 ≤ r_23.toInt ∧ r_23.toInt ≤ 1 := hw0
      clear hw0
      have w_24 := hw
      refine lv_if_eq (tgt := 96) hx hb dX9_passDay_74 (by decide) (fun c_25 => ?_) (fun c_25 => ?_)
      · have f_26 := E_eq (rfl : r_23.toInt = _) (by decide : (0 : Int32).toInt = 0) c_25
        obtain ⟨x_27, ex_27⟩ : ∃ y : Int32, y = L_11 + 1 := ⟨_, rfl⟩
        have fx_27 : x_27.toInt = L_11.toInt + 1 := by rw [ex_27]; exact I_add rfl (by decide) (by omega) (by omega)
        refine lv_iinc (v := x_27) (lv' := [(2, .int x_27), (0, .ref h), (1, .ref la)]) hx hb dX9_passDay_96 hl (k := 0) rfl (by rw [ex_27]; rfl) (by decide) rfl (fun ls hl => ?_)
        refine lv_goto (tgt := 61) hx hb dX9_passDay_99 (by decide) ?_
        exact ih1 (n1 - 1) (by omega) H locs ls ⟨x_27, L_12, L_13, L_14, f_15, (by first | with_reducible assumption | omega), (by first | with_reducible assumption | omega), g_18, by omega, hP.sub [0, 1, 2, 3, 4, 5, 6] rfl, hD.sub [0, 1, 2, 3, 4, 5, 6] (by decide +kernel) rfl, hS, lv_sub hl [0, 1, 2] rfl⟩
      · have f_28 := E_ne (rfl : r_23.toInt = _) (by decide : (0 : Int32).toInt = 0) c_25
        refine lv_aload_n hx hb dX9_passDay_77 rfl (lv_at hl 1 rfl) ?_
        refine va_get (D := g.1) (ci := 9) (v := .ref bmornings) (C := RX9) (T := TX9) (N := 14) hx hb hT inF_X9 hown hK.1 hP 0 rfl rfl 9 (by decide) (hT _ bw_51) (fun _ h9 => h9) rfl dX9_passDay_78 ?_
        refine lv_iload_n hx hb dX9_passDay_81 rfl (lv_at hl 0 rfl) ?_
        have h_29 : vp_in L_11 8 := vp_in_iff.mpr (by omega)
        refine va_iald hx hb hK.1 hP 1 1 rfl rfl (i := L_11) h_29 dX9_passDay_82 ?_
        refine lv_topi (fun x_30 ex_30 => ?_)
        have ux_30 := congrArg Int32.toInt ex_30
        refine lv_aload_n hx hb dX9_passDay_83 rfl (lv_at hl 1 rfl) ?_
        refine va_get (D := g.1) (ci := 9) (v := .int x_1) (C := RX9) (T := TX9) (N := 14) hx hb hT inF_X9 hown hK.1 hP 0 rfl rfl 0 (by decide) (hT _ bw_41) (fun _ h9 => h9) rfl dX9_passDay_84 ?_
        refine lv_icmp_ne (tgt := 96) hx hb dX9_passDay_87 (by decide) (fun c_31 => ?_) (fun c_31 => ?_)
        · have f_32 := E_ne (rfl : x_30.toInt = _) (rfl : x_1.toInt = _) c_31
          obtain ⟨x_33, ex_33⟩ : ∃ y : Int32, y = L_11 + 1 := ⟨_, rfl⟩
          have fx_33 : x_33.toInt = L_11.toInt + 1 := by rw [ex_33]; exact I_add rfl (by decide) (by omega) (by omega)
          refine lv_iinc (v := x_33) (lv' := [(2, .int x_33), (0, .ref h), (1, .ref la)]) hx hb dX9_passDay_96 hl (k := 0) rfl (by rw [ex_33]; rfl) (by decide) rfl (fun ls hl => ?_)
          refine lv_goto (tgt := 61) hx hb dX9_passDay_99 (by decide) ?_
          exact ih1 (n1 - 1) (by omega) H locs ls ⟨x_33, L_12, L_13, L_14, f_15, (by first | with_reducible assumption | omega), (by first | with_reducible assumption | omega), g_18, by omega, hP.sub [0, 1, 2, 3, 4, 5, 6] rfl, hD.sub [0, 1, 2, 3, 4, 5, 6] (by decide +kernel) rfl, hS, lv_sub hl [0, 1, 2] rfl⟩
        · have f_34 := E_eq (rfl : x_30.toInt = _) (rfl : x_1.toInt = _) c_31
          refine lv_aload_n hx hb dX9_passDay_90 rfl (lv_at hl 1 rfl) ?_
          refine lv_aload_n hx hb dX9_passDay_91 rfl (lv_at hl 2 rfl) ?_
          refine lv_iload_n hx hb dX9_passDay_92 rfl (lv_at hl 0 rfl) ?_
          refine k_v (wr := [(bmornings, aI g 8 Fbmornings), (dmen_dies, aI g 6 Fdmen_dies)]) (k_V (n := 2) ⟨hx, hb, hml, hown, hT⟩ hK hP hD [0, 2, 3, 4, 6] rfl (by decide +kernel) (s_X9_fight l g H.size h x_1 L_14 L_12 bstruck L_13 bduels blines bcoins brented bmornings bhonours bused bsides f_15 blog la dduels dduelSides dduelMornings dhonour ddraw dusesOfKind dmen dmen_count dmen_names dmen_dies dmen_coins dmen_fathers Fdmen_fathers dformulas dreasons L_11 (by first | with_reducible assumption | omega) (by first | with_reducible assumption | omega) (by first | with_reducible assumption | omega) g_18 (by first | with_reducible assumption | omega) (by first | with_reducible assumption | omega) (by first | with_reducible assumption | omega) (by first | with_reducible assumption | omega)) (gV bw_92 bw_93 bw_94 bw_46 bw_91) rfl rfl (by decide +kernel) ⟨by decide, by decide⟩ (ci := 9) (q0 := 0) rfl rfl (fun _ _ _ _ _ => trivial) (fun _ _ _ => trivial) rfl rfl hl.1 (Nat.le_of_ble_eq_true rfl) dX9_passDay_93 ⟨by decide, by decide⟩) hP hD hS hA [0, 2, 3, 4, 6] [1, 5] rfl rfl (by decide +kernel) (by decide +kernel) (pr_all fun y_35 => pr_all fun y_36 => pr_all fun y_37 => fun f_38 H locs hw0 hP hD hS => ?_)
          have hP : va_P g.1 vwCl [(bmornings, aI g 8 Fbmornings), (dmen_dies, aI g 6 Fdmen_dies), (h, .inr (9, [.int x_1, .int y_35, .int y_36, .int bstruck, .int y_37, .int bduels, .int blines, .ref bcoins, .ref brented, .ref bmornings, .ref bhonours, .ref bused, .ref bsides, .ref blog])), (bsides, aI g 16 f_38), (la, .inr (2, [.ref dmen, .ref dformulas, .ref dreasons, .int dduels, .ref dduelSides, .ref dduelMornings, .int dhonour, .int ddraw, .ref dusesOfKind])), (dmen, .inr (3, [.int dmen_count, .ref dmen_names, .ref dmen_dies, .ref dmen_coins, .ref dmen_fathers])), (dmen_fathers, aI g 6 Fdmen_fathers)] H := hP
          have hD : va_D A [(bmornings, aI g 8 Fbmornings), (dmen_dies, aI g 6 Fdmen_dies), (h, .inr (9, [.int x_1, .int y_35, .int y_36, .int bstruck, .int y_37, .int bduels, .int blines, .ref bcoins, .ref brented, .ref bmornings, .ref bhonours, .ref bused, .ref bsides, .ref blog])), (bsides, aI g 16 f_38), (la, .inr (2, [.ref dmen, .ref dformulas, .ref dreasons, .int dduels, .ref dduelSides, .ref dduelMornings, .int dhonour, .int ddraw, .ref dusesOfKind])), (dmen, .inr (3, [.int dmen_count, .ref dmen_names, .ref dmen_dies, .ref dmen_coins, .ref dmen_fathers])), (dmen_fathers, aI g 6 Fdmen_fathers)] := hD
          have hw : (0 ≤ y_35.toInt ∧ y_35.toInt ≤ 999) ∧ (Rg 16 0 5 f_38) := hw0
          clear hw0
          have w_39 := hw.1
          have w_40 := hw.2
          clear hw
          obtain ⟨x_41, ex_41⟩ : ∃ y : Int32, y = L_11 + 1 := ⟨_, rfl⟩
          have fx_41 : x_41.toInt = L_11.toInt + 1 := by rw [ex_41]; exact I_add rfl (by decide) (by omega) (by omega)
          refine lv_iinc (v := x_41) (lv' := [(2, .int x_41), (0, .ref h), (1, .ref la)]) hx hb dX9_passDay_96 hl (k := 0) rfl (by rw [ex_41]; rfl) (by decide) rfl (fun ls hl => ?_)
          refine lv_goto (tgt := 61) hx hb dX9_passDay_99 (by decide) ?_
          exact ih1 (n1 - 1) (by omega) H locs ls ⟨x_41, y_36, y_37, y_35, f_38, (by first | with_reducible assumption | omega), (by first | with_reducible assumption | omega), w_40, by omega, hP.sub [2, 0, 3, 4, 5, 1, 6] rfl, hD.sub [2, 0, 3, 4, 5, 1, 6] (by decide +kernel) rfl, hS, lv_sub hl [0, 1, 2] rfl⟩
  · have f_42 := E_nle (rfl : dmen_count.toInt = _) (rfl : L_2.toInt = _) c_9
    refine lv_aload_n hx hb dX9_passDay_23 rfl (lv_at hl 2 rfl) ?_
    refine va_get (D := g.1) (ci := 2) (v := .ref dmen) (C := RX2) (T := TX2) (N := 9) hx hb hT inF_X2 hown hK.1 hP 3 rfl rfl 0 (by decide) (hT _ bw_53) (fun _ h9 => h9) rfl dX9_passDay_24 ?_
    refine va_get (D := g.1) (ci := 3) (v := .ref dmen_dies) (C := RX3) (T := TX3) (N := 5) hx hb hT inF_X3 hown hK.1 hP 4 rfl rfl 2 (by decide) (hT _ bw_95) (fun _ h9 => h9) rfl dX9_passDay_27 ?_
    refine lv_iload_n hx hb dX9_passDay_30 rfl (lv_at hl 0 rfl) ?_
    have h_43 : vp_in L_2 6 := vp_in_iff.mpr (by omega)
    refine va_iald hx hb hK.1 hP 5 1 rfl rfl (i := L_2) h_43 dX9_passDay_31 ?_
    refine lv_topi (fun x_44 ex_44 => ?_)
    have ux_44 := congrArg Int32.toInt ex_44
    refine lv_aload_n hx hb dX9_passDay_32 rfl (lv_at hl 1 rfl) ?_
    refine va_get (D := g.1) (ci := 9) (v := .int x_1) (C := RX9) (T := TX9) (N := 14) hx hb hT inF_X9 hown hK.1 hP 0 rfl rfl 0 (by decide) (hT _ bw_41) (fun _ h9 => h9) rfl dX9_passDay_33 ?_
    refine lv_icmp_ne (tgt := 53) hx hb dX9_passDay_36 (by decide) (fun c_45 => ?_) (fun c_45 => ?_)
    · have f_46 := E_ne (rfl : x_44.toInt = _) (rfl : x_1.toInt = _) c_45
      obtain ⟨x_47, ex_47⟩ : ∃ y : Int32, y = L_2 + 1 := ⟨_, rfl⟩
      have fx_47 : x_47.toInt = L_2.toInt + 1 := by rw [ex_47]; exact I_add rfl (by decide) (by omega) (by omega)
      refine lv_iinc (v := x_47) (lv' := [(2, .int x_47), (0, .ref h), (1, .ref la)]) hx hb dX9_passDay_53 hl (k := 0) rfl (by rw [ex_47]; rfl) (by decide) rfl (fun ls hl => ?_)
      refine lv_goto (tgt := 12) hx hb dX9_passDay_56 (by decide) ?_
      exact ih (n - 1) (by omega) H locs ls ⟨x_47, L_3, L_4, f_5, (by first | with_reducible assumption | omega), g_7, by omega, hP.sub [0, 1, 2, 3, 4, 5, 6] rfl, hD.sub [0, 1, 2, 3, 4, 5, 6] (by decide +kernel) rfl, hS, lv_sub hl [0, 1, 2] rfl⟩
    · have f_48 := E_eq (rfl : x_44.toInt = _) (rfl : x_1.toInt = _) c_45
      refine lv_aload_n hx hb dX9_passDay_39 rfl (lv_at hl 1 rfl) ?_
      refine lv_iload_n hx hb dX9_passDay_40 rfl (lv_at hl 0 rfl) ?_
      refine k_iR (k_V (n := 1) ⟨hx, hb, hml, hown, hT⟩ hK hP hD [0] rfl (by decide +kernel) (s_X9_isAlive l g H.size h x_1 bseed L_3 bstruck L_4 bduels blines bcoins brented bmornings bhonours bused bsides blog L_2 (by first | with_reducible assumption | omega) (by first | with_reducible assumption | omega) (by first | with_reducible assumption | omega)) (gV bw_56 bw_57 bw_58 bw_46 bw_28) rfl rfl (by decide +kernel) ⟨by decide, by decide⟩ (ci := 9) (q0 := 0) rfl rfl (fun _ _ _ _ _ => trivial) (fun _ _ _ => trivial) rfl rfl hl.1 (Nat.le_of_ble_eq_true rfl) dX9_passDay_41 ⟨by decide, by decide⟩) hP hS hA (fun r_49 _ H locs hw0 hP hS => ?_)
      have hw : 0 ≤ r_49.toInt ∧ r_49.toInt ≤ 1 := hw0
      clear hw0
      have w_50 := hw
      refine lv_if_eq (tgt := 53) hx hb dX9_passDay_44 (by decide) (fun c_51 => ?_) (fun c_51 => ?_)
      · have f_52 := E_eq (rfl : r_49.toInt = _) (by decide : (0 : Int32).toInt = 0) c_51
        obtain ⟨x_53, ex_53⟩ : ∃ y : Int32, y = L_2 + 1 := ⟨_, rfl⟩
        have fx_53 : x_53.toInt = L_2.toInt + 1 := by rw [ex_53]; exact I_add rfl (by decide) (by omega) (by omega)
        refine lv_iinc (v := x_53) (lv' := [(2, .int x_53), (0, .ref h), (1, .ref la)]) hx hb dX9_passDay_53 hl (k := 0) rfl (by rw [ex_53]; rfl) (by decide) rfl (fun ls hl => ?_)
        refine lv_goto (tgt := 12) hx hb dX9_passDay_56 (by decide) ?_
        exact ih (n - 1) (by omega) H locs ls ⟨x_53, L_3, L_4, f_5, (by first | with_reducible assumption | omega), g_7, by omega, hP.sub [0, 1, 2, 3, 4, 5, 6] rfl, hD.sub [0, 1, 2, 3, 4, 5, 6] (by decide +kernel) rfl, hS, lv_sub hl [0, 1, 2] rfl⟩
      · have f_54 := E_ne (rfl : r_49.toInt = _) (by decide : (0 : Int32).toInt = 0) c_51
        refine lv_aload_n hx hb dX9_passDay_47 rfl (lv_at hl 1 rfl) ?_
        refine lv_aload_n hx hb dX9_passDay_48 rfl (lv_at hl 2 rfl) ?_
        refine lv_iload_n hx hb dX9_passDay_49 rfl (lv_at hl 0 rfl) ?_
        refine k_v (wr := [(bmornings, aI g 8 Fbmornings), (dmen_dies, aI g 6 Fdmen_dies)]) (k_V (n := 2) ⟨hx, hb, hml, hown, hT⟩ hK hP hD [0, 2, 3, 4, 6] rfl (by decide +kernel) (s_X9_bury l g H.size h x_1 bseed L_3 bstruck L_4 bduels blines bcoins brented bmornings bhonours bused bsides f_5 blog la dduels dduelSides dduelMornings dhonour ddraw dusesOfKind dmen dmen_count dmen_names dmen_dies dmen_coins dmen_fathers Fdmen_fathers dformulas dreasons L_2 (by first | with_reducible assumption | omega) (by first | with_reducible assumption | omega) (by first | with_reducible assumption | omega) g_7 (by first | with_reducible assumption | omega) (by first | with_reducible assumption | omega) (by first | with_reducible assumption | omega)) (gV bw_88 bw_89 bw_90 bw_46 bw_81) rfl rfl (by decide +kernel) ⟨by decide, by decide⟩ (ci := 9) (q0 := 0) rfl rfl (fun _ _ _ _ _ => trivial) (fun _ _ _ => trivial) rfl rfl hl.1 (Nat.le_of_ble_eq_true rfl) dX9_passDay_50 ⟨by decide, by decide⟩) hP hD hS hA [0, 2, 3, 4, 6] [1, 5] rfl rfl (by decide +kernel) (by decide +kernel) (pr_all fun y_55 => pr_all fun y_56 => fun f_57 H locs hw0 hP hD hS => ?_)
        have hP : va_P g.1 vwCl [(bmornings, aI g 8 Fbmornings), (dmen_dies, aI g 6 Fdmen_dies), (h, .inr (9, [.int x_1, .int bseed, .int y_55, .int bstruck, .int y_56, .int bduels, .int blines, .ref bcoins, .ref brented, .ref bmornings, .ref bhonours, .ref bused, .ref bsides, .ref blog])), (bsides, aI g 16 f_57), (la, .inr (2, [.ref dmen, .ref dformulas, .ref dreasons, .int dduels, .ref dduelSides, .ref dduelMornings, .int dhonour, .int ddraw, .ref dusesOfKind])), (dmen, .inr (3, [.int dmen_count, .ref dmen_names, .ref dmen_dies, .ref dmen_coins, .ref dmen_fathers])), (dmen_fathers, aI g 6 Fdmen_fathers)] H := hP
        have hD : va_D A [(bmornings, aI g 8 Fbmornings), (dmen_dies, aI g 6 Fdmen_dies), (h, .inr (9, [.int x_1, .int bseed, .int y_55, .int bstruck, .int y_56, .int bduels, .int blines, .ref bcoins, .ref brented, .ref bmornings, .ref bhonours, .ref bused, .ref bsides, .ref blog])), (bsides, aI g 16 f_57), (la, .inr (2, [.ref dmen, .ref dformulas, .ref dreasons, .int dduels, .ref dduelSides, .ref dduelMornings, .int dhonour, .int ddraw, .ref dusesOfKind])), (dmen, .inr (3, [.int dmen_count, .ref dmen_names, .ref dmen_dies, .ref dmen_coins, .ref dmen_fathers])), (dmen_fathers, aI g 6 Fdmen_fathers)] := hD
        have hw : Rg 16 0 5 f_57 := hw0
        clear hw0
        have w_58 := hw
        obtain ⟨x_59, ex_59⟩ : ∃ y : Int32, y = L_2 + 1 := ⟨_, rfl⟩
        have fx_59 : x_59.toInt = L_2.toInt + 1 := by rw [ex_59]; exact I_add rfl (by decide) (by omega) (by omega)
        refine lv_iinc (v := x_59) (lv' := [(2, .int x_59), (0, .ref h), (1, .ref la)]) hx hb dX9_passDay_53 hl (k := 0) rfl (by rw [ex_59]; rfl) (by decide) rfl (fun ls hl => ?_)
        refine lv_goto (tgt := 12) hx hb dX9_passDay_56 (by decide) ?_
        exact ih (n - 1) (by omega) H locs ls ⟨x_59, y_55, y_56, f_57, (by first | with_reducible assumption | omega), w_58, by omega, hP.sub [2, 0, 3, 4, 5, 1, 6] rfl, hD.sub [2, 0, 3, 4, 5, 1, 6] (by decide +kernel) rfl, hS, lv_sub hl [0, 1, 2] rfl⟩

theorem bw_97 : Cond.code yJ7_fill_53178 cJ7_fill_53178 4 none ∈ gT := gT_tb 516 (by decide +kernel) (by decide +kernel)
theorem dJ7_fill_53178_0 : decode cJ7_fill_53178 0 = .ok (.iconst 0, 1) := by decide +kernel
theorem dJ7_fill_53178_1 : decode cJ7_fill_53178 1 = .ok (.istore_n 2, 1) := by decide +kernel
theorem dJ7_fill_53178_2 : decode cJ7_fill_53178 2 = .ok (.aload_n 0, 1) := by decide +kernel
theorem dJ7_fill_53178_3 : decode cJ7_fill_53178 3 = .ok (.arraylength, 1) := by decide +kernel
theorem dJ7_fill_53178_4 : decode cJ7_fill_53178 4 = .ok (.istore_n 3, 1) := by decide +kernel
theorem dJ7_fill_53178_5 : decode cJ7_fill_53178 5 = .ok (.iload_n 2, 1) := by decide +kernel
theorem dJ7_fill_53178_6 : decode cJ7_fill_53178 6 = .ok (.iload_n 3, 1) := by decide +kernel
theorem dJ7_fill_53178_7 : decode cJ7_fill_53178 7 = .ok (.if_icmp .ge 13, 3) := by decide +kernel
theorem dJ7_fill_53178_10 : decode cJ7_fill_53178 10 = .ok (.aload_n 0, 1) := by decide +kernel
theorem dJ7_fill_53178_11 : decode cJ7_fill_53178 11 = .ok (.iload_n 2, 1) := by decide +kernel
theorem dJ7_fill_53178_12 : decode cJ7_fill_53178 12 = .ok (.iload_n 1, 1) := by decide +kernel
theorem dJ7_fill_53178_13 : decode cJ7_fill_53178 13 = .ok (.iastore, 1) := by decide +kernel
theorem dJ7_fill_53178_14 : decode cJ7_fill_53178 14 = .ok (.iinc 2 1, 3) := by decide +kernel
theorem dJ7_fill_53178_17 : decode cJ7_fill_53178 17 = .ok (.goto (-12), 3) := by decide +kernel
theorem dJ7_fill_53178_20 : decode cJ7_fill_53178 20 = .ok (.return_, 1) := by decide +kernel
set_option maxHeartbeats 4000000 in
set_option maxRecDepth 100000 in
theorem s_J7_fill_53178_4 (l : Launch) (g : GG) (sz : Nat) (ga : Nat) (Fga : Nat → Int32) (p0 : Int32) : Met l yJ7_fill_53178 (.code yJ7_fill_53178 cJ7_fill_53178 4 none :: gT) ({ frames := 0, cells := 0, slots := 0, locals := 0 }) (va_Pc [.ref ga, .int p0] (Pst g sz [(ga, aI g 4 Fga)] nX)) (va_Qv (fun (o0_F : (Nat → Int32)) => True) (Qst g [(ga, aI g 4 Fga)] sz (fun (o0_F : (Nat → Int32)) => [(ga, aI g 4 o0_F)])) (va_A [(ga, aI g 4 Fga)] sz)) 0 0 (va_A [(ga, aI g 4 Fga)] sz) := by
  refine Met.ofW (cc := cJ7_fill_53178) (maxL := 4) (ret := none) (by decide) rfl ?_
  intro p e s m args below meth c s₁ B hml hv
  obtain ⟨rfl, hsz, hP, hK, hD0, hX⟩ := hv
  have hx := B.exec
  have hb := B.bytes
  have hr := B.returns
  have hT : ∀ w ∈ gT, w.before _ s = true := fun w h => atoms_spec (ws := .code yJ7_fill_53178 cJ7_fill_53178 4 none :: gT) B.pre w (List.mem_cons_of_mem _ h)
  have hown : s.vm.findClass RJ7 = some m.cls := findClass_of_methodNamed B.named
  have hlocks := B.notSynchronized
  subst hsz
  have hD := hD0.self (sz := s.heap.size)
  generalize hAe : va_A [(ga, aI g 4 Fga)] s.heap.size = A at hD ⊢
  have hA : ∀ q : Nat, s.heap.size ≤ q → A q := fun q h => by rw [← hAe]; exact Or.inr h
  have hS : va_S A s.heap s.heap [] := va_S.rf
  have hl := lv_entry ([.ref ga, .int p0]) (n := 4) (Nat.le_of_ble_eq_true rfl)
  rw [lg_entry_eq]
  generalize (lg_sl ([.ref ga, .int p0]) ++ List.replicate (4 - (lg_sl ([.ref ga, .int p0])).length) Slot.unset).toArray = ls at hl ⊢
  have hl : lv_has ls 4 [(0, .ref ga), (1, .int p0)] := hl
  refine p_nH (fun H hH => ?_)
  have hP : va_P g.1 vwCl [(ga, aI g 4 Fga)] H := by rw [hH]; exact hP
  have hS : va_S A s.heap H [] := by rw [hH]; exact hS
  refine lv_iconst (v := 0) hx hb dJ7_fill_53178_0 (by decide) ?_
  refine lv_istore_n (lv' := [(2, .int 0), (0, .ref ga), (1, .int p0)]) hx hb dJ7_fill_53178_1 rfl hl (by decide) rfl (fun ls hl => ?_)
  refine lv_aload_n hx hb dJ7_fill_53178_2 rfl (lv_at hl 1 rfl) ?_
  refine va_alen (v := 4) hx hb hK.1 hP 0 1 rfl rfl rfl dJ7_fill_53178_3 ?_
  refine lv_istore_n (lv' := [(3, .int 4), (2, .int 0), (0, .ref ga), (1, .int p0)]) hx hb dJ7_fill_53178_4 rfl hl (by decide) rfl (fun ls hl => ?_)
  refine k_floop 5 (fun n H locs ls => ∃ (L_1 : Int32) (f_2 : Nat → Int32), (0 ≤ L_1.toInt ∧ L_1.toInt ≤ 4) ∧ 4 - L_1.toInt ≤ (n : Int) ∧ va_P g.1 vwCl [(ga, aI g 4 f_2)] H ∧ va_D A [(ga, aI g 4 f_2)] ∧ va_S A s.heap H locs ∧ lv_has ls 4 [(3, .int 4), (2, .int L_1), (0, .ref ga), (1, .int p0)]) (fun n H locs ls hI ih => ?_) ((4 - 0 : Int)).toNat ⟨0, Fga, by decide, by have k0 : (0 : Int32).toInt = 0 := (by decide); omega, hP, hD, hS, hl⟩
  refine hI.elim (fun L_1 hI => hI.elim (fun f_2 hI => ?_))
  have g_3 := hI.1
  have hm_4 := hI.2.1
  have hP := hI.2.2.1
  have hD := hI.2.2.2.1
  have hS := hI.2.2.2.2.1
  have hl := hI.2.2.2.2.2
  clear hI
  refine lv_iload_n hx hb dJ7_fill_53178_5 rfl (lv_at hl 1 rfl) ?_
  refine lv_iload_n hx hb dJ7_fill_53178_6 rfl (lv_at hl 0 rfl) ?_
  refine lv_icmp_ge (tgt := 20) hx hb dJ7_fill_53178_7 (by decide) (fun c_5 => ?_) (fun c_5 => ?_)
  · have f_6 := E_le (by decide : (4 : Int32).toInt = 4) (rfl : L_1.toInt = _) c_5
    have hP9 : va_P g.1 vwCl [(ga, aI g 4 f_2)] H := hP.sub [0] rfl
    have hD9 : va_D A [(ga, aI g 4 f_2)] := hD.sub [0] (by decide +kernel) rfl
    exact W.vret hx hb hr (fun t ht hW => ⟨⟨f_2, rfl, trivial, by rw [ht]; exact hP9, by rw [hAe]; exact hD9⟩, hS.F ht⟩) hS.2.2 dJ7_fill_53178_20
  · have f_7 := E_nle (by decide : (4 : Int32).toInt = 4) (rfl : L_1.toInt = _) c_5
    refine lv_aload_n hx hb dJ7_fill_53178_10 rfl (lv_at hl 2 rfl) ?_
    refine lv_iload_n hx hb dJ7_fill_53178_11 rfl (lv_at hl 1 rfl) ?_
    refine lv_iload_n hx hb dJ7_fill_53178_12 rfl (lv_at hl 3 rfl) ?_
    have h_8 : vp_in L_1 4 := vp_in_iff.mpr (by omega)
    refine va_iast hx hb hK.1 hP hD hS 0 1 rfl rfl (i := L_1) (x := p0) h_8 dJ7_fill_53178_13 (fun H locs hP hD hS => ?_)
    generalize upd f_2 (L_1 : Int32).toNatClampNeg p0 = f_9 at hP hD
    have hP : va_P g.1 vwCl [(ga, aI g 4 f_9)] H := hP
    have hD : va_D A [(ga, aI g 4 f_9)] := hD
    obtain ⟨x_10, ex_10⟩ : ∃ y : Int32, y = L_1 + 1 := ⟨_, rfl⟩
    have fx_10 : x_10.toInt = L_1.toInt + 1 := by rw [ex_10]; exact I_add rfl (by decide) (by omega) (by omega)
    refine lv_iinc (v := x_10) (lv' := [(2, .int x_10), (3, .int 4), (0, .ref ga), (1, .int p0)]) hx hb dJ7_fill_53178_14 hl (k := 1) rfl (by rw [ex_10]; rfl) (by decide) rfl (fun ls hl => ?_)
    refine lv_goto (tgt := 5) hx hb dJ7_fill_53178_17 (by decide) ?_
    exact ih (n - 1) (by omega) H locs ls ⟨x_10, f_9, (by first | with_reducible assumption | omega), by omega, hP.sub [0] rfl, hD.sub [0] (by decide +kernel) rfl, hS, lv_sub hl [1, 0, 2, 3] rfl⟩

set_option maxHeartbeats 4000000 in
set_option maxRecDepth 100000 in
theorem s_J7_fill_53178_6 (l : Launch) (g : GG) (sz : Nat) (ga : Nat) (Fga : Nat → Int32) (p0 : Int32) : Met l yJ7_fill_53178 (.code yJ7_fill_53178 cJ7_fill_53178 4 none :: gT) ({ frames := 0, cells := 0, slots := 0, locals := 0 }) (va_Pc [.ref ga, .int p0] (Pst g sz [(ga, aI g 6 Fga)] nX)) (va_Qv (fun (o0_F : (Nat → Int32)) => True) (Qst g [(ga, aI g 6 Fga)] sz (fun (o0_F : (Nat → Int32)) => [(ga, aI g 6 o0_F)])) (va_A [(ga, aI g 6 Fga)] sz)) 0 0 (va_A [(ga, aI g 6 Fga)] sz) := by
  refine Met.ofW (cc := cJ7_fill_53178) (maxL := 4) (ret := none) (by decide) rfl ?_
  intro p e s m args below meth c s₁ B hml hv
  obtain ⟨rfl, hsz, hP, hK, hD0, hX⟩ := hv
  have hx := B.exec
  have hb := B.bytes
  have hr := B.returns
  have hT : ∀ w ∈ gT, w.before _ s = true := fun w h => atoms_spec (ws := .code yJ7_fill_53178 cJ7_fill_53178 4 none :: gT) B.pre w (List.mem_cons_of_mem _ h)
  have hown : s.vm.findClass RJ7 = some m.cls := findClass_of_methodNamed B.named
  have hlocks := B.notSynchronized
  subst hsz
  have hD := hD0.self (sz := s.heap.size)
  generalize hAe : va_A [(ga, aI g 6 Fga)] s.heap.size = A at hD ⊢
  have hA : ∀ q : Nat, s.heap.size ≤ q → A q := fun q h => by rw [← hAe]; exact Or.inr h
  have hS : va_S A s.heap s.heap [] := va_S.rf
  have hl := lv_entry ([.ref ga, .int p0]) (n := 4) (Nat.le_of_ble_eq_true rfl)
  rw [lg_entry_eq]
  generalize (lg_sl ([.ref ga, .int p0]) ++ List.replicate (4 - (lg_sl ([.ref ga, .int p0])).length) Slot.unset).toArray = ls at hl ⊢
  have hl : lv_has ls 4 [(0, .ref ga), (1, .int p0)] := hl
  refine p_nH (fun H hH => ?_)
  have hP : va_P g.1 vwCl [(ga, aI g 6 Fga)] H := by rw [hH]; exact hP
  have hS : va_S A s.heap H [] := by rw [hH]; exact hS
  refine lv_iconst (v := 0) hx hb dJ7_fill_53178_0 (by decide) ?_
  refine lv_istore_n (lv' := [(2, .int 0), (0, .ref ga), (1, .int p0)]) hx hb dJ7_fill_53178_1 rfl hl (by decide) rfl (fun ls hl => ?_)
  refine lv_aload_n hx hb dJ7_fill_53178_2 rfl (lv_at hl 1 rfl) ?_
  refine va_alen (v := 6) hx hb hK.1 hP 0 1 rfl rfl rfl dJ7_fill_53178_3 ?_
  refine lv_istore_n (lv' := [(3, .int 6), (2, .int 0), (0, .ref ga), (1, .int p0)]) hx hb dJ7_fill_53178_4 rfl hl (by decide) rfl (fun ls hl => ?_)
  refine k_floop 5 (fun n H locs ls => ∃ (L_1 : Int32) (f_2 : Nat → Int32), (0 ≤ L_1.toInt ∧ L_1.toInt ≤ 6) ∧ 6 - L_1.toInt ≤ (n : Int) ∧ va_P g.1 vwCl [(ga, aI g 6 f_2)] H ∧ va_D A [(ga, aI g 6 f_2)] ∧ va_S A s.heap H locs ∧ lv_has ls 4 [(3, .int 6), (2, .int L_1), (0, .ref ga), (1, .int p0)]) (fun n H locs ls hI ih => ?_) ((6 - 0 : Int)).toNat ⟨0, Fga, by decide, by have k0 : (0 : Int32).toInt = 0 := (by decide); omega, hP, hD, hS, hl⟩
  refine hI.elim (fun L_1 hI => hI.elim (fun f_2 hI => ?_))
  have g_3 := hI.1
  have hm_4 := hI.2.1
  have hP := hI.2.2.1
  have hD := hI.2.2.2.1
  have hS := hI.2.2.2.2.1
  have hl := hI.2.2.2.2.2
  clear hI
  refine lv_iload_n hx hb dJ7_fill_53178_5 rfl (lv_at hl 1 rfl) ?_
  refine lv_iload_n hx hb dJ7_fill_53178_6 rfl (lv_at hl 0 rfl) ?_
  refine lv_icmp_ge (tgt := 20) hx hb dJ7_fill_53178_7 (by decide) (fun c_5 => ?_) (fun c_5 => ?_)
  · have f_6 := E_le (by decide : (6 : Int32).toInt = 6) (rfl : L_1.toInt = _) c_5
    have hP9 : va_P g.1 vwCl [(ga, aI g 6 f_2)] H := hP.sub [0] rfl
    have hD9 : va_D A [(ga, aI g 6 f_2)] := hD.sub [0] (by decide +kernel) rfl
    exact W.vret hx hb hr (fun t ht hW => ⟨⟨f_2, rfl, trivial, by rw [ht]; exact hP9, by rw [hAe]; exact hD9⟩, hS.F ht⟩) hS.2.2 dJ7_fill_53178_20
  · have f_7 := E_nle (by decide : (6 : Int32).toInt = 6) (rfl : L_1.toInt = _) c_5
    refine lv_aload_n hx hb dJ7_fill_53178_10 rfl (lv_at hl 2 rfl) ?_
    refine lv_iload_n hx hb dJ7_fill_53178_11 rfl (lv_at hl 1 rfl) ?_
    refine lv_iload_n hx hb dJ7_fill_53178_12 rfl (lv_at hl 3 rfl) ?_
    have h_8 : vp_in L_1 6 := vp_in_iff.mpr (by omega)
    refine va_iast hx hb hK.1 hP hD hS 0 1 rfl rfl (i := L_1) (x := p0) h_8 dJ7_fill_53178_13 (fun H locs hP hD hS => ?_)
    generalize upd f_2 (L_1 : Int32).toNatClampNeg p0 = f_9 at hP hD
    have hP : va_P g.1 vwCl [(ga, aI g 6 f_9)] H := hP
    have hD : va_D A [(ga, aI g 6 f_9)] := hD
    obtain ⟨x_10, ex_10⟩ : ∃ y : Int32, y = L_1 + 1 := ⟨_, rfl⟩
    have fx_10 : x_10.toInt = L_1.toInt + 1 := by rw [ex_10]; exact I_add rfl (by decide) (by omega) (by omega)
    refine lv_iinc (v := x_10) (lv' := [(2, .int x_10), (3, .int 6), (0, .ref ga), (1, .int p0)]) hx hb dJ7_fill_53178_14 hl (k := 1) rfl (by rw [ex_10]; rfl) (by decide) rfl (fun ls hl => ?_)
    refine lv_goto (tgt := 5) hx hb dJ7_fill_53178_17 (by decide) ?_
    exact ih (n - 1) (by omega) H locs ls ⟨x_10, f_9, (by first | with_reducible assumption | omega), by omega, hP.sub [0] rfl, hD.sub [0] (by decide +kernel) rfl, hS, lv_sub hl [1, 0, 2, 3] rfl⟩

set_option maxHeartbeats 4000000 in
set_option maxRecDepth 100000 in
theorem s_J7_fill_53178_8192 (l : Launch) (g : GG) (sz : Nat) (ga : Nat) (Fga : Nat → Int32) (p0 : Int32) : Met l yJ7_fill_53178 (.code yJ7_fill_53178 cJ7_fill_53178 4 none :: gT) ({ frames := 0, cells := 0, slots := 0, locals := 0 }) (va_Pc [.ref ga, .int p0] (Pst g sz [(ga, aI g 8192 Fga)] nX)) (va_Qv (fun (o0_F : (Nat → Int32)) => True) (Qst g [(ga, aI g 8192 Fga)] sz (fun (o0_F : (Nat → Int32)) => [(ga, aI g 8192 o0_F)])) (va_A [(ga, aI g 8192 Fga)] sz)) 0 0 (va_A [(ga, aI g 8192 Fga)] sz) := by
  refine Met.ofW (cc := cJ7_fill_53178) (maxL := 4) (ret := none) (by decide) rfl ?_
  intro p e s m args below meth c s₁ B hml hv
  obtain ⟨rfl, hsz, hP, hK, hD0, hX⟩ := hv
  have hx := B.exec
  have hb := B.bytes
  have hr := B.returns
  have hT : ∀ w ∈ gT, w.before _ s = true := fun w h => atoms_spec (ws := .code yJ7_fill_53178 cJ7_fill_53178 4 none :: gT) B.pre w (List.mem_cons_of_mem _ h)
  have hown : s.vm.findClass RJ7 = some m.cls := findClass_of_methodNamed B.named
  have hlocks := B.notSynchronized
  subst hsz
  have hD := hD0.self (sz := s.heap.size)
  generalize hAe : va_A [(ga, aI g 8192 Fga)] s.heap.size = A at hD ⊢
  have hA : ∀ q : Nat, s.heap.size ≤ q → A q := fun q h => by rw [← hAe]; exact Or.inr h
  have hS : va_S A s.heap s.heap [] := va_S.rf
  have hl := lv_entry ([.ref ga, .int p0]) (n := 4) (Nat.le_of_ble_eq_true rfl)
  rw [lg_entry_eq]
  generalize (lg_sl ([.ref ga, .int p0]) ++ List.replicate (4 - (lg_sl ([.ref ga, .int p0])).length) Slot.unset).toArray = ls at hl ⊢
  have hl : lv_has ls 4 [(0, .ref ga), (1, .int p0)] := hl
  refine p_nH (fun H hH => ?_)
  have hP : va_P g.1 vwCl [(ga, aI g 8192 Fga)] H := by rw [hH]; exact hP
  have hS : va_S A s.heap H [] := by rw [hH]; exact hS
  refine lv_iconst (v := 0) hx hb dJ7_fill_53178_0 (by decide) ?_
  refine lv_istore_n (lv' := [(2, .int 0), (0, .ref ga), (1, .int p0)]) hx hb dJ7_fill_53178_1 rfl hl (by decide) rfl (fun ls hl => ?_)
  refine lv_aload_n hx hb dJ7_fill_53178_2 rfl (lv_at hl 1 rfl) ?_
  refine va_alen (v := 8192) hx hb hK.1 hP 0 1 rfl rfl rfl dJ7_fill_53178_3 ?_
  refine lv_istore_n (lv' := [(3, .int 8192), (2, .int 0), (0, .ref ga), (1, .int p0)]) hx hb dJ7_fill_53178_4 rfl hl (by decide) rfl (fun ls hl => ?_)
  refine k_floop 5 (fun n H locs ls => ∃ (L_1 : Int32) (f_2 : Nat → Int32), (0 ≤ L_1.toInt ∧ L_1.toInt ≤ 8192) ∧ 8192 - L_1.toInt ≤ (n : Int) ∧ va_P g.1 vwCl [(ga, aI g 8192 f_2)] H ∧ va_D A [(ga, aI g 8192 f_2)] ∧ va_S A s.heap H locs ∧ lv_has ls 4 [(3, .int 8192), (2, .int L_1), (0, .ref ga), (1, .int p0)]) (fun n H locs ls hI ih => ?_) ((8192 - 0 : Int)).toNat ⟨0, Fga, by decide, by have k0 : (0 : Int32).toInt = 0 := (by decide); omega, hP, hD, hS, hl⟩
  refine hI.elim (fun L_1 hI => hI.elim (fun f_2 hI => ?_))
  have g_3 := hI.1
  have hm_4 := hI.2.1
  have hP := hI.2.2.1
  have hD := hI.2.2.2.1
  have hS := hI.2.2.2.2.1
  have hl := hI.2.2.2.2.2
  clear hI
  refine lv_iload_n hx hb dJ7_fill_53178_5 rfl (lv_at hl 1 rfl) ?_
  refine lv_iload_n hx hb dJ7_fill_53178_6 rfl (lv_at hl 0 rfl) ?_
  refine lv_icmp_ge (tgt := 20) hx hb dJ7_fill_53178_7 (by decide) (fun c_5 => ?_) (fun c_5 => ?_)
  · have f_6 := E_le (by decide : (8192 : Int32).toInt = 8192) (rfl : L_1.toInt = _) c_5
    have hP9 : va_P g.1 vwCl [(ga, aI g 8192 f_2)] H := hP.sub [0] rfl
    have hD9 : va_D A [(ga, aI g 8192 f_2)] := hD.sub [0] (by decide +kernel) rfl
    exact W.vret hx hb hr (fun t ht hW => ⟨⟨f_2, rfl, trivial, by rw [ht]; exact hP9, by rw [hAe]; exact hD9⟩, hS.F ht⟩) hS.2.2 dJ7_fill_53178_20
  · have f_7 := E_nle (by decide : (8192 : Int32).toInt = 8192) (rfl : L_1.toInt = _) c_5
    refine lv_aload_n hx hb dJ7_fill_53178_10 rfl (lv_at hl 2 rfl) ?_
    refine lv_iload_n hx hb dJ7_fill_53178_11 rfl (lv_at hl 1 rfl) ?_
    refine lv_iload_n hx hb dJ7_fill_53178_12 rfl (lv_at hl 3 rfl) ?_
    have h_8 : vp_in L_1 8192 := vp_in_iff.mpr (by omega)
    refine va_iast hx hb hK.1 hP hD hS 0 1 rfl rfl (i := L_1) (x := p0) h_8 dJ7_fill_53178_13 (fun H locs hP hD hS => ?_)
    generalize upd f_2 (L_1 : Int32).toNatClampNeg p0 = f_9 at hP hD
    have hP : va_P g.1 vwCl [(ga, aI g 8192 f_9)] H := hP
    have hD : va_D A [(ga, aI g 8192 f_9)] := hD
    obtain ⟨x_10, ex_10⟩ : ∃ y : Int32, y = L_1 + 1 := ⟨_, rfl⟩
    have fx_10 : x_10.toInt = L_1.toInt + 1 := by rw [ex_10]; exact I_add rfl (by decide) (by omega) (by omega)
    refine lv_iinc (v := x_10) (lv' := [(2, .int x_10), (3, .int 8192), (0, .ref ga), (1, .int p0)]) hx hb dJ7_fill_53178_14 hl (k := 1) rfl (by rw [ex_10]; rfl) (by decide) rfl (fun ls hl => ?_)
    refine lv_goto (tgt := 5) hx hb dJ7_fill_53178_17 (by decide) ?_
    exact ih (n - 1) (by omega) H locs ls ⟨x_10, f_9, (by first | with_reducible assumption | omega), by omega, hP.sub [0] rfl, hD.sub [0] (by decide +kernel) rfl, hS, lv_sub hl [1, 0, 2, 3] rfl⟩

set_option maxHeartbeats 4000000 in
set_option maxRecDepth 100000 in
theorem s_J7_fill_53178_128 (l : Launch) (g : GG) (sz : Nat) (ga : Nat) (Fga : Nat → Int32) (p0 : Int32) : Met l yJ7_fill_53178 (.code yJ7_fill_53178 cJ7_fill_53178 4 none :: gT) ({ frames := 0, cells := 0, slots := 0, locals := 0 }) (va_Pc [.ref ga, .int p0] (Pst g sz [(ga, aI g 128 Fga)] nX)) (va_Qv (fun (o0_F : (Nat → Int32)) => True) (Qst g [(ga, aI g 128 Fga)] sz (fun (o0_F : (Nat → Int32)) => [(ga, aI g 128 o0_F)])) (va_A [(ga, aI g 128 Fga)] sz)) 0 0 (va_A [(ga, aI g 128 Fga)] sz) := by
  refine Met.ofW (cc := cJ7_fill_53178) (maxL := 4) (ret := none) (by decide) rfl ?_
  intro p e s m args below meth c s₁ B hml hv
  obtain ⟨rfl, hsz, hP, hK, hD0, hX⟩ := hv
  have hx := B.exec
  have hb := B.bytes
  have hr := B.returns
  have hT : ∀ w ∈ gT, w.before _ s = true := fun w h => atoms_spec (ws := .code yJ7_fill_53178 cJ7_fill_53178 4 none :: gT) B.pre w (List.mem_cons_of_mem _ h)
  have hown : s.vm.findClass RJ7 = some m.cls := findClass_of_methodNamed B.named
  have hlocks := B.notSynchronized
  subst hsz
  have hD := hD0.self (sz := s.heap.size)
  generalize hAe : va_A [(ga, aI g 128 Fga)] s.heap.size = A at hD ⊢
  have hA : ∀ q : Nat, s.heap.size ≤ q → A q := fun q h => by rw [← hAe]; exact Or.inr h
  have hS : va_S A s.heap s.heap [] := va_S.rf
  have hl := lv_entry ([.ref ga, .int p0]) (n := 4) (Nat.le_of_ble_eq_true rfl)
  rw [lg_entry_eq]
  generalize (lg_sl ([.ref ga, .int p0]) ++ List.replicate (4 - (lg_sl ([.ref ga, .int p0])).length) Slot.unset).toArray = ls at hl ⊢
  have hl : lv_has ls 4 [(0, .ref ga), (1, .int p0)] := hl
  refine p_nH (fun H hH => ?_)
  have hP : va_P g.1 vwCl [(ga, aI g 128 Fga)] H := by rw [hH]; exact hP
  have hS : va_S A s.heap H [] := by rw [hH]; exact hS
  refine lv_iconst (v := 0) hx hb dJ7_fill_53178_0 (by decide) ?_
  refine lv_istore_n (lv' := [(2, .int 0), (0, .ref ga), (1, .int p0)]) hx hb dJ7_fill_53178_1 rfl hl (by decide) rfl (fun ls hl => ?_)
  refine lv_aload_n hx hb dJ7_fill_53178_2 rfl (lv_at hl 1 rfl) ?_
  refine va_alen (v := 128) hx hb hK.1 hP 0 1 rfl rfl rfl dJ7_fill_53178_3 ?_
  refine lv_istore_n (lv' := [(3, .int 128), (2, .int 0), (0, .ref ga), (1, .int p0)]) hx hb dJ7_fill_53178_4 rfl hl (by decide) rfl (fun ls hl => ?_)
  refine k_floop 5 (fun n H locs ls => ∃ (L_1 : Int32) (f_2 : Nat → Int32), (0 ≤ L_1.toInt ∧ L_1.toInt ≤ 128) ∧ 128 - L_1.toInt ≤ (n : Int) ∧ va_P g.1 vwCl [(ga, aI g 128 f_2)] H ∧ va_D A [(ga, aI g 128 f_2)] ∧ va_S A s.heap H locs ∧ lv_has ls 4 [(3, .int 128), (2, .int L_1), (0, .ref ga), (1, .int p0)]) (fun n H locs ls hI ih => ?_) ((128 - 0 : Int)).toNat ⟨0, Fga, by decide, by have k0 : (0 : Int32).toInt = 0 := (by decide); omega, hP, hD, hS, hl⟩
  refine hI.elim (fun L_1 hI => hI.elim (fun f_2 hI => ?_))
  have g_3 := hI.1
  have hm_4 := hI.2.1
  have hP := hI.2.2.1
  have hD := hI.2.2.2.1
  have hS := hI.2.2.2.2.1
  have hl := hI.2.2.2.2.2
  clear hI
  refine lv_iload_n hx hb dJ7_fill_53178_5 rfl (lv_at hl 1 rfl) ?_
  refine lv_iload_n hx hb dJ7_fill_53178_6 rfl (lv_at hl 0 rfl) ?_
  refine lv_icmp_ge (tgt := 20) hx hb dJ7_fill_53178_7 (by decide) (fun c_5 => ?_) (fun c_5 => ?_)
  · have f_6 := E_le (by decide : (128 : Int32).toInt = 128) (rfl : L_1.toInt = _) c_5
    have hP9 : va_P g.1 vwCl [(ga, aI g 128 f_2)] H := hP.sub [0] rfl
    have hD9 : va_D A [(ga, aI g 128 f_2)] := hD.sub [0] (by decide +kernel) rfl
    exact W.vret hx hb hr (fun t ht hW => ⟨⟨f_2, rfl, trivial, by rw [ht]; exact hP9, by rw [hAe]; exact hD9⟩, hS.F ht⟩) hS.2.2 dJ7_fill_53178_20
  · have f_7 := E_nle (by decide : (128 : Int32).toInt = 128) (rfl : L_1.toInt = _) c_5
    refine lv_aload_n hx hb dJ7_fill_53178_10 rfl (lv_at hl 2 rfl) ?_
    refine lv_iload_n hx hb dJ7_fill_53178_11 rfl (lv_at hl 1 rfl) ?_
    refine lv_iload_n hx hb dJ7_fill_53178_12 rfl (lv_at hl 3 rfl) ?_
    have h_8 : vp_in L_1 128 := vp_in_iff.mpr (by omega)
    refine va_iast hx hb hK.1 hP hD hS 0 1 rfl rfl (i := L_1) (x := p0) h_8 dJ7_fill_53178_13 (fun H locs hP hD hS => ?_)
    generalize upd f_2 (L_1 : Int32).toNatClampNeg p0 = f_9 at hP hD
    have hP : va_P g.1 vwCl [(ga, aI g 128 f_9)] H := hP
    have hD : va_D A [(ga, aI g 128 f_9)] := hD
    obtain ⟨x_10, ex_10⟩ : ∃ y : Int32, y = L_1 + 1 := ⟨_, rfl⟩
    have fx_10 : x_10.toInt = L_1.toInt + 1 := by rw [ex_10]; exact I_add rfl (by decide) (by omega) (by omega)
    refine lv_iinc (v := x_10) (lv' := [(2, .int x_10), (3, .int 128), (0, .ref ga), (1, .int p0)]) hx hb dJ7_fill_53178_14 hl (k := 1) rfl (by rw [ex_10]; rfl) (by decide) rfl (fun ls hl => ?_)
    refine lv_goto (tgt := 5) hx hb dJ7_fill_53178_17 (by decide) ?_
    exact ih (n - 1) (by omega) H locs ls ⟨x_10, f_9, (by first | with_reducible assumption | omega), by omega, hP.sub [0] rfl, hD.sub [0] (by decide +kernel) rfl, hS, lv_sub hl [1, 0, 2, 3] rfl⟩

theorem bw_98 : Cond.fieldLink RX9 37 "DuelDelays$Land" "draw" "I" ∈ gT := gT_tb 310 (by decide +kernel) (by decide +kernel)
theorem bw_99 : Cond.fieldLink RX9 69 "DuelDelays$Men" "coins" "[I" ∈ gT := gT_tb 176 (by decide +kernel) (by decide +kernel)
theorem bw_100 : Cond.fieldLink RX9 9 "DuelDelays$State" "coins" "[I" ∈ gT := gT_tb 463 (by decide +kernel) (by decide +kernel)
theorem bw_101 : Cond.native arraycopyName ∈ gT := gT_tb 513 (by decide +kernel) (by decide +kernel)
theorem bw_102 : Cond.static arraycopyName ∈ gT := gT_tb 512 (by decide +kernel) (by decide +kernel)
theorem bw_103 : Cond.initialized "java/lang/System" ∈ gT := gT_tb 17 (by decide +kernel) (by decide +kernel)
theorem bw_104 : Cond.methodLink RX9 70 arraycopyName ∈ gT := gT_tb 511 (by decide +kernel) (by decide +kernel)
theorem bw_105 : Cond.fieldLink RX9 15 "DuelDelays$State" "rented" "[I" ∈ gT := gT_tb 465 (by decide +kernel) (by decide +kernel)
theorem bw_106 : Cond.methodLink RX9 76 yJ7_fill_53178 ∈ gT := gT_tb 514 (by decide +kernel) (by decide +kernel)
theorem bw_107 : Cond.static yJ7_fill_53178 ∈ gT := gT_tb 515 (by decide +kernel) (by decide +kernel)
theorem bw_108 : Cond.initialized yJ7_fill_53178.cls ∈ gT := gT_tb 18 (by decide +kernel) (by decide +kernel)
theorem bw_109 : Cond.fieldLink RX9 82 "DuelDelays$Land" "duels" "I" ∈ gT := gT_tb 299 (by decide +kernel) (by decide +kernel)
theorem bw_110 : Cond.fieldLink RX9 83 "DuelDelays$Land" "duelSides" "[I" ∈ gT := gT_tb 302 (by decide +kernel) (by decide +kernel)
theorem bw_111 : Cond.fieldLink RX9 86 "DuelDelays$Land" "duelMornings" "[I" ∈ gT := gT_tb 305 (by decide +kernel) (by decide +kernel)
theorem bw_112 : Cond.methodLink RX9 89 yX9_addDuel ∈ gT := gT_tb 517 (by decide +kernel) (by decide +kernel)
theorem bw_113 : Cond.instanceMethod yX9_addDuel ∈ gT := gT_tb 518 (by decide +kernel) (by decide +kernel)
theorem bw_114 : Cond.selects RX9 yX9_addDuel yX9_addDuel ∈ gT := gT_tb 519 (by decide +kernel) (by decide +kernel)
theorem bw_115 : Cond.code yX9_begin cX9_begin 3 none ∈ gT := gT_tb 510 (by decide +kernel) (by decide +kernel)
theorem dX9_begin_0 : decode cX9_begin 0 = .ok (.aload_n 0, 1) := by decide +kernel
theorem dX9_begin_1 : decode cX9_begin 1 = .ok (.iconst 0, 1) := by decide +kernel
theorem dX9_begin_2 : decode cX9_begin 2 = .ok (.putfield 33, 3) := by decide +kernel
theorem dX9_begin_5 : decode cX9_begin 5 = .ok (.aload_n 0, 1) := by decide +kernel
theorem dX9_begin_6 : decode cX9_begin 6 = .ok (.aload_n 1, 1) := by decide +kernel
theorem dX9_begin_7 : decode cX9_begin 7 = .ok (.getfield 37, 3) := by decide +kernel
theorem dX9_begin_10 : decode cX9_begin 10 = .ok (.putfield 42, 3) := by decide +kernel
theorem dX9_begin_13 : decode cX9_begin 13 = .ok (.aload_n 0, 1) := by decide +kernel
theorem dX9_begin_14 : decode cX9_begin 14 = .ok (.iconst 1, 1) := by decide +kernel
theorem dX9_begin_15 : decode cX9_begin 15 = .ok (.aload_n 1, 1) := by decide +kernel
theorem dX9_begin_16 : decode cX9_begin 16 = .ok (.getfield 45, 3) := by decide +kernel
theorem dX9_begin_19 : decode cX9_begin 19 = .ok (.getfield 49, 3) := by decide +kernel
theorem dX9_begin_22 : decode cX9_begin 22 = .ok (.ishl, 1) := by decide +kernel
theorem dX9_begin_23 : decode cX9_begin 23 = .ok (.iconst 1, 1) := by decide +kernel
theorem dX9_begin_24 : decode cX9_begin 24 = .ok (.isub, 1) := by decide +kernel
theorem dX9_begin_25 : decode cX9_begin 25 = .ok (.putfield 54, 3) := by decide +kernel
theorem dX9_begin_28 : decode cX9_begin 28 = .ok (.aload_n 0, 1) := by decide +kernel
theorem dX9_begin_29 : decode cX9_begin 29 = .ok (.iconst 0, 1) := by decide +kernel
theorem dX9_begin_30 : decode cX9_begin 30 = .ok (.putfield 57, 3) := by decide +kernel
theorem dX9_begin_33 : decode cX9_begin 33 = .ok (.aload_n 0, 1) := by decide +kernel
theorem dX9_begin_34 : decode cX9_begin 34 = .ok (.iconst 0, 1) := by decide +kernel
theorem dX9_begin_35 : decode cX9_begin 35 = .ok (.putfield 60, 3) := by decide +kernel
theorem dX9_begin_38 : decode cX9_begin 38 = .ok (.aload_n 0, 1) := by decide +kernel
theorem dX9_begin_39 : decode cX9_begin 39 = .ok (.iconst 0, 1) := by decide +kernel
theorem dX9_begin_40 : decode cX9_begin 40 = .ok (.putfield 63, 3) := by decide +kernel
theorem dX9_begin_43 : decode cX9_begin 43 = .ok (.aload_n 0, 1) := by decide +kernel
theorem dX9_begin_44 : decode cX9_begin 44 = .ok (.iconst 0, 1) := by decide +kernel
theorem dX9_begin_45 : decode cX9_begin 45 = .ok (.putfield 66, 3) := by decide +kernel
theorem dX9_begin_48 : decode cX9_begin 48 = .ok (.aload_n 1, 1) := by decide +kernel
theorem dX9_begin_49 : decode cX9_begin 49 = .ok (.getfield 45, 3) := by decide +kernel
theorem dX9_begin_52 : decode cX9_begin 52 = .ok (.getfield 69, 3) := by decide +kernel
theorem dX9_begin_55 : decode cX9_begin 55 = .ok (.iconst 0, 1) := by decide +kernel
theorem dX9_begin_56 : decode cX9_begin 56 = .ok (.aload_n 0, 1) := by decide +kernel
theorem dX9_begin_57 : decode cX9_begin 57 = .ok (.getfield 9, 3) := by decide +kernel
theorem dX9_begin_60 : decode cX9_begin 60 = .ok (.iconst 0, 1) := by decide +kernel
theorem dX9_begin_61 : decode cX9_begin 61 = .ok (.bipush 6, 2) := by decide +kernel
theorem dX9_begin_63 : decode cX9_begin 63 = .ok (.invokestatic 70, 3) := by decide +kernel
theorem dX9_begin_66 : decode cX9_begin 66 = .ok (.aload_n 0, 1) := by decide +kernel
theorem dX9_begin_67 : decode cX9_begin 67 = .ok (.getfield 15, 3) := by decide +kernel
theorem dX9_begin_70 : decode cX9_begin 70 = .ok (.iconst 0, 1) := by decide +kernel
theorem dX9_begin_71 : decode cX9_begin 71 = .ok (.invokestatic 76, 3) := by decide +kernel
theorem dX9_begin_74 : decode cX9_begin 74 = .ok (.iconst 0, 1) := by decide +kernel
theorem dX9_begin_75 : decode cX9_begin 75 = .ok (.istore_n 2, 1) := by decide +kernel
theorem dX9_begin_76 : decode cX9_begin 76 = .ok (.iload_n 2, 1) := by decide +kernel
theorem dX9_begin_77 : decode cX9_begin 77 = .ok (.aload_n 1, 1) := by decide +kernel
theorem dX9_begin_78 : decode cX9_begin 78 = .ok (.getfield 82, 3) := by decide +kernel
theorem dX9_begin_81 : decode cX9_begin 81 = .ok (.if_icmp .ge 37, 3) := by decide +kernel
theorem dX9_begin_84 : decode cX9_begin 84 = .ok (.aload_n 0, 1) := by decide +kernel
theorem dX9_begin_85 : decode cX9_begin 85 = .ok (.aload_n 1, 1) := by decide +kernel
theorem dX9_begin_86 : decode cX9_begin 86 = .ok (.getfield 83, 3) := by decide +kernel
theorem dX9_begin_89 : decode cX9_begin 89 = .ok (.iconst 2, 1) := by decide +kernel
theorem dX9_begin_90 : decode cX9_begin 90 = .ok (.iload_n 2, 1) := by decide +kernel
theorem dX9_begin_91 : decode cX9_begin 91 = .ok (.imul, 1) := by decide +kernel
theorem dX9_begin_92 : decode cX9_begin 92 = .ok (.iaload, 1) := by decide +kernel
theorem dX9_begin_93 : decode cX9_begin 93 = .ok (.aload_n 1, 1) := by decide +kernel
theorem dX9_begin_94 : decode cX9_begin 94 = .ok (.getfield 83, 3) := by decide +kernel
theorem dX9_begin_97 : decode cX9_begin 97 = .ok (.iconst 2, 1) := by decide +kernel
theorem dX9_begin_98 : decode cX9_begin 98 = .ok (.iload_n 2, 1) := by decide +kernel
theorem dX9_begin_99 : decode cX9_begin 99 = .ok (.imul, 1) := by decide +kernel
theorem dX9_begin_100 : decode cX9_begin 100 = .ok (.iconst 1, 1) := by decide +kernel
theorem dX9_begin_101 : decode cX9_begin 101 = .ok (.iadd, 1) := by decide +kernel
theorem dX9_begin_102 : decode cX9_begin 102 = .ok (.iaload, 1) := by decide +kernel
theorem dX9_begin_103 : decode cX9_begin 103 = .ok (.aload_n 1, 1) := by decide +kernel
theorem dX9_begin_104 : decode cX9_begin 104 = .ok (.getfield 86, 3) := by decide +kernel
theorem dX9_begin_107 : decode cX9_begin 107 = .ok (.iload_n 2, 1) := by decide +kernel
theorem dX9_begin_108 : decode cX9_begin 108 = .ok (.iaload, 1) := by decide +kernel
theorem dX9_begin_109 : decode cX9_begin 109 = .ok (.invokevirtual 89, 3) := by decide +kernel
theorem dX9_begin_112 : decode cX9_begin 112 = .ok (.iinc 2 1, 3) := by decide +kernel
theorem dX9_begin_115 : decode cX9_begin 115 = .ok (.goto (-39), 3) := by decide +kernel
theorem dX9_begin_118 : decode cX9_begin 118 = .ok (.return_, 1) := by decide +kernel
set_option maxHeartbeats 4000000 in
set_option maxRecDepth 100000 in
theorem s_X9_begin (l : Launch) (g : GG) (sz : Nat) (h : Nat) (bday : Int32) (bseed : Int32) (balive : Int32) (bstruck : Int32) (bopen : Int32) (bduels : Int32) (blines : Int32) (bcoins : Nat) (Fbcoins : Nat → Int32) (brented : Nat) (Fbrented : Nat → Int32) (bmornings : Nat) (Fbmornings : Nat → Int32) (bhonours : Nat) (Fbhonours : Nat → Int32) (bused : Nat) (Fbused : Nat → Int32) (bsides : Nat) (Fbsides : Nat → Int32) (blog : Nat) (la : Nat) (dduels : Int32) (dduelSides : Nat) (FdduelSides : Nat → Int32) (dduelMornings : Nat) (FdduelMornings : Nat → Int32) (dhonour : Int32) (ddraw : Int32) (dusesOfKind : Nat) (dmen : Nat) (dmen_count : Int32) (dmen_names : Nat) (dmen_dies : Nat) (dmen_coins : Nat) (Fdmen_coins : Nat → Int32) (dmen_fathers : Nat) (dformulas : Nat) (dreasons : Nat) (hh0 : 0 ≤ bseed.toInt ∧ bseed.toInt ≤ 999) (hh1 : 0 ≤ bduels.toInt ∧ bduels.toInt ≤ 8) (hh2 : 0 ≤ blines.toInt ∧ blines.toInt ≤ 60) (hh3 : Rg 16 0 5 Fbsides) (hh4 : 0 ≤ dduels.toInt ∧ dduels.toInt ≤ 6) (hh5 : Rg 12 0 5 FdduelSides) (hh6 : 0 ≤ ddraw.toInt ∧ ddraw.toInt ≤ 999) (hh7 : 0 ≤ dmen_count.toInt ∧ dmen_count.toInt ≤ 6) : Met l yX9_begin (.code yX9_begin cX9_begin 3 none :: gT) ({ frames := 1, cells := 0, slots := 0, locals := 60 }) (va_Pc [.ref h, .ref la] (Pst g sz [(h, .inr (9, [.int bday, .int bseed, .int balive, .int bstruck, .int bopen, .int bduels, .int blines, .ref bcoins, .ref brented, .ref bmornings, .ref bhonours, .ref bused, .ref bsides, .ref blog])), (bcoins, aI g 6 Fbcoins), (brented, aI g 6 Fbrented), (bmornings, aI g 8 Fbmornings), (bhonours, aI g 8 Fbhonours), (bused, aI g 8 Fbused), (bsides, aI g 16 Fbsides), (la, .inr (2, [.ref dmen, .ref dformulas, .ref dreasons, .int dduels, .ref dduelSides, .ref dduelMornings, .int dhonour, .int ddraw, .ref dusesOfKind])), (dduelSides, aI g 12 FdduelSides), (dduelMornings, aI g 6 FdduelMornings), (dmen, .inr (3, [.int dmen_count, .ref dmen_names, .ref dmen_dies, .ref dmen_coins, .ref dmen_fathers])), (dmen_coins, aI g 6 Fdmen_coins)] nX)) (va_Qv (fun ((o0_seed, o1_alive, o2_open, o3_duels, o4_F, o5_F, o6_F, o7_F, o8_F, o9_F) : Int32 × Int32 × Int32 × Int32 × (Nat → Int32) × (Nat → Int32) × (Nat → Int32) × (Nat → Int32) × (Nat → Int32) × (Nat → Int32)) => (0 ≤ o0_seed.toInt ∧ o0_seed.toInt ≤ 999) ∧ (0 ≤ o3_duels.toInt ∧ o3_duels.toInt ≤ 8) ∧ (Rg 16 0 5 o9_F)) (Qst g [(h, .inr (9, [.int bday, .int bseed, .int balive, .int bstruck, .int bopen, .int bduels, .int blines, .ref bcoins, .ref brented, .ref bmornings, .ref bhonours, .ref bused, .ref bsides, .ref blog])), (bcoins, aI g 6 Fbcoins), (brented, aI g 6 Fbrented), (bmornings, aI g 8 Fbmornings), (bhonours, aI g 8 Fbhonours), (bused, aI g 8 Fbused), (bsides, aI g 16 Fbsides), (la, .inr (2, [.ref dmen, .ref dformulas, .ref dreasons, .int dduels, .ref dduelSides, .ref dduelMornings, .int dhonour, .int ddraw, .ref dusesOfKind])), (dduelSides, aI g 12 FdduelSides), (dduelMornings, aI g 6 FdduelMornings), (dmen, .inr (3, [.int dmen_count, .ref dmen_names, .ref dmen_dies, .ref dmen_coins, .ref dmen_fathers])), (dmen_coins, aI g 6 Fdmen_coins)] sz (fun ((o0_seed, o1_alive, o2_open, o3_duels, o4_F, o5_F, o6_F, o7_F, o8_F, o9_F) : Int32 × Int32 × Int32 × Int32 × (Nat → Int32) × (Nat → Int32) × (Nat → Int32) × (Nat → Int32) × (Nat → Int32) × (Nat → Int32)) => [(h, .inr (9, [.int 0, .int o0_seed, .int o1_alive, .int 0, .int o2_open, .int o3_duels, .int 0, .ref bcoins, .ref brented, .ref bmornings, .ref bhonours, .ref bused, .ref bsides, .ref blog])), (bcoins, aI g 6 o4_F), (brented, aI g 6 o5_F), (bmornings, aI g 8 o6_F), (bhonours, aI g 8 o7_F), (bused, aI g 8 o8_F), (bsides, aI g 16 o9_F), (la, .inr (2, [.ref dmen, .ref dformulas, .ref dreasons, .int dduels, .ref dduelSides, .ref dduelMornings, .int dhonour, .int ddraw, .ref dusesOfKind])), (dduelSides, aI g 12 FdduelSides), (dduelMornings, aI g 6 FdduelMornings), (dmen, .inr (3, [.int dmen_count, .ref dmen_names, .ref dmen_dies, .ref dmen_coins, .ref dmen_fathers])), (dmen_coins, aI g 6 Fdmen_coins)])) (va_A [(h, .inr (9, [.int bday, .int bseed, .int balive, .int bstruck, .int bopen, .int bduels, .int blines, .ref bcoins, .ref brented, .ref bmornings, .ref bhonours, .ref bused, .ref bsides, .ref blog])), (bcoins, aI g 6 Fbcoins), (brented, aI g 6 Fbrented), (bmornings, aI g 8 Fbmornings), (bhonours, aI g 8 Fbhonours), (bused, aI g 8 Fbused), (bsides, aI g 16 Fbsides), (la, .inr (2, [.ref dmen, .ref dformulas, .ref dreasons, .int dduels, .ref dduelSides, .ref dduelMornings, .int dhonour, .int ddraw, .ref dusesOfKind])), (dduelSides, aI g 12 FdduelSides), (dduelMornings, aI g 6 FdduelMornings), (dmen, .inr (3, [.int dmen_count, .ref dmen_names, .ref dmen_dies, .ref dmen_coins, .ref dmen_fathers])), (dmen_coins, aI g 6 Fdmen_coins)] sz)) 0 0 (va_A [(h, .inr (9, [.int bday, .int bseed, .int balive, .int bstruck, .int bopen, .int bduels, .int blines, .ref bcoins, .ref brented, .ref bmornings, .ref bhonours, .ref bused, .ref bsides, .ref blog])), (bcoins, aI g 6 Fbcoins), (brented, aI g 6 Fbrented), (bmornings, aI g 8 Fbmornings), (bhonours, aI g 8 Fbhonours), (bused, aI g 8 Fbused), (bsides, aI g 16 Fbsides), (la, .inr (2, [.ref dmen, .ref dformulas, .ref dreasons, .int dduels, .ref dduelSides, .ref dduelMornings, .int dhonour, .int ddraw, .ref dusesOfKind])), (dduelSides, aI g 12 FdduelSides), (dduelMornings, aI g 6 FdduelMornings), (dmen, .inr (3, [.int dmen_count, .ref dmen_names, .ref dmen_dies, .ref dmen_coins, .ref dmen_fathers])), (dmen_coins, aI g 6 Fdmen_coins)] sz) := by
  refine Met.ofW (cc := cX9_begin) (maxL := 3) (ret := none) (by decide) rfl ?_
  intro p e s m args below meth c s₁ B hml hv
  obtain ⟨rfl, hsz, hP, hK, hD0, hX⟩ := hv
  have hx := B.exec
  have hb := B.bytes
  have hr := B.returns
  have hT : ∀ w ∈ gT, w.before _ s = true := fun w h => atoms_spec (ws := .code yX9_begin cX9_begin 3 none :: gT) B.pre w (List.mem_cons_of_mem _ h)
  have hown : s.vm.findClass RX9 = some m.cls := findClass_of_methodNamed B.named
  have hlocks := B.notSynchronized
  subst hsz
  have hD := hD0.self (sz := s.heap.size)
  generalize hAe : va_A [(h, .inr (9, [.int bday, .int bseed, .int balive, .int bstruck, .int bopen, .int bduels, .int blines, .ref bcoins, .ref brented, .ref bmornings, .ref bhonours, .ref bused, .ref bsides, .ref blog])), (bcoins, aI g 6 Fbcoins), (brented, aI g 6 Fbrented), (bmornings, aI g 8 Fbmornings), (bhonours, aI g 8 Fbhonours), (bused, aI g 8 Fbused), (bsides, aI g 16 Fbsides), (la, .inr (2, [.ref dmen, .ref dformulas, .ref dreasons, .int dduels, .ref dduelSides, .ref dduelMornings, .int dhonour, .int ddraw, .ref dusesOfKind])), (dduelSides, aI g 12 FdduelSides), (dduelMornings, aI g 6 FdduelMornings), (dmen, .inr (3, [.int dmen_count, .ref dmen_names, .ref dmen_dies, .ref dmen_coins, .ref dmen_fathers])), (dmen_coins, aI g 6 Fdmen_coins)] s.heap.size = A at hD ⊢
  have hA : ∀ q : Nat, s.heap.size ≤ q → A q := fun q h => by rw [← hAe]; exact Or.inr h
  have hS : va_S A s.heap s.heap [] := va_S.rf
  have hl := lv_entry ([.ref h, .ref la]) (n := 3) (Nat.le_of_ble_eq_true rfl)
  rw [lg_entry_eq]
  generalize (lg_sl ([.ref h, .ref la]) ++ List.replicate (3 - (lg_sl ([.ref h, .ref la])).length) Slot.unset).toArray = ls at hl ⊢
  have hl : lv_has ls 3 [(0, .ref h), (1, .ref la)] := hl
  refine p_nH (fun H hH => ?_)
  have hP : va_P g.1 vwCl [(h, .inr (9, [.int bday, .int bseed, .int balive, .int bstruck, .int bopen, .int bduels, .int blines, .ref bcoins, .ref brented, .ref bmornings, .ref bhonours, .ref bused, .ref bsides, .ref blog])), (bcoins, aI g 6 Fbcoins), (brented, aI g 6 Fbrented), (bmornings, aI g 8 Fbmornings), (bhonours, aI g 8 Fbhonours), (bused, aI g 8 Fbused), (bsides, aI g 16 Fbsides), (la, .inr (2, [.ref dmen, .ref dformulas, .ref dreasons, .int dduels, .ref dduelSides, .ref dduelMornings, .int dhonour, .int ddraw, .ref dusesOfKind])), (dduelSides, aI g 12 FdduelSides), (dduelMornings, aI g 6 FdduelMornings), (dmen, .inr (3, [.int dmen_count, .ref dmen_names, .ref dmen_dies, .ref dmen_coins, .ref dmen_fathers])), (dmen_coins, aI g 6 Fdmen_coins)] H := by rw [hH]; exact hP
  have hS : va_S A s.heap H [] := by rw [hH]; exact hS
  refine lv_aload_n hx hb dX9_begin_0 rfl (lv_at hl 0 rfl) ?_
  refine lv_iconst (v := 0) hx hb dX9_begin_1 (by decide) ?_
  refine va_put (D := g.1) (ci := 9) (v := .int 0) (ty := .int) (C := RX9) (T := TX9) (N := 14) hx hb hT inF_X9 tyX9 tyX9_ok nmX9 hown hK.1 hP hD hS 0 rfl rfl 0 (by decide) (hT _ bw_41) (fun _ h9 => h9) rfl (by decide +kernel) rfl rfl (Nat.le_of_ble_eq_true rfl) dX9_begin_2 (fun H locs hP hD hS => ?_)
  have hP : va_P g.1 vwCl [(h, .inr (9, [.int 0, .int bseed, .int balive, .int bstruck, .int bopen, .int bduels, .int blines, .ref bcoins, .ref brented, .ref bmornings, .ref bhonours, .ref bused, .ref bsides, .ref blog])), (bcoins, aI g 6 Fbcoins), (brented, aI g 6 Fbrented), (bmornings, aI g 8 Fbmornings), (bhonours, aI g 8 Fbhonours), (bused, aI g 8 Fbused), (bsides, aI g 16 Fbsides), (la, .inr (2, [.ref dmen, .ref dformulas, .ref dreasons, .int dduels, .ref dduelSides, .ref dduelMornings, .int dhonour, .int ddraw, .ref dusesOfKind])), (dduelSides, aI g 12 FdduelSides), (dduelMornings, aI g 6 FdduelMornings), (dmen, .inr (3, [.int dmen_count, .ref dmen_names, .ref dmen_dies, .ref dmen_coins, .ref dmen_fathers])), (dmen_coins, aI g 6 Fdmen_coins)] H := hP
  have hD : va_D A [(h, .inr (9, [.int 0, .int bseed, .int balive, .int bstruck, .int bopen, .int bduels, .int blines, .ref bcoins, .ref brented, .ref bmornings, .ref bhonours, .ref bused, .ref bsides, .ref blog])), (bcoins, aI g 6 Fbcoins), (brented, aI g 6 Fbrented), (bmornings, aI g 8 Fbmornings), (bhonours, aI g 8 Fbhonours), (bused, aI g 8 Fbused), (bsides, aI g 16 Fbsides), (la, .inr (2, [.ref dmen, .ref dformulas, .ref dreasons, .int dduels, .ref dduelSides, .ref dduelMornings, .int dhonour, .int ddraw, .ref dusesOfKind])), (dduelSides, aI g 12 FdduelSides), (dduelMornings, aI g 6 FdduelMornings), (dmen, .inr (3, [.int dmen_count, .ref dmen_names, .ref dmen_dies, .ref dmen_coins, .ref dmen_fathers])), (dmen_coins, aI g 6 Fdmen_coins)] := hD
  refine lv_aload_n hx hb dX9_begin_5 rfl (lv_at hl 0 rfl) ?_
  refine lv_aload_n hx hb dX9_begin_6 rfl (lv_at hl 1 rfl) ?_
  refine va_get (D := g.1) (ci := 2) (v := .int ddraw) (C := RX2) (T := TX2) (N := 9) hx hb hT inF_X2 hown hK.1 hP 7 rfl rfl 7 (by decide) (hT _ bw_98) (fun _ h9 => h9) rfl dX9_begin_7 ?_
  refine va_put (D := g.1) (ci := 9) (v := .int ddraw) (ty := .int) (C := RX9) (T := TX9) (N := 14) hx hb hT inF_X9 tyX9 tyX9_ok nmX9 hown hK.1 hP hD hS 0 rfl rfl 1 (by decide) (hT _ bw_87) (fun _ h9 => h9) rfl (by decide +kernel) rfl rfl (Nat.le_of_ble_eq_true rfl) dX9_begin_10 (fun H locs hP hD hS => ?_)
  have hP : va_P g.1 vwCl [(h, .inr (9, [.int 0, .int ddraw, .int balive, .int bstruck, .int bopen, .int bduels, .int blines, .ref bcoins, .ref brented, .ref bmornings, .ref bhonours, .ref bused, .ref bsides, .ref blog])), (bcoins, aI g 6 Fbcoins), (brented, aI g 6 Fbrented), (bmornings, aI g 8 Fbmornings), (bhonours, aI g 8 Fbhonours), (bused, aI g 8 Fbused), (bsides, aI g 16 Fbsides), (la, .inr (2, [.ref dmen, .ref dformulas, .ref dreasons, .int dduels, .ref dduelSides, .ref dduelMornings, .int dhonour, .int ddraw, .ref dusesOfKind])), (dduelSides, aI g 12 FdduelSides), (dduelMornings, aI g 6 FdduelMornings), (dmen, .inr (3, [.int dmen_count, .ref dmen_names, .ref dmen_dies, .ref dmen_coins, .ref dmen_fathers])), (dmen_coins, aI g 6 Fdmen_coins)] H := hP
  have hD : va_D A [(h, .inr (9, [.int 0, .int ddraw, .int balive, .int bstruck, .int bopen, .int bduels, .int blines, .ref bcoins, .ref brented, .ref bmornings, .ref bhonours, .ref bused, .ref bsides, .ref blog])), (bcoins, aI g 6 Fbcoins), (brented, aI g 6 Fbrented), (bmornings, aI g 8 Fbmornings), (bhonours, aI g 8 Fbhonours), (bused, aI g 8 Fbused), (bsides, aI g 16 Fbsides), (la, .inr (2, [.ref dmen, .ref dformulas, .ref dreasons, .int dduels, .ref dduelSides, .ref dduelMornings, .int dhonour, .int ddraw, .ref dusesOfKind])), (dduelSides, aI g 12 FdduelSides), (dduelMornings, aI g 6 FdduelMornings), (dmen, .inr (3, [.int dmen_count, .ref dmen_names, .ref dmen_dies, .ref dmen_coins, .ref dmen_fathers])), (dmen_coins, aI g 6 Fdmen_coins)] := hD
  refine lv_aload_n hx hb dX9_begin_13 rfl (lv_at hl 0 rfl) ?_
  refine lv_iconst (v := 1) hx hb dX9_begin_14 (by decide) ?_
  refine lv_aload_n hx hb dX9_begin_15 rfl (lv_at hl 1 rfl) ?_
  refine va_get (D := g.1) (ci := 2) (v := .ref dmen) (C := RX2) (T := TX2) (N := 9) hx hb hT inF_X2 hown hK.1 hP 7 rfl rfl 0 (by decide) (hT _ bw_53) (fun _ h9 => h9) rfl dX9_begin_16 ?_
  refine va_get (D := g.1) (ci := 3) (v := .int dmen_count) (C := RX3) (T := TX3) (N := 5) hx hb hT inF_X3 hown hK.1 hP 10 rfl rfl 0 (by decide) (hT _ bw_54) (fun _ h9 => h9) rfl dX9_begin_19 ?_
  refine lv_ishl hx hb dX9_begin_22 ?_
  refine lv_topi (fun x_1 ex_1 => ?_)
  refine lv_iconst (v := 1) hx hb dX9_begin_23 (by decide) ?_
  refine lv_isub hx hb dX9_begin_24 ?_
  refine lv_topi (fun x_2 ex_2 => ?_)
  refine va_put (D := g.1) (ci := 9) (v := .int x_2) (ty := .int) (C := RX9) (T := TX9) (N := 14) hx hb hT inF_X9 tyX9 tyX9_ok nmX9 hown hK.1 hP hD hS 0 rfl rfl 2 (by decide) (hT _ bw_27) (fun _ h9 => h9) rfl (by decide +kernel) rfl rfl (Nat.le_of_ble_eq_true rfl) dX9_begin_25 (fun H locs hP hD hS => ?_)
  have hP : va_P g.1 vwCl [(h, .inr (9, [.int 0, .int ddraw, .int x_2, .int bstruck, .int bopen, .int bduels, .int blines, .ref bcoins, .ref brented, .ref bmornings, .ref bhonours, .ref bused, .ref bsides, .ref blog])), (bcoins, aI g 6 Fbcoins), (brented, aI g 6 Fbrented), (bmornings, aI g 8 Fbmornings), (bhonours, aI g 8 Fbhonours), (bused, aI g 8 Fbused), (bsides, aI g 16 Fbsides), (la, .inr (2, [.ref dmen, .ref dformulas, .ref dreasons, .int dduels, .ref dduelSides, .ref dduelMornings, .int dhonour, .int ddraw, .ref dusesOfKind])), (dduelSides, aI g 12 FdduelSides), (dduelMornings, aI g 6 FdduelMornings), (dmen, .inr (3, [.int dmen_count, .ref dmen_names, .ref dmen_dies, .ref dmen_coins, .ref dmen_fathers])), (dmen_coins, aI g 6 Fdmen_coins)] H := hP
  have hD : va_D A [(h, .inr (9, [.int 0, .int ddraw, .int x_2, .int bstruck, .int bopen, .int bduels, .int blines, .ref bcoins, .ref brented, .ref bmornings, .ref bhonours, .ref bused, .ref bsides, .ref blog])), (bcoins, aI g 6 Fbcoins), (brented, aI g 6 Fbrented), (bmornings, aI g 8 Fbmornings), (bhonours, aI g 8 Fbhonours), (bused, aI g 8 Fbused), (bsides, aI g 16 Fbsides), (la, .inr (2, [.ref dmen, .ref dformulas, .ref dreasons, .int dduels, .ref dduelSides, .ref dduelMornings, .int dhonour, .int ddraw, .ref dusesOfKind])), (dduelSides, aI g 12 FdduelSides), (dduelMornings, aI g 6 FdduelMornings), (dmen, .inr (3, [.int dmen_count, .ref dmen_names, .ref dmen_dies, .ref dmen_coins, .ref dmen_fathers])), (dmen_coins, aI g 6 Fdmen_coins)] := hD
  refine lv_aload_n hx hb dX9_begin_28 rfl (lv_at hl 0 rfl) ?_
  refine lv_iconst (v := 0) hx hb dX9_begin_29 (by decide) ?_
  refine va_put (D := g.1) (ci := 9) (v := .int 0) (ty := .int) (C := RX9) (T := TX9) (N := 14) hx hb hT inF_X9 tyX9 tyX9_ok nmX9 hown hK.1 hP hD hS 0 rfl rfl 3 (by decide) (hT _ bw_29) (fun _ h9 => h9) rfl (by decide +kernel) rfl rfl (Nat.le_of_ble_eq_true rfl) dX9_begin_30 (fun H locs hP hD hS => ?_)
  have hP : va_P g.1 vwCl [(h, .inr (9, [.int 0, .int ddraw, .int x_2, .int 0, .int bopen, .int bduels, .int blines, .ref bcoins, .ref brented, .ref bmornings, .ref bhonours, .ref bused, .ref bsides, .ref blog])), (bcoins, aI g 6 Fbcoins), (brented, aI g 6 Fbrented), (bmornings, aI g 8 Fbmornings), (bhonours, aI g 8 Fbhonours), (bused, aI g 8 Fbused), (bsides, aI g 16 Fbsides), (la, .inr (2, [.ref dmen, .ref dformulas, .ref dreasons, .int dduels, .ref dduelSides, .ref dduelMornings, .int dhonour, .int ddraw, .ref dusesOfKind])), (dduelSides, aI g 12 FdduelSides), (dduelMornings, aI g 6 FdduelMornings), (dmen, .inr (3, [.int dmen_count, .ref dmen_names, .ref dmen_dies, .ref dmen_coins, .ref dmen_fathers])), (dmen_coins, aI g 6 Fdmen_coins)] H := hP
  have hD : va_D A [(h, .inr (9, [.int 0, .int ddraw, .int x_2, .int 0, .int bopen, .int bduels, .int blines, .ref bcoins, .ref brented, .ref bmornings, .ref bhonours, .ref bused, .ref bsides, .ref blog])), (bcoins, aI g 6 Fbcoins), (brented, aI g 6 Fbrented), (bmornings, aI g 8 Fbmornings), (bhonours, aI g 8 Fbhonours), (bused, aI g 8 Fbused), (bsides, aI g 16 Fbsides), (la, .inr (2, [.ref dmen, .ref dformulas, .ref dreasons, .int dduels, .ref dduelSides, .ref dduelMornings, .int dhonour, .int ddraw, .ref dusesOfKind])), (dduelSides, aI g 12 FdduelSides), (dduelMornings, aI g 6 FdduelMornings), (dmen, .inr (3, [.int dmen_count, .ref dmen_names, .ref dmen_dies, .ref dmen_coins, .ref dmen_fathers])), (dmen_coins, aI g 6 Fdmen_coins)] := hD
  refine lv_aload_n hx hb dX9_begin_33 rfl (lv_at hl 0 rfl) ?_
  refine lv_iconst (v := 0) hx hb dX9_begin_34 (by decide) ?_
  refine va_put (D := g.1) (ci := 9) (v := .int 0) (ty := .int) (C := RX9) (T := TX9) (N := 14) hx hb hT inF_X9 tyX9 tyX9_ok nmX9 hown hK.1 hP hD hS 0 rfl rfl 4 (by decide) (hT _ bw_31) (fun _ h9 => h9) rfl (by decide +kernel) rfl rfl (Nat.le_of_ble_eq_true rfl) dX9_begin_35 (fun H locs hP hD hS => ?_)
  have hP : va_P g.1 vwCl [(h, .inr (9, [.int 0, .int ddraw, .int x_2, .int 0, .int 0, .int bduels, .int blines, .ref bcoins, .ref brented, .ref bmornings, .ref bhonours, .ref bused, .ref bsides, .ref blog])), (bcoins, aI g 6 Fbcoins), (brented, aI g 6 Fbrented), (bmornings, aI g 8 Fbmornings), (bhonours, aI g 8 Fbhonours), (bused, aI g 8 Fbused), (bsides, aI g 16 Fbsides), (la, .inr (2, [.ref dmen, .ref dformulas, .ref dreasons, .int dduels, .ref dduelSides, .ref dduelMornings, .int dhonour, .int ddraw, .ref dusesOfKind])), (dduelSides, aI g 12 FdduelSides), (dduelMornings, aI g 6 FdduelMornings), (dmen, .inr (3, [.int dmen_count, .ref dmen_names, .ref dmen_dies, .ref dmen_coins, .ref dmen_fathers])), (dmen_coins, aI g 6 Fdmen_coins)] H := hP
  have hD : va_D A [(h, .inr (9, [.int 0, .int ddraw, .int x_2, .int 0, .int 0, .int bduels, .int blines, .ref bcoins, .ref brented, .ref bmornings, .ref bhonours, .ref bused, .ref bsides, .ref blog])), (bcoins, aI g 6 Fbcoins), (brented, aI g 6 Fbrented), (bmornings, aI g 8 Fbmornings), (bhonours, aI g 8 Fbhonours), (bused, aI g 8 Fbused), (bsides, aI g 16 Fbsides), (la, .inr (2, [.ref dmen, .ref dformulas, .ref dreasons, .int dduels, .ref dduelSides, .ref dduelMornings, .int dhonour, .int ddraw, .ref dusesOfKind])), (dduelSides, aI g 12 FdduelSides), (dduelMornings, aI g 6 FdduelMornings), (dmen, .inr (3, [.int dmen_count, .ref dmen_names, .ref dmen_dies, .ref dmen_coins, .ref dmen_fathers])), (dmen_coins, aI g 6 Fdmen_coins)] := hD
  refine lv_aload_n hx hb dX9_begin_38 rfl (lv_at hl 0 rfl) ?_
  refine lv_iconst (v := 0) hx hb dX9_begin_39 (by decide) ?_
  refine va_put (D := g.1) (ci := 9) (v := .int 0) (ty := .int) (C := RX9) (T := TX9) (N := 14) hx hb hT inF_X9 tyX9 tyX9_ok nmX9 hown hK.1 hP hD hS 0 rfl rfl 5 (by decide) (hT _ bw_33) (fun _ h9 => h9) rfl (by decide +kernel) rfl rfl (Nat.le_of_ble_eq_true rfl) dX9_begin_40 (fun H locs hP hD hS => ?_)
  have hP : va_P g.1 vwCl [(h, .inr (9, [.int 0, .int ddraw, .int x_2, .int 0, .int 0, .int 0, .int blines, .ref bcoins, .ref brented, .ref bmornings, .ref bhonours, .ref bused, .ref bsides, .ref blog])), (bcoins, aI g 6 Fbcoins), (brented, aI g 6 Fbrented), (bmornings, aI g 8 Fbmornings), (bhonours, aI g 8 Fbhonours), (bused, aI g 8 Fbused), (bsides, aI g 16 Fbsides), (la, .inr (2, [.ref dmen, .ref dformulas, .ref dreasons, .int dduels, .ref dduelSides, .ref dduelMornings, .int dhonour, .int ddraw, .ref dusesOfKind])), (dduelSides, aI g 12 FdduelSides), (dduelMornings, aI g 6 FdduelMornings), (dmen, .inr (3, [.int dmen_count, .ref dmen_names, .ref dmen_dies, .ref dmen_coins, .ref dmen_fathers])), (dmen_coins, aI g 6 Fdmen_coins)] H := hP
  have hD : va_D A [(h, .inr (9, [.int 0, .int ddraw, .int x_2, .int 0, .int 0, .int 0, .int blines, .ref bcoins, .ref brented, .ref bmornings, .ref bhonours, .ref bused, .ref bsides, .ref blog])), (bcoins, aI g 6 Fbcoins), (brented, aI g 6 Fbrented), (bmornings, aI g 8 Fbmornings), (bhonours, aI g 8 Fbhonours), (bused, aI g 8 Fbused), (bsides, aI g 16 Fbsides), (la, .inr (2, [.ref dmen, .ref dformulas, .ref dreasons, .int dduels, .ref dduelSides, .ref dduelMornings, .int dhonour, .int ddraw, .ref dusesOfKind])), (dduelSides, aI g 12 FdduelSides), (dduelMornings, aI g 6 FdduelMornings), (dmen, .inr (3, [.int dmen_count, .ref dmen_names, .ref dmen_dies, .ref dmen_coins, .ref dmen_fathers])), (dmen_coins, aI g 6 Fdmen_coins)] := hD
  refine lv_aload_n hx hb dX9_begin_43 rfl (lv_at hl 0 rfl) ?_
  refine lv_iconst (v := 0) hx hb dX9_begin_44 (by decide) ?_
  refine va_put (D := g.1) (ci := 9) (v := .int 0) (ty := .int) (C := RX9) (T := TX9) (N := 14) hx hb hT inF_X9 tyX9 tyX9_ok nmX9 hown hK.1 hP hD hS 0 rfl rfl 6 (by decide) (hT _ bw_40) (fun _ h9 => h9) rfl (by decide +kernel) rfl rfl (Nat.le_of_ble_eq_true rfl) dX9_begin_45 (fun H locs hP hD hS => ?_)
  have hP : va_P g.1 vwCl [(h, .inr (9, [.int 0, .int ddraw, .int x_2, .int 0, .int 0, .int 0, .int 0, .ref bcoins, .ref brented, .ref bmornings, .ref bhonours, .ref bused, .ref bsides, .ref blog])), (bcoins, aI g 6 Fbcoins), (brented, aI g 6 Fbrented), (bmornings, aI g 8 Fbmornings), (bhonours, aI g 8 Fbhonours), (bused, aI g 8 Fbused), (bsides, aI g 16 Fbsides), (la, .inr (2, [.ref dmen, .ref dformulas, .ref dreasons, .int dduels, .ref dduelSides, .ref dduelMornings, .int dhonour, .int ddraw, .ref dusesOfKind])), (dduelSides, aI g 12 FdduelSides), (dduelMornings, aI g 6 FdduelMornings), (dmen, .inr (3, [.int dmen_count, .ref dmen_names, .ref dmen_dies, .ref dmen_coins, .ref dmen_fathers])), (dmen_coins, aI g 6 Fdmen_coins)] H := hP
  have hD : va_D A [(h, .inr (9, [.int 0, .int ddraw, .int x_2, .int 0, .int 0, .int 0, .int 0, .ref bcoins, .ref brented, .ref bmornings, .ref bhonours, .ref bused, .ref bsides, .ref blog])), (bcoins, aI g 6 Fbcoins), (brented, aI g 6 Fbrented), (bmornings, aI g 8 Fbmornings), (bhonours, aI g 8 Fbhonours), (bused, aI g 8 Fbused), (bsides, aI g 16 Fbsides), (la, .inr (2, [.ref dmen, .ref dformulas, .ref dreasons, .int dduels, .ref dduelSides, .ref dduelMornings, .int dhonour, .int ddraw, .ref dusesOfKind])), (dduelSides, aI g 12 FdduelSides), (dduelMornings, aI g 6 FdduelMornings), (dmen, .inr (3, [.int dmen_count, .ref dmen_names, .ref dmen_dies, .ref dmen_coins, .ref dmen_fathers])), (dmen_coins, aI g 6 Fdmen_coins)] := hD
  refine lv_aload_n hx hb dX9_begin_48 rfl (lv_at hl 1 rfl) ?_
  refine va_get (D := g.1) (ci := 2) (v := .ref dmen) (C := RX2) (T := TX2) (N := 9) hx hb hT inF_X2 hown hK.1 hP 7 rfl rfl 0 (by decide) (hT _ bw_53) (fun _ h9 => h9) rfl dX9_begin_49 ?_
  refine va_get (D := g.1) (ci := 3) (v := .ref dmen_coins) (C := RX3) (T := TX3) (N := 5) hx hb hT inF_X3 hown hK.1 hP 10 rfl rfl 3 (by decide) (hT _ bw_99) (fun _ h9 => h9) rfl dX9_begin_52 ?_
  refine lv_iconst (v := 0) hx hb dX9_begin_55 (by decide) ?_
  refine lv_aload_n hx hb dX9_begin_56 rfl (lv_at hl 0 rfl) ?_
  refine va_get (D := g.1) (ci := 9) (v := .ref bcoins) (C := RX9) (T := TX9) (N := 14) hx hb hT inF_X9 hown hK.1 hP 0 rfl rfl 7 (by decide) (hT _ bw_100) (fun _ h9 => h9) rfl dX9_begin_57 ?_
  refine lv_iconst (v := 0) hx hb dX9_begin_60 (by decide) ?_
  refine lv_bipush (v := 6) hx hb dX9_begin_61 (by decide) ?_
  refine va_copyi hx hb (hml.trans hl.1.symm) hown (hT _ bw_104) (hT _ bw_101) (hT _ bw_102) (hT _ bw_103) hK.1 hP hD hS 11 1 1 1 rfl rfl rfl rfl rfl (sp := 0) (dp := 0) (n := 6) (by decide) (by decide) (by decide) (by decide) (by decide) (fun _ _ => rfl) (Nat.le_of_ble_eq_true rfl) (Nat.le_of_ble_eq_true rfl) dX9_begin_63 (fun H locs hP hD hS => ?_)
  generalize va_cpy Fdmen_coins Fbcoins (0 : Int32).toNatClampNeg (0 : Int32).toNatClampNeg (6 : Int32).toNatClampNeg = f_3 at hP hD
  have hP : va_P g.1 vwCl [(h, .inr (9, [.int 0, .int ddraw, .int x_2, .int 0, .int 0, .int 0, .int 0, .ref bcoins, .ref brented, .ref bmornings, .ref bhonours, .ref bused, .ref bsides, .ref blog])), (bcoins, aI g 6 f_3), (brented, aI g 6 Fbrented), (bmornings, aI g 8 Fbmornings), (bhonours, aI g 8 Fbhonours), (bused, aI g 8 Fbused), (bsides, aI g 16 Fbsides), (la, .inr (2, [.ref dmen, .ref dformulas, .ref dreasons, .int dduels, .ref dduelSides, .ref dduelMornings, .int dhonour, .int ddraw, .ref dusesOfKind])), (dduelSides, aI g 12 FdduelSides), (dduelMornings, aI g 6 FdduelMornings), (dmen, .inr (3, [.int dmen_count, .ref dmen_names, .ref dmen_dies, .ref dmen_coins, .ref dmen_fathers])), (dmen_coins, aI g 6 Fdmen_coins)] H := hP
  have hD : va_D A [(h, .inr (9, [.int 0, .int ddraw, .int x_2, .int 0, .int 0, .int 0, .int 0, .ref bcoins, .ref brented, .ref bmornings, .ref bhonours, .ref bused, .ref bsides, .ref blog])), (bcoins, aI g 6 f_3), (brented, aI g 6 Fbrented), (bmornings, aI g 8 Fbmornings), (bhonours, aI g 8 Fbhonours), (bused, aI g 8 Fbused), (bsides, aI g 16 Fbsides), (la, .inr (2, [.ref dmen, .ref dformulas, .ref dreasons, .int dduels, .ref dduelSides, .ref dduelMornings, .int dhonour, .int ddraw, .ref dusesOfKind])), (dduelSides, aI g 12 FdduelSides), (dduelMornings, aI g 6 FdduelMornings), (dmen, .inr (3, [.int dmen_count, .ref dmen_names, .ref dmen_dies, .ref dmen_coins, .ref dmen_fathers])), (dmen_coins, aI g 6 Fdmen_coins)] := hD
  refine lv_aload_n hx hb dX9_begin_66 rfl (lv_at hl 0 rfl) ?_
  refine va_get (D := g.1) (ci := 9) (v := .ref brented) (C := RX9) (T := TX9) (N := 14) hx hb hT inF_X9 hown hK.1 hP 0 rfl rfl 8 (by decide) (hT _ bw_105) (fun _ h9 => h9) rfl dX9_begin_67 ?_
  refine lv_iconst (v := 0) hx hb dX9_begin_70 (by decide) ?_
  refine k_v (wr := [(h, .inr (9, [.int 0, .int ddraw, .int x_2, .int 0, .int 0, .int 0, .int 0, .ref bcoins, .ref brented, .ref bmornings, .ref bhonours, .ref bused, .ref bsides, .ref blog])), (bcoins, aI g 6 f_3), (bmornings, aI g 8 Fbmornings), (bhonours, aI g 8 Fbhonours), (bused, aI g 8 Fbused), (bsides, aI g 16 Fbsides), (la, .inr (2, [.ref dmen, .ref dformulas, .ref dreasons, .int dduels, .ref dduelSides, .ref dduelMornings, .int dhonour, .int ddraw, .ref dusesOfKind])), (dduelSides, aI g 12 FdduelSides), (dduelMornings, aI g 6 FdduelMornings), (dmen, .inr (3, [.int dmen_count, .ref dmen_names, .ref dmen_dies, .ref dmen_coins, .ref dmen_fathers])), (dmen_coins, aI g 6 Fdmen_coins)]) (k_S (n := 2) ⟨hx, hb, hml, hown, hT⟩ hK hP hD [2] rfl (by decide +kernel) (s_J7_fill_53178_6 l g H.size brented Fbrented 0) (gS bw_106 bw_107 bw_108 bw_97) rfl rfl (by decide +kernel) ⟨by decide, by decide⟩ (fun _ _ _ _ _ => trivial) (fun _ _ _ => trivial) rfl rfl hl.1 (Nat.le_of_ble_eq_true rfl) dX9_begin_71 ⟨by decide, by decide⟩) hP hD hS hA [2] [0, 1, 3, 4, 5, 6, 7, 8, 9, 10, 11] rfl rfl (by decide +kernel) (by decide +kernel) (fun f_4 H locs hw0 hP hD hS => ?_)
  have hP : va_P g.1 vwCl [(h, .inr (9, [.int 0, .int ddraw, .int x_2, .int 0, .int 0, .int 0, .int 0, .ref bcoins, .ref brented, .ref bmornings, .ref bhonours, .ref bused, .ref bsides, .ref blog])), (bcoins, aI g 6 f_3), (bmornings, aI g 8 Fbmornings), (bhonours, aI g 8 Fbhonours), (bused, aI g 8 Fbused), (bsides, aI g 16 Fbsides), (la, .inr (2, [.ref dmen, .ref dformulas, .ref dreasons, .int dduels, .ref dduelSides, .ref dduelMornings, .int dhonour, .int ddraw, .ref dusesOfKind])), (dduelSides, aI g 12 FdduelSides), (dduelMornings, aI g 6 FdduelMornings), (dmen, .inr (3, [.int dmen_count, .ref dmen_names, .ref dmen_dies, .ref dmen_coins, .ref dmen_fathers])), (dmen_coins, aI g 6 Fdmen_coins), (brented, aI g 6 f_4)] H := hP
  have hD : va_D A [(h, .inr (9, [.int 0, .int ddraw, .int x_2, .int 0, .int 0, .int 0, .int 0, .ref bcoins, .ref brented, .ref bmornings, .ref bhonours, .ref bused, .ref bsides, .ref blog])), (bcoins, aI g 6 f_3), (bmornings, aI g 8 Fbmornings), (bhonours, aI g 8 Fbhonours), (bused, aI g 8 Fbused), (bsides, aI g 16 Fbsides), (la, .inr (2, [.ref dmen, .ref dformulas, .ref dreasons, .int dduels, .ref dduelSides, .ref dduelMornings, .int dhonour, .int ddraw, .ref dusesOfKind])), (dduelSides, aI g 12 FdduelSides), (dduelMornings, aI g 6 FdduelMornings), (dmen, .inr (3, [.int dmen_count, .ref dmen_names, .ref dmen_dies, .ref dmen_coins, .ref dmen_fathers])), (dmen_coins, aI g 6 Fdmen_coins), (brented, aI g 6 f_4)] := hD
  refine lv_iconst (v := 0) hx hb dX9_begin_74 (by decide) ?_
  refine lv_istore_n (lv' := [(2, .int 0), (0, .ref h), (1, .ref la)]) hx hb dX9_begin_75 rfl hl (by decide) rfl (fun ls hl => ?_)
  refine k_floop 76 (fun n H locs ls => ∃ (L_5 : Int32) (L_6 : Int32) (L_7 : Int32) (f_8 : Nat → Int32) (f_9 : Nat → Int32) (f_10 : Nat → Int32) (f_11 : Nat → Int32), (0 ≤ L_5.toInt ∧ L_5.toInt ≤ 6) ∧ (0 ≤ L_7.toInt ∧ L_7.toInt ≤ 8) ∧ (Rg 16 0 5 f_8) ∧ 6 - L_5.toInt ≤ (n : Int) ∧ va_P g.1 vwCl [(h, .inr (9, [.int 0, .int ddraw, .int x_2, .int 0, .int L_6, .int L_7, .int 0, .ref bcoins, .ref brented, .ref bmornings, .ref bhonours, .ref bused, .ref bsides, .ref blog])), (bcoins, aI g 6 f_3), (bmornings, aI g 8 f_9), (bhonours, aI g 8 f_10), (bused, aI g 8 f_11), (bsides, aI g 16 f_8), (la, .inr (2, [.ref dmen, .ref dformulas, .ref dreasons, .int dduels, .ref dduelSides, .ref dduelMornings, .int dhonour, .int ddraw, .ref dusesOfKind])), (dduelSides, aI g 12 FdduelSides), (dduelMornings, aI g 6 FdduelMornings), (dmen, .inr (3, [.int dmen_count, .ref dmen_names, .ref dmen_dies, .ref dmen_coins, .ref dmen_fathers])), (dmen_coins, aI g 6 Fdmen_coins), (brented, aI g 6 f_4)] H ∧ va_D A [(h, .inr (9, [.int 0, .int ddraw, .int x_2, .int 0, .int L_6, .int L_7, .int 0, .ref bcoins, .ref brented, .ref bmornings, .ref bhonours, .ref bused, .ref bsides, .ref blog])), (bcoins, aI g 6 f_3), (bmornings, aI g 8 f_9), (bhonours, aI g 8 f_10), (bused, aI g 8 f_11), (bsides, aI g 16 f_8), (la, .inr (2, [.ref dmen, .ref dformulas, .ref dreasons, .int dduels, .ref dduelSides, .ref dduelMornings, .int dhonour, .int ddraw, .ref dusesOfKind])), (dduelSides, aI g 12 FdduelSides), (dduelMornings, aI g 6 FdduelMornings), (dmen, .inr (3, [.int dmen_count, .ref dmen_names, .ref dmen_dies, .ref dmen_coins, .ref dmen_fathers])), (dmen_coins, aI g 6 Fdmen_coins), (brented, aI g 6 f_4)] ∧ va_S A s.heap H locs ∧ lv_has ls 3 [(2, .int L_5), (0, .ref h), (1, .ref la)]) (fun n H locs ls hI ih => ?_) ((6 - 0 : Int)).toNat ⟨0, 0, 0, Fbsides, Fbmornings, Fbhonours, Fbused, by decide, by decide, hh3, by have k0 : (0 : Int32).toInt = 0 := (by decide); omega, hP, hD, hS, hl⟩
  refine hI.elim (fun L_5 hI => hI.elim (fun L_6 hI => hI.elim (fun L_7 hI => hI.elim (fun f_8 hI => hI.elim (fun f_9 hI => hI.elim (fun f_10 hI => hI.elim (fun f_11 hI => ?_)))))))
  have g_12 := hI.1
  have g_13 := hI.2.1
  have g_14 := hI.2.2.1
  have hm_15 := hI.2.2.2.1
  have hP := hI.2.2.2.2.1
  have hD := hI.2.2.2.2.2.1
  have hS := hI.2.2.2.2.2.2.1
  have hl := hI.2.2.2.2.2.2.2
  clear hI
  refine lv_iload_n hx hb dX9_begin_76 rfl (lv_at hl 0 rfl) ?_
  refine lv_aload_n hx hb dX9_begin_77 rfl (lv_at hl 2 rfl) ?_
  refine va_get (D := g.1) (ci := 2) (v := .int dduels) (C := RX2) (T := TX2) (N := 9) hx hb hT inF_X2 hown hK.1 hP 6 rfl rfl 3 (by decide) (hT _ bw_109) (fun _ h9 => h9) rfl dX9_begin_78 ?_
  refine lv_icmp_ge (tgt := 118) hx hb dX9_begin_81 (by decide) (fun c_16 => ?_) (fun c_16 => ?_)
  · have f_17 := E_le (rfl : dduels.toInt = _) (rfl : L_5.toInt = _) c_16
    have hP9 : va_P g.1 vwCl [(h, .inr (9, [.int 0, .int ddraw, .int x_2, .int 0, .int L_6, .int L_7, .int 0, .ref bcoins, .ref brented, .ref bmornings, .ref bhonours, .ref bused, .ref bsides, .ref blog])), (bcoins, aI g 6 f_3), (brented, aI g 6 f_4), (bmornings, aI g 8 f_9), (bhonours, aI g 8 f_10), (bused, aI g 8 f_11), (bsides, aI g 16 f_8), (la, .inr (2, [.ref dmen, .ref dformulas, .ref dreasons, .int dduels, .ref dduelSides, .ref dduelMornings, .int dhonour, .int ddraw, .ref dusesOfKind])), (dduelSides, aI g 12 FdduelSides), (dduelMornings, aI g 6 FdduelMornings), (dmen, .inr (3, [.int dmen_count, .ref dmen_names, .ref dmen_dies, .ref dmen_coins, .ref dmen_fathers])), (dmen_coins, aI g 6 Fdmen_coins)] H := hP.sub [0, 1, 11, 2, 3, 4, 5, 6, 7, 8, 9, 10] rfl
    have hD9 : va_D A [(h, .inr (9, [.int 0, .int ddraw, .int x_2, .int 0, .int L_6, .int L_7, .int 0, .ref bcoins, .ref brented, .ref bmornings, .ref bhonours, .ref bused, .ref bsides, .ref blog])), (bcoins, aI g 6 f_3), (brented, aI g 6 f_4), (bmornings, aI g 8 f_9), (bhonours, aI g 8 f_10), (bused, aI g 8 f_11), (bsides, aI g 16 f_8), (la, .inr (2, [.ref dmen, .ref dformulas, .ref dreasons, .int dduels, .ref dduelSides, .ref dduelMornings, .int dhonour, .int ddraw, .ref dusesOfKind])), (dduelSides, aI g 12 FdduelSides), (dduelMornings, aI g 6 FdduelMornings), (dmen, .inr (3, [.int dmen_count, .ref dmen_names, .ref dmen_dies, .ref dmen_coins, .ref dmen_fathers])), (dmen_coins, aI g 6 Fdmen_coins)] := hD.sub [0, 1, 11, 2, 3, 4, 5, 6, 7, 8, 9, 10] (by decide +kernel) rfl
    exact W.vret hx hb hr (fun t ht hW => ⟨⟨(ddraw, x_2, L_6, L_7, f_3, f_4, f_9, f_10, f_11, f_8), rfl, ⟨(by first | with_reducible assumption | omega), (by first | with_reducible assumption | omega), g_14⟩, by rw [ht]; exact hP9, by rw [hAe]; exact hD9⟩, hS.F ht⟩) hS.2.2 dX9_begin_118
  · have f_18 := E_nle (rfl : dduels.toInt = _) (rfl : L_5.toInt = _) c_16
    refine lv_aload_n hx hb dX9_begin_84 rfl (lv_at hl 1 rfl) ?_
    refine lv_aload_n hx hb dX9_begin_85 rfl (lv_at hl 2 rfl) ?_
    refine va_get (D := g.1) (ci := 2) (v := .ref dduelSides) (C := RX2) (T := TX2) (N := 9) hx hb hT inF_X2 hown hK.1 hP 6 rfl rfl 4 (by decide) (hT _ bw_110) (fun _ h9 => h9) rfl dX9_begin_86 ?_
    refine lv_iconst (v := 2) hx hb dX9_begin_89 (by decide) ?_
    refine lv_iload_n hx hb dX9_begin_90 rfl (lv_at hl 0 rfl) ?_
    refine lv_imul hx hb dX9_begin_91 ?_
    refine lv_topi (fun x_19 ex_19 => ?_)
    have fx_19 : x_19.toInt = 2 * L_5.toInt := by rw [ex_19]; exact I_mul (by decide : (2 : Int32).toInt = 2) rfl (by omega) (by omega)
    have h_20 : vp_in x_19 12 := vp_in_iff.mpr (by omega)
    refine va_iald hx hb hK.1 hP 7 1 rfl rfl (i := x_19) h_20 dX9_begin_92 ?_
    refine lv_topi (fun x_21 ex_21 => ?_)
    have fx_21 : 0 ≤ x_21.toInt ∧ x_21.toInt ≤ 5 := Rg.rd hh5 h_20 ex_21
    have ux_21 := congrArg Int32.toInt ex_21
    refine lv_aload_n hx hb dX9_begin_93 rfl (lv_at hl 2 rfl) ?_
    refine va_get (D := g.1) (ci := 2) (v := .ref dduelSides) (C := RX2) (T := TX2) (N := 9) hx hb hT inF_X2 hown hK.1 hP 6 rfl rfl 4 (by decide) (hT _ bw_110) (fun _ h9 => h9) rfl dX9_begin_94 ?_
    refine lv_iconst (v := 2) hx hb dX9_begin_97 (by decide) ?_
    refine lv_iload_n hx hb dX9_begin_98 rfl (lv_at hl 0 rfl) ?_
    refine lv_imul hx hb dX9_begin_99 ?_
    refine lv_topi (fun x_22 ex_22 => ?_)
    have fx_22 : x_22.toInt = 2 * L_5.toInt := by rw [ex_22]; exact I_mul (by decide : (2 : Int32).toInt = 2) rfl (by omega) (by omega)
    refine lv_iconst (v := 1) hx hb dX9_begin_100 (by decide) ?_
    refine lv_iadd hx hb dX9_begin_101 ?_
    refine lv_topi (fun x_23 ex_23 => ?_)
    have fx_23 : x_23.toInt = x_22.toInt + 1 := by rw [ex_23]; exact I_add rfl (by decide : (1 : Int32).toInt = 1) (by omega) (by omega)
    have h_24 : vp_in x_23 12 := vp_in_iff.mpr (by omega)
    refine va_iald hx hb hK.1 hP 7 1 rfl rfl (i := x_23) h_24 dX9_begin_102 ?_
    refine lv_topi (fun x_25 ex_25 => ?_)
    have fx_25 : 0 ≤ x_25.toInt ∧ x_25.toInt ≤ 5 := Rg.rd hh5 h_24 ex_25
    have ux_25 := congrArg Int32.toInt ex_25
    refine lv_aload_n hx hb dX9_begin_103 rfl (lv_at hl 2 rfl) ?_
    refine va_get (D := g.1) (ci := 2) (v := .ref dduelMornings) (C := RX2) (T := TX2) (N := 9) hx hb hT inF_X2 hown hK.1 hP 6 rfl rfl 5 (by decide) (hT _ bw_111) (fun _ h9 => h9) rfl dX9_begin_104 ?_
    refine lv_iload_n hx hb dX9_begin_107 rfl (lv_at hl 0 rfl) ?_
    have h_26 : vp_in L_5 6 := vp_in_iff.mpr (by omega)
    refine va_iald hx hb hK.1 hP 8 1 rfl rfl (i := L_5) h_26 dX9_begin_108 ?_
    refine lv_topi (fun x_27 ex_27 => ?_)
    have ux_27 := congrArg Int32.toInt ex_27
    refine k_v (wr := [(bcoins, aI g 6 f_3), (la, .inr (2, [.ref dmen, .ref dformulas, .ref dreasons, .int dduels, .ref dduelSides, .ref dduelMornings, .int dhonour, .int ddraw, .ref dusesOfKind])), (dduelSides, aI g 12 FdduelSides), (dduelMornings, aI g 6 FdduelMornings), (dmen, .inr (3, [.int dmen_count, .ref dmen_names, .ref dmen_dies, .ref dmen_coins, .ref dmen_fathers])), (dmen_coins, aI g 6 Fdmen_coins), (brented, aI g 6 f_4)]) (k_V (n := 3) ⟨hx, hb, hml, hown, hT⟩ hK hP hD [0, 2, 3, 4, 5] rfl (by decide +kernel) (s_X9_addDuel l g H.size h 0 ddraw x_2 0 L_6 L_7 0 bcoins brented bmornings f_9 bhonours f_10 bused f_11 bsides f_8 blog x_21 x_25 x_27 (by first | with_reducible assumption | omega) (by first | with_reducible assumption | omega) (by decide) g_14 (by first | with_reducible assumption | omega) (by first | with_reducible assumption | omega)) (gV bw_112 bw_113 bw_114 bw_46 bw_71) rfl rfl (by decide +kernel) ⟨by decide, by decide⟩ (ci := 9) (q0 := 0) rfl rfl (fun _ _ _ _ _ => trivial) (fun _ _ _ => trivial) rfl rfl hl.1 (Nat.le_of_ble_eq_true rfl) dX9_begin_109 ⟨by decide, by decide⟩) hP hD hS hA [0, 2, 3, 4, 5] [1, 6, 7, 8, 9, 10, 11] rfl rfl (by decide +kernel) (by decide +kernel) (pr_all fun y_28 => pr_all fun y_29 => pr_all fun f_30 => pr_all fun f_31 => pr_all fun f_32 => fun f_33 H locs hw0 hP hD hS => ?_)
    have hP : va_P g.1 vwCl [(bcoins, aI g 6 f_3), (la, .inr (2, [.ref dmen, .ref dformulas, .ref dreasons, .int dduels, .ref dduelSides, .ref dduelMornings, .int dhonour, .int ddraw, .ref dusesOfKind])), (dduelSides, aI g 12 FdduelSides), (dduelMornings, aI g 6 FdduelMornings), (dmen, .inr (3, [.int dmen_count, .ref dmen_names, .ref dmen_dies, .ref dmen_coins, .ref dmen_fathers])), (dmen_coins, aI g 6 Fdmen_coins), (brented, aI g 6 f_4), (h, .inr (9, [.int 0, .int ddraw, .int x_2, .int 0, .int y_28, .int y_29, .int 0, .ref bcoins, .ref brented, .ref bmornings, .ref bhonours, .ref bused, .ref bsides, .ref blog])), (bmornings, aI g 8 f_30), (bhonours, aI g 8 f_31), (bused, aI g 8 f_32), (bsides, aI g 16 f_33)] H := hP
    have hD : va_D A [(bcoins, aI g 6 f_3), (la, .inr (2, [.ref dmen, .ref dformulas, .ref dreasons, .int dduels, .ref dduelSides, .ref dduelMornings, .int dhonour, .int ddraw, .ref dusesOfKind])), (dduelSides, aI g 12 FdduelSides), (dduelMornings, aI g 6 FdduelMornings), (dmen, .inr (3, [.int dmen_count, .ref dmen_names, .ref dmen_dies, .ref dmen_coins, .ref dmen_fathers])), (dmen_coins, aI g 6 Fdmen_coins), (brented, aI g 6 f_4), (h, .inr (9, [.int 0, .int ddraw, .int x_2, .int 0, .int y_28, .int y_29, .int 0, .ref bcoins, .ref brented, .ref bmornings, .ref bhonours, .ref bused, .ref bsides, .ref blog])), (bmornings, aI g 8 f_30), (bhonours, aI g 8 f_31), (bused, aI g 8 f_32), (bsides, aI g 16 f_33)] := hD
    have hw : (0 ≤ y_29.toInt ∧ y_29.toInt ≤ 8) ∧ (Rg 16 0 5 f_33) := hw0
    clear hw0
    have w_34 := hw.1
    have w_35 := hw.2
    clear hw
    obtain ⟨x_36, ex_36⟩ : ∃ y : Int32, y = L_5 + 1 := ⟨_, rfl⟩
    have fx_36 : x_36.toInt = L_5.toInt + 1 := by rw [ex_36]; exact I_add rfl (by decide) (by omega) (by omega)
    refine lv_iinc (v := x_36) (lv' := [(2, .int x_36), (0, .ref h), (1, .ref la)]) hx hb dX9_begin_112 hl (k := 0) rfl (by rw [ex_36]; rfl) (by decide) rfl (fun ls hl => ?_)
    refine lv_goto (tgt := 76) hx hb dX9_begin_115 (by decide) ?_
    exact ih (n - 1) (by omega) H locs ls ⟨x_36, y_28, y_29, f_33, f_30, f_31, f_32, (by first | with_reducible assumption | omega), (by first | with_reducible assumption | omega), w_35, by omega, hP.sub [7, 0, 8, 9, 10, 11, 1, 2, 3, 4, 5, 6] rfl, hD.sub [7, 0, 8, 9, 10, 11, 1, 2, 3, 4, 5, 6] (by decide +kernel) rfl, hS, lv_sub hl [0, 1, 2] rfl⟩

theorem bw_116 : Cond.code yX9_copy cX9_copy 2 none ∈ gT := gT_tb 993 (by decide +kernel) (by decide +kernel)
theorem dX9_copy_0 : decode cX9_copy 0 = .ok (.aload_n 0, 1) := by decide +kernel
theorem dX9_copy_1 : decode cX9_copy 1 = .ok (.aload_n 1, 1) := by decide +kernel
theorem dX9_copy_2 : decode cX9_copy 2 = .ok (.getfield 33, 3) := by decide +kernel
theorem dX9_copy_5 : decode cX9_copy 5 = .ok (.putfield 33, 3) := by decide +kernel
theorem dX9_copy_8 : decode cX9_copy 8 = .ok (.aload_n 0, 1) := by decide +kernel
theorem dX9_copy_9 : decode cX9_copy 9 = .ok (.aload_n 1, 1) := by decide +kernel
theorem dX9_copy_10 : decode cX9_copy 10 = .ok (.getfield 42, 3) := by decide +kernel
theorem dX9_copy_13 : decode cX9_copy 13 = .ok (.putfield 42, 3) := by decide +kernel
theorem dX9_copy_16 : decode cX9_copy 16 = .ok (.aload_n 0, 1) := by decide +kernel
theorem dX9_copy_17 : decode cX9_copy 17 = .ok (.aload_n 1, 1) := by decide +kernel
theorem dX9_copy_18 : decode cX9_copy 18 = .ok (.getfield 54, 3) := by decide +kernel
theorem dX9_copy_21 : decode cX9_copy 21 = .ok (.putfield 54, 3) := by decide +kernel
theorem dX9_copy_24 : decode cX9_copy 24 = .ok (.aload_n 0, 1) := by decide +kernel
theorem dX9_copy_25 : decode cX9_copy 25 = .ok (.aload_n 1, 1) := by decide +kernel
theorem dX9_copy_26 : decode cX9_copy 26 = .ok (.getfield 57, 3) := by decide +kernel
theorem dX9_copy_29 : decode cX9_copy 29 = .ok (.putfield 57, 3) := by decide +kernel
theorem dX9_copy_32 : decode cX9_copy 32 = .ok (.aload_n 0, 1) := by decide +kernel
theorem dX9_copy_33 : decode cX9_copy 33 = .ok (.aload_n 1, 1) := by decide +kernel
theorem dX9_copy_34 : decode cX9_copy 34 = .ok (.getfield 60, 3) := by decide +kernel
theorem dX9_copy_37 : decode cX9_copy 37 = .ok (.putfield 60, 3) := by decide +kernel
theorem dX9_copy_40 : decode cX9_copy 40 = .ok (.aload_n 0, 1) := by decide +kernel
theorem dX9_copy_41 : decode cX9_copy 41 = .ok (.aload_n 1, 1) := by decide +kernel
theorem dX9_copy_42 : decode cX9_copy 42 = .ok (.getfield 63, 3) := by decide +kernel
theorem dX9_copy_45 : decode cX9_copy 45 = .ok (.putfield 63, 3) := by decide +kernel
theorem dX9_copy_48 : decode cX9_copy 48 = .ok (.aload_n 0, 1) := by decide +kernel
theorem dX9_copy_49 : decode cX9_copy 49 = .ok (.aload_n 1, 1) := by decide +kernel
theorem dX9_copy_50 : decode cX9_copy 50 = .ok (.getfield 66, 3) := by decide +kernel
theorem dX9_copy_53 : decode cX9_copy 53 = .ok (.putfield 66, 3) := by decide +kernel
theorem dX9_copy_56 : decode cX9_copy 56 = .ok (.aload_n 1, 1) := by decide +kernel
theorem dX9_copy_57 : decode cX9_copy 57 = .ok (.getfield 9, 3) := by decide +kernel
theorem dX9_copy_60 : decode cX9_copy 60 = .ok (.iconst 0, 1) := by decide +kernel
theorem dX9_copy_61 : decode cX9_copy 61 = .ok (.aload_n 0, 1) := by decide +kernel
theorem dX9_copy_62 : decode cX9_copy 62 = .ok (.getfield 9, 3) := by decide +kernel
theorem dX9_copy_65 : decode cX9_copy 65 = .ok (.iconst 0, 1) := by decide +kernel
theorem dX9_copy_66 : decode cX9_copy 66 = .ok (.bipush 6, 2) := by decide +kernel
theorem dX9_copy_68 : decode cX9_copy 68 = .ok (.invokestatic 70, 3) := by decide +kernel
theorem dX9_copy_71 : decode cX9_copy 71 = .ok (.aload_n 1, 1) := by decide +kernel
theorem dX9_copy_72 : decode cX9_copy 72 = .ok (.getfield 15, 3) := by decide +kernel
theorem dX9_copy_75 : decode cX9_copy 75 = .ok (.iconst 0, 1) := by decide +kernel
theorem dX9_copy_76 : decode cX9_copy 76 = .ok (.aload_n 0, 1) := by decide +kernel
theorem dX9_copy_77 : decode cX9_copy 77 = .ok (.getfield 15, 3) := by decide +kernel
theorem dX9_copy_80 : decode cX9_copy 80 = .ok (.iconst 0, 1) := by decide +kernel
theorem dX9_copy_81 : decode cX9_copy 81 = .ok (.bipush 6, 2) := by decide +kernel
theorem dX9_copy_83 : decode cX9_copy 83 = .ok (.invokestatic 70, 3) := by decide +kernel
theorem dX9_copy_86 : decode cX9_copy 86 = .ok (.aload_n 1, 1) := by decide +kernel
theorem dX9_copy_87 : decode cX9_copy 87 = .ok (.getfield 18, 3) := by decide +kernel
theorem dX9_copy_90 : decode cX9_copy 90 = .ok (.iconst 0, 1) := by decide +kernel
theorem dX9_copy_91 : decode cX9_copy 91 = .ok (.aload_n 0, 1) := by decide +kernel
theorem dX9_copy_92 : decode cX9_copy 92 = .ok (.getfield 18, 3) := by decide +kernel
theorem dX9_copy_95 : decode cX9_copy 95 = .ok (.iconst 0, 1) := by decide +kernel
theorem dX9_copy_96 : decode cX9_copy 96 = .ok (.bipush 8, 2) := by decide +kernel
theorem dX9_copy_98 : decode cX9_copy 98 = .ok (.invokestatic 70, 3) := by decide +kernel
theorem dX9_copy_101 : decode cX9_copy 101 = .ok (.aload_n 1, 1) := by decide +kernel
theorem dX9_copy_102 : decode cX9_copy 102 = .ok (.getfield 21, 3) := by decide +kernel
theorem dX9_copy_105 : decode cX9_copy 105 = .ok (.iconst 0, 1) := by decide +kernel
theorem dX9_copy_106 : decode cX9_copy 106 = .ok (.aload_n 0, 1) := by decide +kernel
theorem dX9_copy_107 : decode cX9_copy 107 = .ok (.getfield 21, 3) := by decide +kernel
theorem dX9_copy_110 : decode cX9_copy 110 = .ok (.iconst 0, 1) := by decide +kernel
theorem dX9_copy_111 : decode cX9_copy 111 = .ok (.bipush 8, 2) := by decide +kernel
theorem dX9_copy_113 : decode cX9_copy 113 = .ok (.invokestatic 70, 3) := by decide +kernel
theorem dX9_copy_116 : decode cX9_copy 116 = .ok (.aload_n 1, 1) := by decide +kernel
theorem dX9_copy_117 : decode cX9_copy 117 = .ok (.getfield 24, 3) := by decide +kernel
theorem dX9_copy_120 : decode cX9_copy 120 = .ok (.iconst 0, 1) := by decide +kernel
theorem dX9_copy_121 : decode cX9_copy 121 = .ok (.aload_n 0, 1) := by decide +kernel
theorem dX9_copy_122 : decode cX9_copy 122 = .ok (.getfield 24, 3) := by decide +kernel
theorem dX9_copy_125 : decode cX9_copy 125 = .ok (.iconst 0, 1) := by decide +kernel
theorem dX9_copy_126 : decode cX9_copy 126 = .ok (.bipush 8, 2) := by decide +kernel
theorem dX9_copy_128 : decode cX9_copy 128 = .ok (.invokestatic 70, 3) := by decide +kernel
theorem dX9_copy_131 : decode cX9_copy 131 = .ok (.aload_n 1, 1) := by decide +kernel
theorem dX9_copy_132 : decode cX9_copy 132 = .ok (.getfield 27, 3) := by decide +kernel
theorem dX9_copy_135 : decode cX9_copy 135 = .ok (.iconst 0, 1) := by decide +kernel
theorem dX9_copy_136 : decode cX9_copy 136 = .ok (.aload_n 0, 1) := by decide +kernel
theorem dX9_copy_137 : decode cX9_copy 137 = .ok (.getfield 27, 3) := by decide +kernel
theorem dX9_copy_140 : decode cX9_copy 140 = .ok (.iconst 0, 1) := by decide +kernel
theorem dX9_copy_141 : decode cX9_copy 141 = .ok (.bipush 16, 2) := by decide +kernel
theorem dX9_copy_143 : decode cX9_copy 143 = .ok (.invokestatic 70, 3) := by decide +kernel
theorem dX9_copy_146 : decode cX9_copy 146 = .ok (.aload_n 1, 1) := by decide +kernel
theorem dX9_copy_147 : decode cX9_copy 147 = .ok (.getfield 30, 3) := by decide +kernel
theorem dX9_copy_150 : decode cX9_copy 150 = .ok (.iconst 0, 1) := by decide +kernel
theorem dX9_copy_151 : decode cX9_copy 151 = .ok (.aload_n 0, 1) := by decide +kernel
theorem dX9_copy_152 : decode cX9_copy 152 = .ok (.getfield 30, 3) := by decide +kernel
theorem dX9_copy_155 : decode cX9_copy 155 = .ok (.iconst 0, 1) := by decide +kernel
theorem dX9_copy_156 : decode cX9_copy 156 = .ok (.aload_n 1, 1) := by decide +kernel
theorem dX9_copy_157 : decode cX9_copy 157 = .ok (.getfield 66, 3) := by decide +kernel
theorem dX9_copy_160 : decode cX9_copy 160 = .ok (.invokestatic 70, 3) := by decide +kernel
theorem dX9_copy_163 : decode cX9_copy 163 = .ok (.return_, 1) := by decide +kernel
set_option maxHeartbeats 4000000 in
set_option maxRecDepth 100000 in
theorem s_X9_copy (l : Launch) (g : GG) (sz : Nat) (h : Nat) (bday : Int32) (bseed : Int32) (balive : Int32) (bstruck : Int32) (bopen : Int32) (bduels : Int32) (blines : Int32) (bcoins : Nat) (Fbcoins : Nat → Int32) (brented : Nat) (Fbrented : Nat → Int32) (bmornings : Nat) (Fbmornings : Nat → Int32) (bhonours : Nat) (Fbhonours : Nat → Int32) (bused : Nat) (Fbused : Nat → Int32) (bsides : Nat) (Fbsides : Nat → Int32) (blog : Nat) (Fblog : Nat → Int32) (o : Nat) (cday : Int32) (cseed : Int32) (calive : Int32) (cstruck : Int32) (copen : Int32) (cduels : Int32) (clines : Int32) (ccoins : Nat) (Fccoins : Nat → Int32) (crented : Nat) (Fcrented : Nat → Int32) (cmornings : Nat) (Fcmornings : Nat → Int32) (chonours : Nat) (Fchonours : Nat → Int32) (cused : Nat) (Fcused : Nat → Int32) (csides : Nat) (Fcsides : Nat → Int32) (clog : Nat) (Fclog : Nat → Int32) (hh0 : 0 ≤ bseed.toInt ∧ bseed.toInt ≤ 999) (hh1 : 0 ≤ bduels.toInt ∧ bduels.toInt ≤ 8) (hh2 : 0 ≤ blines.toInt ∧ blines.toInt ≤ 60) (hh3 : Rg 16 0 5 Fbsides) (hh4 : 0 ≤ cseed.toInt ∧ cseed.toInt ≤ 999) (hh5 : 0 ≤ cduels.toInt ∧ cduels.toInt ≤ 8) (hh6 : 0 ≤ clines.toInt ∧ clines.toInt ≤ 60) (hh7 : Rg 16 0 5 Fcsides) : Met l yX9_copy (.code yX9_copy cX9_copy 2 none :: gT) ({ frames := 1, cells := 0, slots := 0, locals := 60 }) (va_Pc [.ref h, .ref o] (Pst g sz [(h, .inr (9, [.int bday, .int bseed, .int balive, .int bstruck, .int bopen, .int bduels, .int blines, .ref bcoins, .ref brented, .ref bmornings, .ref bhonours, .ref bused, .ref bsides, .ref blog])), (bcoins, aI g 6 Fbcoins), (brented, aI g 6 Fbrented), (bmornings, aI g 8 Fbmornings), (bhonours, aI g 8 Fbhonours), (bused, aI g 8 Fbused), (bsides, aI g 16 Fbsides), (blog, aI g 60 Fblog), (o, .inr (9, [.int cday, .int cseed, .int calive, .int cstruck, .int copen, .int cduels, .int clines, .ref ccoins, .ref crented, .ref cmornings, .ref chonours, .ref cused, .ref csides, .ref clog])), (ccoins, aI g 6 Fccoins), (crented, aI g 6 Fcrented), (cmornings, aI g 8 Fcmornings), (chonours, aI g 8 Fchonours), (cused, aI g 8 Fcused), (csides, aI g 16 Fcsides), (clog, aI g 60 Fclog)] nX)) (va_Qv (fun ((o0_day, o1_seed, o2_alive, o3_struck, o4_open, o5_duels, o6_lines, o7_F, o8_F, o9_F, o10_F, o11_F, o12_F, o13_F) : Int32 × Int32 × Int32 × Int32 × Int32 × Int32 × Int32 × (Nat → Int32) × (Nat → Int32) × (Nat → Int32) × (Nat → Int32) × (Nat → Int32) × (Nat → Int32) × (Nat → Int32)) => (0 ≤ o1_seed.toInt ∧ o1_seed.toInt ≤ 999) ∧ (0 ≤ o5_duels.toInt ∧ o5_duels.toInt ≤ 8) ∧ (0 ≤ o6_lines.toInt ∧ o6_lines.toInt ≤ 60) ∧ (Rg 16 0 5 o12_F)) (Qst g [(h, .inr (9, [.int bday, .int bseed, .int balive, .int bstruck, .int bopen, .int bduels, .int blines, .ref bcoins, .ref brented, .ref bmornings, .ref bhonours, .ref bused, .ref bsides, .ref blog])), (bcoins, aI g 6 Fbcoins), (brented, aI g 6 Fbrented), (bmornings, aI g 8 Fbmornings), (bhonours, aI g 8 Fbhonours), (bused, aI g 8 Fbused), (bsides, aI g 16 Fbsides), (blog, aI g 60 Fblog), (o, .inr (9, [.int cday, .int cseed, .int calive, .int cstruck, .int copen, .int cduels, .int clines, .ref ccoins, .ref crented, .ref cmornings, .ref chonours, .ref cused, .ref csides, .ref clog])), (ccoins, aI g 6 Fccoins), (crented, aI g 6 Fcrented), (cmornings, aI g 8 Fcmornings), (chonours, aI g 8 Fchonours), (cused, aI g 8 Fcused), (csides, aI g 16 Fcsides), (clog, aI g 60 Fclog)] sz (fun ((o0_day, o1_seed, o2_alive, o3_struck, o4_open, o5_duels, o6_lines, o7_F, o8_F, o9_F, o10_F, o11_F, o12_F, o13_F) : Int32 × Int32 × Int32 × Int32 × Int32 × Int32 × Int32 × (Nat → Int32) × (Nat → Int32) × (Nat → Int32) × (Nat → Int32) × (Nat → Int32) × (Nat → Int32) × (Nat → Int32)) => [(h, .inr (9, [.int o0_day, .int o1_seed, .int o2_alive, .int o3_struck, .int o4_open, .int o5_duels, .int o6_lines, .ref bcoins, .ref brented, .ref bmornings, .ref bhonours, .ref bused, .ref bsides, .ref blog])), (bcoins, aI g 6 o7_F), (brented, aI g 6 o8_F), (bmornings, aI g 8 o9_F), (bhonours, aI g 8 o10_F), (bused, aI g 8 o11_F), (bsides, aI g 16 o12_F), (blog, aI g 60 o13_F), (o, .inr (9, [.int cday, .int cseed, .int calive, .int cstruck, .int copen, .int cduels, .int clines, .ref ccoins, .ref crented, .ref cmornings, .ref chonours, .ref cused, .ref csides, .ref clog])), (ccoins, aI g 6 Fccoins), (crented, aI g 6 Fcrented), (cmornings, aI g 8 Fcmornings), (chonours, aI g 8 Fchonours), (cused, aI g 8 Fcused), (csides, aI g 16 Fcsides), (clog, aI g 60 Fclog)])) (va_A [(h, .inr (9, [.int bday, .int bseed, .int balive, .int bstruck, .int bopen, .int bduels, .int blines, .ref bcoins, .ref brented, .ref bmornings, .ref bhonours, .ref bused, .ref bsides, .ref blog])), (bcoins, aI g 6 Fbcoins), (brented, aI g 6 Fbrented), (bmornings, aI g 8 Fbmornings), (bhonours, aI g 8 Fbhonours), (bused, aI g 8 Fbused), (bsides, aI g 16 Fbsides), (blog, aI g 60 Fblog), (o, .inr (9, [.int cday, .int cseed, .int calive, .int cstruck, .int copen, .int cduels, .int clines, .ref ccoins, .ref crented, .ref cmornings, .ref chonours, .ref cused, .ref csides, .ref clog])), (ccoins, aI g 6 Fccoins), (crented, aI g 6 Fcrented), (cmornings, aI g 8 Fcmornings), (chonours, aI g 8 Fchonours), (cused, aI g 8 Fcused), (csides, aI g 16 Fcsides), (clog, aI g 60 Fclog)] sz)) 0 0 (va_A [(h, .inr (9, [.int bday, .int bseed, .int balive, .int bstruck, .int bopen, .int bduels, .int blines, .ref bcoins, .ref brented, .ref bmornings, .ref bhonours, .ref bused, .ref bsides, .ref blog])), (bcoins, aI g 6 Fbcoins), (brented, aI g 6 Fbrented), (bmornings, aI g 8 Fbmornings), (bhonours, aI g 8 Fbhonours), (bused, aI g 8 Fbused), (bsides, aI g 16 Fbsides), (blog, aI g 60 Fblog), (o, .inr (9, [.int cday, .int cseed, .int calive, .int cstruck, .int copen, .int cduels, .int clines, .ref ccoins, .ref crented, .ref cmornings, .ref chonours, .ref cused, .ref csides, .ref clog])), (ccoins, aI g 6 Fccoins), (crented, aI g 6 Fcrented), (cmornings, aI g 8 Fcmornings), (chonours, aI g 8 Fchonours), (cused, aI g 8 Fcused), (csides, aI g 16 Fcsides), (clog, aI g 60 Fclog)] sz) := by
  refine Met.ofW (cc := cX9_copy) (maxL := 2) (ret := none) (by decide) rfl ?_
  intro p e s m args below meth c s₁ B hml hv
  obtain ⟨rfl, hsz, hP, hK, hD0, hX⟩ := hv
  have hx := B.exec
  have hb := B.bytes
  have hr := B.returns
  have hT : ∀ w ∈ gT, w.before _ s = true := fun w h => atoms_spec (ws := .code yX9_copy cX9_copy 2 none :: gT) B.pre w (List.mem_cons_of_mem _ h)
  have hown : s.vm.findClass RX9 = some m.cls := findClass_of_methodNamed B.named
  have hlocks := B.notSynchronized
  subst hsz
  have hD := hD0.self (sz := s.heap.size)
  generalize hAe : va_A [(h, .inr (9, [.int bday, .int bseed, .int balive, .int bstruck, .int bopen, .int bduels, .int blines, .ref bcoins, .ref brented, .ref bmornings, .ref bhonours, .ref bused, .ref bsides, .ref blog])), (bcoins, aI g 6 Fbcoins), (brented, aI g 6 Fbrented), (bmornings, aI g 8 Fbmornings), (bhonours, aI g 8 Fbhonours), (bused, aI g 8 Fbused), (bsides, aI g 16 Fbsides), (blog, aI g 60 Fblog), (o, .inr (9, [.int cday, .int cseed, .int calive, .int cstruck, .int copen, .int cduels, .int clines, .ref ccoins, .ref crented, .ref cmornings, .ref chonours, .ref cused, .ref csides, .ref clog])), (ccoins, aI g 6 Fccoins), (crented, aI g 6 Fcrented), (cmornings, aI g 8 Fcmornings), (chonours, aI g 8 Fchonours), (cused, aI g 8 Fcused), (csides, aI g 16 Fcsides), (clog, aI g 60 Fclog)] s.heap.size = A at hD ⊢
  have hA : ∀ q : Nat, s.heap.size ≤ q → A q := fun q h => by rw [← hAe]; exact Or.inr h
  have hS : va_S A s.heap s.heap [] := va_S.rf
  have hl := lv_entry ([.ref h, .ref o]) (n := 2) (Nat.le_of_ble_eq_true rfl)
  rw [lg_entry_eq]
  generalize (lg_sl ([.ref h, .ref o]) ++ List.replicate (2 - (lg_sl ([.ref h, .ref o])).length) Slot.unset).toArray = ls at hl ⊢
  have hl : lv_has ls 2 [(0, .ref h), (1, .ref o)] := hl
  refine p_nH (fun H hH => ?_)
  have hP : va_P g.1 vwCl [(h, .inr (9, [.int bday, .int bseed, .int balive, .int bstruck, .int bopen, .int bduels, .int blines, .ref bcoins, .ref brented, .ref bmornings, .ref bhonours, .ref bused, .ref bsides, .ref blog])), (bcoins, aI g 6 Fbcoins), (brented, aI g 6 Fbrented), (bmornings, aI g 8 Fbmornings), (bhonours, aI g 8 Fbhonours), (bused, aI g 8 Fbused), (bsides, aI g 16 Fbsides), (blog, aI g 60 Fblog), (o, .inr (9, [.int cday, .int cseed, .int calive, .int cstruck, .int copen, .int cduels, .int clines, .ref ccoins, .ref crented, .ref cmornings, .ref chonours, .ref cused, .ref csides, .ref clog])), (ccoins, aI g 6 Fccoins), (crented, aI g 6 Fcrented), (cmornings, aI g 8 Fcmornings), (chonours, aI g 8 Fchonours), (cused, aI g 8 Fcused), (csides, aI g 16 Fcsides), (clog, aI g 60 Fclog)] H := by rw [hH]; exact hP
  have hS : va_S A s.heap H [] := by rw [hH]; exact hS
  refine lv_aload_n hx hb dX9_copy_0 rfl (lv_at hl 0 rfl) ?_
  refine lv_aload_n hx hb dX9_copy_1 rfl (lv_at hl 1 rfl) ?_
  refine va_get (D := g.1) (ci := 9) (v := .int cday) (C := RX9) (T := TX9) (N := 14) hx hb hT inF_X9 hown hK.1 hP 8 rfl rfl 0 (by decide) (hT _ bw_41) (fun _ h9 => h9) rfl dX9_copy_2 ?_
  refine va_put (D := g.1) (ci := 9) (v := .int cday) (ty := .int) (C := RX9) (T := TX9) (N := 14) hx hb hT inF_X9 tyX9 tyX9_ok nmX9 hown hK.1 hP hD hS 0 rfl rfl 0 (by decide) (hT _ bw_41) (fun _ h9 => h9) rfl (by decide +kernel) rfl rfl (Nat.le_of_ble_eq_true rfl) dX9_copy_5 (fun H locs hP hD hS => ?_)
  have hP : va_P g.1 vwCl [(h, .inr (9, [.int cday, .int bseed, .int balive, .int bstruck, .int bopen, .int bduels, .int blines, .ref bcoins, .ref brented, .ref bmornings, .ref bhonours, .ref bused, .ref bsides, .ref blog])), (bcoins, aI g 6 Fbcoins), (brented, aI g 6 Fbrented), (bmornings, aI g 8 Fbmornings), (bhonours, aI g 8 Fbhonours), (bused, aI g 8 Fbused), (bsides, aI g 16 Fbsides), (blog, aI g 60 Fblog), (o, .inr (9, [.int cday, .int cseed, .int calive, .int cstruck, .int copen, .int cduels, .int clines, .ref ccoins, .ref crented, .ref cmornings, .ref chonours, .ref cused, .ref csides, .ref clog])), (ccoins, aI g 6 Fccoins), (crented, aI g 6 Fcrented), (cmornings, aI g 8 Fcmornings), (chonours, aI g 8 Fchonours), (cused, aI g 8 Fcused), (csides, aI g 16 Fcsides), (clog, aI g 60 Fclog)] H := hP
  have hD : va_D A [(h, .inr (9, [.int cday, .int bseed, .int balive, .int bstruck, .int bopen, .int bduels, .int blines, .ref bcoins, .ref brented, .ref bmornings, .ref bhonours, .ref bused, .ref bsides, .ref blog])), (bcoins, aI g 6 Fbcoins), (brented, aI g 6 Fbrented), (bmornings, aI g 8 Fbmornings), (bhonours, aI g 8 Fbhonours), (bused, aI g 8 Fbused), (bsides, aI g 16 Fbsides), (blog, aI g 60 Fblog), (o, .inr (9, [.int cday, .int cseed, .int calive, .int cstruck, .int copen, .int cduels, .int clines, .ref ccoins, .ref crented, .ref cmornings, .ref chonours, .ref cused, .ref csides, .ref clog])), (ccoins, aI g 6 Fccoins), (crented, aI g 6 Fcrented), (cmornings, aI g 8 Fcmornings), (chonours, aI g 8 Fchonours), (cused, aI g 8 Fcused), (csides, aI g 16 Fcsides), (clog, aI g 60 Fclog)] := hD
  refine lv_aload_n hx hb dX9_copy_8 rfl (lv_at hl 0 rfl) ?_
  refine lv_aload_n hx hb dX9_copy_9 rfl (lv_at hl 1 rfl) ?_
  refine va_get (D := g.1) (ci := 9) (v := .int cseed) (C := RX9) (T := TX9) (N := 14) hx hb hT inF_X9 hown hK.1 hP 8 rfl rfl 1 (by decide) (hT _ bw_87) (fun _ h9 => h9) rfl dX9_copy_10 ?_
  refine va_put (D := g.1) (ci := 9) (v := .int cseed) (ty := .int) (C := RX9) (T := TX9) (N := 14) hx hb hT inF_X9 tyX9 tyX9_ok nmX9 hown hK.1 hP hD hS 0 rfl rfl 1 (by decide) (hT _ bw_87) (fun _ h9 => h9) rfl (by decide +kernel) rfl rfl (Nat.le_of_ble_eq_true rfl) dX9_copy_13 (fun H locs hP hD hS => ?_)
  have hP : va_P g.1 vwCl [(h, .inr (9, [.int cday, .int cseed, .int balive, .int bstruck, .int bopen, .int bduels, .int blines, .ref bcoins, .ref brented, .ref bmornings, .ref bhonours, .ref bused, .ref bsides, .ref blog])), (bcoins, aI g 6 Fbcoins), (brented, aI g 6 Fbrented), (bmornings, aI g 8 Fbmornings), (bhonours, aI g 8 Fbhonours), (bused, aI g 8 Fbused), (bsides, aI g 16 Fbsides), (blog, aI g 60 Fblog), (o, .inr (9, [.int cday, .int cseed, .int calive, .int cstruck, .int copen, .int cduels, .int clines, .ref ccoins, .ref crented, .ref cmornings, .ref chonours, .ref cused, .ref csides, .ref clog])), (ccoins, aI g 6 Fccoins), (crented, aI g 6 Fcrented), (cmornings, aI g 8 Fcmornings), (chonours, aI g 8 Fchonours), (cused, aI g 8 Fcused), (csides, aI g 16 Fcsides), (clog, aI g 60 Fclog)] H := hP
  have hD : va_D A [(h, .inr (9, [.int cday, .int cseed, .int balive, .int bstruck, .int bopen, .int bduels, .int blines, .ref bcoins, .ref brented, .ref bmornings, .ref bhonours, .ref bused, .ref bsides, .ref blog])), (bcoins, aI g 6 Fbcoins), (brented, aI g 6 Fbrented), (bmornings, aI g 8 Fbmornings), (bhonours, aI g 8 Fbhonours), (bused, aI g 8 Fbused), (bsides, aI g 16 Fbsides), (blog, aI g 60 Fblog), (o, .inr (9, [.int cday, .int cseed, .int calive, .int cstruck, .int copen, .int cduels, .int clines, .ref ccoins, .ref crented, .ref cmornings, .ref chonours, .ref cused, .ref csides, .ref clog])), (ccoins, aI g 6 Fccoins), (crented, aI g 6 Fcrented), (cmornings, aI g 8 Fcmornings), (chonours, aI g 8 Fchonours), (cused, aI g 8 Fcused), (csides, aI g 16 Fcsides), (clog, aI g 60 Fclog)] := hD
  refine lv_aload_n hx hb dX9_copy_16 rfl (lv_at hl 0 rfl) ?_
  refine lv_aload_n hx hb dX9_copy_17 rfl (lv_at hl 1 rfl) ?_
  refine va_get (D := g.1) (ci := 9) (v := .int calive) (C := RX9) (T := TX9) (N := 14) hx hb hT inF_X9 hown hK.1 hP 8 rfl rfl 2 (by decide) (hT _ bw_27) (fun _ h9 => h9) rfl dX9_copy_18 ?_
  refine va_put (D := g.1) (ci := 9) (v := .int calive) (ty := .int) (C := RX9) (T := TX9) (N := 14) hx hb hT inF_X9 tyX9 tyX9_ok nmX9 hown hK.1 hP hD hS 0 rfl rfl 2 (by decide) (hT _ bw_27) (fun _ h9 => h9) rfl (by decide +kernel) rfl rfl (Nat.le_of_ble_eq_true rfl) dX9_copy_21 (fun H locs hP hD hS => ?_)
  have hP : va_P g.1 vwCl [(h, .inr (9, [.int cday, .int cseed, .int calive, .int bstruck, .int bopen, .int bduels, .int blines, .ref bcoins, .ref brented, .ref bmornings, .ref bhonours, .ref bused, .ref bsides, .ref blog])), (bcoins, aI g 6 Fbcoins), (brented, aI g 6 Fbrented), (bmornings, aI g 8 Fbmornings), (bhonours, aI g 8 Fbhonours), (bused, aI g 8 Fbused), (bsides, aI g 16 Fbsides), (blog, aI g 60 Fblog), (o, .inr (9, [.int cday, .int cseed, .int calive, .int cstruck, .int copen, .int cduels, .int clines, .ref ccoins, .ref crented, .ref cmornings, .ref chonours, .ref cused, .ref csides, .ref clog])), (ccoins, aI g 6 Fccoins), (crented, aI g 6 Fcrented), (cmornings, aI g 8 Fcmornings), (chonours, aI g 8 Fchonours), (cused, aI g 8 Fcused), (csides, aI g 16 Fcsides), (clog, aI g 60 Fclog)] H := hP
  have hD : va_D A [(h, .inr (9, [.int cday, .int cseed, .int calive, .int bstruck, .int bopen, .int bduels, .int blines, .ref bcoins, .ref brented, .ref bmornings, .ref bhonours, .ref bused, .ref bsides, .ref blog])), (bcoins, aI g 6 Fbcoins), (brented, aI g 6 Fbrented), (bmornings, aI g 8 Fbmornings), (bhonours, aI g 8 Fbhonours), (bused, aI g 8 Fbused), (bsides, aI g 16 Fbsides), (blog, aI g 60 Fblog), (o, .inr (9, [.int cday, .int cseed, .int calive, .int cstruck, .int copen, .int cduels, .int clines, .ref ccoins, .ref crented, .ref cmornings, .ref chonours, .ref cused, .ref csides, .ref clog])), (ccoins, aI g 6 Fccoins), (crented, aI g 6 Fcrented), (cmornings, aI g 8 Fcmornings), (chonours, aI g 8 Fchonours), (cused, aI g 8 Fcused), (csides, aI g 16 Fcsides), (clog, aI g 60 Fclog)] := hD
  refine lv_aload_n hx hb dX9_copy_24 rfl (lv_at hl 0 rfl) ?_
  refine lv_aload_n hx hb dX9_copy_25 rfl (lv_at hl 1 rfl) ?_
  refine va_get (D := g.1) (ci := 9) (v := .int cstruck) (C := RX9) (T := TX9) (N := 14) hx hb hT inF_X9 hown hK.1 hP 8 rfl rfl 3 (by decide) (hT _ bw_29) (fun _ h9 => h9) rfl dX9_copy_26 ?_
  refine va_put (D := g.1) (ci := 9) (v := .int cstruck) (ty := .int) (C := RX9) (T := TX9) (N := 14) hx hb hT inF_X9 tyX9 tyX9_ok nmX9 hown hK.1 hP hD hS 0 rfl rfl 3 (by decide) (hT _ bw_29) (fun _ h9 => h9) rfl (by decide +kernel) rfl rfl (Nat.le_of_ble_eq_true rfl) dX9_copy_29 (fun H locs hP hD hS => ?_)
  have hP : va_P g.1 vwCl [(h, .inr (9, [.int cday, .int cseed, .int calive, .int cstruck, .int bopen, .int bduels, .int blines, .ref bcoins, .ref brented, .ref bmornings, .ref bhonours, .ref bused, .ref bsides, .ref blog])), (bcoins, aI g 6 Fbcoins), (brented, aI g 6 Fbrented), (bmornings, aI g 8 Fbmornings), (bhonours, aI g 8 Fbhonours), (bused, aI g 8 Fbused), (bsides, aI g 16 Fbsides), (blog, aI g 60 Fblog), (o, .inr (9, [.int cday, .int cseed, .int calive, .int cstruck, .int copen, .int cduels, .int clines, .ref ccoins, .ref crented, .ref cmornings, .ref chonours, .ref cused, .ref csides, .ref clog])), (ccoins, aI g 6 Fccoins), (crented, aI g 6 Fcrented), (cmornings, aI g 8 Fcmornings), (chonours, aI g 8 Fchonours), (cused, aI g 8 Fcused), (csides, aI g 16 Fcsides), (clog, aI g 60 Fclog)] H := hP
  have hD : va_D A [(h, .inr (9, [.int cday, .int cseed, .int calive, .int cstruck, .int bopen, .int bduels, .int blines, .ref bcoins, .ref brented, .ref bmornings, .ref bhonours, .ref bused, .ref bsides, .ref blog])), (bcoins, aI g 6 Fbcoins), (brented, aI g 6 Fbrented), (bmornings, aI g 8 Fbmornings), (bhonours, aI g 8 Fbhonours), (bused, aI g 8 Fbused), (bsides, aI g 16 Fbsides), (blog, aI g 60 Fblog), (o, .inr (9, [.int cday, .int cseed, .int calive, .int cstruck, .int copen, .int cduels, .int clines, .ref ccoins, .ref crented, .ref cmornings, .ref chonours, .ref cused, .ref csides, .ref clog])), (ccoins, aI g 6 Fccoins), (crented, aI g 6 Fcrented), (cmornings, aI g 8 Fcmornings), (chonours, aI g 8 Fchonours), (cused, aI g 8 Fcused), (csides, aI g 16 Fcsides), (clog, aI g 60 Fclog)] := hD
  refine lv_aload_n hx hb dX9_copy_32 rfl (lv_at hl 0 rfl) ?_
  refine lv_aload_n hx hb dX9_copy_33 rfl (lv_at hl 1 rfl) ?_
  refine va_get (D := g.1) (ci := 9) (v := .int copen) (C := RX9) (T := TX9) (N := 14) hx hb hT inF_X9 hown hK.1 hP 8 rfl rfl 4 (by decide) (hT _ bw_31) (fun _ h9 => h9) rfl dX9_copy_34 ?_
  refine va_put (D := g.1) (ci := 9) (v := .int copen) (ty := .int) (C := RX9) (T := TX9) (N := 14) hx hb hT inF_X9 tyX9 tyX9_ok nmX9 hown hK.1 hP hD hS 0 rfl rfl 4 (by decide) (hT _ bw_31) (fun _ h9 => h9) rfl (by decide +kernel) rfl rfl (Nat.le_of_ble_eq_true rfl) dX9_copy_37 (fun H locs hP hD hS => ?_)
  have hP : va_P g.1 vwCl [(h, .inr (9, [.int cday, .int cseed, .int calive, .int cstruck, .int copen, .int bduels, .int blines, .ref bcoins, .ref brented, .ref bmornings, .ref bhonours, .ref bused, .ref bsides, .ref blog])), (bcoins, aI g 6 Fbcoins), (brented, aI g 6 Fbrented), (bmornings, aI g 8 Fbmornings), (bhonours, aI g 8 Fbhonours), (bused, aI g 8 Fbused), (bsides, aI g 16 Fbsides), (blog, aI g 60 Fblog), (o, .inr (9, [.int cday, .int cseed, .int calive, .int cstruck, .int copen, .int cduels, .int clines, .ref ccoins, .ref crented, .ref cmornings, .ref chonours, .ref cused, .ref csides, .ref clog])), (ccoins, aI g 6 Fccoins), (crented, aI g 6 Fcrented), (cmornings, aI g 8 Fcmornings), (chonours, aI g 8 Fchonours), (cused, aI g 8 Fcused), (csides, aI g 16 Fcsides), (clog, aI g 60 Fclog)] H := hP
  have hD : va_D A [(h, .inr (9, [.int cday, .int cseed, .int calive, .int cstruck, .int copen, .int bduels, .int blines, .ref bcoins, .ref brented, .ref bmornings, .ref bhonours, .ref bused, .ref bsides, .ref blog])), (bcoins, aI g 6 Fbcoins), (brented, aI g 6 Fbrented), (bmornings, aI g 8 Fbmornings), (bhonours, aI g 8 Fbhonours), (bused, aI g 8 Fbused), (bsides, aI g 16 Fbsides), (blog, aI g 60 Fblog), (o, .inr (9, [.int cday, .int cseed, .int calive, .int cstruck, .int copen, .int cduels, .int clines, .ref ccoins, .ref crented, .ref cmornings, .ref chonours, .ref cused, .ref csides, .ref clog])), (ccoins, aI g 6 Fccoins), (crented, aI g 6 Fcrented), (cmornings, aI g 8 Fcmornings), (chonours, aI g 8 Fchonours), (cused, aI g 8 Fcused), (csides, aI g 16 Fcsides), (clog, aI g 60 Fclog)] := hD
  refine lv_aload_n hx hb dX9_copy_40 rfl (lv_at hl 0 rfl) ?_
  refine lv_aload_n hx hb dX9_copy_41 rfl (lv_at hl 1 rfl) ?_
  refine va_get (D := g.1) (ci := 9) (v := .int cduels) (C := RX9) (T := TX9) (N := 14) hx hb hT inF_X9 hown hK.1 hP 8 rfl rfl 5 (by decide) (hT _ bw_33) (fun _ h9 => h9) rfl dX9_copy_42 ?_
  refine va_put (D := g.1) (ci := 9) (v := .int cduels) (ty := .int) (C := RX9) (T := TX9) (N := 14) hx hb hT inF_X9 tyX9 tyX9_ok nmX9 hown hK.1 hP hD hS 0 rfl rfl 5 (by decide) (hT _ bw_33) (fun _ h9 => h9) rfl (by decide +kernel) rfl rfl (Nat.le_of_ble_eq_true rfl) dX9_copy_45 (fun H locs hP hD hS => ?_)
  have hP : va_P g.1 vwCl [(h, .inr (9, [.int cday, .int cseed, .int calive, .int cstruck, .int copen, .int cduels, .int blines, .ref bcoins, .ref brented, .ref bmornings, .ref bhonours, .ref bused, .ref bsides, .ref blog])), (bcoins, aI g 6 Fbcoins), (brented, aI g 6 Fbrented), (bmornings, aI g 8 Fbmornings), (bhonours, aI g 8 Fbhonours), (bused, aI g 8 Fbused), (bsides, aI g 16 Fbsides), (blog, aI g 60 Fblog), (o, .inr (9, [.int cday, .int cseed, .int calive, .int cstruck, .int copen, .int cduels, .int clines, .ref ccoins, .ref crented, .ref cmornings, .ref chonours, .ref cused, .ref csides, .ref clog])), (ccoins, aI g 6 Fccoins), (crented, aI g 6 Fcrented), (cmornings, aI g 8 Fcmornings), (chonours, aI g 8 Fchonours), (cused, aI g 8 Fcused), (csides, aI g 16 Fcsides), (clog, aI g 60 Fclog)] H := hP
  have hD : va_D A [(h, .inr (9, [.int cday, .int cseed, .int calive, .int cstruck, .int copen, .int cduels, .int blines, .ref bcoins, .ref brented, .ref bmornings, .ref bhonours, .ref bused, .ref bsides, .ref blog])), (bcoins, aI g 6 Fbcoins), (brented, aI g 6 Fbrented), (bmornings, aI g 8 Fbmornings), (bhonours, aI g 8 Fbhonours), (bused, aI g 8 Fbused), (bsides, aI g 16 Fbsides), (blog, aI g 60 Fblog), (o, .inr (9, [.int cday, .int cseed, .int calive, .int cstruck, .int copen, .int cduels, .int clines, .ref ccoins, .ref crented, .ref cmornings, .ref chonours, .ref cused, .ref csides, .ref clog])), (ccoins, aI g 6 Fccoins), (crented, aI g 6 Fcrented), (cmornings, aI g 8 Fcmornings), (chonours, aI g 8 Fchonours), (cused, aI g 8 Fcused), (csides, aI g 16 Fcsides), (clog, aI g 60 Fclog)] := hD
  refine lv_aload_n hx hb dX9_copy_48 rfl (lv_at hl 0 rfl) ?_
  refine lv_aload_n hx hb dX9_copy_49 rfl (lv_at hl 1 rfl) ?_
  refine va_get (D := g.1) (ci := 9) (v := .int clines) (C := RX9) (T := TX9) (N := 14) hx hb hT inF_X9 hown hK.1 hP 8 rfl rfl 6 (by decide) (hT _ bw_40) (fun _ h9 => h9) rfl dX9_copy_50 ?_
  refine va_put (D := g.1) (ci := 9) (v := .int clines) (ty := .int) (C := RX9) (T := TX9) (N := 14) hx hb hT inF_X9 tyX9 tyX9_ok nmX9 hown hK.1 hP hD hS 0 rfl rfl 6 (by decide) (hT _ bw_40) (fun _ h9 => h9) rfl (by decide +kernel) rfl rfl (Nat.le_of_ble_eq_true rfl) dX9_copy_53 (fun H locs hP hD hS => ?_)
  have hP : va_P g.1 vwCl [(h, .inr (9, [.int cday, .int cseed, .int calive, .int cstruck, .int copen, .int cduels, .int clines, .ref bcoins, .ref brented, .ref bmornings, .ref bhonours, .ref bused, .ref bsides, .ref blog])), (bcoins, aI g 6 Fbcoins), (brented, aI g 6 Fbrented), (bmornings, aI g 8 Fbmornings), (bhonours, aI g 8 Fbhonours), (bused, aI g 8 Fbused), (bsides, aI g 16 Fbsides), (blog, aI g 60 Fblog), (o, .inr (9, [.int cday, .int cseed, .int calive, .int cstruck, .int copen, .int cduels, .int clines, .ref ccoins, .ref crented, .ref cmornings, .ref chonours, .ref cused, .ref csides, .ref clog])), (ccoins, aI g 6 Fccoins), (crented, aI g 6 Fcrented), (cmornings, aI g 8 Fcmornings), (chonours, aI g 8 Fchonours), (cused, aI g 8 Fcused), (csides, aI g 16 Fcsides), (clog, aI g 60 Fclog)] H := hP
  have hD : va_D A [(h, .inr (9, [.int cday, .int cseed, .int calive, .int cstruck, .int copen, .int cduels, .int clines, .ref bcoins, .ref brented, .ref bmornings, .ref bhonours, .ref bused, .ref bsides, .ref blog])), (bcoins, aI g 6 Fbcoins), (brented, aI g 6 Fbrented), (bmornings, aI g 8 Fbmornings), (bhonours, aI g 8 Fbhonours), (bused, aI g 8 Fbused), (bsides, aI g 16 Fbsides), (blog, aI g 60 Fblog), (o, .inr (9, [.int cday, .int cseed, .int calive, .int cstruck, .int copen, .int cduels, .int clines, .ref ccoins, .ref crented, .ref cmornings, .ref chonours, .ref cused, .ref csides, .ref clog])), (ccoins, aI g 6 Fccoins), (crented, aI g 6 Fcrented), (cmornings, aI g 8 Fcmornings), (chonours, aI g 8 Fchonours), (cused, aI g 8 Fcused), (csides, aI g 16 Fcsides), (clog, aI g 60 Fclog)] := hD
  refine lv_aload_n hx hb dX9_copy_56 rfl (lv_at hl 1 rfl) ?_
  refine va_get (D := g.1) (ci := 9) (v := .ref ccoins) (C := RX9) (T := TX9) (N := 14) hx hb hT inF_X9 hown hK.1 hP 8 rfl rfl 7 (by decide) (hT _ bw_100) (fun _ h9 => h9) rfl dX9_copy_57 ?_
  refine lv_iconst (v := 0) hx hb dX9_copy_60 (by decide) ?_
  refine lv_aload_n hx hb dX9_copy_61 rfl (lv_at hl 0 rfl) ?_
  refine va_get (D := g.1) (ci := 9) (v := .ref bcoins) (C := RX9) (T := TX9) (N := 14) hx hb hT inF_X9 hown hK.1 hP 0 rfl rfl 7 (by decide) (hT _ bw_100) (fun _ h9 => h9) rfl dX9_copy_62 ?_
  refine lv_iconst (v := 0) hx hb dX9_copy_65 (by decide) ?_
  refine lv_bipush (v := 6) hx hb dX9_copy_66 (by decide) ?_
  refine va_copyi hx hb (hml.trans hl.1.symm) hown (hT _ bw_104) (hT _ bw_101) (hT _ bw_102) (hT _ bw_103) hK.1 hP hD hS 9 1 1 1 rfl rfl rfl rfl rfl (sp := 0) (dp := 0) (n := 6) (by decide) (by decide) (by decide) (by decide) (by decide) (fun _ _ => rfl) (Nat.le_of_ble_eq_true rfl) (Nat.le_of_ble_eq_true rfl) dX9_copy_68 (fun H locs hP hD hS => ?_)
  generalize va_cpy Fccoins Fbcoins (0 : Int32).toNatClampNeg (0 : Int32).toNatClampNeg (6 : Int32).toNatClampNeg = f_1 at hP hD
  have hP : va_P g.1 vwCl [(h, .inr (9, [.int cday, .int cseed, .int calive, .int cstruck, .int copen, .int cduels, .int clines, .ref bcoins, .ref brented, .ref bmornings, .ref bhonours, .ref bused, .ref bsides, .ref blog])), (bcoins, aI g 6 f_1), (brented, aI g 6 Fbrented), (bmornings, aI g 8 Fbmornings), (bhonours, aI g 8 Fbhonours), (bused, aI g 8 Fbused), (bsides, aI g 16 Fbsides), (blog, aI g 60 Fblog), (o, .inr (9, [.int cday, .int cseed, .int calive, .int cstruck, .int copen, .int cduels, .int clines, .ref ccoins, .ref crented, .ref cmornings, .ref chonours, .ref cused, .ref csides, .ref clog])), (ccoins, aI g 6 Fccoins), (crented, aI g 6 Fcrented), (cmornings, aI g 8 Fcmornings), (chonours, aI g 8 Fchonours), (cused, aI g 8 Fcused), (csides, aI g 16 Fcsides), (clog, aI g 60 Fclog)] H := hP
  have hD : va_D A [(h, .inr (9, [.int cday, .int cseed, .int calive, .int cstruck, .int copen, .int cduels, .int clines, .ref bcoins, .ref brented, .ref bmornings, .ref bhonours, .ref bused, .ref bsides, .ref blog])), (bcoins, aI g 6 f_1), (brented, aI g 6 Fbrented), (bmornings, aI g 8 Fbmornings), (bhonours, aI g 8 Fbhonours), (bused, aI g 8 Fbused), (bsides, aI g 16 Fbsides), (blog, aI g 60 Fblog), (o, .inr (9, [.int cday, .int cseed, .int calive, .int cstruck, .int copen, .int cduels, .int clines, .ref ccoins, .ref crented, .ref cmornings, .ref chonours, .ref cused, .ref csides, .ref clog])), (ccoins, aI g 6 Fccoins), (crented, aI g 6 Fcrented), (cmornings, aI g 8 Fcmornings), (chonours, aI g 8 Fchonours), (cused, aI g 8 Fcused), (csides, aI g 16 Fcsides), (clog, aI g 60 Fclog)] := hD
  refine lv_aload_n hx hb dX9_copy_71 rfl (lv_at hl 1 rfl) ?_
  refine va_get (D := g.1) (ci := 9) (v := .ref crented) (C := RX9) (T := TX9) (N := 14) hx hb hT inF_X9 hown hK.1 hP 8 rfl rfl 8 (by decide) (hT _ bw_105) (fun _ h9 => h9) rfl dX9_copy_72 ?_
  refine lv_iconst (v := 0) hx hb dX9_copy_75 (by decide) ?_
  refine lv_aload_n hx hb dX9_copy_76 rfl (lv_at hl 0 rfl) ?_
  refine va_get (D := g.1) (ci := 9) (v := .ref brented) (C := RX9) (T := TX9) (N := 14) hx hb hT inF_X9 hown hK.1 hP 0 rfl rfl 8 (by decide) (hT _ bw_105) (fun _ h9 => h9) rfl dX9_copy_77 ?_
  refine lv_iconst (v := 0) hx hb dX9_copy_80 (by decide) ?_
  refine lv_bipush (v := 6) hx hb dX9_copy_81 (by decide) ?_
  refine va_copyi hx hb (hml.trans hl.1.symm) hown (hT _ bw_104) (hT _ bw_101) (hT _ bw_102) (hT _ bw_103) hK.1 hP hD hS 10 2 1 1 rfl rfl rfl rfl rfl (sp := 0) (dp := 0) (n := 6) (by decide) (by decide) (by decide) (by decide) (by decide) (fun _ _ => rfl) (Nat.le_of_ble_eq_true rfl) (Nat.le_of_ble_eq_true rfl) dX9_copy_83 (fun H locs hP hD hS => ?_)
  generalize va_cpy Fcrented Fbrented (0 : Int32).toNatClampNeg (0 : Int32).toNatClampNeg (6 : Int32).toNatClampNeg = f_2 at hP hD
  have hP : va_P g.1 vwCl [(h, .inr (9, [.int cday, .int cseed, .int calive, .int cstruck, .int copen, .int cduels, .int clines, .ref bcoins, .ref brented, .ref bmornings, .ref bhonours, .ref bused, .ref bsides, .ref blog])), (bcoins, aI g 6 f_1), (brented, aI g 6 f_2), (bmornings, aI g 8 Fbmornings), (bhonours, aI g 8 Fbhonours), (bused, aI g 8 Fbused), (bsides, aI g 16 Fbsides), (blog, aI g 60 Fblog), (o, .inr (9, [.int cday, .int cseed, .int calive, .int cstruck, .int copen, .int cduels, .int clines, .ref ccoins, .ref crented, .ref cmornings, .ref chonours, .ref cused, .ref csides, .ref clog])), (ccoins, aI g 6 Fccoins), (crented, aI g 6 Fcrented), (cmornings, aI g 8 Fcmornings), (chonours, aI g 8 Fchonours), (cused, aI g 8 Fcused), (csides, aI g 16 Fcsides), (clog, aI g 60 Fclog)] H := hP
  have hD : va_D A [(h, .inr (9, [.int cday, .int cseed, .int calive, .int cstruck, .int copen, .int cduels, .int clines, .ref bcoins, .ref brented, .ref bmornings, .ref bhonours, .ref bused, .ref bsides, .ref blog])), (bcoins, aI g 6 f_1), (brented, aI g 6 f_2), (bmornings, aI g 8 Fbmornings), (bhonours, aI g 8 Fbhonours), (bused, aI g 8 Fbused), (bsides, aI g 16 Fbsides), (blog, aI g 60 Fblog), (o, .inr (9, [.int cday, .int cseed, .int calive, .int cstruck, .int copen, .int cduels, .int clines, .ref ccoins, .ref crented, .ref cmornings, .ref chonours, .ref cused, .ref csides, .ref clog])), (ccoins, aI g 6 Fccoins), (crented, aI g 6 Fcrented), (cmornings, aI g 8 Fcmornings), (chonours, aI g 8 Fchonours), (cused, aI g 8 Fcused), (csides, aI g 16 Fcsides), (clog, aI g 60 Fclog)] := hD
  refine lv_aload_n hx hb dX9_copy_86 rfl (lv_at hl 1 rfl) ?_
  refine va_get (D := g.1) (ci := 9) (v := .ref cmornings) (C := RX9) (T := TX9) (N := 14) hx hb hT inF_X9 hown hK.1 hP 8 rfl rfl 9 (by decide) (hT _ bw_51) (fun _ h9 => h9) rfl dX9_copy_87 ?_
  refine lv_iconst (v := 0) hx hb dX9_copy_90 (by decide) ?_
  refine lv_aload_n hx hb dX9_copy_91 rfl (lv_at hl 0 rfl) ?_
  refine va_get (D := g.1) (ci := 9) (v := .ref bmornings) (C := RX9) (T := TX9) (N := 14) hx hb hT inF_X9 hown hK.1 hP 0 rfl rfl 9 (by decide) (hT _ bw_51) (fun _ h9 => h9) rfl dX9_copy_92 ?_
  refine lv_iconst (v := 0) hx hb dX9_copy_95 (by decide) ?_
  refine lv_bipush (v := 8) hx hb dX9_copy_96 (by decide) ?_
  refine va_copyi hx hb (hml.trans hl.1.symm) hown (hT _ bw_104) (hT _ bw_101) (hT _ bw_102) (hT _ bw_103) hK.1 hP hD hS 11 3 1 1 rfl rfl rfl rfl rfl (sp := 0) (dp := 0) (n := 8) (by decide) (by decide) (by decide) (by decide) (by decide) (fun _ _ => rfl) (Nat.le_of_ble_eq_true rfl) (Nat.le_of_ble_eq_true rfl) dX9_copy_98 (fun H locs hP hD hS => ?_)
  generalize va_cpy Fcmornings Fbmornings (0 : Int32).toNatClampNeg (0 : Int32).toNatClampNeg (8 : Int32).toNatClampNeg = f_3 at hP hD
  have hP : va_P g.1 vwCl [(h, .inr (9, [.int cday, .int cseed, .int calive, .int cstruck, .int copen, .int cduels, .int clines, .ref bcoins, .ref brented, .ref bmornings, .ref bhonours, .ref bused, .ref bsides, .ref blog])), (bcoins, aI g 6 f_1), (brented, aI g 6 f_2), (bmornings, aI g 8 f_3), (bhonours, aI g 8 Fbhonours), (bused, aI g 8 Fbused), (bsides, aI g 16 Fbsides), (blog, aI g 60 Fblog), (o, .inr (9, [.int cday, .int cseed, .int calive, .int cstruck, .int copen, .int cduels, .int clines, .ref ccoins, .ref crented, .ref cmornings, .ref chonours, .ref cused, .ref csides, .ref clog])), (ccoins, aI g 6 Fccoins), (crented, aI g 6 Fcrented), (cmornings, aI g 8 Fcmornings), (chonours, aI g 8 Fchonours), (cused, aI g 8 Fcused), (csides, aI g 16 Fcsides), (clog, aI g 60 Fclog)] H := hP
  have hD : va_D A [(h, .inr (9, [.int cday, .int cseed, .int calive, .int cstruck, .int copen, .int cduels, .int clines, .ref bcoins, .ref brented, .ref bmornings, .ref bhonours, .ref bused, .ref bsides, .ref blog])), (bcoins, aI g 6 f_1), (brented, aI g 6 f_2), (bmornings, aI g 8 f_3), (bhonours, aI g 8 Fbhonours), (bused, aI g 8 Fbused), (bsides, aI g 16 Fbsides), (blog, aI g 60 Fblog), (o, .inr (9, [.int cday, .int cseed, .int calive, .int cstruck, .int copen, .int cduels, .int clines, .ref ccoins, .ref crented, .ref cmornings, .ref chonours, .ref cused, .ref csides, .ref clog])), (ccoins, aI g 6 Fccoins), (crented, aI g 6 Fcrented), (cmornings, aI g 8 Fcmornings), (chonours, aI g 8 Fchonours), (cused, aI g 8 Fcused), (csides, aI g 16 Fcsides), (clog, aI g 60 Fclog)] := hD
  refine lv_aload_n hx hb dX9_copy_101 rfl (lv_at hl 1 rfl) ?_
  refine va_get (D := g.1) (ci := 9) (v := .ref chonours) (C := RX9) (T := TX9) (N := 14) hx hb hT inF_X9 hown hK.1 hP 8 rfl rfl 10 (by decide) (hT _ bw_70) (fun _ h9 => h9) rfl dX9_copy_102 ?_
  refine lv_iconst (v := 0) hx hb dX9_copy_105 (by decide) ?_
  refine lv_aload_n hx hb dX9_copy_106 rfl (lv_at hl 0 rfl) ?_
  refine va_get (D := g.1) (ci := 9) (v := .ref bhonours) (C := RX9) (T := TX9) (N := 14) hx hb hT inF_X9 hown hK.1 hP 0 rfl rfl 10 (by decide) (hT _ bw_70) (fun _ h9 => h9) rfl dX9_copy_107 ?_
  refine lv_iconst (v := 0) hx hb dX9_copy_110 (by decide) ?_
  refine lv_bipush (v := 8) hx hb dX9_copy_111 (by decide) ?_
  refine va_copyi hx hb (hml.trans hl.1.symm) hown (hT _ bw_104) (hT _ bw_101) (hT _ bw_102) (hT _ bw_103) hK.1 hP hD hS 12 4 1 1 rfl rfl rfl rfl rfl (sp := 0) (dp := 0) (n := 8) (by decide) (by decide) (by decide) (by decide) (by decide) (fun _ _ => rfl) (Nat.le_of_ble_eq_true rfl) (Nat.le_of_ble_eq_true rfl) dX9_copy_113 (fun H locs hP hD hS => ?_)
  generalize va_cpy Fchonours Fbhonours (0 : Int32).toNatClampNeg (0 : Int32).toNatClampNeg (8 : Int32).toNatClampNeg = f_4 at hP hD
  have hP : va_P g.1 vwCl [(h, .inr (9, [.int cday, .int cseed, .int calive, .int cstruck, .int copen, .int cduels, .int clines, .ref bcoins, .ref brented, .ref bmornings, .ref bhonours, .ref bused, .ref bsides, .ref blog])), (bcoins, aI g 6 f_1), (brented, aI g 6 f_2), (bmornings, aI g 8 f_3), (bhonours, aI g 8 f_4), (bused, aI g 8 Fbused), (bsides, aI g 16 Fbsides), (blog, aI g 60 Fblog), (o, .inr (9, [.int cday, .int cseed, .int calive, .int cstruck, .int copen, .int cduels, .int clines, .ref ccoins, .ref crented, .ref cmornings, .ref chonours, .ref cused, .ref csides, .ref clog])), (ccoins, aI g 6 Fccoins), (crented, aI g 6 Fcrented), (cmornings, aI g 8 Fcmornings), (chonours, aI g 8 Fchonours), (cused, aI g 8 Fcused), (csides, aI g 16 Fcsides), (clog, aI g 60 Fclog)] H := hP
  have hD : va_D A [(h, .inr (9, [.int cday, .int cseed, .int calive, .int cstruck, .int copen, .int cduels, .int clines, .ref bcoins, .ref brented, .ref bmornings, .ref bhonours, .ref bused, .ref bsides, .ref blog])), (bcoins, aI g 6 f_1), (brented, aI g 6 f_2), (bmornings, aI g 8 f_3), (bhonours, aI g 8 f_4), (bused, aI g 8 Fbused), (bsides, aI g 16 Fbsides), (blog, aI g 60 Fblog), (o, .inr (9, [.int cday, .int cseed, .int calive, .int cstruck, .int copen, .int cduels, .int clines, .ref ccoins, .ref crented, .ref cmornings, .ref chonours, .ref cused, .ref csides, .ref clog])), (ccoins, aI g 6 Fccoins), (crented, aI g 6 Fcrented), (cmornings, aI g 8 Fcmornings), (chonours, aI g 8 Fchonours), (cused, aI g 8 Fcused), (csides, aI g 16 Fcsides), (clog, aI g 60 Fclog)] := hD
  refine lv_aload_n hx hb dX9_copy_116 rfl (lv_at hl 1 rfl) ?_
  refine va_get (D := g.1) (ci := 9) (v := .ref cused) (C := RX9) (T := TX9) (N := 14) hx hb hT inF_X9 hown hK.1 hP 8 rfl rfl 11 (by decide) (hT _ bw_60) (fun _ h9 => h9) rfl dX9_copy_117 ?_
  refine lv_iconst (v := 0) hx hb dX9_copy_120 (by decide) ?_
  refine lv_aload_n hx hb dX9_copy_121 rfl (lv_at hl 0 rfl) ?_
  refine va_get (D := g.1) (ci := 9) (v := .ref bused) (C := RX9) (T := TX9) (N := 14) hx hb hT inF_X9 hown hK.1 hP 0 rfl rfl 11 (by decide) (hT _ bw_60) (fun _ h9 => h9) rfl dX9_copy_122 ?_
  refine lv_iconst (v := 0) hx hb dX9_copy_125 (by decide) ?_
  refine lv_bipush (v := 8) hx hb dX9_copy_126 (by decide) ?_
  refine va_copyi hx hb (hml.trans hl.1.symm) hown (hT _ bw_104) (hT _ bw_101) (hT _ bw_102) (hT _ bw_103) hK.1 hP hD hS 13 5 1 1 rfl rfl rfl rfl rfl (sp := 0) (dp := 0) (n := 8) (by decide) (by decide) (by decide) (by decide) (by decide) (fun _ _ => rfl) (Nat.le_of_ble_eq_true rfl) (Nat.le_of_ble_eq_true rfl) dX9_copy_128 (fun H locs hP hD hS => ?_)
  generalize va_cpy Fcused Fbused (0 : Int32).toNatClampNeg (0 : Int32).toNatClampNeg (8 : Int32).toNatClampNeg = f_5 at hP hD
  have hP : va_P g.1 vwCl [(h, .inr (9, [.int cday, .int cseed, .int calive, .int cstruck, .int copen, .int cduels, .int clines, .ref bcoins, .ref brented, .ref bmornings, .ref bhonours, .ref bused, .ref bsides, .ref blog])), (bcoins, aI g 6 f_1), (brented, aI g 6 f_2), (bmornings, aI g 8 f_3), (bhonours, aI g 8 f_4), (bused, aI g 8 f_5), (bsides, aI g 16 Fbsides), (blog, aI g 60 Fblog), (o, .inr (9, [.int cday, .int cseed, .int calive, .int cstruck, .int copen, .int cduels, .int clines, .ref ccoins, .ref crented, .ref cmornings, .ref chonours, .ref cused, .ref csides, .ref clog])), (ccoins, aI g 6 Fccoins), (crented, aI g 6 Fcrented), (cmornings, aI g 8 Fcmornings), (chonours, aI g 8 Fchonours), (cused, aI g 8 Fcused), (csides, aI g 16 Fcsides), (clog, aI g 60 Fclog)] H := hP
  have hD : va_D A [(h, .inr (9, [.int cday, .int cseed, .int calive, .int cstruck, .int copen, .int cduels, .int clines, .ref bcoins, .ref brented, .ref bmornings, .ref bhonours, .ref bused, .ref bsides, .ref blog])), (bcoins, aI g 6 f_1), (brented, aI g 6 f_2), (bmornings, aI g 8 f_3), (bhonours, aI g 8 f_4), (bused, aI g 8 f_5), (bsides, aI g 16 Fbsides), (blog, aI g 60 Fblog), (o, .inr (9, [.int cday, .int cseed, .int calive, .int cstruck, .int copen, .int cduels, .int clines, .ref ccoins, .ref crented, .ref cmornings, .ref chonours, .ref cused, .ref csides, .ref clog])), (ccoins, aI g 6 Fccoins), (crented, aI g 6 Fcrented), (cmornings, aI g 8 Fcmornings), (chonours, aI g 8 Fchonours), (cused, aI g 8 Fcused), (csides, aI g 16 Fcsides), (clog, aI g 60 Fclog)] := hD
  refine lv_aload_n hx hb dX9_copy_131 rfl (lv_at hl 1 rfl) ?_
  refine va_get (D := g.1) (ci := 9) (v := .ref csides) (C := RX9) (T := TX9) (N := 14) hx hb hT inF_X9 hown hK.1 hP 8 rfl rfl 12 (by decide) (hT _ bw_35) (fun _ h9 => h9) rfl dX9_copy_132 ?_
  refine lv_iconst (v := 0) hx hb dX9_copy_135 (by decide) ?_
  refine lv_aload_n hx hb dX9_copy_136 rfl (lv_at hl 0 rfl) ?_
  refine va_get (D := g.1) (ci := 9) (v := .ref bsides) (C := RX9) (T := TX9) (N := 14) hx hb hT inF_X9 hown hK.1 hP 0 rfl rfl 12 (by decide) (hT _ bw_35) (fun _ h9 => h9) rfl dX9_copy_137 ?_
  refine lv_iconst (v := 0) hx hb dX9_copy_140 (by decide) ?_
  refine lv_bipush (v := 16) hx hb dX9_copy_141 (by decide) ?_
  refine va_copyi hx hb (hml.trans hl.1.symm) hown (hT _ bw_104) (hT _ bw_101) (hT _ bw_102) (hT _ bw_103) hK.1 hP hD hS 14 6 1 1 rfl rfl rfl rfl rfl (sp := 0) (dp := 0) (n := 16) (by decide) (by decide) (by decide) (by decide) (by decide) (fun _ _ => rfl) (Nat.le_of_ble_eq_true rfl) (Nat.le_of_ble_eq_true rfl) dX9_copy_143 (fun H locs hP hD hS => ?_)
  have gf_6 : Rg 16 0 5 (va_cpy Fcsides Fbsides (0 : Int32).toNatClampNeg (0 : Int32).toNatClampNeg (16 : Int32).toNatClampNeg) := Rg.cpy hh7 hh3 (by decide)
  generalize va_cpy Fcsides Fbsides (0 : Int32).toNatClampNeg (0 : Int32).toNatClampNeg (16 : Int32).toNatClampNeg = f_6 at hP hD gf_6
  have hP : va_P g.1 vwCl [(h, .inr (9, [.int cday, .int cseed, .int calive, .int cstruck, .int copen, .int cduels, .int clines, .ref bcoins, .ref brented, .ref bmornings, .ref bhonours, .ref bused, .ref bsides, .ref blog])), (bcoins, aI g 6 f_1), (brented, aI g 6 f_2), (bmornings, aI g 8 f_3), (bhonours, aI g 8 f_4), (bused, aI g 8 f_5), (bsides, aI g 16 f_6), (blog, aI g 60 Fblog), (o, .inr (9, [.int cday, .int cseed, .int calive, .int cstruck, .int copen, .int cduels, .int clines, .ref ccoins, .ref crented, .ref cmornings, .ref chonours, .ref cused, .ref csides, .ref clog])), (ccoins, aI g 6 Fccoins), (crented, aI g 6 Fcrented), (cmornings, aI g 8 Fcmornings), (chonours, aI g 8 Fchonours), (cused, aI g 8 Fcused), (csides, aI g 16 Fcsides), (clog, aI g 60 Fclog)] H := hP
  have hD : va_D A [(h, .inr (9, [.int cday, .int cseed, .int calive, .int cstruck, .int copen, .int cduels, .int clines, .ref bcoins, .ref brented, .ref bmornings, .ref bhonours, .ref bused, .ref bsides, .ref blog])), (bcoins, aI g 6 f_1), (brented, aI g 6 f_2), (bmornings, aI g 8 f_3), (bhonours, aI g 8 f_4), (bused, aI g 8 f_5), (bsides, aI g 16 f_6), (blog, aI g 60 Fblog), (o, .inr (9, [.int cday, .int cseed, .int calive, .int cstruck, .int copen, .int cduels, .int clines, .ref ccoins, .ref crented, .ref cmornings, .ref chonours, .ref cused, .ref csides, .ref clog])), (ccoins, aI g 6 Fccoins), (crented, aI g 6 Fcrented), (cmornings, aI g 8 Fcmornings), (chonours, aI g 8 Fchonours), (cused, aI g 8 Fcused), (csides, aI g 16 Fcsides), (clog, aI g 60 Fclog)] := hD
  refine lv_aload_n hx hb dX9_copy_146 rfl (lv_at hl 1 rfl) ?_
  refine va_get (D := g.1) (ci := 9) (v := .ref clog) (C := RX9) (T := TX9) (N := 14) hx hb hT inF_X9 hown hK.1 hP 8 rfl rfl 13 (by decide) (hT _ bw_38) (fun _ h9 => h9) rfl dX9_copy_147 ?_
  refine lv_iconst (v := 0) hx hb dX9_copy_150 (by decide) ?_
  refine lv_aload_n hx hb dX9_copy_151 rfl (lv_at hl 0 rfl) ?_
  refine va_get (D := g.1) (ci := 9) (v := .ref blog) (C := RX9) (T := TX9) (N := 14) hx hb hT inF_X9 hown hK.1 hP 0 rfl rfl 13 (by decide) (hT _ bw_38) (fun _ h9 => h9) rfl dX9_copy_152 ?_
  refine lv_iconst (v := 0) hx hb dX9_copy_155 (by decide) ?_
  refine lv_aload_n hx hb dX9_copy_156 rfl (lv_at hl 1 rfl) ?_
  refine va_get (D := g.1) (ci := 9) (v := .int clines) (C := RX9) (T := TX9) (N := 14) hx hb hT inF_X9 hown hK.1 hP 8 rfl rfl 6 (by decide) (hT _ bw_40) (fun _ h9 => h9) rfl dX9_copy_157 ?_
  refine va_copyi hx hb (hml.trans hl.1.symm) hown (hT _ bw_104) (hT _ bw_101) (hT _ bw_102) (hT _ bw_103) hK.1 hP hD hS 15 7 1 1 rfl rfl rfl rfl rfl (sp := 0) (dp := 0) (n := clines) (by decide) (by decide) (L_nlt rfl (by decide : (0 : Int32).toInt = 0) (by omega)) (by have e9 := clampI (x := clines) (by omega); show 0 + clines.toNatClampNeg ≤ 60; omega) (by have e9 := clampI (x := clines) (by omega); show 0 + clines.toNatClampNeg ≤ 60; omega) (fun _ _ => rfl) (Nat.le_of_ble_eq_true rfl) (Nat.le_of_ble_eq_true rfl) dX9_copy_160 (fun H locs hP hD hS => ?_)
  generalize va_cpy Fclog Fblog (0 : Int32).toNatClampNeg (0 : Int32).toNatClampNeg (clines : Int32).toNatClampNeg = f_7 at hP hD
  have hP : va_P g.1 vwCl [(h, .inr (9, [.int cday, .int cseed, .int calive, .int cstruck, .int copen, .int cduels, .int clines, .ref bcoins, .ref brented, .ref bmornings, .ref bhonours, .ref bused, .ref bsides, .ref blog])), (bcoins, aI g 6 f_1), (brented, aI g 6 f_2), (bmornings, aI g 8 f_3), (bhonours, aI g 8 f_4), (bused, aI g 8 f_5), (bsides, aI g 16 f_6), (blog, aI g 60 f_7), (o, .inr (9, [.int cday, .int cseed, .int calive, .int cstruck, .int copen, .int cduels, .int clines, .ref ccoins, .ref crented, .ref cmornings, .ref chonours, .ref cused, .ref csides, .ref clog])), (ccoins, aI g 6 Fccoins), (crented, aI g 6 Fcrented), (cmornings, aI g 8 Fcmornings), (chonours, aI g 8 Fchonours), (cused, aI g 8 Fcused), (csides, aI g 16 Fcsides), (clog, aI g 60 Fclog)] H := hP
  have hD : va_D A [(h, .inr (9, [.int cday, .int cseed, .int calive, .int cstruck, .int copen, .int cduels, .int clines, .ref bcoins, .ref brented, .ref bmornings, .ref bhonours, .ref bused, .ref bsides, .ref blog])), (bcoins, aI g 6 f_1), (brented, aI g 6 f_2), (bmornings, aI g 8 f_3), (bhonours, aI g 8 f_4), (bused, aI g 8 f_5), (bsides, aI g 16 f_6), (blog, aI g 60 f_7), (o, .inr (9, [.int cday, .int cseed, .int calive, .int cstruck, .int copen, .int cduels, .int clines, .ref ccoins, .ref crented, .ref cmornings, .ref chonours, .ref cused, .ref csides, .ref clog])), (ccoins, aI g 6 Fccoins), (crented, aI g 6 Fcrented), (cmornings, aI g 8 Fcmornings), (chonours, aI g 8 Fchonours), (cused, aI g 8 Fcused), (csides, aI g 16 Fcsides), (clog, aI g 60 Fclog)] := hD
  have hP9 : va_P g.1 vwCl [(h, .inr (9, [.int cday, .int cseed, .int calive, .int cstruck, .int copen, .int cduels, .int clines, .ref bcoins, .ref brented, .ref bmornings, .ref bhonours, .ref bused, .ref bsides, .ref blog])), (bcoins, aI g 6 f_1), (brented, aI g 6 f_2), (bmornings, aI g 8 f_3), (bhonours, aI g 8 f_4), (bused, aI g 8 f_5), (bsides, aI g 16 f_6), (blog, aI g 60 f_7), (o, .inr (9, [.int cday, .int cseed, .int calive, .int cstruck, .int copen, .int cduels, .int clines, .ref ccoins, .ref crented, .ref cmornings, .ref chonours, .ref cused, .ref csides, .ref clog])), (ccoins, aI g 6 Fccoins), (crented, aI g 6 Fcrented), (cmornings, aI g 8 Fcmornings), (chonours, aI g 8 Fchonours), (cused, aI g 8 Fcused), (csides, aI g 16 Fcsides), (clog, aI g 60 Fclog)] H := hP.sub [0, 1, 2, 3, 4, 5, 6, 7, 8, 9, 10, 11, 12, 13, 14, 15] rfl
  have hD9 : va_D A [(h, .inr (9, [.int cday, .int cseed, .int calive, .int cstruck, .int copen, .int cduels, .int clines, .ref bcoins, .ref brented, .ref bmornings, .ref bhonours, .ref bused, .ref bsides, .ref blog])), (bcoins, aI g 6 f_1), (brented, aI g 6 f_2), (bmornings, aI g 8 f_3), (bhonours, aI g 8 f_4), (bused, aI g 8 f_5), (bsides, aI g 16 f_6), (blog, aI g 60 f_7), (o, .inr (9, [.int cday, .int cseed, .int calive, .int cstruck, .int copen, .int cduels, .int clines, .ref ccoins, .ref crented, .ref cmornings, .ref chonours, .ref cused, .ref csides, .ref clog])), (ccoins, aI g 6 Fccoins), (crented, aI g 6 Fcrented), (cmornings, aI g 8 Fcmornings), (chonours, aI g 8 Fchonours), (cused, aI g 8 Fcused), (csides, aI g 16 Fcsides), (clog, aI g 60 Fclog)] := hD.sub [0, 1, 2, 3, 4, 5, 6, 7, 8, 9, 10, 11, 12, 13, 14, 15] (by decide +kernel) rfl
  exact W.vret hx hb hr (fun t ht hW => ⟨⟨(cday, cseed, calive, cstruck, copen, cduels, clines, f_1, f_2, f_3, f_4, f_5, f_6, f_7), rfl, ⟨(by first | with_reducible assumption | omega), (by first | with_reducible assumption | omega), (by first | with_reducible assumption | omega), gf_6⟩, by rw [ht]; exact hP9, by rw [hAe]; exact hD9⟩, hS.F ht⟩) hS.2.2 dX9_copy_163
