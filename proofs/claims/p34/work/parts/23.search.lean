set_option maxRecDepth 20000 in
theorem inF_X7 : ∀ w ∈ u_ws RX7 TX7 12, w ∈ gT := gT_u [354, 356, 358, 360, 362, 364, 366, 368, 370, 372, 374, 376] (by decide +kernel) (by decide +kernel)
theorem bw_415 : Cond.fieldLink RX7 34 "DuelDelays$Search" "path" "[I" ∈ gT := gT_tb 353 (by decide +kernel) (by decide +kernel)
theorem bw_416 : Cond.code yX7_pathMove cX7_pathMove 2 (some .int) ∈ gT := gT_tb 1124 (by decide +kernel) (by decide +kernel)
theorem dX7_pathMove_0 : decode cX7_pathMove 0 = .ok (.iload_n 1, 1) := by decide +kernel
theorem dX7_pathMove_1 : decode cX7_pathMove 1 = .ok (.ifCond .lt 21, 3) := by decide +kernel
theorem dX7_pathMove_4 : decode cX7_pathMove 4 = .ok (.iload_n 1, 1) := by decide +kernel
theorem dX7_pathMove_5 : decode cX7_pathMove 5 = .ok (.aload_n 0, 1) := by decide +kernel
theorem dX7_pathMove_6 : decode cX7_pathMove 6 = .ok (.getfield 34, 3) := by decide +kernel
theorem dX7_pathMove_9 : decode cX7_pathMove 9 = .ok (.arraylength, 1) := by decide +kernel
theorem dX7_pathMove_10 : decode cX7_pathMove 10 = .ok (.if_icmp .ge 12, 3) := by decide +kernel
theorem dX7_pathMove_13 : decode cX7_pathMove 13 = .ok (.aload_n 0, 1) := by decide +kernel
theorem dX7_pathMove_14 : decode cX7_pathMove 14 = .ok (.getfield 34, 3) := by decide +kernel
theorem dX7_pathMove_17 : decode cX7_pathMove 17 = .ok (.iload_n 1, 1) := by decide +kernel
theorem dX7_pathMove_18 : decode cX7_pathMove 18 = .ok (.iaload, 1) := by decide +kernel
theorem dX7_pathMove_19 : decode cX7_pathMove 19 = .ok (.goto 4, 3) := by decide +kernel
theorem dX7_pathMove_22 : decode cX7_pathMove 22 = .ok (.iconst 0, 1) := by decide +kernel
theorem dX7_pathMove_23 : decode cX7_pathMove 23 = .ok (.ireturn, 1) := by decide +kernel
set_option maxHeartbeats 4000000 in
set_option maxRecDepth 100000 in
theorem s_X7_pathMove (l : Launch) (g : GG) (sz : Nat) (h : Nat) (bland : Nat) (bdeathDay : Int32) (bfreeFrom : Nat) (bbarring : Nat) (bkeys : Nat) (bways : Nat) (bcount : Int32) (bwins : Nat) (bslots : Nat) (bround : Int32) (bworths : Nat) (bpath : Nat) (Fbpath : Nat → Int32) (p0 : Int32) (hh1 : 0 ≤ bcount.toInt ∧ bcount.toInt ≤ 3000) (hh2 : 0 ≤ bround.toInt ∧ bround.toInt ≤ 1048575) : Met l yX7_pathMove (.code yX7_pathMove cX7_pathMove 2 (some .int) :: gT) ({ frames := 0, cells := 0, slots := 0, locals := 0 }) (va_Pc [.ref h, .int p0] (Pst g sz [(h, .inr (7, [.ref bland, .int bdeathDay, .ref bfreeFrom, .ref bbarring, .ref bkeys, .ref bways, .int bcount, .ref bwins, .ref bslots, .int bround, .ref bworths, .ref bpath])), (bpath, aI g 16 Fbpath)] nX)) (va_Qi (fun (r : Int32) => fun (_ : Unit) => True) (Qst g [] sz (fun _ => [])) (va_A [] sz)) 0 0 (va_A [] sz) := by
  refine Met.ofW (cc := cX7_pathMove) (maxL := 2) (ret := (some .int)) (by decide) rfl ?_
  intro p e s m args below meth c s₁ B hml hv
  obtain ⟨rfl, hsz, hP, hK, hD0, hX⟩ := hv
  have hx := B.exec
  have hb := B.bytes
  have hr := B.returns
  have hT : ∀ w ∈ gT, w.before _ s = true := fun w h => atoms_spec (ws := .code yX7_pathMove cX7_pathMove 2 (some .int) :: gT) B.pre w (List.mem_cons_of_mem _ h)
  have hown : s.vm.findClass RX7 = some m.cls := findClass_of_methodNamed B.named
  have hlocks := B.notSynchronized
  subst hsz
  have hD := hD0
  generalize hAe : va_A [] s.heap.size = A at ⊢
  have hA : ∀ q : Nat, s.heap.size ≤ q → A q := fun q h => by rw [← hAe]; exact Or.inr h
  have hS : va_S A s.heap s.heap [] := va_S.rf
  have hl := lv_entry ([.ref h, .int p0]) (n := 2) (Nat.le_of_ble_eq_true rfl)
  rw [lg_entry_eq]
  generalize (lg_sl ([.ref h, .int p0]) ++ List.replicate (2 - (lg_sl ([.ref h, .int p0])).length) Slot.unset).toArray = ls at hl ⊢
  have hl : lv_has ls 2 [(0, .ref h), (1, .int p0)] := hl
  refine p_nH (fun H hH => ?_)
  have hP : va_P g.1 vwCl [(h, .inr (7, [.ref bland, .int bdeathDay, .ref bfreeFrom, .ref bbarring, .ref bkeys, .ref bways, .int bcount, .ref bwins, .ref bslots, .int bround, .ref bworths, .ref bpath])), (bpath, aI g 16 Fbpath)] H := by rw [hH]; exact hP
  have hS : va_S A s.heap H [] := by rw [hH]; exact hS
  refine lv_iload_n hx hb dX7_pathMove_0 rfl (lv_at hl 1 rfl) ?_
  refine lv_if_lt (tgt := 22) hx hb dX7_pathMove_1 (by decide) (fun c_1 => ?_) (fun c_1 => ?_)
  · have f_2 := E_lt (rfl : p0.toInt = _) (by decide : (0 : Int32).toInt = 0) c_1
    refine lv_iconst (v := 0) hx hb dX7_pathMove_22 (by decide) ?_
    have hP9 : va_P g.1 vwCl [] H := hP.sub [] rfl
    have hD9 : va_D A [] := ⟨fun i j p q h => by simp at h, fun k q h => by simp at h⟩
    exact W.iret (v := 0) hx hb hr (fun t ht hW => ⟨⟨0, (), rfl, trivial, by rw [ht]; exact hP9, by rw [hAe]; exact hD9⟩, hS.F ht⟩) hS.2.2 dX7_pathMove_23
  · have f_3 := E_nlt (rfl : p0.toInt = _) (by decide : (0 : Int32).toInt = 0) c_1
    refine lv_iload_n hx hb dX7_pathMove_4 rfl (lv_at hl 1 rfl) ?_
    refine lv_aload_n hx hb dX7_pathMove_5 rfl (lv_at hl 0 rfl) ?_
    refine va_get (D := g.1) (ci := 7) (v := .ref bpath) (C := RX7) (T := TX7) (N := 12) hx hb hT inF_X7 hown hK.1 hP 0 rfl rfl 11 (by decide) (hT _ bw_415) (fun _ h9 => h9) rfl dX7_pathMove_6 ?_
    refine va_alen (v := 16) hx hb hK.1 hP 1 1 rfl rfl rfl dX7_pathMove_9 ?_
    refine lv_icmp_ge (tgt := 22) hx hb dX7_pathMove_10 (by decide) (fun c_4 => ?_) (fun c_4 => ?_)
    · have f_5 := E_le (by decide : (16 : Int32).toInt = 16) (rfl : p0.toInt = _) c_4
      refine lv_iconst (v := 0) hx hb dX7_pathMove_22 (by decide) ?_
      have hP9 : va_P g.1 vwCl [] H := hP.sub [] rfl
      have hD9 : va_D A [] := ⟨fun i j p q h => by simp at h, fun k q h => by simp at h⟩
      exact W.iret (v := 0) hx hb hr (fun t ht hW => ⟨⟨0, (), rfl, trivial, by rw [ht]; exact hP9, by rw [hAe]; exact hD9⟩, hS.F ht⟩) hS.2.2 dX7_pathMove_23
    · have f_6 := E_nle (by decide : (16 : Int32).toInt = 16) (rfl : p0.toInt = _) c_4
      refine lv_aload_n hx hb dX7_pathMove_13 rfl (lv_at hl 0 rfl) ?_
      refine va_get (D := g.1) (ci := 7) (v := .ref bpath) (C := RX7) (T := TX7) (N := 12) hx hb hT inF_X7 hown hK.1 hP 0 rfl rfl 11 (by decide) (hT _ bw_415) (fun _ h9 => h9) rfl dX7_pathMove_14 ?_
      refine lv_iload_n hx hb dX7_pathMove_17 rfl (lv_at hl 1 rfl) ?_
      have h_7 : vp_in p0 16 := vp_in_iff.mpr (by omega)
      refine va_iald hx hb hK.1 hP 1 1 rfl rfl (i := p0) h_7 dX7_pathMove_18 ?_
      refine lv_topi (fun x_8 ex_8 => ?_)
      have ux_8 := congrArg Int32.toInt ex_8
      refine lv_goto (tgt := 23) hx hb dX7_pathMove_19 (by decide) ?_
      have hP9 : va_P g.1 vwCl [] H := hP.sub [] rfl
      have hD9 : va_D A [] := ⟨fun i j p q h => by simp at h, fun k q h => by simp at h⟩
      exact W.iret (v := x_8) hx hb hr (fun t ht hW => ⟨⟨x_8, (), rfl, trivial, by rw [ht]; exact hP9, by rw [hAe]; exact hD9⟩, hS.F ht⟩) hS.2.2 dX7_pathMove_23

theorem bw_417 : Cond.fieldLink RX7 18 "DuelDelays$Search" "keys" "[I" ∈ gT := gT_tb 346 (by decide +kernel) (by decide +kernel)
theorem bw_418 : Cond.code yX7_usedOf cX7_usedOf 2 (some .int) ∈ gT := gT_tb 1115 (by decide +kernel) (by decide +kernel)
theorem dX7_usedOf_0 : decode cX7_usedOf 0 = .ok (.aload_n 0, 1) := by decide +kernel
theorem dX7_usedOf_1 : decode cX7_usedOf 1 = .ok (.getfield 18, 3) := by decide +kernel
theorem dX7_usedOf_4 : decode cX7_usedOf 4 = .ok (.iload_n 1, 1) := by decide +kernel
theorem dX7_usedOf_5 : decode cX7_usedOf 5 = .ok (.iaload, 1) := by decide +kernel
theorem dX7_usedOf_6 : decode cX7_usedOf 6 = .ok (.bipush 14, 2) := by decide +kernel
theorem dX7_usedOf_8 : decode cX7_usedOf 8 = .ok (.ishr, 1) := by decide +kernel
theorem dX7_usedOf_9 : decode cX7_usedOf 9 = .ok (.ireturn, 1) := by decide +kernel
set_option maxHeartbeats 4000000 in
set_option maxRecDepth 100000 in
theorem s_X7_usedOf (l : Launch) (g : GG) (sz : Nat) (h : Nat) (bland : Nat) (bdeathDay : Int32) (bfreeFrom : Nat) (bbarring : Nat) (bkeys : Nat) (Fbkeys : Nat → Int32) (bways : Nat) (bcount : Int32) (bwins : Nat) (bslots : Nat) (bround : Int32) (bworths : Nat) (bpath : Nat) (p0 : Int32) (hh1 : 0 ≤ bcount.toInt ∧ bcount.toInt ≤ 3000) (hh2 : 0 ≤ bround.toInt ∧ bround.toInt ≤ 1048575) (hh3 : 0 ≤ p0.toInt ∧ p0.toInt ≤ 2999) : Met l yX7_usedOf (.code yX7_usedOf cX7_usedOf 2 (some .int) :: gT) ({ frames := 0, cells := 0, slots := 0, locals := 0 }) (va_Pc [.ref h, .int p0] (Pst g sz [(h, .inr (7, [.ref bland, .int bdeathDay, .ref bfreeFrom, .ref bbarring, .ref bkeys, .ref bways, .int bcount, .ref bwins, .ref bslots, .int bround, .ref bworths, .ref bpath])), (bkeys, aI g 3000 Fbkeys)] nX)) (va_Qi (fun (r : Int32) => fun (_ : Unit) => True) (Qst g [] sz (fun _ => [])) (va_A [] sz)) 0 0 (va_A [] sz) := by
  refine Met.ofW (cc := cX7_usedOf) (maxL := 2) (ret := (some .int)) (by decide) rfl ?_
  intro p e s m args below meth c s₁ B hml hv
  obtain ⟨rfl, hsz, hP, hK, hD0, hX⟩ := hv
  have hx := B.exec
  have hb := B.bytes
  have hr := B.returns
  have hT : ∀ w ∈ gT, w.before _ s = true := fun w h => atoms_spec (ws := .code yX7_usedOf cX7_usedOf 2 (some .int) :: gT) B.pre w (List.mem_cons_of_mem _ h)
  have hown : s.vm.findClass RX7 = some m.cls := findClass_of_methodNamed B.named
  have hlocks := B.notSynchronized
  subst hsz
  have hD := hD0
  generalize hAe : va_A [] s.heap.size = A at ⊢
  have hA : ∀ q : Nat, s.heap.size ≤ q → A q := fun q h => by rw [← hAe]; exact Or.inr h
  have hS : va_S A s.heap s.heap [] := va_S.rf
  have hl := lv_entry ([.ref h, .int p0]) (n := 2) (Nat.le_of_ble_eq_true rfl)
  rw [lg_entry_eq]
  generalize (lg_sl ([.ref h, .int p0]) ++ List.replicate (2 - (lg_sl ([.ref h, .int p0])).length) Slot.unset).toArray = ls at hl ⊢
  have hl : lv_has ls 2 [(0, .ref h), (1, .int p0)] := hl
  refine p_nH (fun H hH => ?_)
  have hP : va_P g.1 vwCl [(h, .inr (7, [.ref bland, .int bdeathDay, .ref bfreeFrom, .ref bbarring, .ref bkeys, .ref bways, .int bcount, .ref bwins, .ref bslots, .int bround, .ref bworths, .ref bpath])), (bkeys, aI g 3000 Fbkeys)] H := by rw [hH]; exact hP
  have hS : va_S A s.heap H [] := by rw [hH]; exact hS
  refine lv_aload_n hx hb dX7_usedOf_0 rfl (lv_at hl 0 rfl) ?_
  refine va_get (D := g.1) (ci := 7) (v := .ref bkeys) (C := RX7) (T := TX7) (N := 12) hx hb hT inF_X7 hown hK.1 hP 0 rfl rfl 4 (by decide) (hT _ bw_417) (fun _ h9 => h9) rfl dX7_usedOf_1 ?_
  refine lv_iload_n hx hb dX7_usedOf_4 rfl (lv_at hl 1 rfl) ?_
  have h_1 : vp_in p0 3000 := vp_in_iff.mpr (by omega)
  refine va_iald hx hb hK.1 hP 1 1 rfl rfl (i := p0) h_1 dX7_usedOf_5 ?_
  refine lv_topi (fun x_2 ex_2 => ?_)
  have ux_2 := congrArg Int32.toInt ex_2
  refine lv_bipush (v := 14) hx hb dX7_usedOf_6 (by decide) ?_
  refine lv_ishr hx hb dX7_usedOf_8 ?_
  refine lv_topi (fun x_3 ex_3 => ?_)
  have hP9 : va_P g.1 vwCl [] H := hP.sub [] rfl
  have hD9 : va_D A [] := ⟨fun i j p q h => by simp at h, fun k q h => by simp at h⟩
  exact W.iret (v := x_3) hx hb hr (fun t ht hW => ⟨⟨x_3, (), rfl, trivial, by rw [ht]; exact hP9, by rw [hAe]; exact hD9⟩, hS.F ht⟩) hS.2.2 dX7_usedOf_9

theorem bw_419 : Cond.code yX7_morningOf cX7_morningOf 2 (some .int) ∈ gT := gT_tb 1098 (by decide +kernel) (by decide +kernel)
theorem dX7_morningOf_0 : decode cX7_morningOf 0 = .ok (.aload_n 0, 1) := by decide +kernel
theorem dX7_morningOf_1 : decode cX7_morningOf 1 = .ok (.getfield 18, 3) := by decide +kernel
theorem dX7_morningOf_4 : decode cX7_morningOf 4 = .ok (.iload_n 1, 1) := by decide +kernel
theorem dX7_morningOf_5 : decode cX7_morningOf 5 = .ok (.iaload, 1) := by decide +kernel
theorem dX7_morningOf_6 : decode cX7_morningOf 6 = .ok (.sipush 16383, 3) := by decide +kernel
theorem dX7_morningOf_9 : decode cX7_morningOf 9 = .ok (.iand, 1) := by decide +kernel
theorem dX7_morningOf_10 : decode cX7_morningOf 10 = .ok (.ireturn, 1) := by decide +kernel
set_option maxHeartbeats 4000000 in
set_option maxRecDepth 100000 in
theorem s_X7_morningOf (l : Launch) (g : GG) (sz : Nat) (h : Nat) (bland : Nat) (bdeathDay : Int32) (bfreeFrom : Nat) (bbarring : Nat) (bkeys : Nat) (Fbkeys : Nat → Int32) (bways : Nat) (bcount : Int32) (bwins : Nat) (bslots : Nat) (bround : Int32) (bworths : Nat) (bpath : Nat) (p0 : Int32) (hh1 : 0 ≤ bcount.toInt ∧ bcount.toInt ≤ 3000) (hh2 : 0 ≤ bround.toInt ∧ bround.toInt ≤ 1048575) (hh3 : 0 ≤ p0.toInt ∧ p0.toInt ≤ 2999) : Met l yX7_morningOf (.code yX7_morningOf cX7_morningOf 2 (some .int) :: gT) ({ frames := 0, cells := 0, slots := 0, locals := 0 }) (va_Pc [.ref h, .int p0] (Pst g sz [(h, .inr (7, [.ref bland, .int bdeathDay, .ref bfreeFrom, .ref bbarring, .ref bkeys, .ref bways, .int bcount, .ref bwins, .ref bslots, .int bround, .ref bworths, .ref bpath])), (bkeys, aI g 3000 Fbkeys)] nX)) (va_Qi (fun (r : Int32) => fun (_ : Unit) => 0 ≤ r.toInt ∧ r.toInt ≤ 16383) (Qst g [] sz (fun _ => [])) (va_A [] sz)) 0 0 (va_A [] sz) := by
  refine Met.ofW (cc := cX7_morningOf) (maxL := 2) (ret := (some .int)) (by decide) rfl ?_
  intro p e s m args below meth c s₁ B hml hv
  obtain ⟨rfl, hsz, hP, hK, hD0, hX⟩ := hv
  have hx := B.exec
  have hb := B.bytes
  have hr := B.returns
  have hT : ∀ w ∈ gT, w.before _ s = true := fun w h => atoms_spec (ws := .code yX7_morningOf cX7_morningOf 2 (some .int) :: gT) B.pre w (List.mem_cons_of_mem _ h)
  have hown : s.vm.findClass RX7 = some m.cls := findClass_of_methodNamed B.named
  have hlocks := B.notSynchronized
  subst hsz
  have hD := hD0
  generalize hAe : va_A [] s.heap.size = A at ⊢
  have hA : ∀ q : Nat, s.heap.size ≤ q → A q := fun q h => by rw [← hAe]; exact Or.inr h
  have hS : va_S A s.heap s.heap [] := va_S.rf
  have hl := lv_entry ([.ref h, .int p0]) (n := 2) (Nat.le_of_ble_eq_true rfl)
  rw [lg_entry_eq]
  generalize (lg_sl ([.ref h, .int p0]) ++ List.replicate (2 - (lg_sl ([.ref h, .int p0])).length) Slot.unset).toArray = ls at hl ⊢
  have hl : lv_has ls 2 [(0, .ref h), (1, .int p0)] := hl
  refine p_nH (fun H hH => ?_)
  have hP : va_P g.1 vwCl [(h, .inr (7, [.ref bland, .int bdeathDay, .ref bfreeFrom, .ref bbarring, .ref bkeys, .ref bways, .int bcount, .ref bwins, .ref bslots, .int bround, .ref bworths, .ref bpath])), (bkeys, aI g 3000 Fbkeys)] H := by rw [hH]; exact hP
  have hS : va_S A s.heap H [] := by rw [hH]; exact hS
  refine lv_aload_n hx hb dX7_morningOf_0 rfl (lv_at hl 0 rfl) ?_
  refine va_get (D := g.1) (ci := 7) (v := .ref bkeys) (C := RX7) (T := TX7) (N := 12) hx hb hT inF_X7 hown hK.1 hP 0 rfl rfl 4 (by decide) (hT _ bw_417) (fun _ h9 => h9) rfl dX7_morningOf_1 ?_
  refine lv_iload_n hx hb dX7_morningOf_4 rfl (lv_at hl 1 rfl) ?_
  have h_1 : vp_in p0 3000 := vp_in_iff.mpr (by omega)
  refine va_iald hx hb hK.1 hP 1 1 rfl rfl (i := p0) h_1 dX7_morningOf_5 ?_
  refine lv_topi (fun x_2 ex_2 => ?_)
  have ux_2 := congrArg Int32.toInt ex_2
  refine lv_sipush (v := 16383) hx hb dX7_morningOf_6 (by decide) ?_
  refine lv_iand hx hb dX7_morningOf_9 ?_
  refine lv_topi (fun x_3 ex_3 => ?_)
  have fx_3 : 0 ≤ x_3.toInt ∧ x_3.toInt ≤ 16383 := by rw [ex_3]; exact I_and (by decide) (by decide)
  have hP9 : va_P g.1 vwCl [] H := hP.sub [] rfl
  have hD9 : va_D A [] := ⟨fun i j p q h => by simp at h, fun k q h => by simp at h⟩
  exact W.iret (v := x_3) hx hb hr (fun t ht hW => ⟨⟨x_3, (), rfl, (by first | with_reducible assumption | omega), by rw [ht]; exact hP9, by rw [hAe]; exact hD9⟩, hS.F ht⟩) hS.2.2 dX7_morningOf_10

theorem bw_420 : Cond.fieldLink RX7 28 "DuelDelays$Search" "slots" "[I" ∈ gT := gT_tb 350 (by decide +kernel) (by decide +kernel)
theorem bw_421 : Cond.fieldLink RX7 106 "DuelDelays$Search" "round" "I" ∈ gT := gT_tb 351 (by decide +kernel) (by decide +kernel)
theorem bw_422 : Cond.code yX7_isTaken cX7_isTaken 2 (some .boolean) ∈ gT := gT_tb 1090 (by decide +kernel) (by decide +kernel)
theorem dX7_isTaken_0 : decode cX7_isTaken 0 = .ok (.aload_n 0, 1) := by decide +kernel
theorem dX7_isTaken_1 : decode cX7_isTaken 1 = .ok (.getfield 28, 3) := by decide +kernel
theorem dX7_isTaken_4 : decode cX7_isTaken 4 = .ok (.iload_n 1, 1) := by decide +kernel
theorem dX7_isTaken_5 : decode cX7_isTaken 5 = .ok (.iaload, 1) := by decide +kernel
theorem dX7_isTaken_6 : decode cX7_isTaken 6 = .ok (.bipush 12, 2) := by decide +kernel
theorem dX7_isTaken_8 : decode cX7_isTaken 8 = .ok (.iushr, 1) := by decide +kernel
theorem dX7_isTaken_9 : decode cX7_isTaken 9 = .ok (.aload_n 0, 1) := by decide +kernel
theorem dX7_isTaken_10 : decode cX7_isTaken 10 = .ok (.getfield 106, 3) := by decide +kernel
theorem dX7_isTaken_13 : decode cX7_isTaken 13 = .ok (.if_icmp .ne 7, 3) := by decide +kernel
theorem dX7_isTaken_16 : decode cX7_isTaken 16 = .ok (.iconst 1, 1) := by decide +kernel
theorem dX7_isTaken_17 : decode cX7_isTaken 17 = .ok (.goto 4, 3) := by decide +kernel
theorem dX7_isTaken_20 : decode cX7_isTaken 20 = .ok (.iconst 0, 1) := by decide +kernel
theorem dX7_isTaken_21 : decode cX7_isTaken 21 = .ok (.ireturn, 1) := by decide +kernel
set_option maxHeartbeats 4000000 in
set_option maxRecDepth 100000 in
theorem s_X7_isTaken (l : Launch) (g : GG) (sz : Nat) (h : Nat) (bland : Nat) (bdeathDay : Int32) (bfreeFrom : Nat) (bbarring : Nat) (bkeys : Nat) (bways : Nat) (bcount : Int32) (bwins : Nat) (bslots : Nat) (Fbslots : Nat → Int32) (bround : Int32) (bworths : Nat) (bpath : Nat) (p0 : Int32) (hh1 : 0 ≤ bcount.toInt ∧ bcount.toInt ≤ 3000) (hh2 : 0 ≤ bround.toInt ∧ bround.toInt ≤ 1048575) (hh3 : 0 ≤ p0.toInt ∧ p0.toInt ≤ 8191) : Met l yX7_isTaken (.code yX7_isTaken cX7_isTaken 2 (some .boolean) :: gT) ({ frames := 0, cells := 0, slots := 0, locals := 0 }) (va_Pc [.ref h, .int p0] (Pst g sz [(h, .inr (7, [.ref bland, .int bdeathDay, .ref bfreeFrom, .ref bbarring, .ref bkeys, .ref bways, .int bcount, .ref bwins, .ref bslots, .int bround, .ref bworths, .ref bpath])), (bslots, aI g 8192 Fbslots)] nX)) (va_Qi (fun (r : Int32) => fun (_ : Unit) => 0 ≤ r.toInt ∧ r.toInt ≤ 1) (Qst g [] sz (fun _ => [])) (va_A [] sz)) 0 0 (va_A [] sz) := by
  refine Met.ofW (cc := cX7_isTaken) (maxL := 2) (ret := (some .boolean)) (by decide) rfl ?_
  intro p e s m args below meth c s₁ B hml hv
  obtain ⟨rfl, hsz, hP, hK, hD0, hX⟩ := hv
  have hx := B.exec
  have hb := B.bytes
  have hr := B.returns
  have hT : ∀ w ∈ gT, w.before _ s = true := fun w h => atoms_spec (ws := .code yX7_isTaken cX7_isTaken 2 (some .boolean) :: gT) B.pre w (List.mem_cons_of_mem _ h)
  have hown : s.vm.findClass RX7 = some m.cls := findClass_of_methodNamed B.named
  have hlocks := B.notSynchronized
  subst hsz
  have hD := hD0
  generalize hAe : va_A [] s.heap.size = A at ⊢
  have hA : ∀ q : Nat, s.heap.size ≤ q → A q := fun q h => by rw [← hAe]; exact Or.inr h
  have hS : va_S A s.heap s.heap [] := va_S.rf
  have hl := lv_entry ([.ref h, .int p0]) (n := 2) (Nat.le_of_ble_eq_true rfl)
  rw [lg_entry_eq]
  generalize (lg_sl ([.ref h, .int p0]) ++ List.replicate (2 - (lg_sl ([.ref h, .int p0])).length) Slot.unset).toArray = ls at hl ⊢
  have hl : lv_has ls 2 [(0, .ref h), (1, .int p0)] := hl
  refine p_nH (fun H hH => ?_)
  have hP : va_P g.1 vwCl [(h, .inr (7, [.ref bland, .int bdeathDay, .ref bfreeFrom, .ref bbarring, .ref bkeys, .ref bways, .int bcount, .ref bwins, .ref bslots, .int bround, .ref bworths, .ref bpath])), (bslots, aI g 8192 Fbslots)] H := by rw [hH]; exact hP
  have hS : va_S A s.heap H [] := by rw [hH]; exact hS
  refine lv_aload_n hx hb dX7_isTaken_0 rfl (lv_at hl 0 rfl) ?_
  refine va_get (D := g.1) (ci := 7) (v := .ref bslots) (C := RX7) (T := TX7) (N := 12) hx hb hT inF_X7 hown hK.1 hP 0 rfl rfl 8 (by decide) (hT _ bw_420) (fun _ h9 => h9) rfl dX7_isTaken_1 ?_
  refine lv_iload_n hx hb dX7_isTaken_4 rfl (lv_at hl 1 rfl) ?_
  have h_1 : vp_in p0 8192 := vp_in_iff.mpr (by omega)
  refine va_iald hx hb hK.1 hP 1 1 rfl rfl (i := p0) h_1 dX7_isTaken_5 ?_
  refine lv_topi (fun x_2 ex_2 => ?_)
  have ux_2 := congrArg Int32.toInt ex_2
  refine lv_bipush (v := 12) hx hb dX7_isTaken_6 (by decide) ?_
  obtain ⟨x_3, ex_3⟩ : ∃ v : Int32, ((x_2 : Int32).toUInt32 >>> ((12 : Int32).toUInt32 &&& Int32.toUInt32 31)).toInt32 = v := ⟨_, rfl⟩
  have fx_3 : 0 ≤ x_3.toInt ∧ x_3.toInt < 1048576 := I_ushr 12 (by decide) (by decide) (by decide) ex_3
  refine lv_iushr (v := x_3) hx hb dX7_isTaken_8 ex_3 ?_
  refine lv_aload_n hx hb dX7_isTaken_9 rfl (lv_at hl 0 rfl) ?_
  refine va_get (D := g.1) (ci := 7) (v := .int bround) (C := RX7) (T := TX7) (N := 12) hx hb hT inF_X7 hown hK.1 hP 0 rfl rfl 9 (by decide) (hT _ bw_421) (fun _ h9 => h9) rfl dX7_isTaken_10 ?_
  refine lv_icmp_ne (tgt := 20) hx hb dX7_isTaken_13 (by decide) (fun c_4 => ?_) (fun c_4 => ?_)
  · have f_5 := E_ne (rfl : x_3.toInt = _) (rfl : bround.toInt = _) c_4
    refine lv_iconst (v := 0) hx hb dX7_isTaken_20 (by decide) ?_
    have hP9 : va_P g.1 vwCl [] H := hP.sub [] rfl
    have hD9 : va_D A [] := ⟨fun i j p q h => by simp at h, fun k q h => by simp at h⟩
    exact W.zret (v := 0) (ty := .boolean) hx hb hr rfl (fun t ht hW => ⟨⟨0, (), rfl, ⟨by decide, by decide⟩, by rw [ht]; exact hP9, by rw [hAe]; exact hD9⟩, hS.F ht⟩) hS.2.2 dX7_isTaken_21
  · have f_6 := E_eq (rfl : x_3.toInt = _) (rfl : bround.toInt = _) c_4
    refine lv_iconst (v := 1) hx hb dX7_isTaken_16 (by decide) ?_
    refine lv_goto (tgt := 21) hx hb dX7_isTaken_17 (by decide) ?_
    have hP9 : va_P g.1 vwCl [] H := hP.sub [] rfl
    have hD9 : va_D A [] := ⟨fun i j p q h => by simp at h, fun k q h => by simp at h⟩
    exact W.zret (v := 1) (ty := .boolean) hx hb hr rfl (fun t ht hW => ⟨⟨1, (), rfl, ⟨by decide, by decide⟩, by rw [ht]; exact hP9, by rw [hAe]; exact hD9⟩, hS.F ht⟩) hS.2.2 dX7_isTaken_21

theorem bw_423 : Cond.methodLink RX7 123 yX7_morningOf ∈ gT := gT_tb 1095 (by decide +kernel) (by decide +kernel)
theorem bw_424 : Cond.instanceMethod yX7_morningOf ∈ gT := gT_tb 1097 (by decide +kernel) (by decide +kernel)
theorem bw_425 : Cond.selects RX7 yX7_morningOf yX7_morningOf ∈ gT := gT_sl 37 (by decide +kernel) (by decide +kernel)
theorem bw_426 : Cond.initialized RX7 ∈ gT := gT_tb 12 (by decide +kernel) (by decide +kernel)
theorem bw_427 : Cond.fieldLink RX7 11 "DuelDelays$Search" "freeFrom" "[I" ∈ gT := gT_tb 344 (by decide +kernel) (by decide +kernel)
theorem bw_428 : Cond.fieldLink RX7 57 "DuelDelays$Search" "land" "LDuelDelays$Land;" ∈ gT := gT_tb 342 (by decide +kernel) (by decide +kernel)
theorem bw_429 : Cond.fieldLink RX7 81 "DuelDelays$Land" "reasons" "LDuelDelays$Reasons;" ∈ gT := gT_tb 293 (by decide +kernel) (by decide +kernel)
theorem bw_430 : Cond.methodLink RX7 162 yX6_isInTime ∈ gT := gT_tb 1111 (by decide +kernel) (by decide +kernel)
theorem bw_431 : Cond.methodLink RX7 137 yX7_usedOf ∈ gT := gT_tb 1112 (by decide +kernel) (by decide +kernel)
theorem bw_432 : Cond.instanceMethod yX7_usedOf ∈ gT := gT_tb 1114 (by decide +kernel) (by decide +kernel)
theorem bw_433 : Cond.selects RX7 yX7_usedOf yX7_usedOf ∈ gT := gT_sl 41 (by decide +kernel) (by decide +kernel)
theorem bw_434 : Cond.fieldLink RX7 15 "DuelDelays$Search" "barring" "[I" ∈ gT := gT_tb 345 (by decide +kernel) (by decide +kernel)
theorem bw_435 : Cond.code yX7_allows cX7_allows 5 (some .boolean) ∈ gT := gT_tb 1110 (by decide +kernel) (by decide +kernel)
theorem dX7_allows_0 : decode cX7_allows 0 = .ok (.aload_n 0, 1) := by decide +kernel
theorem dX7_allows_1 : decode cX7_allows 1 = .ok (.iload_n 1, 1) := by decide +kernel
theorem dX7_allows_2 : decode cX7_allows 2 = .ok (.invokevirtual 123, 3) := by decide +kernel
theorem dX7_allows_5 : decode cX7_allows 5 = .ok (.istore_n 3, 1) := by decide +kernel
theorem dX7_allows_6 : decode cX7_allows 6 = .ok (.iload_n 2, 1) := by decide +kernel
theorem dX7_allows_7 : decode cX7_allows 7 = .ok (.bipush 8, 2) := by decide +kernel
theorem dX7_allows_9 : decode cX7_allows 9 = .ok (.irem, 1) := by decide +kernel
theorem dX7_allows_10 : decode cX7_allows 10 = .ok (.istore 4, 2) := by decide +kernel
theorem dX7_allows_12 : decode cX7_allows 12 = .ok (.aload_n 0, 1) := by decide +kernel
theorem dX7_allows_13 : decode cX7_allows 13 = .ok (.getfield 11, 3) := by decide +kernel
theorem dX7_allows_16 : decode cX7_allows 16 = .ok (.iload_n 2, 1) := by decide +kernel
theorem dX7_allows_17 : decode cX7_allows 17 = .ok (.iaload, 1) := by decide +kernel
theorem dX7_allows_18 : decode cX7_allows 18 = .ok (.iload_n 3, 1) := by decide +kernel
theorem dX7_allows_19 : decode cX7_allows 19 = .ok (.if_icmp .gt 38, 3) := by decide +kernel
theorem dX7_allows_22 : decode cX7_allows 22 = .ok (.aload_n 0, 1) := by decide +kernel
theorem dX7_allows_23 : decode cX7_allows 23 = .ok (.getfield 57, 3) := by decide +kernel
theorem dX7_allows_26 : decode cX7_allows 26 = .ok (.getfield 81, 3) := by decide +kernel
theorem dX7_allows_29 : decode cX7_allows 29 = .ok (.iload 4, 2) := by decide +kernel
theorem dX7_allows_31 : decode cX7_allows 31 = .ok (.iload_n 3, 1) := by decide +kernel
theorem dX7_allows_32 : decode cX7_allows 32 = .ok (.invokevirtual 162, 3) := by decide +kernel
theorem dX7_allows_35 : decode cX7_allows 35 = .ok (.ifCond .eq 22, 3) := by decide +kernel
theorem dX7_allows_38 : decode cX7_allows 38 = .ok (.aload_n 0, 1) := by decide +kernel
theorem dX7_allows_39 : decode cX7_allows 39 = .ok (.iload_n 1, 1) := by decide +kernel
theorem dX7_allows_40 : decode cX7_allows 40 = .ok (.invokevirtual 137, 3) := by decide +kernel
theorem dX7_allows_43 : decode cX7_allows 43 = .ok (.aload_n 0, 1) := by decide +kernel
theorem dX7_allows_44 : decode cX7_allows 44 = .ok (.getfield 15, 3) := by decide +kernel
theorem dX7_allows_47 : decode cX7_allows 47 = .ok (.iload_n 2, 1) := by decide +kernel
theorem dX7_allows_48 : decode cX7_allows 48 = .ok (.iaload, 1) := by decide +kernel
theorem dX7_allows_49 : decode cX7_allows 49 = .ok (.iand, 1) := by decide +kernel
theorem dX7_allows_50 : decode cX7_allows 50 = .ok (.ifCond .ne 7, 3) := by decide +kernel
theorem dX7_allows_53 : decode cX7_allows 53 = .ok (.iconst 1, 1) := by decide +kernel
theorem dX7_allows_54 : decode cX7_allows 54 = .ok (.goto 4, 3) := by decide +kernel
theorem dX7_allows_57 : decode cX7_allows 57 = .ok (.iconst 0, 1) := by decide +kernel
theorem dX7_allows_58 : decode cX7_allows 58 = .ok (.ireturn, 1) := by decide +kernel
set_option maxHeartbeats 4000000 in
set_option maxRecDepth 100000 in
theorem s_X7_allows (l : Launch) (g : GG) (sz : Nat) (h : Nat) (bland : Nat) (bdeathDay : Int32) (bfreeFrom : Nat) (FbfreeFrom : Nat → Int32) (bbarring : Nat) (Fbbarring : Nat → Int32) (bkeys : Nat) (Fbkeys : Nat → Int32) (bways : Nat) (bcount : Int32) (bwins : Nat) (bslots : Nat) (bround : Int32) (bworths : Nat) (bpath : Nat) (dduels : Int32) (dduelSides : Nat) (dduelMornings : Nat) (dhonour : Int32) (ddraw : Int32) (dusesOfKind : Nat) (dmen : Nat) (dformulas : Nat) (dreasons : Nat) (dreasons_count : Int32) (dreasons_names : Nat) (dreasons_kinds : Nat) (dreasons_owners : Nat) (dreasons_froms : Nat) (Fdreasons_froms : Nat → Int32) (dreasons_tos : Nat) (Fdreasons_tos : Nat → Int32) (dreasons_rents : Nat) (dreasons_sorts : Nat) (p0 : Int32) (p1 : Int32) (hh1 : 0 ≤ bcount.toInt ∧ bcount.toInt ≤ 3000) (hh2 : 0 ≤ bround.toInt ∧ bround.toInt ≤ 1048575) (hh3 : 0 ≤ dduels.toInt ∧ dduels.toInt ≤ 6) (hh5 : 0 ≤ ddraw.toInt ∧ ddraw.toInt ≤ 999) (hh12 : 0 ≤ dreasons_count.toInt ∧ dreasons_count.toInt ≤ 8) (hh15 : 0 ≤ p0.toInt ∧ p0.toInt ≤ 2999) (hh16 : 0 ≤ p1.toInt ∧ p1.toInt ≤ 15) : Met l yX7_allows (.code yX7_allows cX7_allows 5 (some .boolean) :: gT) ({ frames := 1, cells := 0, slots := 0, locals := 22 }) (va_Pc [.ref h, .int p0, .int p1] (Pst g sz [(h, .inr (7, [.ref bland, .int bdeathDay, .ref bfreeFrom, .ref bbarring, .ref bkeys, .ref bways, .int bcount, .ref bwins, .ref bslots, .int bround, .ref bworths, .ref bpath])), (bfreeFrom, aI g 16 FbfreeFrom), (bbarring, aI g 16 Fbbarring), (bkeys, aI g 3000 Fbkeys), (bland, .inr (2, [.ref dmen, .ref dformulas, .ref dreasons, .int dduels, .ref dduelSides, .ref dduelMornings, .int dhonour, .int ddraw, .ref dusesOfKind])), (dreasons, .inr (6, [.int dreasons_count, .ref dreasons_names, .ref dreasons_kinds, .ref dreasons_owners, .ref dreasons_froms, .ref dreasons_tos, .ref dreasons_rents, .ref dreasons_sorts])), (dreasons_froms, aI g 8 Fdreasons_froms), (dreasons_tos, aI g 8 Fdreasons_tos)] nX)) (va_Qi (fun (r : Int32) => fun (_ : Unit) => 0 ≤ r.toInt ∧ r.toInt ≤ 1) (Qst g [] sz (fun _ => [])) (va_A [] sz)) 0 0 (va_A [] sz) := by
  refine Met.ofW (cc := cX7_allows) (maxL := 5) (ret := (some .boolean)) (by decide) rfl ?_
  intro p e s m args below meth c s₁ B hml hv
  obtain ⟨rfl, hsz, hP, hK, hD0, hX⟩ := hv
  have hx := B.exec
  have hb := B.bytes
  have hr := B.returns
  have hT : ∀ w ∈ gT, w.before _ s = true := fun w h => atoms_spec (ws := .code yX7_allows cX7_allows 5 (some .boolean) :: gT) B.pre w (List.mem_cons_of_mem _ h)
  have hown : s.vm.findClass RX7 = some m.cls := findClass_of_methodNamed B.named
  have hlocks := B.notSynchronized
  subst hsz
  have hD := hD0
  generalize hAe : va_A [] s.heap.size = A at ⊢
  have hA : ∀ q : Nat, s.heap.size ≤ q → A q := fun q h => by rw [← hAe]; exact Or.inr h
  have hS : va_S A s.heap s.heap [] := va_S.rf
  have hl := lv_entry ([.ref h, .int p0, .int p1]) (n := 5) (Nat.le_of_ble_eq_true rfl)
  rw [lg_entry_eq]
  generalize (lg_sl ([.ref h, .int p0, .int p1]) ++ List.replicate (5 - (lg_sl ([.ref h, .int p0, .int p1])).length) Slot.unset).toArray = ls at hl ⊢
  have hl : lv_has ls 5 [(0, .ref h), (1, .int p0), (2, .int p1)] := hl
  refine p_nH (fun H hH => ?_)
  have hP : va_P g.1 vwCl [(h, .inr (7, [.ref bland, .int bdeathDay, .ref bfreeFrom, .ref bbarring, .ref bkeys, .ref bways, .int bcount, .ref bwins, .ref bslots, .int bround, .ref bworths, .ref bpath])), (bfreeFrom, aI g 16 FbfreeFrom), (bbarring, aI g 16 Fbbarring), (bkeys, aI g 3000 Fbkeys), (bland, .inr (2, [.ref dmen, .ref dformulas, .ref dreasons, .int dduels, .ref dduelSides, .ref dduelMornings, .int dhonour, .int ddraw, .ref dusesOfKind])), (dreasons, .inr (6, [.int dreasons_count, .ref dreasons_names, .ref dreasons_kinds, .ref dreasons_owners, .ref dreasons_froms, .ref dreasons_tos, .ref dreasons_rents, .ref dreasons_sorts])), (dreasons_froms, aI g 8 Fdreasons_froms), (dreasons_tos, aI g 8 Fdreasons_tos)] H := by rw [hH]; exact hP
  have hS : va_S A s.heap H [] := by rw [hH]; exact hS
  refine lv_aload_n hx hb dX7_allows_0 rfl (lv_at hl 0 rfl) ?_
  refine lv_iload_n hx hb dX7_allows_1 rfl (lv_at hl 1 rfl) ?_
  refine k_iR (k_V (n := 1) ⟨hx, hb, hml, hown, hT⟩ hK hP hD [0, 3] rfl (by decide +kernel) (s_X7_morningOf l g H.size h bland bdeathDay bfreeFrom bbarring bkeys Fbkeys bways bcount bwins bslots bround bworths bpath p0 (by first | with_reducible assumption | omega) (by first | with_reducible assumption | omega) (by first | with_reducible assumption | omega)) (gV bw_423 bw_424 bw_425 bw_426 bw_419) rfl rfl (by decide +kernel) ⟨by decide, by decide⟩ (ci := 7) (q0 := 0) rfl rfl (fun _ _ _ _ _ => trivial) (fun _ _ _ => trivial) rfl rfl hl.1 (Nat.le_of_ble_eq_true rfl) dX7_allows_2 ⟨by decide, by decide⟩) hP hS hA (fun r_1 _ H locs hw0 hP hS => ?_)
  have hw : 0 ≤ r_1.toInt ∧ r_1.toInt ≤ 16383 := hw0
  clear hw0
  have w_2 := hw
  refine lv_istore_n (lv' := [(3, .int r_1), (0, .ref h), (1, .int p0), (2, .int p1)]) hx hb dX7_allows_5 rfl hl (by decide) rfl (fun ls hl => ?_)
  refine lv_iload_n hx hb dX7_allows_6 rfl (lv_at hl 3 rfl) ?_
  refine lv_bipush (v := 8) hx hb dX7_allows_7 (by decide) ?_
  refine lv_irem hx hb dX7_allows_9 (by decide) ?_
  refine lv_topi (fun x_3 ex_3 => ?_)
  have fx_3 : x_3.toInt = p1.toInt % 8 := by rw [ex_3]; exact I_rem rfl (by decide : (8 : Int32).toInt = 8) (by omega) (by decide)
  refine lv_istore (lv' := [(4, .int x_3), (3, .int r_1), (0, .ref h), (1, .int p0), (2, .int p1)]) hx hb dX7_allows_10 hl (by decide) rfl (fun ls hl => ?_)
  refine lv_aload_n hx hb dX7_allows_12 rfl (lv_at hl 2 rfl) ?_
  refine va_get (D := g.1) (ci := 7) (v := .ref bfreeFrom) (C := RX7) (T := TX7) (N := 12) hx hb hT inF_X7 hown hK.1 hP 0 rfl rfl 2 (by decide) (hT _ bw_427) (fun _ h9 => h9) rfl dX7_allows_13 ?_
  refine lv_iload_n hx hb dX7_allows_16 rfl (lv_at hl 4 rfl) ?_
  have h_4 : vp_in p1 16 := vp_in_iff.mpr (by omega)
  refine va_iald hx hb hK.1 hP 1 1 rfl rfl (i := p1) h_4 dX7_allows_17 ?_
  refine lv_topi (fun x_5 ex_5 => ?_)
  have ux_5 := congrArg Int32.toInt ex_5
  refine lv_iload_n hx hb dX7_allows_18 rfl (lv_at hl 1 rfl) ?_
  refine lv_icmp_gt (tgt := 57) hx hb dX7_allows_19 (by decide) (fun c_6 => ?_) (fun c_6 => ?_)
  · have f_7 := E_lt (rfl : r_1.toInt = _) (rfl : x_5.toInt = _) c_6
    refine lv_iconst (v := 0) hx hb dX7_allows_57 (by decide) ?_
    have hP9 : va_P g.1 vwCl [] H := hP.sub [] rfl
    have hD9 : va_D A [] := ⟨fun i j p q h => by simp at h, fun k q h => by simp at h⟩
    exact W.zret (v := 0) (ty := .boolean) hx hb hr rfl (fun t ht hW => ⟨⟨0, (), rfl, ⟨by decide, by decide⟩, by rw [ht]; exact hP9, by rw [hAe]; exact hD9⟩, hS.F ht⟩) hS.2.2 dX7_allows_58
  · have f_8 := E_nlt (rfl : r_1.toInt = _) (rfl : x_5.toInt = _) c_6
    refine lv_aload_n hx hb dX7_allows_22 rfl (lv_at hl 2 rfl) ?_
    refine va_get (D := g.1) (ci := 7) (v := .ref bland) (C := RX7) (T := TX7) (N := 12) hx hb hT inF_X7 hown hK.1 hP 0 rfl rfl 0 (by decide) (hT _ bw_428) (fun _ h9 => h9) rfl dX7_allows_23 ?_
    refine va_get (D := g.1) (ci := 2) (v := .ref dreasons) (C := RX2) (T := TX2) (N := 9) hx hb hT inF_X2 hown hK.1 hP 4 rfl rfl 2 (by decide) (hT _ bw_429) (fun _ h9 => h9) rfl dX7_allows_26 ?_
    refine lv_iload hx hb dX7_allows_29 (lv_at hl 0 rfl) ?_
    refine lv_iload_n hx hb dX7_allows_31 rfl (lv_at hl 1 rfl) ?_
    refine k_iR (k_V (n := 2) ⟨hx, hb, hml, hown, hT⟩ hK hP hD [5, 6, 7] rfl (by decide +kernel) (s_X6_isInTime l g H.size dreasons dreasons_count dreasons_names dreasons_kinds dreasons_owners dreasons_froms Fdreasons_froms dreasons_tos Fdreasons_tos dreasons_rents dreasons_sorts x_3 r_1 (by first | with_reducible assumption | omega) (by first | with_reducible assumption | omega)) (gV bw_430 bw_183 bw_184 bw_185 bw_10) rfl rfl (by decide +kernel) ⟨by decide, by decide⟩ (ci := 6) (q0 := 0) rfl rfl (fun _ _ _ _ _ => trivial) (fun _ _ _ => trivial) rfl rfl hl.1 (Nat.le_of_ble_eq_true rfl) dX7_allows_32 ⟨by decide, by decide⟩) hP hS hA (fun r_9 _ H locs hw0 hP hS => ?_)
    have hw : 0 ≤ r_9.toInt ∧ r_9.toInt ≤ 1 := hw0
    clear hw0
    have w_10 := hw
    refine lv_if_eq (tgt := 57) hx hb dX7_allows_35 (by decide) (fun c_11 => ?_) (fun c_11 => ?_)
    · have f_12 := E_eq (rfl : r_9.toInt = _) (by decide : (0 : Int32).toInt = 0) c_11
      refine lv_iconst (v := 0) hx hb dX7_allows_57 (by decide) ?_
      have hP9 : va_P g.1 vwCl [] H := hP.sub [] rfl
      have hD9 : va_D A [] := ⟨fun i j p q h => by simp at h, fun k q h => by simp at h⟩
      exact W.zret (v := 0) (ty := .boolean) hx hb hr rfl (fun t ht hW => ⟨⟨0, (), rfl, ⟨by decide, by decide⟩, by rw [ht]; exact hP9, by rw [hAe]; exact hD9⟩, hS.F ht⟩) hS.2.2 dX7_allows_58
    · have f_13 := E_ne (rfl : r_9.toInt = _) (by decide : (0 : Int32).toInt = 0) c_11
      refine lv_aload_n hx hb dX7_allows_38 rfl (lv_at hl 2 rfl) ?_
      refine lv_iload_n hx hb dX7_allows_39 rfl (lv_at hl 3 rfl) ?_
      refine k_iR (k_V (n := 1) ⟨hx, hb, hml, hown, hT⟩ hK hP hD [0, 3] rfl (by decide +kernel) (s_X7_usedOf l g H.size h bland bdeathDay bfreeFrom bbarring bkeys Fbkeys bways bcount bwins bslots bround bworths bpath p0 (by first | with_reducible assumption | omega) (by first | with_reducible assumption | omega) (by first | with_reducible assumption | omega)) (gV bw_431 bw_432 bw_433 bw_426 bw_418) rfl rfl (by decide +kernel) ⟨by decide, by decide⟩ (ci := 7) (q0 := 0) rfl rfl (fun _ _ _ _ _ => trivial) (fun _ _ _ => trivial) rfl rfl hl.1 (Nat.le_of_ble_eq_true rfl) dX7_allows_40 ⟨by decide, by decide⟩) hP hS hA (fun r_14 _ H locs hw0 hP hS => ?_)
      refine lv_aload_n hx hb dX7_allows_43 rfl (lv_at hl 2 rfl) ?_
      refine va_get (D := g.1) (ci := 7) (v := .ref bbarring) (C := RX7) (T := TX7) (N := 12) hx hb hT inF_X7 hown hK.1 hP 0 rfl rfl 3 (by decide) (hT _ bw_434) (fun _ h9 => h9) rfl dX7_allows_44 ?_
      refine lv_iload_n hx hb dX7_allows_47 rfl (lv_at hl 4 rfl) ?_
      have h_15 : vp_in p1 16 := vp_in_iff.mpr (by omega)
      refine va_iald hx hb hK.1 hP 2 1 rfl rfl (i := p1) h_15 dX7_allows_48 ?_
      refine lv_topi (fun x_16 ex_16 => ?_)
      have ux_16 := congrArg Int32.toInt ex_16
      refine lv_iand hx hb dX7_allows_49 ?_
      refine lv_topi (fun x_17 ex_17 => ?_)
      refine lv_if_ne (tgt := 57) hx hb dX7_allows_50 (by decide) (fun c_18 => ?_) (fun c_18 => ?_)
      · have f_19 := E_ne (rfl : x_17.toInt = _) (by decide : (0 : Int32).toInt = 0) c_18
        refine lv_iconst (v := 0) hx hb dX7_allows_57 (by decide) ?_
        have hP9 : va_P g.1 vwCl [] H := hP.sub [] rfl
        have hD9 : va_D A [] := ⟨fun i j p q h => by simp at h, fun k q h => by simp at h⟩
        exact W.zret (v := 0) (ty := .boolean) hx hb hr rfl (fun t ht hW => ⟨⟨0, (), rfl, ⟨by decide, by decide⟩, by rw [ht]; exact hP9, by rw [hAe]; exact hD9⟩, hS.F ht⟩) hS.2.2 dX7_allows_58
      · have f_20 := E_eq (rfl : x_17.toInt = _) (by decide : (0 : Int32).toInt = 0) c_18
        refine lv_iconst (v := 1) hx hb dX7_allows_53 (by decide) ?_
        refine lv_goto (tgt := 58) hx hb dX7_allows_54 (by decide) ?_
        have hP9 : va_P g.1 vwCl [] H := hP.sub [] rfl
        have hD9 : va_D A [] := ⟨fun i j p q h => by simp at h, fun k q h => by simp at h⟩
        exact W.zret (v := 1) (ty := .boolean) hx hb hr rfl (fun t ht hW => ⟨⟨1, (), rfl, ⟨by decide, by decide⟩, by rw [ht]; exact hP9, by rw [hAe]; exact hD9⟩, hS.F ht⟩) hS.2.2 dX7_allows_58

theorem bw_436 : Cond.fieldLink RX7 165 "DuelDelays$Reasons" "kinds" "[I" ∈ gT := gT_tb 246 (by decide +kernel) (by decide +kernel)
theorem bw_437 : Cond.fieldLink RX7 31 "DuelDelays$Search" "worths" "[I" ∈ gT := gT_tb 352 (by decide +kernel) (by decide +kernel)
theorem bw_438 : Cond.methodLink RX7 72 Lib.Math.min.name ∈ gT := gT_tb 1066 (by decide +kernel) (by decide +kernel)
theorem bw_439 : Cond.methodLink RX7 168 yX2_worthOf ∈ gT := gT_tb 1120 (by decide +kernel) (by decide +kernel)
theorem bw_440 : Cond.code yX7_keyBehind cX7_keyBehind 5 (some .int) ∈ gT := gT_tb 1119 (by decide +kernel) (by decide +kernel)
theorem dX7_keyBehind_0 : decode cX7_keyBehind 0 = .ok (.aload_n 0, 1) := by decide +kernel
theorem dX7_keyBehind_1 : decode cX7_keyBehind 1 = .ok (.getfield 57, 3) := by decide +kernel
theorem dX7_keyBehind_4 : decode cX7_keyBehind 4 = .ok (.getfield 81, 3) := by decide +kernel
theorem dX7_keyBehind_7 : decode cX7_keyBehind 7 = .ok (.getfield 165, 3) := by decide +kernel
theorem dX7_keyBehind_10 : decode cX7_keyBehind 10 = .ok (.iload_n 2, 1) := by decide +kernel
theorem dX7_keyBehind_11 : decode cX7_keyBehind 11 = .ok (.bipush 8, 2) := by decide +kernel
theorem dX7_keyBehind_13 : decode cX7_keyBehind 13 = .ok (.irem, 1) := by decide +kernel
theorem dX7_keyBehind_14 : decode cX7_keyBehind 14 = .ok (.iaload, 1) := by decide +kernel
theorem dX7_keyBehind_15 : decode cX7_keyBehind 15 = .ok (.istore_n 3, 1) := by decide +kernel
theorem dX7_keyBehind_16 : decode cX7_keyBehind 16 = .ok (.aload_n 0, 1) := by decide +kernel
theorem dX7_keyBehind_17 : decode cX7_keyBehind 17 = .ok (.getfield 31, 3) := by decide +kernel
theorem dX7_keyBehind_20 : decode cX7_keyBehind 20 = .ok (.iload_n 3, 1) := by decide +kernel
theorem dX7_keyBehind_21 : decode cX7_keyBehind 21 = .ok (.iaload, 1) := by decide +kernel
theorem dX7_keyBehind_22 : decode cX7_keyBehind 22 = .ok (.ifCond .ne 27, 3) := by decide +kernel
theorem dX7_keyBehind_25 : decode cX7_keyBehind 25 = .ok (.aload_n 0, 1) := by decide +kernel
theorem dX7_keyBehind_26 : decode cX7_keyBehind 26 = .ok (.getfield 31, 3) := by decide +kernel
theorem dX7_keyBehind_29 : decode cX7_keyBehind 29 = .ok (.iload_n 3, 1) := by decide +kernel
theorem dX7_keyBehind_30 : decode cX7_keyBehind 30 = .ok (.aload_n 0, 1) := by decide +kernel
theorem dX7_keyBehind_31 : decode cX7_keyBehind 31 = .ok (.getfield 57, 3) := by decide +kernel
theorem dX7_keyBehind_34 : decode cX7_keyBehind 34 = .ok (.iload_n 3, 1) := by decide +kernel
theorem dX7_keyBehind_35 : decode cX7_keyBehind 35 = .ok (.aload_n 0, 1) := by decide +kernel
theorem dX7_keyBehind_36 : decode cX7_keyBehind 36 = .ok (.iload_n 1, 1) := by decide +kernel
theorem dX7_keyBehind_37 : decode cX7_keyBehind 37 = .ok (.invokevirtual 137, 3) := by decide +kernel
theorem dX7_keyBehind_40 : decode cX7_keyBehind 40 = .ok (.aload_n 0, 1) := by decide +kernel
theorem dX7_keyBehind_41 : decode cX7_keyBehind 41 = .ok (.iload_n 1, 1) := by decide +kernel
theorem dX7_keyBehind_42 : decode cX7_keyBehind 42 = .ok (.invokevirtual 123, 3) := by decide +kernel
theorem dX7_keyBehind_45 : decode cX7_keyBehind 45 = .ok (.invokevirtual 168, 3) := by decide +kernel
theorem dX7_keyBehind_48 : decode cX7_keyBehind 48 = .ok (.iastore, 1) := by decide +kernel
theorem dX7_keyBehind_49 : decode cX7_keyBehind 49 = .ok (.aload_n 0, 1) := by decide +kernel
theorem dX7_keyBehind_50 : decode cX7_keyBehind 50 = .ok (.iload_n 1, 1) := by decide +kernel
theorem dX7_keyBehind_51 : decode cX7_keyBehind 51 = .ok (.invokevirtual 137, 3) := by decide +kernel
theorem dX7_keyBehind_54 : decode cX7_keyBehind 54 = .ok (.iconst 1, 1) := by decide +kernel
theorem dX7_keyBehind_55 : decode cX7_keyBehind 55 = .ok (.iload_n 2, 1) := by decide +kernel
theorem dX7_keyBehind_56 : decode cX7_keyBehind 56 = .ok (.ishl, 1) := by decide +kernel
theorem dX7_keyBehind_57 : decode cX7_keyBehind 57 = .ok (.ior, 1) := by decide +kernel
theorem dX7_keyBehind_58 : decode cX7_keyBehind 58 = .ok (.istore 4, 2) := by decide +kernel
theorem dX7_keyBehind_60 : decode cX7_keyBehind 60 = .ok (.iload 4, 2) := by decide +kernel
theorem dX7_keyBehind_62 : decode cX7_keyBehind 62 = .ok (.bipush 14, 2) := by decide +kernel
theorem dX7_keyBehind_64 : decode cX7_keyBehind 64 = .ok (.ishl, 1) := by decide +kernel
theorem dX7_keyBehind_65 : decode cX7_keyBehind 65 = .ok (.sipush 9999, 3) := by decide +kernel
theorem dX7_keyBehind_68 : decode cX7_keyBehind 68 = .ok (.aload_n 0, 1) := by decide +kernel
theorem dX7_keyBehind_69 : decode cX7_keyBehind 69 = .ok (.iload_n 1, 1) := by decide +kernel
theorem dX7_keyBehind_70 : decode cX7_keyBehind 70 = .ok (.invokevirtual 123, 3) := by decide +kernel
theorem dX7_keyBehind_73 : decode cX7_keyBehind 73 = .ok (.aload_n 0, 1) := by decide +kernel
theorem dX7_keyBehind_74 : decode cX7_keyBehind 74 = .ok (.getfield 31, 3) := by decide +kernel
theorem dX7_keyBehind_77 : decode cX7_keyBehind 77 = .ok (.iload_n 3, 1) := by decide +kernel
theorem dX7_keyBehind_78 : decode cX7_keyBehind 78 = .ok (.iaload, 1) := by decide +kernel
theorem dX7_keyBehind_79 : decode cX7_keyBehind 79 = .ok (.iadd, 1) := by decide +kernel
theorem dX7_keyBehind_80 : decode cX7_keyBehind 80 = .ok (.invokestatic 72, 3) := by decide +kernel
theorem dX7_keyBehind_83 : decode cX7_keyBehind 83 = .ok (.ior, 1) := by decide +kernel
theorem dX7_keyBehind_84 : decode cX7_keyBehind 84 = .ok (.ireturn, 1) := by decide +kernel
set_option maxHeartbeats 4000000 in
set_option maxRecDepth 100000 in
theorem s_X7_keyBehind (l : Launch) (g : GG) (sz : Nat) (h : Nat) (bland : Nat) (bdeathDay : Int32) (bfreeFrom : Nat) (bbarring : Nat) (bkeys : Nat) (Fbkeys : Nat → Int32) (bways : Nat) (bcount : Int32) (bwins : Nat) (bslots : Nat) (bround : Int32) (bworths : Nat) (Fbworths : Nat → Int32) (bpath : Nat) (dduels : Int32) (dduelSides : Nat) (dduelMornings : Nat) (dhonour : Int32) (ddraw : Int32) (dusesOfKind : Nat) (FdusesOfKind : Nat → Int32) (dmen : Nat) (dformulas : Nat) (dformulas_count : Int32) (dformulas_units : Int32) (dformulas_names : Nat) (dformulas_unitsOfThis : Int32) (dformulas_length : Int32) (dformulas_starts : Nat) (Fdformulas_starts : Nat → Int32) (dformulas_steps : Nat) (Fdformulas_steps : Nat → Int32) (dformulas_stack : Nat) (Fdformulas_stack : Nat → Int32) (dreasons : Nat) (dreasons_count : Int32) (dreasons_names : Nat) (dreasons_kinds : Nat) (Fdreasons_kinds : Nat → Int32) (dreasons_owners : Nat) (dreasons_froms : Nat) (dreasons_tos : Nat) (dreasons_rents : Nat) (dreasons_sorts : Nat) (p0 : Int32) (p1 : Int32) (hh1 : 0 ≤ bcount.toInt ∧ bcount.toInt ≤ 3000) (hh2 : 0 ≤ bround.toInt ∧ bround.toInt ≤ 1048575) (hh3 : 0 ≤ dduels.toInt ∧ dduels.toInt ≤ 6) (hh5 : 0 ≤ ddraw.toInt ∧ ddraw.toInt ≤ 999) (hh7 : 0 ≤ dformulas_count.toInt ∧ dformulas_count.toInt ≤ 4) (hh8 : 0 ≤ dformulas_units.toInt ∧ dformulas_units.toInt ≤ 60) (hh9 : 0 ≤ dformulas_unitsOfThis.toInt ∧ dformulas_unitsOfThis.toInt ≤ 30) (hh10 : 0 ≤ dformulas_length.toInt ∧ dformulas_length.toInt ≤ 640) (hh11 : Rg 5 0 640 Fdformulas_starts) (hh12 : 0 ≤ dreasons_count.toInt ∧ dreasons_count.toInt ≤ 8) (hh13 : Rg 8 0 3 Fdreasons_kinds) (hh15 : 0 ≤ p0.toInt ∧ p0.toInt ≤ 2999) (hh16 : 0 ≤ p1.toInt ∧ p1.toInt ≤ 15) : Met l yX7_keyBehind (.code yX7_keyBehind cX7_keyBehind 5 (some .int) :: gT) ({ frames := 3, cells := 0, slots := 0, locals := 85 }) (va_Pc [.ref h, .int p0, .int p1] (Pst g sz [(h, .inr (7, [.ref bland, .int bdeathDay, .ref bfreeFrom, .ref bbarring, .ref bkeys, .ref bways, .int bcount, .ref bwins, .ref bslots, .int bround, .ref bworths, .ref bpath])), (bkeys, aI g 3000 Fbkeys), (bworths, aI g 4 Fbworths), (bland, .inr (2, [.ref dmen, .ref dformulas, .ref dreasons, .int dduels, .ref dduelSides, .ref dduelMornings, .int dhonour, .int ddraw, .ref dusesOfKind])), (dusesOfKind, aI g 4 FdusesOfKind), (dformulas, .inr (0, [.int dformulas_count, .int dformulas_units, .ref dformulas_names, .int dformulas_unitsOfThis, .int dformulas_length, .ref dformulas_starts, .ref dformulas_steps, .ref dformulas_stack])), (dformulas_starts, aI g 5 Fdformulas_starts), (dformulas_steps, aI g 640 Fdformulas_steps), (dformulas_stack, aI g 32 Fdformulas_stack), (dreasons, .inr (6, [.int dreasons_count, .ref dreasons_names, .ref dreasons_kinds, .ref dreasons_owners, .ref dreasons_froms, .ref dreasons_tos, .ref dreasons_rents, .ref dreasons_sorts])), (dreasons_kinds, aI g 8 Fdreasons_kinds)] nX)) (va_Qi (fun (r : Int32) => fun ((o0_F, o1_F) : (Nat → Int32) × (Nat → Int32)) => True) (Qst g [(h, .inr (7, [.ref bland, .int bdeathDay, .ref bfreeFrom, .ref bbarring, .ref bkeys, .ref bways, .int bcount, .ref bwins, .ref bslots, .int bround, .ref bworths, .ref bpath])), (bkeys, aI g 3000 Fbkeys), (bworths, aI g 4 Fbworths), (bland, .inr (2, [.ref dmen, .ref dformulas, .ref dreasons, .int dduels, .ref dduelSides, .ref dduelMornings, .int dhonour, .int ddraw, .ref dusesOfKind])), (dusesOfKind, aI g 4 FdusesOfKind), (dformulas, .inr (0, [.int dformulas_count, .int dformulas_units, .ref dformulas_names, .int dformulas_unitsOfThis, .int dformulas_length, .ref dformulas_starts, .ref dformulas_steps, .ref dformulas_stack])), (dformulas_starts, aI g 5 Fdformulas_starts), (dformulas_steps, aI g 640 Fdformulas_steps), (dformulas_stack, aI g 32 Fdformulas_stack), (dreasons, .inr (6, [.int dreasons_count, .ref dreasons_names, .ref dreasons_kinds, .ref dreasons_owners, .ref dreasons_froms, .ref dreasons_tos, .ref dreasons_rents, .ref dreasons_sorts])), (dreasons_kinds, aI g 8 Fdreasons_kinds)] sz (fun ((o0_F, o1_F) : (Nat → Int32) × (Nat → Int32)) => [(h, .inr (7, [.ref bland, .int bdeathDay, .ref bfreeFrom, .ref bbarring, .ref bkeys, .ref bways, .int bcount, .ref bwins, .ref bslots, .int bround, .ref bworths, .ref bpath])), (bkeys, aI g 3000 Fbkeys), (bworths, aI g 4 o0_F), (bland, .inr (2, [.ref dmen, .ref dformulas, .ref dreasons, .int dduels, .ref dduelSides, .ref dduelMornings, .int dhonour, .int ddraw, .ref dusesOfKind])), (dusesOfKind, aI g 4 FdusesOfKind), (dformulas, .inr (0, [.int dformulas_count, .int dformulas_units, .ref dformulas_names, .int dformulas_unitsOfThis, .int dformulas_length, .ref dformulas_starts, .ref dformulas_steps, .ref dformulas_stack])), (dformulas_starts, aI g 5 Fdformulas_starts), (dformulas_steps, aI g 640 Fdformulas_steps), (dformulas_stack, aI g 32 o1_F), (dreasons, .inr (6, [.int dreasons_count, .ref dreasons_names, .ref dreasons_kinds, .ref dreasons_owners, .ref dreasons_froms, .ref dreasons_tos, .ref dreasons_rents, .ref dreasons_sorts])), (dreasons_kinds, aI g 8 Fdreasons_kinds)])) (va_A [(h, .inr (7, [.ref bland, .int bdeathDay, .ref bfreeFrom, .ref bbarring, .ref bkeys, .ref bways, .int bcount, .ref bwins, .ref bslots, .int bround, .ref bworths, .ref bpath])), (bkeys, aI g 3000 Fbkeys), (bworths, aI g 4 Fbworths), (bland, .inr (2, [.ref dmen, .ref dformulas, .ref dreasons, .int dduels, .ref dduelSides, .ref dduelMornings, .int dhonour, .int ddraw, .ref dusesOfKind])), (dusesOfKind, aI g 4 FdusesOfKind), (dformulas, .inr (0, [.int dformulas_count, .int dformulas_units, .ref dformulas_names, .int dformulas_unitsOfThis, .int dformulas_length, .ref dformulas_starts, .ref dformulas_steps, .ref dformulas_stack])), (dformulas_starts, aI g 5 Fdformulas_starts), (dformulas_steps, aI g 640 Fdformulas_steps), (dformulas_stack, aI g 32 Fdformulas_stack), (dreasons, .inr (6, [.int dreasons_count, .ref dreasons_names, .ref dreasons_kinds, .ref dreasons_owners, .ref dreasons_froms, .ref dreasons_tos, .ref dreasons_rents, .ref dreasons_sorts])), (dreasons_kinds, aI g 8 Fdreasons_kinds)] sz)) 0 0 (va_A [(h, .inr (7, [.ref bland, .int bdeathDay, .ref bfreeFrom, .ref bbarring, .ref bkeys, .ref bways, .int bcount, .ref bwins, .ref bslots, .int bround, .ref bworths, .ref bpath])), (bkeys, aI g 3000 Fbkeys), (bworths, aI g 4 Fbworths), (bland, .inr (2, [.ref dmen, .ref dformulas, .ref dreasons, .int dduels, .ref dduelSides, .ref dduelMornings, .int dhonour, .int ddraw, .ref dusesOfKind])), (dusesOfKind, aI g 4 FdusesOfKind), (dformulas, .inr (0, [.int dformulas_count, .int dformulas_units, .ref dformulas_names, .int dformulas_unitsOfThis, .int dformulas_length, .ref dformulas_starts, .ref dformulas_steps, .ref dformulas_stack])), (dformulas_starts, aI g 5 Fdformulas_starts), (dformulas_steps, aI g 640 Fdformulas_steps), (dformulas_stack, aI g 32 Fdformulas_stack), (dreasons, .inr (6, [.int dreasons_count, .ref dreasons_names, .ref dreasons_kinds, .ref dreasons_owners, .ref dreasons_froms, .ref dreasons_tos, .ref dreasons_rents, .ref dreasons_sorts])), (dreasons_kinds, aI g 8 Fdreasons_kinds)] sz) := by
  refine Met.ofW (cc := cX7_keyBehind) (maxL := 5) (ret := (some .int)) (by decide) rfl ?_
  intro p e s m args below meth c s₁ B hml hv
  obtain ⟨rfl, hsz, hP, hK, hD0, hX⟩ := hv
  have hx := B.exec
  have hb := B.bytes
  have hr := B.returns
  have hT : ∀ w ∈ gT, w.before _ s = true := fun w h => atoms_spec (ws := .code yX7_keyBehind cX7_keyBehind 5 (some .int) :: gT) B.pre w (List.mem_cons_of_mem _ h)
  have hown : s.vm.findClass RX7 = some m.cls := findClass_of_methodNamed B.named
  have hlocks := B.notSynchronized
  subst hsz
  have hD := hD0.self (sz := s.heap.size)
  generalize hAe : va_A [(h, .inr (7, [.ref bland, .int bdeathDay, .ref bfreeFrom, .ref bbarring, .ref bkeys, .ref bways, .int bcount, .ref bwins, .ref bslots, .int bround, .ref bworths, .ref bpath])), (bkeys, aI g 3000 Fbkeys), (bworths, aI g 4 Fbworths), (bland, .inr (2, [.ref dmen, .ref dformulas, .ref dreasons, .int dduels, .ref dduelSides, .ref dduelMornings, .int dhonour, .int ddraw, .ref dusesOfKind])), (dusesOfKind, aI g 4 FdusesOfKind), (dformulas, .inr (0, [.int dformulas_count, .int dformulas_units, .ref dformulas_names, .int dformulas_unitsOfThis, .int dformulas_length, .ref dformulas_starts, .ref dformulas_steps, .ref dformulas_stack])), (dformulas_starts, aI g 5 Fdformulas_starts), (dformulas_steps, aI g 640 Fdformulas_steps), (dformulas_stack, aI g 32 Fdformulas_stack), (dreasons, .inr (6, [.int dreasons_count, .ref dreasons_names, .ref dreasons_kinds, .ref dreasons_owners, .ref dreasons_froms, .ref dreasons_tos, .ref dreasons_rents, .ref dreasons_sorts])), (dreasons_kinds, aI g 8 Fdreasons_kinds)] s.heap.size = A at hD ⊢
  have hA : ∀ q : Nat, s.heap.size ≤ q → A q := fun q h => by rw [← hAe]; exact Or.inr h
  have hS : va_S A s.heap s.heap [] := va_S.rf
  have hl := lv_entry ([.ref h, .int p0, .int p1]) (n := 5) (Nat.le_of_ble_eq_true rfl)
  rw [lg_entry_eq]
  generalize (lg_sl ([.ref h, .int p0, .int p1]) ++ List.replicate (5 - (lg_sl ([.ref h, .int p0, .int p1])).length) Slot.unset).toArray = ls at hl ⊢
  have hl : lv_has ls 5 [(0, .ref h), (1, .int p0), (2, .int p1)] := hl
  refine p_nH (fun H hH => ?_)
  have hP : va_P g.1 vwCl [(h, .inr (7, [.ref bland, .int bdeathDay, .ref bfreeFrom, .ref bbarring, .ref bkeys, .ref bways, .int bcount, .ref bwins, .ref bslots, .int bround, .ref bworths, .ref bpath])), (bkeys, aI g 3000 Fbkeys), (bworths, aI g 4 Fbworths), (bland, .inr (2, [.ref dmen, .ref dformulas, .ref dreasons, .int dduels, .ref dduelSides, .ref dduelMornings, .int dhonour, .int ddraw, .ref dusesOfKind])), (dusesOfKind, aI g 4 FdusesOfKind), (dformulas, .inr (0, [.int dformulas_count, .int dformulas_units, .ref dformulas_names, .int dformulas_unitsOfThis, .int dformulas_length, .ref dformulas_starts, .ref dformulas_steps, .ref dformulas_stack])), (dformulas_starts, aI g 5 Fdformulas_starts), (dformulas_steps, aI g 640 Fdformulas_steps), (dformulas_stack, aI g 32 Fdformulas_stack), (dreasons, .inr (6, [.int dreasons_count, .ref dreasons_names, .ref dreasons_kinds, .ref dreasons_owners, .ref dreasons_froms, .ref dreasons_tos, .ref dreasons_rents, .ref dreasons_sorts])), (dreasons_kinds, aI g 8 Fdreasons_kinds)] H := by rw [hH]; exact hP
  have hS : va_S A s.heap H [] := by rw [hH]; exact hS
  refine lv_aload_n hx hb dX7_keyBehind_0 rfl (lv_at hl 0 rfl) ?_
  refine va_get (D := g.1) (ci := 7) (v := .ref bland) (C := RX7) (T := TX7) (N := 12) hx hb hT inF_X7 hown hK.1 hP 0 rfl rfl 0 (by decide) (hT _ bw_428) (fun _ h9 => h9) rfl dX7_keyBehind_1 ?_
  refine va_get (D := g.1) (ci := 2) (v := .ref dreasons) (C := RX2) (T := TX2) (N := 9) hx hb hT inF_X2 hown hK.1 hP 3 rfl rfl 2 (by decide) (hT _ bw_429) (fun _ h9 => h9) rfl dX7_keyBehind_4 ?_
  refine va_get (D := g.1) (ci := 6) (v := .ref dreasons_kinds) (C := RX6) (T := TX6) (N := 8) hx hb hT inF_X6 hown hK.1 hP 9 rfl rfl 2 (by decide) (hT _ bw_436) (fun _ h9 => h9) rfl dX7_keyBehind_7 ?_
  refine lv_iload_n hx hb dX7_keyBehind_10 rfl (lv_at hl 2 rfl) ?_
  refine lv_bipush (v := 8) hx hb dX7_keyBehind_11 (by decide) ?_
  refine lv_irem hx hb dX7_keyBehind_13 (by decide) ?_
  refine lv_topi (fun x_1 ex_1 => ?_)
  have fx_1 : x_1.toInt = p1.toInt % 8 := by rw [ex_1]; exact I_rem rfl (by decide : (8 : Int32).toInt = 8) (by omega) (by decide)
  have h_2 : vp_in x_1 8 := vp_in_iff.mpr (by omega)
  refine va_iald hx hb hK.1 hP 10 1 rfl rfl (i := x_1) h_2 dX7_keyBehind_14 ?_
  refine lv_topi (fun x_3 ex_3 => ?_)
  have fx_3 : 0 ≤ x_3.toInt ∧ x_3.toInt ≤ 3 := Rg.rd hh13 h_2 ex_3
  have ux_3 := congrArg Int32.toInt ex_3
  refine lv_istore_n (lv' := [(3, .int x_3), (0, .ref h), (1, .int p0), (2, .int p1)]) hx hb dX7_keyBehind_15 rfl hl (by decide) rfl (fun ls hl => ?_)
  refine lv_aload_n hx hb dX7_keyBehind_16 rfl (lv_at hl 1 rfl) ?_
  refine va_get (D := g.1) (ci := 7) (v := .ref bworths) (C := RX7) (T := TX7) (N := 12) hx hb hT inF_X7 hown hK.1 hP 0 rfl rfl 10 (by decide) (hT _ bw_437) (fun _ h9 => h9) rfl dX7_keyBehind_17 ?_
  refine lv_iload_n hx hb dX7_keyBehind_20 rfl (lv_at hl 0 rfl) ?_
  have h_4 : vp_in x_3 4 := vp_in_iff.mpr (by omega)
  refine va_iald hx hb hK.1 hP 2 1 rfl rfl (i := x_3) h_4 dX7_keyBehind_21 ?_
  refine lv_topi (fun x_5 ex_5 => ?_)
  have ux_5 := congrArg Int32.toInt ex_5
  refine lv_if_ne (tgt := 49) hx hb dX7_keyBehind_22 (by decide) (fun c_6 => ?_) (fun c_6 => ?_)
  · have f_7 := E_ne (rfl : x_5.toInt = _) (by decide : (0 : Int32).toInt = 0) c_6
    refine lv_aload_n hx hb dX7_keyBehind_49 rfl (lv_at hl 1 rfl) ?_
    refine lv_iload_n hx hb dX7_keyBehind_50 rfl (lv_at hl 2 rfl) ?_
    refine k_iR (k_V (n := 1) ⟨hx, hb, hml, hown, hT⟩ hK hP hD [0, 1] rfl (by decide +kernel) (s_X7_usedOf l g H.size h bland bdeathDay bfreeFrom bbarring bkeys Fbkeys bways bcount bwins bslots bround bworths bpath p0 (by first | with_reducible assumption | omega) (by first | with_reducible assumption | omega) (by first | with_reducible assumption | omega)) (gV bw_431 bw_432 bw_433 bw_426 bw_418) rfl rfl (by decide +kernel) ⟨by decide, by decide⟩ (ci := 7) (q0 := 0) rfl rfl (fun _ _ _ _ _ => trivial) (fun _ _ _ => trivial) rfl rfl hl.1 (Nat.le_of_ble_eq_true rfl) dX7_keyBehind_51 ⟨by decide, by decide⟩) hP hS hA (fun r_8 _ H locs hw0 hP hS => ?_)
    refine lv_iconst (v := 1) hx hb dX7_keyBehind_54 (by decide) ?_
    refine lv_iload_n hx hb dX7_keyBehind_55 rfl (lv_at hl 3 rfl) ?_
    refine lv_ishl hx hb dX7_keyBehind_56 ?_
    refine lv_topi (fun x_9 ex_9 => ?_)
    refine lv_ior hx hb dX7_keyBehind_57 ?_
    refine lv_topi (fun x_10 ex_10 => ?_)
    refine lv_istore (lv' := [(4, .int x_10), (3, .int x_3), (0, .ref h), (1, .int p0), (2, .int p1)]) hx hb dX7_keyBehind_58 hl (by decide) rfl (fun ls hl => ?_)
    refine lv_iload hx hb dX7_keyBehind_60 (lv_at hl 0 rfl) ?_
    refine lv_bipush (v := 14) hx hb dX7_keyBehind_62 (by decide) ?_
    refine lv_ishl hx hb dX7_keyBehind_64 ?_
    refine lv_topi (fun x_11 ex_11 => ?_)
    refine lv_sipush (v := 9999) hx hb dX7_keyBehind_65 (by decide) ?_
    refine lv_aload_n hx hb dX7_keyBehind_68 rfl (lv_at hl 2 rfl) ?_
    refine lv_iload_n hx hb dX7_keyBehind_69 rfl (lv_at hl 3 rfl) ?_
    refine k_iR (k_V (n := 1) ⟨hx, hb, hml, hown, hT⟩ hK hP hD [0, 1] rfl (by decide +kernel) (s_X7_morningOf l g H.size h bland bdeathDay bfreeFrom bbarring bkeys Fbkeys bways bcount bwins bslots bround bworths bpath p0 (by first | with_reducible assumption | omega) (by first | with_reducible assumption | omega) (by first | with_reducible assumption | omega)) (gV bw_423 bw_424 bw_425 bw_426 bw_419) rfl rfl (by decide +kernel) ⟨by decide, by decide⟩ (ci := 7) (q0 := 0) rfl rfl (fun _ _ _ _ _ => trivial) (fun _ _ _ => trivial) rfl rfl hl.1 (Nat.le_of_ble_eq_true rfl) dX7_keyBehind_70 ⟨by decide, by decide⟩) hP hS hA (fun r_12 _ H locs hw0 hP hS => ?_)
    have hw : 0 ≤ r_12.toInt ∧ r_12.toInt ≤ 16383 := hw0
    clear hw0
    have w_13 := hw
    refine lv_aload_n hx hb dX7_keyBehind_73 rfl (lv_at hl 2 rfl) ?_
    refine va_get (D := g.1) (ci := 7) (v := .ref bworths) (C := RX7) (T := TX7) (N := 12) hx hb hT inF_X7 hown hK.1 hP 0 rfl rfl 10 (by decide) (hT _ bw_437) (fun _ h9 => h9) rfl dX7_keyBehind_74 ?_
    refine lv_iload_n hx hb dX7_keyBehind_77 rfl (lv_at hl 1 rfl) ?_
    have h_14 : vp_in x_3 4 := vp_in_iff.mpr (by omega)
    refine va_iald hx hb hK.1 hP 2 1 rfl rfl (i := x_3) h_14 dX7_keyBehind_78 ?_
    refine lv_topi (fun x_15 ex_15 => ?_)
    have ux_15 := congrArg Int32.toInt ex_15
    refine lv_iadd hx hb dX7_keyBehind_79 ?_
    refine lv_topi (fun x_16 ex_16 => ?_)
    refine va_mmin hx hb (hml.trans hl.1.symm) hown (hT _ bw_438) (hT _ bw_160) (hT _ bw_161) (hT _ bw_159) (Nat.le_of_ble_eq_true rfl) (Nat.le_of_ble_eq_true rfl) (Nat.le_of_ble_eq_true rfl) (Nat.le_of_ble_eq_true rfl) dX7_keyBehind_80 ?_
    refine lv_topi (fun x_17 ex_17 => ?_)
    have fx_17 : x_17.toInt = min 9999 x_16.toInt := by rw [ex_17]; exact I_min (by decide : (9999 : Int32).toInt = 9999) rfl
    refine lv_ior hx hb dX7_keyBehind_83 ?_
    refine lv_topi (fun x_18 ex_18 => ?_)
    have hP9 : va_P g.1 vwCl [(h, .inr (7, [.ref bland, .int bdeathDay, .ref bfreeFrom, .ref bbarring, .ref bkeys, .ref bways, .int bcount, .ref bwins, .ref bslots, .int bround, .ref bworths, .ref bpath])), (bkeys, aI g 3000 Fbkeys), (bworths, aI g 4 Fbworths), (bland, .inr (2, [.ref dmen, .ref dformulas, .ref dreasons, .int dduels, .ref dduelSides, .ref dduelMornings, .int dhonour, .int ddraw, .ref dusesOfKind])), (dusesOfKind, aI g 4 FdusesOfKind), (dformulas, .inr (0, [.int dformulas_count, .int dformulas_units, .ref dformulas_names, .int dformulas_unitsOfThis, .int dformulas_length, .ref dformulas_starts, .ref dformulas_steps, .ref dformulas_stack])), (dformulas_starts, aI g 5 Fdformulas_starts), (dformulas_steps, aI g 640 Fdformulas_steps), (dformulas_stack, aI g 32 Fdformulas_stack), (dreasons, .inr (6, [.int dreasons_count, .ref dreasons_names, .ref dreasons_kinds, .ref dreasons_owners, .ref dreasons_froms, .ref dreasons_tos, .ref dreasons_rents, .ref dreasons_sorts])), (dreasons_kinds, aI g 8 Fdreasons_kinds)] H := hP.sub [0, 1, 2, 3, 4, 5, 6, 7, 8, 9, 10] rfl
    have hD9 : va_D A [(h, .inr (7, [.ref bland, .int bdeathDay, .ref bfreeFrom, .ref bbarring, .ref bkeys, .ref bways, .int bcount, .ref bwins, .ref bslots, .int bround, .ref bworths, .ref bpath])), (bkeys, aI g 3000 Fbkeys), (bworths, aI g 4 Fbworths), (bland, .inr (2, [.ref dmen, .ref dformulas, .ref dreasons, .int dduels, .ref dduelSides, .ref dduelMornings, .int dhonour, .int ddraw, .ref dusesOfKind])), (dusesOfKind, aI g 4 FdusesOfKind), (dformulas, .inr (0, [.int dformulas_count, .int dformulas_units, .ref dformulas_names, .int dformulas_unitsOfThis, .int dformulas_length, .ref dformulas_starts, .ref dformulas_steps, .ref dformulas_stack])), (dformulas_starts, aI g 5 Fdformulas_starts), (dformulas_steps, aI g 640 Fdformulas_steps), (dformulas_stack, aI g 32 Fdformulas_stack), (dreasons, .inr (6, [.int dreasons_count, .ref dreasons_names, .ref dreasons_kinds, .ref dreasons_owners, .ref dreasons_froms, .ref dreasons_tos, .ref dreasons_rents, .ref dreasons_sorts])), (dreasons_kinds, aI g 8 Fdreasons_kinds)] := hD.sub [0, 1, 2, 3, 4, 5, 6, 7, 8, 9, 10] (by decide +kernel) rfl
    exact W.iret (v := x_18) hx hb hr (fun t ht hW => ⟨⟨x_18, (Fbworths, Fdformulas_stack), rfl, trivial, by rw [ht]; exact hP9, by rw [hAe]; exact hD9⟩, hS.F ht⟩) hS.2.2 dX7_keyBehind_84
  · have f_19 := E_eq (rfl : x_5.toInt = _) (by decide : (0 : Int32).toInt = 0) c_6
    refine lv_aload_n hx hb dX7_keyBehind_25 rfl (lv_at hl 1 rfl) ?_
    refine va_get (D := g.1) (ci := 7) (v := .ref bworths) (C := RX7) (T := TX7) (N := 12) hx hb hT inF_X7 hown hK.1 hP 0 rfl rfl 10 (by decide) (hT _ bw_437) (fun _ h9 => h9) rfl dX7_keyBehind_26 ?_
    refine lv_iload_n hx hb dX7_keyBehind_29 rfl (lv_at hl 0 rfl) ?_
    refine lv_aload_n hx hb dX7_keyBehind_30 rfl (lv_at hl 1 rfl) ?_
    refine va_get (D := g.1) (ci := 7) (v := .ref bland) (C := RX7) (T := TX7) (N := 12) hx hb hT inF_X7 hown hK.1 hP 0 rfl rfl 0 (by decide) (hT _ bw_428) (fun _ h9 => h9) rfl dX7_keyBehind_31 ?_
    refine lv_iload_n hx hb dX7_keyBehind_34 rfl (lv_at hl 0 rfl) ?_
    refine lv_aload_n hx hb dX7_keyBehind_35 rfl (lv_at hl 1 rfl) ?_
    refine lv_iload_n hx hb dX7_keyBehind_36 rfl (lv_at hl 2 rfl) ?_
    refine k_iR (k_V (n := 1) ⟨hx, hb, hml, hown, hT⟩ hK hP hD [0, 1] rfl (by decide +kernel) (s_X7_usedOf l g H.size h bland bdeathDay bfreeFrom bbarring bkeys Fbkeys bways bcount bwins bslots bround bworths bpath p0 (by first | with_reducible assumption | omega) (by first | with_reducible assumption | omega) (by first | with_reducible assumption | omega)) (gV bw_431 bw_432 bw_433 bw_426 bw_418) rfl rfl (by decide +kernel) ⟨by decide, by decide⟩ (ci := 7) (q0 := 0) rfl rfl (fun _ _ _ _ _ => trivial) (fun _ _ _ => trivial) rfl rfl hl.1 (Nat.le_of_ble_eq_true rfl) dX7_keyBehind_37 ⟨by decide, by decide⟩) hP hS hA (fun r_20 _ H locs hw0 hP hS => ?_)
    refine lv_aload_n hx hb dX7_keyBehind_40 rfl (lv_at hl 1 rfl) ?_
    refine lv_iload_n hx hb dX7_keyBehind_41 rfl (lv_at hl 2 rfl) ?_
    refine k_iR (k_V (n := 1) ⟨hx, hb, hml, hown, hT⟩ hK hP hD [0, 1] rfl (by decide +kernel) (s_X7_morningOf l g H.size h bland bdeathDay bfreeFrom bbarring bkeys Fbkeys bways bcount bwins bslots bround bworths bpath p0 (by first | with_reducible assumption | omega) (by first | with_reducible assumption | omega) (by first | with_reducible assumption | omega)) (gV bw_423 bw_424 bw_425 bw_426 bw_419) rfl rfl (by decide +kernel) ⟨by decide, by decide⟩ (ci := 7) (q0 := 0) rfl rfl (fun _ _ _ _ _ => trivial) (fun _ _ _ => trivial) rfl rfl hl.1 (Nat.le_of_ble_eq_true rfl) dX7_keyBehind_42 ⟨by decide, by decide⟩) hP hS hA (fun r_21 _ H locs hw0 hP hS => ?_)
    have hw : 0 ≤ r_21.toInt ∧ r_21.toInt ≤ 16383 := hw0
    clear hw0
    have w_22 := hw
    refine k_i (wr := [(h, .inr (7, [.ref bland, .int bdeathDay, .ref bfreeFrom, .ref bbarring, .ref bkeys, .ref bways, .int bcount, .ref bwins, .ref bslots, .int bround, .ref bworths, .ref bpath])), (bkeys, aI g 3000 Fbkeys), (bworths, aI g 4 Fbworths), (dreasons, .inr (6, [.int dreasons_count, .ref dreasons_names, .ref dreasons_kinds, .ref dreasons_owners, .ref dreasons_froms, .ref dreasons_tos, .ref dreasons_rents, .ref dreasons_sorts])), (dreasons_kinds, aI g 8 Fdreasons_kinds)]) (k_V (n := 3) ⟨hx, hb, hml, hown, hT⟩ hK hP hD [3, 4, 5, 6, 7, 8] rfl (by decide +kernel) (s_X2_worthOf l g H.size bland dduels dduelSides dduelMornings dhonour ddraw dusesOfKind FdusesOfKind dmen dformulas dformulas_count dformulas_units dformulas_names dformulas_unitsOfThis dformulas_length dformulas_starts Fdformulas_starts dformulas_steps Fdformulas_steps dformulas_stack Fdformulas_stack dreasons x_3 r_20 r_21 (by first | with_reducible assumption | omega) (by first | with_reducible assumption | omega) (by first | with_reducible assumption | omega) (by first | with_reducible assumption | omega) (by first | with_reducible assumption | omega) (by first | with_reducible assumption | omega) hh11 (by first | with_reducible assumption | omega)) (gV bw_439 bw_200 bw_201 bw_202 bw_165) rfl rfl (by decide +kernel) ⟨by decide, by decide⟩ (ci := 2) (q0 := 0) rfl rfl (fun _ _ _ _ _ => trivial) (fun _ _ _ => trivial) rfl rfl hl.1 (Nat.le_of_ble_eq_true rfl) dX7_keyBehind_45 ⟨by decide, by decide⟩) hP hD hS hA [3, 4, 5, 6, 7, 8] [0, 1, 2, 9, 10] rfl rfl (by decide +kernel) (by decide +kernel) (fun r_23 => fun f_24 H locs hw0 hP hD hS => ?_)
    have hP : va_P g.1 vwCl [(h, .inr (7, [.ref bland, .int bdeathDay, .ref bfreeFrom, .ref bbarring, .ref bkeys, .ref bways, .int bcount, .ref bwins, .ref bslots, .int bround, .ref bworths, .ref bpath])), (bkeys, aI g 3000 Fbkeys), (bworths, aI g 4 Fbworths), (dreasons, .inr (6, [.int dreasons_count, .ref dreasons_names, .ref dreasons_kinds, .ref dreasons_owners, .ref dreasons_froms, .ref dreasons_tos, .ref dreasons_rents, .ref dreasons_sorts])), (dreasons_kinds, aI g 8 Fdreasons_kinds), (bland, .inr (2, [.ref dmen, .ref dformulas, .ref dreasons, .int dduels, .ref dduelSides, .ref dduelMornings, .int dhonour, .int ddraw, .ref dusesOfKind])), (dusesOfKind, aI g 4 FdusesOfKind), (dformulas, .inr (0, [.int dformulas_count, .int dformulas_units, .ref dformulas_names, .int dformulas_unitsOfThis, .int dformulas_length, .ref dformulas_starts, .ref dformulas_steps, .ref dformulas_stack])), (dformulas_starts, aI g 5 Fdformulas_starts), (dformulas_steps, aI g 640 Fdformulas_steps), (dformulas_stack, aI g 32 f_24)] H := hP
    have hD : va_D A [(h, .inr (7, [.ref bland, .int bdeathDay, .ref bfreeFrom, .ref bbarring, .ref bkeys, .ref bways, .int bcount, .ref bwins, .ref bslots, .int bround, .ref bworths, .ref bpath])), (bkeys, aI g 3000 Fbkeys), (bworths, aI g 4 Fbworths), (dreasons, .inr (6, [.int dreasons_count, .ref dreasons_names, .ref dreasons_kinds, .ref dreasons_owners, .ref dreasons_froms, .ref dreasons_tos, .ref dreasons_rents, .ref dreasons_sorts])), (dreasons_kinds, aI g 8 Fdreasons_kinds), (bland, .inr (2, [.ref dmen, .ref dformulas, .ref dreasons, .int dduels, .ref dduelSides, .ref dduelMornings, .int dhonour, .int ddraw, .ref dusesOfKind])), (dusesOfKind, aI g 4 FdusesOfKind), (dformulas, .inr (0, [.int dformulas_count, .int dformulas_units, .ref dformulas_names, .int dformulas_unitsOfThis, .int dformulas_length, .ref dformulas_starts, .ref dformulas_steps, .ref dformulas_stack])), (dformulas_starts, aI g 5 Fdformulas_starts), (dformulas_steps, aI g 640 Fdformulas_steps), (dformulas_stack, aI g 32 f_24)] := hD
    have hw : 1 ≤ r_23.toInt ∧ r_23.toInt ≤ 365 := hw0
    clear hw0
    have w_25 := hw
    have h_26 : vp_in x_3 4 := vp_in_iff.mpr (by omega)
    refine va_iast hx hb hK.1 hP hD hS 2 1 rfl rfl (i := x_3) (x := r_23) h_26 dX7_keyBehind_48 (fun H locs hP hD hS => ?_)
    generalize upd Fbworths (x_3 : Int32).toNatClampNeg r_23 = f_27 at hP hD
    have hP : va_P g.1 vwCl [(h, .inr (7, [.ref bland, .int bdeathDay, .ref bfreeFrom, .ref bbarring, .ref bkeys, .ref bways, .int bcount, .ref bwins, .ref bslots, .int bround, .ref bworths, .ref bpath])), (bkeys, aI g 3000 Fbkeys), (bworths, aI g 4 f_27), (dreasons, .inr (6, [.int dreasons_count, .ref dreasons_names, .ref dreasons_kinds, .ref dreasons_owners, .ref dreasons_froms, .ref dreasons_tos, .ref dreasons_rents, .ref dreasons_sorts])), (dreasons_kinds, aI g 8 Fdreasons_kinds), (bland, .inr (2, [.ref dmen, .ref dformulas, .ref dreasons, .int dduels, .ref dduelSides, .ref dduelMornings, .int dhonour, .int ddraw, .ref dusesOfKind])), (dusesOfKind, aI g 4 FdusesOfKind), (dformulas, .inr (0, [.int dformulas_count, .int dformulas_units, .ref dformulas_names, .int dformulas_unitsOfThis, .int dformulas_length, .ref dformulas_starts, .ref dformulas_steps, .ref dformulas_stack])), (dformulas_starts, aI g 5 Fdformulas_starts), (dformulas_steps, aI g 640 Fdformulas_steps), (dformulas_stack, aI g 32 f_24)] H := hP
    have hD : va_D A [(h, .inr (7, [.ref bland, .int bdeathDay, .ref bfreeFrom, .ref bbarring, .ref bkeys, .ref bways, .int bcount, .ref bwins, .ref bslots, .int bround, .ref bworths, .ref bpath])), (bkeys, aI g 3000 Fbkeys), (bworths, aI g 4 f_27), (dreasons, .inr (6, [.int dreasons_count, .ref dreasons_names, .ref dreasons_kinds, .ref dreasons_owners, .ref dreasons_froms, .ref dreasons_tos, .ref dreasons_rents, .ref dreasons_sorts])), (dreasons_kinds, aI g 8 Fdreasons_kinds), (bland, .inr (2, [.ref dmen, .ref dformulas, .ref dreasons, .int dduels, .ref dduelSides, .ref dduelMornings, .int dhonour, .int ddraw, .ref dusesOfKind])), (dusesOfKind, aI g 4 FdusesOfKind), (dformulas, .inr (0, [.int dformulas_count, .int dformulas_units, .ref dformulas_names, .int dformulas_unitsOfThis, .int dformulas_length, .ref dformulas_starts, .ref dformulas_steps, .ref dformulas_stack])), (dformulas_starts, aI g 5 Fdformulas_starts), (dformulas_steps, aI g 640 Fdformulas_steps), (dformulas_stack, aI g 32 f_24)] := hD
    refine lv_aload_n hx hb dX7_keyBehind_49 rfl (lv_at hl 1 rfl) ?_
    refine lv_iload_n hx hb dX7_keyBehind_50 rfl (lv_at hl 2 rfl) ?_
    refine k_iR (k_V (n := 1) ⟨hx, hb, hml, hown, hT⟩ hK hP hD [0, 1] rfl (by decide +kernel) (s_X7_usedOf l g H.size h bland bdeathDay bfreeFrom bbarring bkeys Fbkeys bways bcount bwins bslots bround bworths bpath p0 (by first | with_reducible assumption | omega) (by first | with_reducible assumption | omega) (by first | with_reducible assumption | omega)) (gV bw_431 bw_432 bw_433 bw_426 bw_418) rfl rfl (by decide +kernel) ⟨by decide, by decide⟩ (ci := 7) (q0 := 0) rfl rfl (fun _ _ _ _ _ => trivial) (fun _ _ _ => trivial) rfl rfl hl.1 (Nat.le_of_ble_eq_true rfl) dX7_keyBehind_51 ⟨by decide, by decide⟩) hP hS hA (fun r_28 _ H locs hw0 hP hS => ?_)
    refine lv_iconst (v := 1) hx hb dX7_keyBehind_54 (by decide) ?_
    refine lv_iload_n hx hb dX7_keyBehind_55 rfl (lv_at hl 3 rfl) ?_
    refine lv_ishl hx hb dX7_keyBehind_56 ?_
    refine lv_topi (fun x_29 ex_29 => ?_)
    refine lv_ior hx hb dX7_keyBehind_57 ?_
    refine lv_topi (fun x_30 ex_30 => ?_)
    refine lv_istore (lv' := [(4, .int x_30), (3, .int x_3), (0, .ref h), (1, .int p0), (2, .int p1)]) hx hb dX7_keyBehind_58 hl (by decide) rfl (fun ls hl => ?_)
    refine lv_iload hx hb dX7_keyBehind_60 (lv_at hl 0 rfl) ?_
    refine lv_bipush (v := 14) hx hb dX7_keyBehind_62 (by decide) ?_
    refine lv_ishl hx hb dX7_keyBehind_64 ?_
    refine lv_topi (fun x_31 ex_31 => ?_)
    refine lv_sipush (v := 9999) hx hb dX7_keyBehind_65 (by decide) ?_
    refine lv_aload_n hx hb dX7_keyBehind_68 rfl (lv_at hl 2 rfl) ?_
    refine lv_iload_n hx hb dX7_keyBehind_69 rfl (lv_at hl 3 rfl) ?_
    refine k_iR (k_V (n := 1) ⟨hx, hb, hml, hown, hT⟩ hK hP hD [0, 1] rfl (by decide +kernel) (s_X7_morningOf l g H.size h bland bdeathDay bfreeFrom bbarring bkeys Fbkeys bways bcount bwins bslots bround bworths bpath p0 (by first | with_reducible assumption | omega) (by first | with_reducible assumption | omega) (by first | with_reducible assumption | omega)) (gV bw_423 bw_424 bw_425 bw_426 bw_419) rfl rfl (by decide +kernel) ⟨by decide, by decide⟩ (ci := 7) (q0 := 0) rfl rfl (fun _ _ _ _ _ => trivial) (fun _ _ _ => trivial) rfl rfl hl.1 (Nat.le_of_ble_eq_true rfl) dX7_keyBehind_70 ⟨by decide, by decide⟩) hP hS hA (fun r_32 _ H locs hw0 hP hS => ?_)
    have hw : 0 ≤ r_32.toInt ∧ r_32.toInt ≤ 16383 := hw0
    clear hw0
    have w_33 := hw
    refine lv_aload_n hx hb dX7_keyBehind_73 rfl (lv_at hl 2 rfl) ?_
    refine va_get (D := g.1) (ci := 7) (v := .ref bworths) (C := RX7) (T := TX7) (N := 12) hx hb hT inF_X7 hown hK.1 hP 0 rfl rfl 10 (by decide) (hT _ bw_437) (fun _ h9 => h9) rfl dX7_keyBehind_74 ?_
    refine lv_iload_n hx hb dX7_keyBehind_77 rfl (lv_at hl 1 rfl) ?_
    have h_34 : vp_in x_3 4 := vp_in_iff.mpr (by omega)
    refine va_iald hx hb hK.1 hP 2 1 rfl rfl (i := x_3) h_34 dX7_keyBehind_78 ?_
    refine lv_topi (fun x_35 ex_35 => ?_)
    have ux_35 := congrArg Int32.toInt ex_35
    refine lv_iadd hx hb dX7_keyBehind_79 ?_
    refine lv_topi (fun x_36 ex_36 => ?_)
    refine va_mmin hx hb (hml.trans hl.1.symm) hown (hT _ bw_438) (hT _ bw_160) (hT _ bw_161) (hT _ bw_159) (Nat.le_of_ble_eq_true rfl) (Nat.le_of_ble_eq_true rfl) (Nat.le_of_ble_eq_true rfl) (Nat.le_of_ble_eq_true rfl) dX7_keyBehind_80 ?_
    refine lv_topi (fun x_37 ex_37 => ?_)
    have fx_37 : x_37.toInt = min 9999 x_36.toInt := by rw [ex_37]; exact I_min (by decide : (9999 : Int32).toInt = 9999) rfl
    refine lv_ior hx hb dX7_keyBehind_83 ?_
    refine lv_topi (fun x_38 ex_38 => ?_)
    have hP9 : va_P g.1 vwCl [(h, .inr (7, [.ref bland, .int bdeathDay, .ref bfreeFrom, .ref bbarring, .ref bkeys, .ref bways, .int bcount, .ref bwins, .ref bslots, .int bround, .ref bworths, .ref bpath])), (bkeys, aI g 3000 Fbkeys), (bworths, aI g 4 f_27), (bland, .inr (2, [.ref dmen, .ref dformulas, .ref dreasons, .int dduels, .ref dduelSides, .ref dduelMornings, .int dhonour, .int ddraw, .ref dusesOfKind])), (dusesOfKind, aI g 4 FdusesOfKind), (dformulas, .inr (0, [.int dformulas_count, .int dformulas_units, .ref dformulas_names, .int dformulas_unitsOfThis, .int dformulas_length, .ref dformulas_starts, .ref dformulas_steps, .ref dformulas_stack])), (dformulas_starts, aI g 5 Fdformulas_starts), (dformulas_steps, aI g 640 Fdformulas_steps), (dformulas_stack, aI g 32 f_24), (dreasons, .inr (6, [.int dreasons_count, .ref dreasons_names, .ref dreasons_kinds, .ref dreasons_owners, .ref dreasons_froms, .ref dreasons_tos, .ref dreasons_rents, .ref dreasons_sorts])), (dreasons_kinds, aI g 8 Fdreasons_kinds)] H := hP.sub [0, 1, 2, 5, 6, 7, 8, 9, 10, 3, 4] rfl
    have hD9 : va_D A [(h, .inr (7, [.ref bland, .int bdeathDay, .ref bfreeFrom, .ref bbarring, .ref bkeys, .ref bways, .int bcount, .ref bwins, .ref bslots, .int bround, .ref bworths, .ref bpath])), (bkeys, aI g 3000 Fbkeys), (bworths, aI g 4 f_27), (bland, .inr (2, [.ref dmen, .ref dformulas, .ref dreasons, .int dduels, .ref dduelSides, .ref dduelMornings, .int dhonour, .int ddraw, .ref dusesOfKind])), (dusesOfKind, aI g 4 FdusesOfKind), (dformulas, .inr (0, [.int dformulas_count, .int dformulas_units, .ref dformulas_names, .int dformulas_unitsOfThis, .int dformulas_length, .ref dformulas_starts, .ref dformulas_steps, .ref dformulas_stack])), (dformulas_starts, aI g 5 Fdformulas_starts), (dformulas_steps, aI g 640 Fdformulas_steps), (dformulas_stack, aI g 32 f_24), (dreasons, .inr (6, [.int dreasons_count, .ref dreasons_names, .ref dreasons_kinds, .ref dreasons_owners, .ref dreasons_froms, .ref dreasons_tos, .ref dreasons_rents, .ref dreasons_sorts])), (dreasons_kinds, aI g 8 Fdreasons_kinds)] := hD.sub [0, 1, 2, 5, 6, 7, 8, 9, 10, 3, 4] (by decide +kernel) rfl
    exact W.iret (v := x_38) hx hb hr (fun t ht hW => ⟨⟨x_38, (f_27, f_24), rfl, trivial, by rw [ht]; exact hP9, by rw [hAe]; exact hD9⟩, hS.F ht⟩) hS.2.2 dX7_keyBehind_84
