theorem bw_815 : Cond.code yX12_isLetter cX12_isLetter 1 (some .boolean) ∈ gT := gT_tb 1581 (by decide +kernel) (by decide +kernel)
theorem dX12_isLetter_0 : decode cX12_isLetter 0 = .ok (.iload_n 0, 1) := by decide +kernel
theorem dX12_isLetter_1 : decode cX12_isLetter 1 = .ok (.bipush 97, 2) := by decide +kernel
theorem dX12_isLetter_3 : decode cX12_isLetter 3 = .ok (.if_icmp .lt 13, 3) := by decide +kernel
theorem dX12_isLetter_6 : decode cX12_isLetter 6 = .ok (.iload_n 0, 1) := by decide +kernel
theorem dX12_isLetter_7 : decode cX12_isLetter 7 = .ok (.bipush 122, 2) := by decide +kernel
theorem dX12_isLetter_9 : decode cX12_isLetter 9 = .ok (.if_icmp .gt 7, 3) := by decide +kernel
theorem dX12_isLetter_12 : decode cX12_isLetter 12 = .ok (.iconst 1, 1) := by decide +kernel
theorem dX12_isLetter_13 : decode cX12_isLetter 13 = .ok (.goto 4, 3) := by decide +kernel
theorem dX12_isLetter_16 : decode cX12_isLetter 16 = .ok (.iconst 0, 1) := by decide +kernel
theorem dX12_isLetter_17 : decode cX12_isLetter 17 = .ok (.ireturn, 1) := by decide +kernel
set_option maxHeartbeats 40000000 in
set_option maxRecDepth 100000 in
theorem s_X12_isLetter (l : Launch) (g : GG) (sz : Nat) (p0 : Int32) : Met l yX12_isLetter (.code yX12_isLetter cX12_isLetter 1 (some .boolean) :: gT) ({ frames := 0, cells := 0, slots := 0, locals := 0 }) (va_Pc [.int p0] (Pst g sz [] nX)) (va_Qi (fun (r : Int32) => fun (_ : Unit) => (r = 1 ∧ (97 ≤ p0.toInt ∧ p0.toInt ≤ 122)) ∨ (r = 0 ∧ (p0.toInt < 97 ∨ 122 < p0.toInt))) (Qst g [] sz (fun _ => [])) (va_A [] sz)) 0 0 (va_A [] sz) := by
  refine Met.ofW (cc := cX12_isLetter) (maxL := 1) (ret := (some .boolean)) (by decide) rfl ?_
  intro p e s m args below meth c s₁ B hml hv
  obtain ⟨rfl, hsz, hP, hK, hD0, hX⟩ := hv
  have hx := B.exec
  have hb := B.bytes
  have hr := B.returns
  have hT : ∀ w ∈ gT, w.before _ s = true := fun w h => atoms_spec (ws := .code yX12_isLetter cX12_isLetter 1 (some .boolean) :: gT) B.pre w (List.mem_cons_of_mem _ h)
  have hown : s.vm.findClass RX12 = some m.cls := findClass_of_methodNamed B.named
  have hlocks := B.notSynchronized
  subst hsz
  have hD := hD0
  generalize hAe : va_A [] s.heap.size = A at ⊢
  have hA : ∀ q : Nat, s.heap.size ≤ q → A q := fun q h => by rw [← hAe]; exact Or.inr h
  have hS : va_S A s.heap s.heap [] := va_S.rf
  have hl := lv_entry ([.int p0]) (n := 1) (Nat.le_of_ble_eq_true rfl)
  rw [lg_entry_eq]
  generalize (lg_sl ([.int p0]) ++ List.replicate (1 - (lg_sl ([.int p0])).length) Slot.unset).toArray = ls at hl ⊢
  have hl : lv_has ls 1 [(0, .int p0)] := hl
  refine p_nH (fun H hH => ?_)
  have hP : va_P g.1 vwCl [] H := by rw [hH]; exact hP
  have hS : va_S A s.heap H [] := by rw [hH]; exact hS
  refine lv_iload_n hx hb dX12_isLetter_0 rfl (lv_at hl 0 rfl) ?_
  refine lv_bipush (v := 97) hx hb dX12_isLetter_1 (by decide) ?_
  refine lv_icmp_lt (tgt := 16) hx hb dX12_isLetter_3 (by decide) (fun c_1 => ?_) (fun c_1 => ?_)
  · have f_2 := E_lt (rfl : p0.toInt = _) (by decide : (97 : Int32).toInt = 97) c_1
    refine lv_iconst (v := 0) hx hb dX12_isLetter_16 (by decide) ?_
    have hP9 : va_P g.1 vwCl [] H := hP.sub [] rfl
    have hD9 : va_D A [] := ⟨fun i j p q h => by simp at h, fun k q h => by simp at h⟩
    exact W.zret (v := 0) (ty := .boolean) hx hb hr rfl (fun t ht hW => ⟨⟨0, (), rfl, (Or.inr (⟨rfl, by omega⟩)), by rw [ht]; exact hP9, by rw [hAe]; exact hD9⟩, hS.F ht⟩) hS.2.2 dX12_isLetter_17
  · have f_3 := E_nlt (rfl : p0.toInt = _) (by decide : (97 : Int32).toInt = 97) c_1
    refine lv_iload_n hx hb dX12_isLetter_6 rfl (lv_at hl 0 rfl) ?_
    refine lv_bipush (v := 122) hx hb dX12_isLetter_7 (by decide) ?_
    refine lv_icmp_gt (tgt := 16) hx hb dX12_isLetter_9 (by decide) (fun c_4 => ?_) (fun c_4 => ?_)
    · have f_5 := E_lt (by decide : (122 : Int32).toInt = 122) (rfl : p0.toInt = _) c_4
      refine lv_iconst (v := 0) hx hb dX12_isLetter_16 (by decide) ?_
      have hP9 : va_P g.1 vwCl [] H := hP.sub [] rfl
      have hD9 : va_D A [] := ⟨fun i j p q h => by simp at h, fun k q h => by simp at h⟩
      exact W.zret (v := 0) (ty := .boolean) hx hb hr rfl (fun t ht hW => ⟨⟨0, (), rfl, (Or.inr (⟨rfl, by omega⟩)), by rw [ht]; exact hP9, by rw [hAe]; exact hD9⟩, hS.F ht⟩) hS.2.2 dX12_isLetter_17
    · have f_6 := E_nlt (by decide : (122 : Int32).toInt = 122) (rfl : p0.toInt = _) c_4
      refine lv_iconst (v := 1) hx hb dX12_isLetter_12 (by decide) ?_
      refine lv_goto (tgt := 17) hx hb dX12_isLetter_13 (by decide) ?_
      have hP9 : va_P g.1 vwCl [] H := hP.sub [] rfl
      have hD9 : va_D A [] := ⟨fun i j p q h => by simp at h, fun k q h => by simp at h⟩
      exact W.zret (v := 1) (ty := .boolean) hx hb hr rfl (fun t ht hW => ⟨⟨1, (), rfl, (Or.inl ⟨rfl, by omega⟩), by rw [ht]; exact hP9, by rw [hAe]; exact hD9⟩, hS.F ht⟩) hS.2.2 dX12_isLetter_17

theorem bw_816 : Cond.code yX12_isDigit cX12_isDigit 1 (some .boolean) ∈ gT := gT_tb 1611 (by decide +kernel) (by decide +kernel)
theorem dX12_isDigit_0 : decode cX12_isDigit 0 = .ok (.iload_n 0, 1) := by decide +kernel
theorem dX12_isDigit_1 : decode cX12_isDigit 1 = .ok (.bipush 48, 2) := by decide +kernel
theorem dX12_isDigit_3 : decode cX12_isDigit 3 = .ok (.if_icmp .lt 13, 3) := by decide +kernel
theorem dX12_isDigit_6 : decode cX12_isDigit 6 = .ok (.iload_n 0, 1) := by decide +kernel
theorem dX12_isDigit_7 : decode cX12_isDigit 7 = .ok (.bipush 57, 2) := by decide +kernel
theorem dX12_isDigit_9 : decode cX12_isDigit 9 = .ok (.if_icmp .gt 7, 3) := by decide +kernel
theorem dX12_isDigit_12 : decode cX12_isDigit 12 = .ok (.iconst 1, 1) := by decide +kernel
theorem dX12_isDigit_13 : decode cX12_isDigit 13 = .ok (.goto 4, 3) := by decide +kernel
theorem dX12_isDigit_16 : decode cX12_isDigit 16 = .ok (.iconst 0, 1) := by decide +kernel
theorem dX12_isDigit_17 : decode cX12_isDigit 17 = .ok (.ireturn, 1) := by decide +kernel
set_option maxHeartbeats 40000000 in
set_option maxRecDepth 100000 in
theorem s_X12_isDigit (l : Launch) (g : GG) (sz : Nat) (p0 : Int32) : Met l yX12_isDigit (.code yX12_isDigit cX12_isDigit 1 (some .boolean) :: gT) ({ frames := 0, cells := 0, slots := 0, locals := 0 }) (va_Pc [.int p0] (Pst g sz [] nX)) (va_Qi (fun (r : Int32) => fun (_ : Unit) => (r = 1 ∧ (48 ≤ p0.toInt ∧ p0.toInt ≤ 57)) ∨ (r = 0)) (Qst g [] sz (fun _ => [])) (va_A [] sz)) 0 0 (va_A [] sz) := by
  refine Met.ofW (cc := cX12_isDigit) (maxL := 1) (ret := (some .boolean)) (by decide) rfl ?_
  intro p e s m args below meth c s₁ B hml hv
  obtain ⟨rfl, hsz, hP, hK, hD0, hX⟩ := hv
  have hx := B.exec
  have hb := B.bytes
  have hr := B.returns
  have hT : ∀ w ∈ gT, w.before _ s = true := fun w h => atoms_spec (ws := .code yX12_isDigit cX12_isDigit 1 (some .boolean) :: gT) B.pre w (List.mem_cons_of_mem _ h)
  have hown : s.vm.findClass RX12 = some m.cls := findClass_of_methodNamed B.named
  have hlocks := B.notSynchronized
  subst hsz
  have hD := hD0
  generalize hAe : va_A [] s.heap.size = A at ⊢
  have hA : ∀ q : Nat, s.heap.size ≤ q → A q := fun q h => by rw [← hAe]; exact Or.inr h
  have hS : va_S A s.heap s.heap [] := va_S.rf
  have hl := lv_entry ([.int p0]) (n := 1) (Nat.le_of_ble_eq_true rfl)
  rw [lg_entry_eq]
  generalize (lg_sl ([.int p0]) ++ List.replicate (1 - (lg_sl ([.int p0])).length) Slot.unset).toArray = ls at hl ⊢
  have hl : lv_has ls 1 [(0, .int p0)] := hl
  refine p_nH (fun H hH => ?_)
  have hP : va_P g.1 vwCl [] H := by rw [hH]; exact hP
  have hS : va_S A s.heap H [] := by rw [hH]; exact hS
  refine lv_iload_n hx hb dX12_isDigit_0 rfl (lv_at hl 0 rfl) ?_
  refine lv_bipush (v := 48) hx hb dX12_isDigit_1 (by decide) ?_
  refine lv_icmp_lt (tgt := 16) hx hb dX12_isDigit_3 (by decide) (fun c_1 => ?_) (fun c_1 => ?_)
  · have f_2 := E_lt (rfl : p0.toInt = _) (by decide : (48 : Int32).toInt = 48) c_1
    refine lv_iconst (v := 0) hx hb dX12_isDigit_16 (by decide) ?_
    have hP9 : va_P g.1 vwCl [] H := hP.sub [] rfl
    have hD9 : va_D A [] := ⟨fun i j p q h => by simp at h, fun k q h => by simp at h⟩
    exact W.zret (v := 0) (ty := .boolean) hx hb hr rfl (fun t ht hW => ⟨⟨0, (), rfl, (Or.inr (rfl)), by rw [ht]; exact hP9, by rw [hAe]; exact hD9⟩, hS.F ht⟩) hS.2.2 dX12_isDigit_17
  · have f_3 := E_nlt (rfl : p0.toInt = _) (by decide : (48 : Int32).toInt = 48) c_1
    refine lv_iload_n hx hb dX12_isDigit_6 rfl (lv_at hl 0 rfl) ?_
    refine lv_bipush (v := 57) hx hb dX12_isDigit_7 (by decide) ?_
    refine lv_icmp_gt (tgt := 16) hx hb dX12_isDigit_9 (by decide) (fun c_4 => ?_) (fun c_4 => ?_)
    · have f_5 := E_lt (by decide : (57 : Int32).toInt = 57) (rfl : p0.toInt = _) c_4
      refine lv_iconst (v := 0) hx hb dX12_isDigit_16 (by decide) ?_
      have hP9 : va_P g.1 vwCl [] H := hP.sub [] rfl
      have hD9 : va_D A [] := ⟨fun i j p q h => by simp at h, fun k q h => by simp at h⟩
      exact W.zret (v := 0) (ty := .boolean) hx hb hr rfl (fun t ht hW => ⟨⟨0, (), rfl, (Or.inr (rfl)), by rw [ht]; exact hP9, by rw [hAe]; exact hD9⟩, hS.F ht⟩) hS.2.2 dX12_isDigit_17
    · have f_6 := E_nlt (by decide : (57 : Int32).toInt = 57) (rfl : p0.toInt = _) c_4
      refine lv_iconst (v := 1) hx hb dX12_isDigit_12 (by decide) ?_
      refine lv_goto (tgt := 17) hx hb dX12_isDigit_13 (by decide) ?_
      have hP9 : va_P g.1 vwCl [] H := hP.sub [] rfl
      have hD9 : va_D A [] := ⟨fun i j p q h => by simp at h, fun k q h => by simp at h⟩
      exact W.zret (v := 1) (ty := .boolean) hx hb hr rfl (fun t ht hW => ⟨⟨1, (), rfl, (Or.inl ⟨rfl, by omega⟩), by rw [ht]; exact hP9, by rw [hAe]; exact hD9⟩, hS.F ht⟩) hS.2.2 dX12_isDigit_17

theorem bw_817 : Cond.code yX12_isIn cX12_isIn 3 (some .boolean) ∈ gT := gT_tb 1749 (by decide +kernel) (by decide +kernel)
theorem dX12_isIn_0 : decode cX12_isIn 0 = .ok (.iload_n 0, 1) := by decide +kernel
theorem dX12_isIn_1 : decode cX12_isIn 1 = .ok (.iload_n 1, 1) := by decide +kernel
theorem dX12_isIn_2 : decode cX12_isIn 2 = .ok (.if_icmp .lt 12, 3) := by decide +kernel
theorem dX12_isIn_5 : decode cX12_isIn 5 = .ok (.iload_n 0, 1) := by decide +kernel
theorem dX12_isIn_6 : decode cX12_isIn 6 = .ok (.iload_n 2, 1) := by decide +kernel
theorem dX12_isIn_7 : decode cX12_isIn 7 = .ok (.if_icmp .gt 7, 3) := by decide +kernel
theorem dX12_isIn_10 : decode cX12_isIn 10 = .ok (.iconst 1, 1) := by decide +kernel
theorem dX12_isIn_11 : decode cX12_isIn 11 = .ok (.goto 4, 3) := by decide +kernel
theorem dX12_isIn_14 : decode cX12_isIn 14 = .ok (.iconst 0, 1) := by decide +kernel
theorem dX12_isIn_15 : decode cX12_isIn 15 = .ok (.ireturn, 1) := by decide +kernel
set_option maxHeartbeats 40000000 in
set_option maxRecDepth 100000 in
theorem s_X12_isIn (l : Launch) (g : GG) (sz : Nat) (p0 : Int32) (p1 : Int32) (p2 : Int32) : Met l yX12_isIn (.code yX12_isIn cX12_isIn 3 (some .boolean) :: gT) ({ frames := 0, cells := 0, slots := 0, locals := 0 }) (va_Pc [.int p0, .int p1, .int p2] (Pst g sz [] nX)) (va_Qi (fun (r : Int32) => fun (_ : Unit) => (r = 1 ∧ (p1.toInt ≤ p0.toInt ∧ p0.toInt ≤ p2.toInt)) ∨ (r = 0 ∧ (p0.toInt < p1.toInt ∨ p2.toInt < p0.toInt))) (Qst g [] sz (fun _ => [])) (va_A [] sz)) 0 0 (va_A [] sz) := by
  refine Met.ofW (cc := cX12_isIn) (maxL := 3) (ret := (some .boolean)) (by decide) rfl ?_
  intro p e s m args below meth c s₁ B hml hv
  obtain ⟨rfl, hsz, hP, hK, hD0, hX⟩ := hv
  have hx := B.exec
  have hb := B.bytes
  have hr := B.returns
  have hT : ∀ w ∈ gT, w.before _ s = true := fun w h => atoms_spec (ws := .code yX12_isIn cX12_isIn 3 (some .boolean) :: gT) B.pre w (List.mem_cons_of_mem _ h)
  have hown : s.vm.findClass RX12 = some m.cls := findClass_of_methodNamed B.named
  have hlocks := B.notSynchronized
  subst hsz
  have hD := hD0
  generalize hAe : va_A [] s.heap.size = A at ⊢
  have hA : ∀ q : Nat, s.heap.size ≤ q → A q := fun q h => by rw [← hAe]; exact Or.inr h
  have hS : va_S A s.heap s.heap [] := va_S.rf
  have hl := lv_entry ([.int p0, .int p1, .int p2]) (n := 3) (Nat.le_of_ble_eq_true rfl)
  rw [lg_entry_eq]
  generalize (lg_sl ([.int p0, .int p1, .int p2]) ++ List.replicate (3 - (lg_sl ([.int p0, .int p1, .int p2])).length) Slot.unset).toArray = ls at hl ⊢
  have hl : lv_has ls 3 [(0, .int p0), (1, .int p1), (2, .int p2)] := hl
  refine p_nH (fun H hH => ?_)
  have hP : va_P g.1 vwCl [] H := by rw [hH]; exact hP
  have hS : va_S A s.heap H [] := by rw [hH]; exact hS
  refine lv_iload_n hx hb dX12_isIn_0 rfl (lv_at hl 0 rfl) ?_
  refine lv_iload_n hx hb dX12_isIn_1 rfl (lv_at hl 1 rfl) ?_
  refine lv_icmp_lt (tgt := 14) hx hb dX12_isIn_2 (by decide) (fun c_1 => ?_) (fun c_1 => ?_)
  · have f_2 := E_lt (rfl : p0.toInt = _) (rfl : p1.toInt = _) c_1
    refine lv_iconst (v := 0) hx hb dX12_isIn_14 (by decide) ?_
    have hP9 : va_P g.1 vwCl [] H := hP.sub [] rfl
    have hD9 : va_D A [] := ⟨fun i j p q h => by simp at h, fun k q h => by simp at h⟩
    exact W.zret (v := 0) (ty := .boolean) hx hb hr rfl (fun t ht hW => ⟨⟨0, (), rfl, (Or.inr (⟨rfl, by omega⟩)), by rw [ht]; exact hP9, by rw [hAe]; exact hD9⟩, hS.F ht⟩) hS.2.2 dX12_isIn_15
  · have f_3 := E_nlt (rfl : p0.toInt = _) (rfl : p1.toInt = _) c_1
    refine lv_iload_n hx hb dX12_isIn_5 rfl (lv_at hl 0 rfl) ?_
    refine lv_iload_n hx hb dX12_isIn_6 rfl (lv_at hl 2 rfl) ?_
    refine lv_icmp_gt (tgt := 14) hx hb dX12_isIn_7 (by decide) (fun c_4 => ?_) (fun c_4 => ?_)
    · have f_5 := E_lt (rfl : p2.toInt = _) (rfl : p0.toInt = _) c_4
      refine lv_iconst (v := 0) hx hb dX12_isIn_14 (by decide) ?_
      have hP9 : va_P g.1 vwCl [] H := hP.sub [] rfl
      have hD9 : va_D A [] := ⟨fun i j p q h => by simp at h, fun k q h => by simp at h⟩
      exact W.zret (v := 0) (ty := .boolean) hx hb hr rfl (fun t ht hW => ⟨⟨0, (), rfl, (Or.inr (⟨rfl, by omega⟩)), by rw [ht]; exact hP9, by rw [hAe]; exact hD9⟩, hS.F ht⟩) hS.2.2 dX12_isIn_15
    · have f_6 := E_nlt (rfl : p2.toInt = _) (rfl : p0.toInt = _) c_4
      refine lv_iconst (v := 1) hx hb dX12_isIn_10 (by decide) ?_
      refine lv_goto (tgt := 15) hx hb dX12_isIn_11 (by decide) ?_
      have hP9 : va_P g.1 vwCl [] H := hP.sub [] rfl
      have hD9 : va_D A [] := ⟨fun i j p q h => by simp at h, fun k q h => by simp at h⟩
      exact W.zret (v := 1) (ty := .boolean) hx hb hr rfl (fun t ht hW => ⟨⟨1, (), rfl, (Or.inl ⟨rfl, by omega⟩), by rw [ht]; exact hP9, by rw [hAe]; exact hD9⟩, hS.F ht⟩) hS.2.2 dX12_isIn_15

theorem bw_818 : Cond.code yX12_isSide cX12_isSide 1 (some .boolean) ∈ gT := gT_tb 1810 (by decide +kernel) (by decide +kernel)
theorem dX12_isSide_0 : decode cX12_isSide 0 = .ok (.iload_n 0, 1) := by decide +kernel
theorem dX12_isSide_1 : decode cX12_isSide 1 = .ok (.ifCond .eq 8, 3) := by decide +kernel
theorem dX12_isSide_4 : decode cX12_isSide 4 = .ok (.iload_n 0, 1) := by decide +kernel
theorem dX12_isSide_5 : decode cX12_isSide 5 = .ok (.iconst 1, 1) := by decide +kernel
theorem dX12_isSide_6 : decode cX12_isSide 6 = .ok (.if_icmp .ne 7, 3) := by decide +kernel
theorem dX12_isSide_9 : decode cX12_isSide 9 = .ok (.iconst 1, 1) := by decide +kernel
theorem dX12_isSide_10 : decode cX12_isSide 10 = .ok (.goto 4, 3) := by decide +kernel
theorem dX12_isSide_13 : decode cX12_isSide 13 = .ok (.iconst 0, 1) := by decide +kernel
theorem dX12_isSide_14 : decode cX12_isSide 14 = .ok (.ireturn, 1) := by decide +kernel
set_option maxHeartbeats 40000000 in
set_option maxRecDepth 100000 in
theorem s_X12_isSide (l : Launch) (g : GG) (sz : Nat) (p0 : Int32) : Met l yX12_isSide (.code yX12_isSide cX12_isSide 1 (some .boolean) :: gT) ({ frames := 0, cells := 0, slots := 0, locals := 0 }) (va_Pc [.int p0] (Pst g sz [] nX)) (va_Qi (fun (r : Int32) => fun (_ : Unit) => (r = 1 ∧ (0 ≤ p0.toInt ∧ p0.toInt ≤ 1)) ∨ (r = 0)) (Qst g [] sz (fun _ => [])) (va_A [] sz)) 0 0 (va_A [] sz) := by
  refine Met.ofW (cc := cX12_isSide) (maxL := 1) (ret := (some .boolean)) (by decide) rfl ?_
  intro p e s m args below meth c s₁ B hml hv
  obtain ⟨rfl, hsz, hP, hK, hD0, hX⟩ := hv
  have hx := B.exec
  have hb := B.bytes
  have hr := B.returns
  have hT : ∀ w ∈ gT, w.before _ s = true := fun w h => atoms_spec (ws := .code yX12_isSide cX12_isSide 1 (some .boolean) :: gT) B.pre w (List.mem_cons_of_mem _ h)
  have hown : s.vm.findClass RX12 = some m.cls := findClass_of_methodNamed B.named
  have hlocks := B.notSynchronized
  subst hsz
  have hD := hD0
  generalize hAe : va_A [] s.heap.size = A at ⊢
  have hA : ∀ q : Nat, s.heap.size ≤ q → A q := fun q h => by rw [← hAe]; exact Or.inr h
  have hS : va_S A s.heap s.heap [] := va_S.rf
  have hl := lv_entry ([.int p0]) (n := 1) (Nat.le_of_ble_eq_true rfl)
  rw [lg_entry_eq]
  generalize (lg_sl ([.int p0]) ++ List.replicate (1 - (lg_sl ([.int p0])).length) Slot.unset).toArray = ls at hl ⊢
  have hl : lv_has ls 1 [(0, .int p0)] := hl
  refine p_nH (fun H hH => ?_)
  have hP : va_P g.1 vwCl [] H := by rw [hH]; exact hP
  have hS : va_S A s.heap H [] := by rw [hH]; exact hS
  refine lv_iload_n hx hb dX12_isSide_0 rfl (lv_at hl 0 rfl) ?_
  refine lv_if_eq (tgt := 9) hx hb dX12_isSide_1 (by decide) (fun c_1 => ?_) (fun c_1 => ?_)
  · have f_2 := E_eq (rfl : p0.toInt = _) (by decide : (0 : Int32).toInt = 0) c_1
    refine lv_iconst (v := 1) hx hb dX12_isSide_9 (by decide) ?_
    refine lv_goto (tgt := 14) hx hb dX12_isSide_10 (by decide) ?_
    have hP9 : va_P g.1 vwCl [] H := hP.sub [] rfl
    have hD9 : va_D A [] := ⟨fun i j p q h => by simp at h, fun k q h => by simp at h⟩
    exact W.zret (v := 1) (ty := .boolean) hx hb hr rfl (fun t ht hW => ⟨⟨1, (), rfl, (Or.inl ⟨rfl, by omega⟩), by rw [ht]; exact hP9, by rw [hAe]; exact hD9⟩, hS.F ht⟩) hS.2.2 dX12_isSide_14
  · have f_3 := E_ne (rfl : p0.toInt = _) (by decide : (0 : Int32).toInt = 0) c_1
    refine lv_iload_n hx hb dX12_isSide_4 rfl (lv_at hl 0 rfl) ?_
    refine lv_iconst (v := 1) hx hb dX12_isSide_5 (by decide) ?_
    refine lv_icmp_ne (tgt := 13) hx hb dX12_isSide_6 (by decide) (fun c_4 => ?_) (fun c_4 => ?_)
    · have f_5 := E_ne (rfl : p0.toInt = _) (by decide : (1 : Int32).toInt = 1) c_4
      refine lv_iconst (v := 0) hx hb dX12_isSide_13 (by decide) ?_
      have hP9 : va_P g.1 vwCl [] H := hP.sub [] rfl
      have hD9 : va_D A [] := ⟨fun i j p q h => by simp at h, fun k q h => by simp at h⟩
      exact W.zret (v := 0) (ty := .boolean) hx hb hr rfl (fun t ht hW => ⟨⟨0, (), rfl, (Or.inr (rfl)), by rw [ht]; exact hP9, by rw [hAe]; exact hD9⟩, hS.F ht⟩) hS.2.2 dX12_isSide_14
    · have f_6 := E_eq (rfl : p0.toInt = _) (by decide : (1 : Int32).toInt = 1) c_4
      refine lv_iconst (v := 1) hx hb dX12_isSide_9 (by decide) ?_
      refine lv_goto (tgt := 14) hx hb dX12_isSide_10 (by decide) ?_
      have hP9 : va_P g.1 vwCl [] H := hP.sub [] rfl
      have hD9 : va_D A [] := ⟨fun i j p q h => by simp at h, fun k q h => by simp at h⟩
      exact W.zret (v := 1) (ty := .boolean) hx hb hr rfl (fun t ht hW => ⟨⟨1, (), rfl, (Or.inl ⟨rfl, by omega⟩), by rw [ht]; exact hP9, by rw [hAe]; exact hD9⟩, hS.F ht⟩) hS.2.2 dX12_isSide_14

theorem bw_819 : Cond.code yX12_latestOf cX12_latestOf 1 (some .int) ∈ gT := gT_tb 1849 (by decide +kernel) (by decide +kernel)
theorem dX12_latestOf_0 : decode cX12_latestOf 0 = .ok (.iload_n 0, 1) := by decide +kernel
theorem dX12_latestOf_1 : decode cX12_latestOf 1 = .ok (.sipush 9999, 3) := by decide +kernel
theorem dX12_latestOf_4 : decode cX12_latestOf 4 = .ok (.if_icmp .le 9, 3) := by decide +kernel
theorem dX12_latestOf_7 : decode cX12_latestOf 7 = .ok (.sipush 9999, 3) := by decide +kernel
theorem dX12_latestOf_10 : decode cX12_latestOf 10 = .ok (.goto 4, 3) := by decide +kernel
theorem dX12_latestOf_13 : decode cX12_latestOf 13 = .ok (.iload_n 0, 1) := by decide +kernel
theorem dX12_latestOf_14 : decode cX12_latestOf 14 = .ok (.ireturn, 1) := by decide +kernel
set_option maxHeartbeats 40000000 in
set_option maxRecDepth 100000 in
theorem s_X12_latestOf (l : Launch) (g : GG) (sz : Nat) (p0 : Int32) : Met l yX12_latestOf (.code yX12_latestOf cX12_latestOf 1 (some .int) :: gT) ({ frames := 0, cells := 0, slots := 0, locals := 0 }) (va_Pc [.int p0] (Pst g sz [] nX)) (va_Qi (fun (r : Int32) => fun (_ : Unit) => (-2147483648) ≤ r.toInt ∧ r.toInt ≤ 9999) (Qst g [] sz (fun _ => [])) (va_A [] sz)) 0 0 (va_A [] sz) := by
  refine Met.ofW (cc := cX12_latestOf) (maxL := 1) (ret := (some .int)) (by decide) rfl ?_
  intro p e s m args below meth c s₁ B hml hv
  obtain ⟨rfl, hsz, hP, hK, hD0, hX⟩ := hv
  have hx := B.exec
  have hb := B.bytes
  have hr := B.returns
  have hT : ∀ w ∈ gT, w.before _ s = true := fun w h => atoms_spec (ws := .code yX12_latestOf cX12_latestOf 1 (some .int) :: gT) B.pre w (List.mem_cons_of_mem _ h)
  have hown : s.vm.findClass RX12 = some m.cls := findClass_of_methodNamed B.named
  have hlocks := B.notSynchronized
  subst hsz
  have hD := hD0
  generalize hAe : va_A [] s.heap.size = A at ⊢
  have hA : ∀ q : Nat, s.heap.size ≤ q → A q := fun q h => by rw [← hAe]; exact Or.inr h
  have hS : va_S A s.heap s.heap [] := va_S.rf
  have hl := lv_entry ([.int p0]) (n := 1) (Nat.le_of_ble_eq_true rfl)
  rw [lg_entry_eq]
  generalize (lg_sl ([.int p0]) ++ List.replicate (1 - (lg_sl ([.int p0])).length) Slot.unset).toArray = ls at hl ⊢
  have hl : lv_has ls 1 [(0, .int p0)] := hl
  refine p_nH (fun H hH => ?_)
  have hP : va_P g.1 vwCl [] H := by rw [hH]; exact hP
  have hS : va_S A s.heap H [] := by rw [hH]; exact hS
  refine lv_iload_n hx hb dX12_latestOf_0 rfl (lv_at hl 0 rfl) ?_
  refine lv_sipush (v := 9999) hx hb dX12_latestOf_1 (by decide) ?_
  refine lv_icmp_le (tgt := 13) hx hb dX12_latestOf_4 (by decide) (fun c_1 => ?_) (fun c_1 => ?_)
  · have f_2 := E_le (rfl : p0.toInt = _) (by decide : (9999 : Int32).toInt = 9999) c_1
    refine lv_iload_n hx hb dX12_latestOf_13 rfl (lv_at hl 0 rfl) ?_
    have hP9 : va_P g.1 vwCl [] H := hP.sub [] rfl
    have hD9 : va_D A [] := ⟨fun i j p q h => by simp at h, fun k q h => by simp at h⟩
    exact W.iret (v := p0) hx hb hr (fun t ht hW => ⟨⟨p0, (), rfl, (by have q9 := I_rng p0; omega), by rw [ht]; exact hP9, by rw [hAe]; exact hD9⟩, hS.F ht⟩) hS.2.2 dX12_latestOf_14
  · have f_3 := E_nle (rfl : p0.toInt = _) (by decide : (9999 : Int32).toInt = 9999) c_1
    refine lv_sipush (v := 9999) hx hb dX12_latestOf_7 (by decide) ?_
    refine lv_goto (tgt := 14) hx hb dX12_latestOf_10 (by decide) ?_
    have hP9 : va_P g.1 vwCl [] H := hP.sub [] rfl
    have hD9 : va_D A [] := ⟨fun i j p q h => by simp at h, fun k q h => by simp at h⟩
    exact W.iret (v := 9999) hx hb hr (fun t ht hW => ⟨⟨9999, (), rfl, ⟨by decide, by decide⟩, by rw [ht]; exact hP9, by rw [hAe]; exact hD9⟩, hS.F ht⟩) hS.2.2 dX12_latestOf_14

set_option maxRecDepth 20000 in
theorem inF_X12 : ∀ w ∈ u_ws RX12 TX12 87, w ∈ gT := gT_u [1392, 1394, 1396, 1398, 1400, 1402, 1404, 1406, 1408, 1410, 1412, 1414, 1416, 1418, 1420, 1422, 1424, 1426, 1428, 1430, 1432, 1434, 1436, 1438, 1440, 1442, 1444, 1446, 1448, 1450, 1452, 1454, 1456, 1458, 1460, 1462, 1464, 1466, 1468, 1470, 1472, 1474, 1476, 1478, 1480, 1482, 1484, 1486, 1488, 1490, 1492, 1494, 1496, 1498, 1500, 1502, 1504, 1506, 1508, 1510, 1512, 1514, 1516, 1518, 1520, 1522, 1524, 1526, 1528, 1530, 1532, 1534, 1536, 1538, 1540, 1542, 1544, 1546, 1548, 1550, 1552, 1554, 1556, 1558, 1560, 1562, 1564] (by decide +kernel) (by decide +kernel)
theorem bw_820 : Cond.fieldLink RX12 16 "DuelDelaysModel" "faultPlace" "I" ∈ gT := gT_tb 1310 (by decide +kernel) (by decide +kernel)
theorem bw_821 : Cond.fieldLink RX12 185 "DuelDelaysModel" "faultKind" "I" ∈ gT := gT_tb 1309 (by decide +kernel) (by decide +kernel)
theorem bw_822 : Cond.code yX12_fault cX12_fault 2 (some .int) ∈ gT := gT_tb 1738 (by decide +kernel) (by decide +kernel)
theorem dX12_fault_0 : decode cX12_fault 0 = .ok (.iload_n 1, 1) := by decide +kernel
theorem dX12_fault_1 : decode cX12_fault 1 = .ok (.ifCond .ne 10, 3) := by decide +kernel
theorem dX12_fault_4 : decode cX12_fault 4 = .ok (.aload_n 0, 1) := by decide +kernel
theorem dX12_fault_5 : decode cX12_fault 5 = .ok (.getfield 185, 3) := by decide +kernel
theorem dX12_fault_8 : decode cX12_fault 8 = .ok (.goto 16, 3) := by decide +kernel
theorem dX12_fault_11 : decode cX12_fault 11 = .ok (.iload_n 1, 1) := by decide +kernel
theorem dX12_fault_12 : decode cX12_fault 12 = .ok (.iconst 1, 1) := by decide +kernel
theorem dX12_fault_13 : decode cX12_fault 13 = .ok (.if_icmp .ne 10, 3) := by decide +kernel
theorem dX12_fault_16 : decode cX12_fault 16 = .ok (.aload_n 0, 1) := by decide +kernel
theorem dX12_fault_17 : decode cX12_fault 17 = .ok (.getfield 16, 3) := by decide +kernel
theorem dX12_fault_20 : decode cX12_fault 20 = .ok (.goto 4, 3) := by decide +kernel
theorem dX12_fault_23 : decode cX12_fault 23 = .ok (.iconst (-1), 1) := by decide +kernel
theorem dX12_fault_24 : decode cX12_fault 24 = .ok (.ireturn, 1) := by decide +kernel
set_option maxHeartbeats 40000000 in
set_option maxRecDepth 100000 in
theorem s_X12_fault (l : Launch) (g : GG) (sz : Nat) (h : Nat) (mtape : Nat) (mtext : Nat) (mtaped : Int32) (msize : Int32) (mfaultKind : Int32) (mfaultPlace : Int32) (mat : Int32) (mend : Int32) (mtoken : Int32) (mnumber : Int32) (mname : Int64) (mmen : Nat) (mkinds : Nat) (mreasons : Nat) (mtold : Nat) (munits : Nat) (mhonour : Nat) (mdraw : Nat) (mdies : Nat) (mcoin : Nat) (msonOf : Nat) (mkindOf : Nat) (mowner : Nat) (mfirst : Nat) (mlast : Nat) (mrent : Nat) (msort : Nat) (mduelOne : Nat) (mduelOther : Nat) (mduelOn : Nat) (mruleFrom : Nat) (mruleTo : Nat) (mhasHonour : Nat) (mhasDraw : Nat) (mmName : Nat) (mkName : Nat) (mrName : Nat) (mdName : Nat) (mcode : Nat) (mcodeNumber : Nat) (meWhat : Nat) (meSign : Nat) (mpile : Nat) (mbank : Int32) (mrb : Int32) (mcodes : Int32) (mwithin : Int32) (mpiled : Int32) (munitsInRule : Int32) (maskDay : Int32) (maskUses : Int32) (maskSpent : Int32) (mall : Nat) (mwas : Nat) (macts : Int32) (mundone : Int32) (musedBy0 : Nat) (musedBy1 : Nat) (mmornings : Nat) (mcameFrom : Nat) (mcameBy : Nat) (mlevelAt : Nat) (mwins : Nat) (mslots : Nat) (mlevelOf : Nat) (mworthOf : Nat) (mstates : Int32) (mlevels : Int32) (mside0 : Int32) (mside1 : Int32) (mdeathDay : Int32) (maway : Int32) (mhires : Int32) (mhirer : Int32) (mslotFound : Int32) (misSpent : Int32) (mfound : Int32) (mlaid : Int32) (mlaidRow : Nat) (mgReason : Nat) (mgDay : Nat) (mgTold : Nat) (mgUntold : Nat) (msights : Int32) (mtime : Int32) (mboxAll : Nat) (misBoxed : Nat) (p0 : Int32) (hh0 : 0 ≤ mtaped.toInt ∧ mtaped.toInt ≤ 1600) (hh1 : 0 ≤ msize.toInt ∧ msize.toInt ≤ 1600) (hh2 : 0 ≤ mat.toInt ∧ mat.toInt ≤ 1600) (hh3 : 0 ≤ mend.toInt ∧ mend.toInt ≤ 1600) (hh4 : 0 ≤ mtoken.toInt ∧ mtoken.toInt ≤ 5) (hh18 : 0 ≤ mbank.toInt ∧ mbank.toInt ≤ 1) (hh19 : 0 ≤ mrb.toInt ∧ mrb.toInt ≤ 1) (hh20 : 0 ≤ mcodes.toInt ∧ mcodes.toInt ≤ 1120) (hh21 : 0 ≤ mpiled.toInt ∧ mpiled.toInt ≤ 90) (hh22 : 0 ≤ munitsInRule.toInt ∧ munitsInRule.toInt ≤ 30) (hh25 : 0 ≤ macts.toInt ∧ macts.toInt ≤ 40) (hh26 : 0 ≤ mundone.toInt ∧ mundone.toInt ≤ 40) (hh34 : 0 ≤ mstates.toInt ∧ mstates.toInt ≤ 3000) (hh35 : 0 ≤ mlevels.toInt ∧ mlevels.toInt ≤ 18) (hh36 : 0 ≤ mside0.toInt ∧ mside0.toInt ≤ 5) (hh37 : 0 ≤ mside1.toInt ∧ mside1.toInt ≤ 5) (hh38 : 0 ≤ mslotFound.toInt ∧ mslotFound.toInt ≤ 8191) (hh39 : 0 ≤ misSpent.toInt ∧ misSpent.toInt ≤ 1) (hh40 : 0 ≤ mlaid.toInt ∧ mlaid.toInt ≤ 16) (hh41 : 0 ≤ msights.toInt ∧ msights.toInt ≤ 30) (hh42 : 0 ≤ mtime.toInt ∧ mtime.toInt ≤ 100000) : Met l yX12_fault (.code yX12_fault cX12_fault 2 (some .int) :: gT) ({ frames := 0, cells := 0, slots := 0, locals := 0 }) (va_Pc [.ref h, .int p0] (Pst g sz [(h, .inr (12, [.ref mtape, .ref mtext, .int mtaped, .int msize, .int mfaultKind, .int mfaultPlace, .int mat, .int mend, .int mtoken, .int mnumber, .long mname, .ref mmen, .ref mkinds, .ref mreasons, .ref mtold, .ref munits, .ref mhonour, .ref mdraw, .ref mdies, .ref mcoin, .ref msonOf, .ref mkindOf, .ref mowner, .ref mfirst, .ref mlast, .ref mrent, .ref msort, .ref mduelOne, .ref mduelOther, .ref mduelOn, .ref mruleFrom, .ref mruleTo, .ref mhasHonour, .ref mhasDraw, .ref mmName, .ref mkName, .ref mrName, .ref mdName, .ref mcode, .ref mcodeNumber, .ref meWhat, .ref meSign, .ref mpile, .int mbank, .int mrb, .int mcodes, .int mwithin, .int mpiled, .int munitsInRule, .int maskDay, .int maskUses, .int maskSpent, .ref mall, .ref mwas, .int macts, .int mundone, .ref musedBy0, .ref musedBy1, .ref mmornings, .ref mcameFrom, .ref mcameBy, .ref mlevelAt, .ref mwins, .ref mslots, .ref mlevelOf, .ref mworthOf, .int mstates, .int mlevels, .int mside0, .int mside1, .int mdeathDay, .int maway, .int mhires, .int mhirer, .int mslotFound, .int misSpent, .int mfound, .int mlaid, .ref mlaidRow, .ref mgReason, .ref mgDay, .ref mgTold, .ref mgUntold, .int msights, .int mtime, .ref mboxAll, .ref misBoxed]))] nX)) (va_Qi (fun (r : Int32) => fun (_ : Unit) => True) (Qst g [] sz (fun _ => [])) (va_A [] sz)) 0 0 (va_A [] sz) := by
  refine Met.ofW (cc := cX12_fault) (maxL := 2) (ret := (some .int)) (by decide) rfl ?_
  intro p e s m args below meth c s₁ B hml hv
  obtain ⟨rfl, hsz, hP, hK, hD0, hX⟩ := hv
  have hx := B.exec
  have hb := B.bytes
  have hr := B.returns
  have hT : ∀ w ∈ gT, w.before _ s = true := fun w h => atoms_spec (ws := .code yX12_fault cX12_fault 2 (some .int) :: gT) B.pre w (List.mem_cons_of_mem _ h)
  have hown : s.vm.findClass RX12 = some m.cls := findClass_of_methodNamed B.named
  have hlocks := B.notSynchronized
  subst hsz
  have hD := hD0
  generalize hAe : va_A [] s.heap.size = A at ⊢
  have hA : ∀ q : Nat, s.heap.size ≤ q → A q := fun q h => by rw [← hAe]; exact Or.inr h
  have hS : va_S A s.heap s.heap [] := va_S.rf
  have hl := lv_entry ([.ref h, .int p0]) (n := 2) (Nat.le_of_ble_eq_true rfl)
  rw [lg_entry_eq]
  generalize (lg_sl ([.ref h, .int p0]) ++ List.replicate (2 - (lg_sl ([.ref h, .int p0])).length) Slot.unset).toArray = ls at hl ⊢
  have hl : lv_has ls 2 [(0, .ref h), (1, .int p0)] := hl
  refine p_nH (fun H hH => ?_)
  have hP : va_P g.1 vwCl [(h, .inr (12, [.ref mtape, .ref mtext, .int mtaped, .int msize, .int mfaultKind, .int mfaultPlace, .int mat, .int mend, .int mtoken, .int mnumber, .long mname, .ref mmen, .ref mkinds, .ref mreasons, .ref mtold, .ref munits, .ref mhonour, .ref mdraw, .ref mdies, .ref mcoin, .ref msonOf, .ref mkindOf, .ref mowner, .ref mfirst, .ref mlast, .ref mrent, .ref msort, .ref mduelOne, .ref mduelOther, .ref mduelOn, .ref mruleFrom, .ref mruleTo, .ref mhasHonour, .ref mhasDraw, .ref mmName, .ref mkName, .ref mrName, .ref mdName, .ref mcode, .ref mcodeNumber, .ref meWhat, .ref meSign, .ref mpile, .int mbank, .int mrb, .int mcodes, .int mwithin, .int mpiled, .int munitsInRule, .int maskDay, .int maskUses, .int maskSpent, .ref mall, .ref mwas, .int macts, .int mundone, .ref musedBy0, .ref musedBy1, .ref mmornings, .ref mcameFrom, .ref mcameBy, .ref mlevelAt, .ref mwins, .ref mslots, .ref mlevelOf, .ref mworthOf, .int mstates, .int mlevels, .int mside0, .int mside1, .int mdeathDay, .int maway, .int mhires, .int mhirer, .int mslotFound, .int misSpent, .int mfound, .int mlaid, .ref mlaidRow, .ref mgReason, .ref mgDay, .ref mgTold, .ref mgUntold, .int msights, .int mtime, .ref mboxAll, .ref misBoxed]))] H := by rw [hH]; exact hP
  have hS : va_S A s.heap H [] := by rw [hH]; exact hS
  refine lv_iload_n hx hb dX12_fault_0 rfl (lv_at hl 1 rfl) ?_
  refine lv_if_ne (tgt := 11) hx hb dX12_fault_1 (by decide) (fun c_1 => ?_) (fun c_1 => ?_)
  · have f_2 := E_ne (rfl : p0.toInt = _) (by decide : (0 : Int32).toInt = 0) c_1
    refine lv_iload_n hx hb dX12_fault_11 rfl (lv_at hl 1 rfl) ?_
    refine lv_iconst (v := 1) hx hb dX12_fault_12 (by decide) ?_
    refine lv_icmp_ne (tgt := 23) hx hb dX12_fault_13 (by decide) (fun c_3 => ?_) (fun c_3 => ?_)
    · have f_4 := E_ne (rfl : p0.toInt = _) (by decide : (1 : Int32).toInt = 1) c_3
      refine lv_iconst (v := (-1)) hx hb dX12_fault_23 (by decide) ?_
      have hP9 : va_P g.1 vwCl [] H := hP.sub [] rfl
      have hD9 : va_D A [] := ⟨fun i j p q h => by simp at h, fun k q h => by simp at h⟩
      exact W.iret (v := (-1)) hx hb hr (fun t ht hW => ⟨⟨(-1), (), rfl, trivial, by rw [ht]; exact hP9, by rw [hAe]; exact hD9⟩, hS.F ht⟩) hS.2.2 dX12_fault_24
    · have f_5 := E_eq (rfl : p0.toInt = _) (by decide : (1 : Int32).toInt = 1) c_3
      refine lv_aload_n hx hb dX12_fault_16 rfl (lv_at hl 0 rfl) ?_
      refine va_get (D := g.1) (ci := 12) (v := .int mfaultPlace) (C := RX12) (T := TX12) (N := 87) hx hb hT inF_X12 hown hK.1 hP 0 rfl rfl 5 (by decide) (hT _ bw_820) (fun _ h9 => h9) rfl dX12_fault_17 ?_
      refine lv_goto (tgt := 24) hx hb dX12_fault_20 (by decide) ?_
      have hP9 : va_P g.1 vwCl [] H := hP.sub [] rfl
      have hD9 : va_D A [] := ⟨fun i j p q h => by simp at h, fun k q h => by simp at h⟩
      exact W.iret (v := mfaultPlace) hx hb hr (fun t ht hW => ⟨⟨mfaultPlace, (), rfl, trivial, by rw [ht]; exact hP9, by rw [hAe]; exact hD9⟩, hS.F ht⟩) hS.2.2 dX12_fault_24
  · have f_6 := E_eq (rfl : p0.toInt = _) (by decide : (0 : Int32).toInt = 0) c_1
    refine lv_aload_n hx hb dX12_fault_4 rfl (lv_at hl 0 rfl) ?_
    refine va_get (D := g.1) (ci := 12) (v := .int mfaultKind) (C := RX12) (T := TX12) (N := 87) hx hb hT inF_X12 hown hK.1 hP 0 rfl rfl 4 (by decide) (hT _ bw_821) (fun _ h9 => h9) rfl dX12_fault_5 ?_
    refine lv_goto (tgt := 24) hx hb dX12_fault_8 (by decide) ?_
    have hP9 : va_P g.1 vwCl [] H := hP.sub [] rfl
    have hD9 : va_D A [] := ⟨fun i j p q h => by simp at h, fun k q h => by simp at h⟩
    exact W.iret (v := mfaultKind) hx hb hr (fun t ht hW => ⟨⟨mfaultKind, (), rfl, trivial, by rw [ht]; exact hP9, by rw [hAe]; exact hD9⟩, hS.F ht⟩) hS.2.2 dX12_fault_24

theorem bw_823 : Cond.code yX12_isGood cX12_isGood 1 (some .boolean) ∈ gT := gT_tb 1618 (by decide +kernel) (by decide +kernel)
theorem dX12_isGood_0 : decode cX12_isGood 0 = .ok (.aload_n 0, 1) := by decide +kernel
theorem dX12_isGood_1 : decode cX12_isGood 1 = .ok (.getfield 185, 3) := by decide +kernel
theorem dX12_isGood_4 : decode cX12_isGood 4 = .ok (.ifCond .ne 7, 3) := by decide +kernel
theorem dX12_isGood_7 : decode cX12_isGood 7 = .ok (.iconst 1, 1) := by decide +kernel
theorem dX12_isGood_8 : decode cX12_isGood 8 = .ok (.goto 4, 3) := by decide +kernel
theorem dX12_isGood_11 : decode cX12_isGood 11 = .ok (.iconst 0, 1) := by decide +kernel
theorem dX12_isGood_12 : decode cX12_isGood 12 = .ok (.ireturn, 1) := by decide +kernel
set_option maxHeartbeats 40000000 in
set_option maxRecDepth 100000 in
theorem s_X12_isGood (l : Launch) (g : GG) (sz : Nat) (h : Nat) (mtape : Nat) (mtext : Nat) (mtaped : Int32) (msize : Int32) (mfaultKind : Int32) (mfaultPlace : Int32) (mat : Int32) (mend : Int32) (mtoken : Int32) (mnumber : Int32) (mname : Int64) (mmen : Nat) (mkinds : Nat) (mreasons : Nat) (mtold : Nat) (munits : Nat) (mhonour : Nat) (mdraw : Nat) (mdies : Nat) (mcoin : Nat) (msonOf : Nat) (mkindOf : Nat) (mowner : Nat) (mfirst : Nat) (mlast : Nat) (mrent : Nat) (msort : Nat) (mduelOne : Nat) (mduelOther : Nat) (mduelOn : Nat) (mruleFrom : Nat) (mruleTo : Nat) (mhasHonour : Nat) (mhasDraw : Nat) (mmName : Nat) (mkName : Nat) (mrName : Nat) (mdName : Nat) (mcode : Nat) (mcodeNumber : Nat) (meWhat : Nat) (meSign : Nat) (mpile : Nat) (mbank : Int32) (mrb : Int32) (mcodes : Int32) (mwithin : Int32) (mpiled : Int32) (munitsInRule : Int32) (maskDay : Int32) (maskUses : Int32) (maskSpent : Int32) (mall : Nat) (mwas : Nat) (macts : Int32) (mundone : Int32) (musedBy0 : Nat) (musedBy1 : Nat) (mmornings : Nat) (mcameFrom : Nat) (mcameBy : Nat) (mlevelAt : Nat) (mwins : Nat) (mslots : Nat) (mlevelOf : Nat) (mworthOf : Nat) (mstates : Int32) (mlevels : Int32) (mside0 : Int32) (mside1 : Int32) (mdeathDay : Int32) (maway : Int32) (mhires : Int32) (mhirer : Int32) (mslotFound : Int32) (misSpent : Int32) (mfound : Int32) (mlaid : Int32) (mlaidRow : Nat) (mgReason : Nat) (mgDay : Nat) (mgTold : Nat) (mgUntold : Nat) (msights : Int32) (mtime : Int32) (mboxAll : Nat) (misBoxed : Nat) (hh0 : 0 ≤ mtaped.toInt ∧ mtaped.toInt ≤ 1600) (hh1 : 0 ≤ msize.toInt ∧ msize.toInt ≤ 1600) (hh2 : 0 ≤ mat.toInt ∧ mat.toInt ≤ 1600) (hh3 : 0 ≤ mend.toInt ∧ mend.toInt ≤ 1600) (hh4 : 0 ≤ mtoken.toInt ∧ mtoken.toInt ≤ 5) (hh18 : 0 ≤ mbank.toInt ∧ mbank.toInt ≤ 1) (hh19 : 0 ≤ mrb.toInt ∧ mrb.toInt ≤ 1) (hh20 : 0 ≤ mcodes.toInt ∧ mcodes.toInt ≤ 1120) (hh21 : 0 ≤ mpiled.toInt ∧ mpiled.toInt ≤ 90) (hh22 : 0 ≤ munitsInRule.toInt ∧ munitsInRule.toInt ≤ 30) (hh25 : 0 ≤ macts.toInt ∧ macts.toInt ≤ 40) (hh26 : 0 ≤ mundone.toInt ∧ mundone.toInt ≤ 40) (hh34 : 0 ≤ mstates.toInt ∧ mstates.toInt ≤ 3000) (hh35 : 0 ≤ mlevels.toInt ∧ mlevels.toInt ≤ 18) (hh36 : 0 ≤ mside0.toInt ∧ mside0.toInt ≤ 5) (hh37 : 0 ≤ mside1.toInt ∧ mside1.toInt ≤ 5) (hh38 : 0 ≤ mslotFound.toInt ∧ mslotFound.toInt ≤ 8191) (hh39 : 0 ≤ misSpent.toInt ∧ misSpent.toInt ≤ 1) (hh40 : 0 ≤ mlaid.toInt ∧ mlaid.toInt ≤ 16) (hh41 : 0 ≤ msights.toInt ∧ msights.toInt ≤ 30) (hh42 : 0 ≤ mtime.toInt ∧ mtime.toInt ≤ 100000) : Met l yX12_isGood (.code yX12_isGood cX12_isGood 1 (some .boolean) :: gT) ({ frames := 0, cells := 0, slots := 0, locals := 0 }) (va_Pc [.ref h] (Pst g sz [(h, .inr (12, [.ref mtape, .ref mtext, .int mtaped, .int msize, .int mfaultKind, .int mfaultPlace, .int mat, .int mend, .int mtoken, .int mnumber, .long mname, .ref mmen, .ref mkinds, .ref mreasons, .ref mtold, .ref munits, .ref mhonour, .ref mdraw, .ref mdies, .ref mcoin, .ref msonOf, .ref mkindOf, .ref mowner, .ref mfirst, .ref mlast, .ref mrent, .ref msort, .ref mduelOne, .ref mduelOther, .ref mduelOn, .ref mruleFrom, .ref mruleTo, .ref mhasHonour, .ref mhasDraw, .ref mmName, .ref mkName, .ref mrName, .ref mdName, .ref mcode, .ref mcodeNumber, .ref meWhat, .ref meSign, .ref mpile, .int mbank, .int mrb, .int mcodes, .int mwithin, .int mpiled, .int munitsInRule, .int maskDay, .int maskUses, .int maskSpent, .ref mall, .ref mwas, .int macts, .int mundone, .ref musedBy0, .ref musedBy1, .ref mmornings, .ref mcameFrom, .ref mcameBy, .ref mlevelAt, .ref mwins, .ref mslots, .ref mlevelOf, .ref mworthOf, .int mstates, .int mlevels, .int mside0, .int mside1, .int mdeathDay, .int maway, .int mhires, .int mhirer, .int mslotFound, .int misSpent, .int mfound, .int mlaid, .ref mlaidRow, .ref mgReason, .ref mgDay, .ref mgTold, .ref mgUntold, .int msights, .int mtime, .ref mboxAll, .ref misBoxed]))] nX)) (va_Qi (fun (r : Int32) => fun (_ : Unit) => 0 ≤ r.toInt ∧ r.toInt ≤ 1) (Qst g [] sz (fun _ => [])) (va_A [] sz)) 0 0 (va_A [] sz) := by
  refine Met.ofW (cc := cX12_isGood) (maxL := 1) (ret := (some .boolean)) (by decide) rfl ?_
  intro p e s m args below meth c s₁ B hml hv
  obtain ⟨rfl, hsz, hP, hK, hD0, hX⟩ := hv
  have hx := B.exec
  have hb := B.bytes
  have hr := B.returns
  have hT : ∀ w ∈ gT, w.before _ s = true := fun w h => atoms_spec (ws := .code yX12_isGood cX12_isGood 1 (some .boolean) :: gT) B.pre w (List.mem_cons_of_mem _ h)
  have hown : s.vm.findClass RX12 = some m.cls := findClass_of_methodNamed B.named
  have hlocks := B.notSynchronized
  subst hsz
  have hD := hD0
  generalize hAe : va_A [] s.heap.size = A at ⊢
  have hA : ∀ q : Nat, s.heap.size ≤ q → A q := fun q h => by rw [← hAe]; exact Or.inr h
  have hS : va_S A s.heap s.heap [] := va_S.rf
  have hl := lv_entry ([.ref h]) (n := 1) (Nat.le_of_ble_eq_true rfl)
  rw [lg_entry_eq]
  generalize (lg_sl ([.ref h]) ++ List.replicate (1 - (lg_sl ([.ref h])).length) Slot.unset).toArray = ls at hl ⊢
  have hl : lv_has ls 1 [(0, .ref h)] := hl
  refine p_nH (fun H hH => ?_)
  have hP : va_P g.1 vwCl [(h, .inr (12, [.ref mtape, .ref mtext, .int mtaped, .int msize, .int mfaultKind, .int mfaultPlace, .int mat, .int mend, .int mtoken, .int mnumber, .long mname, .ref mmen, .ref mkinds, .ref mreasons, .ref mtold, .ref munits, .ref mhonour, .ref mdraw, .ref mdies, .ref mcoin, .ref msonOf, .ref mkindOf, .ref mowner, .ref mfirst, .ref mlast, .ref mrent, .ref msort, .ref mduelOne, .ref mduelOther, .ref mduelOn, .ref mruleFrom, .ref mruleTo, .ref mhasHonour, .ref mhasDraw, .ref mmName, .ref mkName, .ref mrName, .ref mdName, .ref mcode, .ref mcodeNumber, .ref meWhat, .ref meSign, .ref mpile, .int mbank, .int mrb, .int mcodes, .int mwithin, .int mpiled, .int munitsInRule, .int maskDay, .int maskUses, .int maskSpent, .ref mall, .ref mwas, .int macts, .int mundone, .ref musedBy0, .ref musedBy1, .ref mmornings, .ref mcameFrom, .ref mcameBy, .ref mlevelAt, .ref mwins, .ref mslots, .ref mlevelOf, .ref mworthOf, .int mstates, .int mlevels, .int mside0, .int mside1, .int mdeathDay, .int maway, .int mhires, .int mhirer, .int mslotFound, .int misSpent, .int mfound, .int mlaid, .ref mlaidRow, .ref mgReason, .ref mgDay, .ref mgTold, .ref mgUntold, .int msights, .int mtime, .ref mboxAll, .ref misBoxed]))] H := by rw [hH]; exact hP
  have hS : va_S A s.heap H [] := by rw [hH]; exact hS
  refine lv_aload_n hx hb dX12_isGood_0 rfl (lv_at hl 0 rfl) ?_
  refine va_get (D := g.1) (ci := 12) (v := .int mfaultKind) (C := RX12) (T := TX12) (N := 87) hx hb hT inF_X12 hown hK.1 hP 0 rfl rfl 4 (by decide) (hT _ bw_821) (fun _ h9 => h9) rfl dX12_isGood_1 ?_
  refine lv_if_ne (tgt := 11) hx hb dX12_isGood_4 (by decide) (fun c_1 => ?_) (fun c_1 => ?_)
  · have f_2 := E_ne (rfl : mfaultKind.toInt = _) (by decide : (0 : Int32).toInt = 0) c_1
    refine lv_iconst (v := 0) hx hb dX12_isGood_11 (by decide) ?_
    have hP9 : va_P g.1 vwCl [] H := hP.sub [] rfl
    have hD9 : va_D A [] := ⟨fun i j p q h => by simp at h, fun k q h => by simp at h⟩
    exact W.zret (v := 0) (ty := .boolean) hx hb hr rfl (fun t ht hW => ⟨⟨0, (), rfl, ⟨by decide, by decide⟩, by rw [ht]; exact hP9, by rw [hAe]; exact hD9⟩, hS.F ht⟩) hS.2.2 dX12_isGood_12
  · have f_3 := E_eq (rfl : mfaultKind.toInt = _) (by decide : (0 : Int32).toInt = 0) c_1
    refine lv_iconst (v := 1) hx hb dX12_isGood_7 (by decide) ?_
    refine lv_goto (tgt := 12) hx hb dX12_isGood_8 (by decide) ?_
    have hP9 : va_P g.1 vwCl [] H := hP.sub [] rfl
    have hD9 : va_D A [] := ⟨fun i j p q h => by simp at h, fun k q h => by simp at h⟩
    exact W.zret (v := 1) (ty := .boolean) hx hb hr rfl (fun t ht hW => ⟨⟨1, (), rfl, ⟨by decide, by decide⟩, by rw [ht]; exact hP9, by rw [hAe]; exact hD9⟩, hS.F ht⟩) hS.2.2 dX12_isGood_12

theorem bw_824 : Cond.fieldLink RX12 20 "DuelDelaysModel" "men" "[I" ∈ gT := gT_tb 1316 (by decide +kernel) (by decide +kernel)
theorem bw_825 : Cond.fieldLink RX12 308 "DuelDelaysModel" "bank" "I" ∈ gT := gT_tb 1348 (by decide +kernel) (by decide +kernel)
theorem bw_826 : Cond.methodLink RX12 411 yX12_isIn ∈ gT := gT_tb 1747 (by decide +kernel) (by decide +kernel)
theorem bw_827 : Cond.static yX12_isIn ∈ gT := gT_tb 1748 (by decide +kernel) (by decide +kernel)
theorem bw_828 : Cond.initialized yX12_isIn.cls ∈ gT := gT_tb 19 (by decide +kernel) (by decide +kernel)
theorem bw_829 : Cond.code yX12_isMan cX12_isMan 2 (some .boolean) ∈ gT := gT_tb 1746 (by decide +kernel) (by decide +kernel)
theorem dX12_isMan_0 : decode cX12_isMan 0 = .ok (.iload_n 1, 1) := by decide +kernel
theorem dX12_isMan_1 : decode cX12_isMan 1 = .ok (.iconst 0, 1) := by decide +kernel
theorem dX12_isMan_2 : decode cX12_isMan 2 = .ok (.aload_n 0, 1) := by decide +kernel
theorem dX12_isMan_3 : decode cX12_isMan 3 = .ok (.getfield 20, 3) := by decide +kernel
theorem dX12_isMan_6 : decode cX12_isMan 6 = .ok (.aload_n 0, 1) := by decide +kernel
theorem dX12_isMan_7 : decode cX12_isMan 7 = .ok (.getfield 308, 3) := by decide +kernel
theorem dX12_isMan_10 : decode cX12_isMan 10 = .ok (.iaload, 1) := by decide +kernel
theorem dX12_isMan_11 : decode cX12_isMan 11 = .ok (.iconst 1, 1) := by decide +kernel
theorem dX12_isMan_12 : decode cX12_isMan 12 = .ok (.isub, 1) := by decide +kernel
theorem dX12_isMan_13 : decode cX12_isMan 13 = .ok (.invokestatic 411, 3) := by decide +kernel
theorem dX12_isMan_16 : decode cX12_isMan 16 = .ok (.ireturn, 1) := by decide +kernel
set_option maxHeartbeats 40000000 in
set_option maxRecDepth 100000 in
theorem s_X12_isMan (l : Launch) (g : GG) (sz : Nat) (h : Nat) (mtape : Nat) (mtext : Nat) (mtaped : Int32) (msize : Int32) (mfaultKind : Int32) (mfaultPlace : Int32) (mat : Int32) (mend : Int32) (mtoken : Int32) (mnumber : Int32) (mname : Int64) (mmen : Nat) (Fmmen : Nat → Int32) (mkinds : Nat) (mreasons : Nat) (mtold : Nat) (munits : Nat) (mhonour : Nat) (mdraw : Nat) (mdies : Nat) (mcoin : Nat) (msonOf : Nat) (mkindOf : Nat) (mowner : Nat) (mfirst : Nat) (mlast : Nat) (mrent : Nat) (msort : Nat) (mduelOne : Nat) (mduelOther : Nat) (mduelOn : Nat) (mruleFrom : Nat) (mruleTo : Nat) (mhasHonour : Nat) (mhasDraw : Nat) (mmName : Nat) (mkName : Nat) (mrName : Nat) (mdName : Nat) (mcode : Nat) (mcodeNumber : Nat) (meWhat : Nat) (meSign : Nat) (mpile : Nat) (mbank : Int32) (mrb : Int32) (mcodes : Int32) (mwithin : Int32) (mpiled : Int32) (munitsInRule : Int32) (maskDay : Int32) (maskUses : Int32) (maskSpent : Int32) (mall : Nat) (mwas : Nat) (macts : Int32) (mundone : Int32) (musedBy0 : Nat) (musedBy1 : Nat) (mmornings : Nat) (mcameFrom : Nat) (mcameBy : Nat) (mlevelAt : Nat) (mwins : Nat) (mslots : Nat) (mlevelOf : Nat) (mworthOf : Nat) (mstates : Int32) (mlevels : Int32) (mside0 : Int32) (mside1 : Int32) (mdeathDay : Int32) (maway : Int32) (mhires : Int32) (mhirer : Int32) (mslotFound : Int32) (misSpent : Int32) (mfound : Int32) (mlaid : Int32) (mlaidRow : Nat) (mgReason : Nat) (mgDay : Nat) (mgTold : Nat) (mgUntold : Nat) (msights : Int32) (mtime : Int32) (mboxAll : Nat) (misBoxed : Nat) (p0 : Int32) (hh0 : 0 ≤ mtaped.toInt ∧ mtaped.toInt ≤ 1600) (hh1 : 0 ≤ msize.toInt ∧ msize.toInt ≤ 1600) (hh2 : 0 ≤ mat.toInt ∧ mat.toInt ≤ 1600) (hh3 : 0 ≤ mend.toInt ∧ mend.toInt ≤ 1600) (hh4 : 0 ≤ mtoken.toInt ∧ mtoken.toInt ≤ 5) (hh5 : Rg 2 0 6 Fmmen) (hh18 : 0 ≤ mbank.toInt ∧ mbank.toInt ≤ 1) (hh19 : 0 ≤ mrb.toInt ∧ mrb.toInt ≤ 1) (hh20 : 0 ≤ mcodes.toInt ∧ mcodes.toInt ≤ 1120) (hh21 : 0 ≤ mpiled.toInt ∧ mpiled.toInt ≤ 90) (hh22 : 0 ≤ munitsInRule.toInt ∧ munitsInRule.toInt ≤ 30) (hh25 : 0 ≤ macts.toInt ∧ macts.toInt ≤ 40) (hh26 : 0 ≤ mundone.toInt ∧ mundone.toInt ≤ 40) (hh34 : 0 ≤ mstates.toInt ∧ mstates.toInt ≤ 3000) (hh35 : 0 ≤ mlevels.toInt ∧ mlevels.toInt ≤ 18) (hh36 : 0 ≤ mside0.toInt ∧ mside0.toInt ≤ 5) (hh37 : 0 ≤ mside1.toInt ∧ mside1.toInt ≤ 5) (hh38 : 0 ≤ mslotFound.toInt ∧ mslotFound.toInt ≤ 8191) (hh39 : 0 ≤ misSpent.toInt ∧ misSpent.toInt ≤ 1) (hh40 : 0 ≤ mlaid.toInt ∧ mlaid.toInt ≤ 16) (hh41 : 0 ≤ msights.toInt ∧ msights.toInt ≤ 30) (hh42 : 0 ≤ mtime.toInt ∧ mtime.toInt ≤ 100000) : Met l yX12_isMan (.code yX12_isMan cX12_isMan 2 (some .boolean) :: gT) ({ frames := 1, cells := 0, slots := 0, locals := 22 }) (va_Pc [.ref h, .int p0] (Pst g sz [(h, .inr (12, [.ref mtape, .ref mtext, .int mtaped, .int msize, .int mfaultKind, .int mfaultPlace, .int mat, .int mend, .int mtoken, .int mnumber, .long mname, .ref mmen, .ref mkinds, .ref mreasons, .ref mtold, .ref munits, .ref mhonour, .ref mdraw, .ref mdies, .ref mcoin, .ref msonOf, .ref mkindOf, .ref mowner, .ref mfirst, .ref mlast, .ref mrent, .ref msort, .ref mduelOne, .ref mduelOther, .ref mduelOn, .ref mruleFrom, .ref mruleTo, .ref mhasHonour, .ref mhasDraw, .ref mmName, .ref mkName, .ref mrName, .ref mdName, .ref mcode, .ref mcodeNumber, .ref meWhat, .ref meSign, .ref mpile, .int mbank, .int mrb, .int mcodes, .int mwithin, .int mpiled, .int munitsInRule, .int maskDay, .int maskUses, .int maskSpent, .ref mall, .ref mwas, .int macts, .int mundone, .ref musedBy0, .ref musedBy1, .ref mmornings, .ref mcameFrom, .ref mcameBy, .ref mlevelAt, .ref mwins, .ref mslots, .ref mlevelOf, .ref mworthOf, .int mstates, .int mlevels, .int mside0, .int mside1, .int mdeathDay, .int maway, .int mhires, .int mhirer, .int mslotFound, .int misSpent, .int mfound, .int mlaid, .ref mlaidRow, .ref mgReason, .ref mgDay, .ref mgTold, .ref mgUntold, .int msights, .int mtime, .ref mboxAll, .ref misBoxed])), (mmen, aI g 2 Fmmen)] nX)) (va_Qi (fun (r : Int32) => fun (_ : Unit) => (r = 1 ∧ (0 ≤ p0.toInt ∧ p0.toInt < (Fmmen mbank.toNatClampNeg).toInt) ∧ (p0.toInt ≤ 5)) ∨ (r = 0)) (Qst g [] sz (fun _ => [])) (va_A [] sz)) 0 0 (va_A [] sz) := by
  refine Met.ofW (cc := cX12_isMan) (maxL := 2) (ret := (some .boolean)) (by decide) rfl ?_
  intro p e s m args below meth c s₁ B hml hv
  obtain ⟨rfl, hsz, hP, hK, hD0, hX⟩ := hv
  have hx := B.exec
  have hb := B.bytes
  have hr := B.returns
  have hT : ∀ w ∈ gT, w.before _ s = true := fun w h => atoms_spec (ws := .code yX12_isMan cX12_isMan 2 (some .boolean) :: gT) B.pre w (List.mem_cons_of_mem _ h)
  have hown : s.vm.findClass RX12 = some m.cls := findClass_of_methodNamed B.named
  have hlocks := B.notSynchronized
  subst hsz
  have hD := hD0
  generalize hAe : va_A [] s.heap.size = A at ⊢
  have hA : ∀ q : Nat, s.heap.size ≤ q → A q := fun q h => by rw [← hAe]; exact Or.inr h
  have hS : va_S A s.heap s.heap [] := va_S.rf
  have hl := lv_entry ([.ref h, .int p0]) (n := 2) (Nat.le_of_ble_eq_true rfl)
  rw [lg_entry_eq]
  generalize (lg_sl ([.ref h, .int p0]) ++ List.replicate (2 - (lg_sl ([.ref h, .int p0])).length) Slot.unset).toArray = ls at hl ⊢
  have hl : lv_has ls 2 [(0, .ref h), (1, .int p0)] := hl
  refine p_nH (fun H hH => ?_)
  have hP : va_P g.1 vwCl [(h, .inr (12, [.ref mtape, .ref mtext, .int mtaped, .int msize, .int mfaultKind, .int mfaultPlace, .int mat, .int mend, .int mtoken, .int mnumber, .long mname, .ref mmen, .ref mkinds, .ref mreasons, .ref mtold, .ref munits, .ref mhonour, .ref mdraw, .ref mdies, .ref mcoin, .ref msonOf, .ref mkindOf, .ref mowner, .ref mfirst, .ref mlast, .ref mrent, .ref msort, .ref mduelOne, .ref mduelOther, .ref mduelOn, .ref mruleFrom, .ref mruleTo, .ref mhasHonour, .ref mhasDraw, .ref mmName, .ref mkName, .ref mrName, .ref mdName, .ref mcode, .ref mcodeNumber, .ref meWhat, .ref meSign, .ref mpile, .int mbank, .int mrb, .int mcodes, .int mwithin, .int mpiled, .int munitsInRule, .int maskDay, .int maskUses, .int maskSpent, .ref mall, .ref mwas, .int macts, .int mundone, .ref musedBy0, .ref musedBy1, .ref mmornings, .ref mcameFrom, .ref mcameBy, .ref mlevelAt, .ref mwins, .ref mslots, .ref mlevelOf, .ref mworthOf, .int mstates, .int mlevels, .int mside0, .int mside1, .int mdeathDay, .int maway, .int mhires, .int mhirer, .int mslotFound, .int misSpent, .int mfound, .int mlaid, .ref mlaidRow, .ref mgReason, .ref mgDay, .ref mgTold, .ref mgUntold, .int msights, .int mtime, .ref mboxAll, .ref misBoxed])), (mmen, aI g 2 Fmmen)] H := by rw [hH]; exact hP
  have hS : va_S A s.heap H [] := by rw [hH]; exact hS
  refine lv_iload_n hx hb dX12_isMan_0 rfl (lv_at hl 1 rfl) ?_
  refine lv_iconst (v := 0) hx hb dX12_isMan_1 (by decide) ?_
  refine lv_aload_n hx hb dX12_isMan_2 rfl (lv_at hl 0 rfl) ?_
  refine va_get (D := g.1) (ci := 12) (v := .ref mmen) (C := RX12) (T := TX12) (N := 87) hx hb hT inF_X12 hown hK.1 hP 0 rfl rfl 11 (by decide) (hT _ bw_824) (fun _ h9 => h9) rfl dX12_isMan_3 ?_
  refine lv_aload_n hx hb dX12_isMan_6 rfl (lv_at hl 0 rfl) ?_
  refine va_get (D := g.1) (ci := 12) (v := .int mbank) (C := RX12) (T := TX12) (N := 87) hx hb hT inF_X12 hown hK.1 hP 0 rfl rfl 43 (by decide) (hT _ bw_825) (fun _ h9 => h9) rfl dX12_isMan_7 ?_
  have h_1 : vp_in mbank 2 := vp_in_iff.mpr (by omega)
  refine va_iald hx hb hK.1 hP 1 1 rfl rfl (i := mbank) h_1 dX12_isMan_10 ?_
  refine lv_topi (fun x_2 ex_2 => ?_)
  have fx_2 : 0 ≤ x_2.toInt ∧ x_2.toInt ≤ 6 := Rg.rd hh5 h_1 ex_2
  have ux_2 := congrArg Int32.toInt ex_2
  refine lv_iconst (v := 1) hx hb dX12_isMan_11 (by decide) ?_
  refine lv_isub hx hb dX12_isMan_12 ?_
  refine lv_topi (fun x_3 ex_3 => ?_)
  have fx_3 : x_3.toInt = x_2.toInt - 1 := by rw [ex_3]; exact I_sub rfl (by decide : (1 : Int32).toInt = 1) (by omega) (by omega)
  refine k_iR (k_S (n := 3) ⟨hx, hb, hml, hown, hT⟩ hK hP hD [] rfl (by decide +kernel) (s_X12_isIn l g H.size p0 0 x_3) (gS bw_826 bw_827 bw_828 bw_817) rfl rfl (by decide +kernel) ⟨by decide, by decide⟩ (fun _ _ _ _ _ => trivial) (fun _ _ _ => trivial) rfl rfl hl.1 (Nat.le_of_ble_eq_true rfl) dX12_isMan_13 ⟨by decide, by decide⟩) hP hS hA (fun r_4 _ H locs hw0 hP hS => ?_)
  have hw : (r_4 = 1 ∧ (0 ≤ p0.toInt ∧ p0.toInt ≤ x_3.toInt)) ∨ (r_4 = 0 ∧ (p0.toInt < 0 ∨ x_3.toInt < p0.toInt)) := hw0
  clear hw0
  rcases hw with ⟨e_6, w_5⟩ | ⟨e_8, w_7⟩
  · subst e_6
    have hP9 : va_P g.1 vwCl [] H := hP.sub [] rfl
    have hD9 : va_D A [] := ⟨fun i j p q h => by simp at h, fun k q h => by simp at h⟩
    exact W.zret (v := 1) (ty := .boolean) hx hb hr rfl (fun t ht hW => ⟨⟨1, (), rfl, (Or.inl ⟨rfl, by omega, by omega⟩), by rw [ht]; exact hP9, by rw [hAe]; exact hD9⟩, hS.F ht⟩) hS.2.2 dX12_isMan_16
  · subst e_8
    have hP9 : va_P g.1 vwCl [] H := hP.sub [] rfl
    have hD9 : va_D A [] := ⟨fun i j p q h => by simp at h, fun k q h => by simp at h⟩
    exact W.zret (v := 0) (ty := .boolean) hx hb hr rfl (fun t ht hW => ⟨⟨0, (), rfl, (Or.inr (rfl)), by rw [ht]; exact hP9, by rw [hAe]; exact hD9⟩, hS.F ht⟩) hS.2.2 dX12_isMan_16

theorem bw_830 : Cond.fieldLink RX12 27 "DuelDelaysModel" "reasons" "[I" ∈ gT := gT_tb 1318 (by decide +kernel) (by decide +kernel)
theorem bw_831 : Cond.code yX12_isReason cX12_isReason 2 (some .boolean) ∈ gT := gT_tb 1780 (by decide +kernel) (by decide +kernel)
theorem dX12_isReason_0 : decode cX12_isReason 0 = .ok (.iload_n 1, 1) := by decide +kernel
theorem dX12_isReason_1 : decode cX12_isReason 1 = .ok (.iconst 0, 1) := by decide +kernel
theorem dX12_isReason_2 : decode cX12_isReason 2 = .ok (.aload_n 0, 1) := by decide +kernel
theorem dX12_isReason_3 : decode cX12_isReason 3 = .ok (.getfield 27, 3) := by decide +kernel
theorem dX12_isReason_6 : decode cX12_isReason 6 = .ok (.aload_n 0, 1) := by decide +kernel
theorem dX12_isReason_7 : decode cX12_isReason 7 = .ok (.getfield 308, 3) := by decide +kernel
theorem dX12_isReason_10 : decode cX12_isReason 10 = .ok (.iaload, 1) := by decide +kernel
theorem dX12_isReason_11 : decode cX12_isReason 11 = .ok (.iconst 1, 1) := by decide +kernel
theorem dX12_isReason_12 : decode cX12_isReason 12 = .ok (.isub, 1) := by decide +kernel
theorem dX12_isReason_13 : decode cX12_isReason 13 = .ok (.invokestatic 411, 3) := by decide +kernel
theorem dX12_isReason_16 : decode cX12_isReason 16 = .ok (.ireturn, 1) := by decide +kernel
set_option maxHeartbeats 40000000 in
set_option maxRecDepth 100000 in
theorem s_X12_isReason (l : Launch) (g : GG) (sz : Nat) (h : Nat) (mtape : Nat) (mtext : Nat) (mtaped : Int32) (msize : Int32) (mfaultKind : Int32) (mfaultPlace : Int32) (mat : Int32) (mend : Int32) (mtoken : Int32) (mnumber : Int32) (mname : Int64) (mmen : Nat) (mkinds : Nat) (mreasons : Nat) (Fmreasons : Nat → Int32) (mtold : Nat) (munits : Nat) (mhonour : Nat) (mdraw : Nat) (mdies : Nat) (mcoin : Nat) (msonOf : Nat) (mkindOf : Nat) (mowner : Nat) (mfirst : Nat) (mlast : Nat) (mrent : Nat) (msort : Nat) (mduelOne : Nat) (mduelOther : Nat) (mduelOn : Nat) (mruleFrom : Nat) (mruleTo : Nat) (mhasHonour : Nat) (mhasDraw : Nat) (mmName : Nat) (mkName : Nat) (mrName : Nat) (mdName : Nat) (mcode : Nat) (mcodeNumber : Nat) (meWhat : Nat) (meSign : Nat) (mpile : Nat) (mbank : Int32) (mrb : Int32) (mcodes : Int32) (mwithin : Int32) (mpiled : Int32) (munitsInRule : Int32) (maskDay : Int32) (maskUses : Int32) (maskSpent : Int32) (mall : Nat) (mwas : Nat) (macts : Int32) (mundone : Int32) (musedBy0 : Nat) (musedBy1 : Nat) (mmornings : Nat) (mcameFrom : Nat) (mcameBy : Nat) (mlevelAt : Nat) (mwins : Nat) (mslots : Nat) (mlevelOf : Nat) (mworthOf : Nat) (mstates : Int32) (mlevels : Int32) (mside0 : Int32) (mside1 : Int32) (mdeathDay : Int32) (maway : Int32) (mhires : Int32) (mhirer : Int32) (mslotFound : Int32) (misSpent : Int32) (mfound : Int32) (mlaid : Int32) (mlaidRow : Nat) (mgReason : Nat) (mgDay : Nat) (mgTold : Nat) (mgUntold : Nat) (msights : Int32) (mtime : Int32) (mboxAll : Nat) (misBoxed : Nat) (p0 : Int32) (hh0 : 0 ≤ mtaped.toInt ∧ mtaped.toInt ≤ 1600) (hh1 : 0 ≤ msize.toInt ∧ msize.toInt ≤ 1600) (hh2 : 0 ≤ mat.toInt ∧ mat.toInt ≤ 1600) (hh3 : 0 ≤ mend.toInt ∧ mend.toInt ≤ 1600) (hh4 : 0 ≤ mtoken.toInt ∧ mtoken.toInt ≤ 5) (hh7 : Rg 2 0 8 Fmreasons) (hh18 : 0 ≤ mbank.toInt ∧ mbank.toInt ≤ 1) (hh19 : 0 ≤ mrb.toInt ∧ mrb.toInt ≤ 1) (hh20 : 0 ≤ mcodes.toInt ∧ mcodes.toInt ≤ 1120) (hh21 : 0 ≤ mpiled.toInt ∧ mpiled.toInt ≤ 90) (hh22 : 0 ≤ munitsInRule.toInt ∧ munitsInRule.toInt ≤ 30) (hh25 : 0 ≤ macts.toInt ∧ macts.toInt ≤ 40) (hh26 : 0 ≤ mundone.toInt ∧ mundone.toInt ≤ 40) (hh34 : 0 ≤ mstates.toInt ∧ mstates.toInt ≤ 3000) (hh35 : 0 ≤ mlevels.toInt ∧ mlevels.toInt ≤ 18) (hh36 : 0 ≤ mside0.toInt ∧ mside0.toInt ≤ 5) (hh37 : 0 ≤ mside1.toInt ∧ mside1.toInt ≤ 5) (hh38 : 0 ≤ mslotFound.toInt ∧ mslotFound.toInt ≤ 8191) (hh39 : 0 ≤ misSpent.toInt ∧ misSpent.toInt ≤ 1) (hh40 : 0 ≤ mlaid.toInt ∧ mlaid.toInt ≤ 16) (hh41 : 0 ≤ msights.toInt ∧ msights.toInt ≤ 30) (hh42 : 0 ≤ mtime.toInt ∧ mtime.toInt ≤ 100000) : Met l yX12_isReason (.code yX12_isReason cX12_isReason 2 (some .boolean) :: gT) ({ frames := 1, cells := 0, slots := 0, locals := 22 }) (va_Pc [.ref h, .int p0] (Pst g sz [(h, .inr (12, [.ref mtape, .ref mtext, .int mtaped, .int msize, .int mfaultKind, .int mfaultPlace, .int mat, .int mend, .int mtoken, .int mnumber, .long mname, .ref mmen, .ref mkinds, .ref mreasons, .ref mtold, .ref munits, .ref mhonour, .ref mdraw, .ref mdies, .ref mcoin, .ref msonOf, .ref mkindOf, .ref mowner, .ref mfirst, .ref mlast, .ref mrent, .ref msort, .ref mduelOne, .ref mduelOther, .ref mduelOn, .ref mruleFrom, .ref mruleTo, .ref mhasHonour, .ref mhasDraw, .ref mmName, .ref mkName, .ref mrName, .ref mdName, .ref mcode, .ref mcodeNumber, .ref meWhat, .ref meSign, .ref mpile, .int mbank, .int mrb, .int mcodes, .int mwithin, .int mpiled, .int munitsInRule, .int maskDay, .int maskUses, .int maskSpent, .ref mall, .ref mwas, .int macts, .int mundone, .ref musedBy0, .ref musedBy1, .ref mmornings, .ref mcameFrom, .ref mcameBy, .ref mlevelAt, .ref mwins, .ref mslots, .ref mlevelOf, .ref mworthOf, .int mstates, .int mlevels, .int mside0, .int mside1, .int mdeathDay, .int maway, .int mhires, .int mhirer, .int mslotFound, .int misSpent, .int mfound, .int mlaid, .ref mlaidRow, .ref mgReason, .ref mgDay, .ref mgTold, .ref mgUntold, .int msights, .int mtime, .ref mboxAll, .ref misBoxed])), (mreasons, aI g 2 Fmreasons)] nX)) (va_Qi (fun (r : Int32) => fun (_ : Unit) => (r = 1 ∧ (0 ≤ p0.toInt ∧ p0.toInt < (Fmreasons mbank.toNatClampNeg).toInt) ∧ (p0.toInt ≤ 7)) ∨ (r = 0)) (Qst g [] sz (fun _ => [])) (va_A [] sz)) 0 0 (va_A [] sz) := by
  refine Met.ofW (cc := cX12_isReason) (maxL := 2) (ret := (some .boolean)) (by decide) rfl ?_
  intro p e s m args below meth c s₁ B hml hv
  obtain ⟨rfl, hsz, hP, hK, hD0, hX⟩ := hv
  have hx := B.exec
  have hb := B.bytes
  have hr := B.returns
  have hT : ∀ w ∈ gT, w.before _ s = true := fun w h => atoms_spec (ws := .code yX12_isReason cX12_isReason 2 (some .boolean) :: gT) B.pre w (List.mem_cons_of_mem _ h)
  have hown : s.vm.findClass RX12 = some m.cls := findClass_of_methodNamed B.named
  have hlocks := B.notSynchronized
  subst hsz
  have hD := hD0
  generalize hAe : va_A [] s.heap.size = A at ⊢
  have hA : ∀ q : Nat, s.heap.size ≤ q → A q := fun q h => by rw [← hAe]; exact Or.inr h
  have hS : va_S A s.heap s.heap [] := va_S.rf
  have hl := lv_entry ([.ref h, .int p0]) (n := 2) (Nat.le_of_ble_eq_true rfl)
  rw [lg_entry_eq]
  generalize (lg_sl ([.ref h, .int p0]) ++ List.replicate (2 - (lg_sl ([.ref h, .int p0])).length) Slot.unset).toArray = ls at hl ⊢
  have hl : lv_has ls 2 [(0, .ref h), (1, .int p0)] := hl
  refine p_nH (fun H hH => ?_)
  have hP : va_P g.1 vwCl [(h, .inr (12, [.ref mtape, .ref mtext, .int mtaped, .int msize, .int mfaultKind, .int mfaultPlace, .int mat, .int mend, .int mtoken, .int mnumber, .long mname, .ref mmen, .ref mkinds, .ref mreasons, .ref mtold, .ref munits, .ref mhonour, .ref mdraw, .ref mdies, .ref mcoin, .ref msonOf, .ref mkindOf, .ref mowner, .ref mfirst, .ref mlast, .ref mrent, .ref msort, .ref mduelOne, .ref mduelOther, .ref mduelOn, .ref mruleFrom, .ref mruleTo, .ref mhasHonour, .ref mhasDraw, .ref mmName, .ref mkName, .ref mrName, .ref mdName, .ref mcode, .ref mcodeNumber, .ref meWhat, .ref meSign, .ref mpile, .int mbank, .int mrb, .int mcodes, .int mwithin, .int mpiled, .int munitsInRule, .int maskDay, .int maskUses, .int maskSpent, .ref mall, .ref mwas, .int macts, .int mundone, .ref musedBy0, .ref musedBy1, .ref mmornings, .ref mcameFrom, .ref mcameBy, .ref mlevelAt, .ref mwins, .ref mslots, .ref mlevelOf, .ref mworthOf, .int mstates, .int mlevels, .int mside0, .int mside1, .int mdeathDay, .int maway, .int mhires, .int mhirer, .int mslotFound, .int misSpent, .int mfound, .int mlaid, .ref mlaidRow, .ref mgReason, .ref mgDay, .ref mgTold, .ref mgUntold, .int msights, .int mtime, .ref mboxAll, .ref misBoxed])), (mreasons, aI g 2 Fmreasons)] H := by rw [hH]; exact hP
  have hS : va_S A s.heap H [] := by rw [hH]; exact hS
  refine lv_iload_n hx hb dX12_isReason_0 rfl (lv_at hl 1 rfl) ?_
  refine lv_iconst (v := 0) hx hb dX12_isReason_1 (by decide) ?_
  refine lv_aload_n hx hb dX12_isReason_2 rfl (lv_at hl 0 rfl) ?_
  refine va_get (D := g.1) (ci := 12) (v := .ref mreasons) (C := RX12) (T := TX12) (N := 87) hx hb hT inF_X12 hown hK.1 hP 0 rfl rfl 13 (by decide) (hT _ bw_830) (fun _ h9 => h9) rfl dX12_isReason_3 ?_
  refine lv_aload_n hx hb dX12_isReason_6 rfl (lv_at hl 0 rfl) ?_
  refine va_get (D := g.1) (ci := 12) (v := .int mbank) (C := RX12) (T := TX12) (N := 87) hx hb hT inF_X12 hown hK.1 hP 0 rfl rfl 43 (by decide) (hT _ bw_825) (fun _ h9 => h9) rfl dX12_isReason_7 ?_
  have h_1 : vp_in mbank 2 := vp_in_iff.mpr (by omega)
  refine va_iald hx hb hK.1 hP 1 1 rfl rfl (i := mbank) h_1 dX12_isReason_10 ?_
  refine lv_topi (fun x_2 ex_2 => ?_)
  have fx_2 : 0 ≤ x_2.toInt ∧ x_2.toInt ≤ 8 := Rg.rd hh7 h_1 ex_2
  have ux_2 := congrArg Int32.toInt ex_2
  refine lv_iconst (v := 1) hx hb dX12_isReason_11 (by decide) ?_
  refine lv_isub hx hb dX12_isReason_12 ?_
  refine lv_topi (fun x_3 ex_3 => ?_)
  have fx_3 : x_3.toInt = x_2.toInt - 1 := by rw [ex_3]; exact I_sub rfl (by decide : (1 : Int32).toInt = 1) (by omega) (by omega)
  refine k_iR (k_S (n := 3) ⟨hx, hb, hml, hown, hT⟩ hK hP hD [] rfl (by decide +kernel) (s_X12_isIn l g H.size p0 0 x_3) (gS bw_826 bw_827 bw_828 bw_817) rfl rfl (by decide +kernel) ⟨by decide, by decide⟩ (fun _ _ _ _ _ => trivial) (fun _ _ _ => trivial) rfl rfl hl.1 (Nat.le_of_ble_eq_true rfl) dX12_isReason_13 ⟨by decide, by decide⟩) hP hS hA (fun r_4 _ H locs hw0 hP hS => ?_)
  have hw : (r_4 = 1 ∧ (0 ≤ p0.toInt ∧ p0.toInt ≤ x_3.toInt)) ∨ (r_4 = 0 ∧ (p0.toInt < 0 ∨ x_3.toInt < p0.toInt)) := hw0
  clear hw0
  rcases hw with ⟨e_6, w_5⟩ | ⟨e_8, w_7⟩
  · subst e_6
    have hP9 : va_P g.1 vwCl [] H := hP.sub [] rfl
    have hD9 : va_D A [] := ⟨fun i j p q h => by simp at h, fun k q h => by simp at h⟩
    exact W.zret (v := 1) (ty := .boolean) hx hb hr rfl (fun t ht hW => ⟨⟨1, (), rfl, (Or.inl ⟨rfl, by omega, by omega⟩), by rw [ht]; exact hP9, by rw [hAe]; exact hD9⟩, hS.F ht⟩) hS.2.2 dX12_isReason_16
  · subst e_8
    have hP9 : va_P g.1 vwCl [] H := hP.sub [] rfl
    have hD9 : va_D A [] := ⟨fun i j p q h => by simp at h, fun k q h => by simp at h⟩
    exact W.zret (v := 0) (ty := .boolean) hx hb hr rfl (fun t ht hW => ⟨⟨0, (), rfl, (Or.inr (rfl)), by rw [ht]; exact hP9, by rw [hAe]; exact hD9⟩, hS.F ht⟩) hS.2.2 dX12_isReason_16

theorem bw_832 : Cond.fieldLink RX12 119 "DuelDelaysModel" "all" "[I" ∈ gT := gT_tb 1357 (by decide +kernel) (by decide +kernel)
theorem bw_833 : Cond.code yX12_isDuel cX12_isDuel 2 (some .boolean) ∈ gT := gT_tb 1765 (by decide +kernel) (by decide +kernel)
theorem dX12_isDuel_0 : decode cX12_isDuel 0 = .ok (.iload_n 1, 1) := by decide +kernel
theorem dX12_isDuel_1 : decode cX12_isDuel 1 = .ok (.iconst 0, 1) := by decide +kernel
theorem dX12_isDuel_2 : decode cX12_isDuel 2 = .ok (.aload_n 0, 1) := by decide +kernel
theorem dX12_isDuel_3 : decode cX12_isDuel 3 = .ok (.getfield 119, 3) := by decide +kernel
theorem dX12_isDuel_6 : decode cX12_isDuel 6 = .ok (.bipush 70, 2) := by decide +kernel
theorem dX12_isDuel_8 : decode cX12_isDuel 8 = .ok (.iaload, 1) := by decide +kernel
theorem dX12_isDuel_9 : decode cX12_isDuel 9 = .ok (.iconst 1, 1) := by decide +kernel
theorem dX12_isDuel_10 : decode cX12_isDuel 10 = .ok (.isub, 1) := by decide +kernel
theorem dX12_isDuel_11 : decode cX12_isDuel 11 = .ok (.invokestatic 411, 3) := by decide +kernel
theorem dX12_isDuel_14 : decode cX12_isDuel 14 = .ok (.ireturn, 1) := by decide +kernel
set_option maxHeartbeats 40000000 in
set_option maxRecDepth 100000 in
theorem s_X12_isDuel (l : Launch) (g : GG) (sz : Nat) (h : Nat) (mtape : Nat) (mtext : Nat) (mtaped : Int32) (msize : Int32) (mfaultKind : Int32) (mfaultPlace : Int32) (mat : Int32) (mend : Int32) (mtoken : Int32) (mnumber : Int32) (mname : Int64) (mmen : Nat) (mkinds : Nat) (mreasons : Nat) (mtold : Nat) (munits : Nat) (mhonour : Nat) (mdraw : Nat) (mdies : Nat) (mcoin : Nat) (msonOf : Nat) (mkindOf : Nat) (mowner : Nat) (mfirst : Nat) (mlast : Nat) (mrent : Nat) (msort : Nat) (mduelOne : Nat) (mduelOther : Nat) (mduelOn : Nat) (mruleFrom : Nat) (mruleTo : Nat) (mhasHonour : Nat) (mhasDraw : Nat) (mmName : Nat) (mkName : Nat) (mrName : Nat) (mdName : Nat) (mcode : Nat) (mcodeNumber : Nat) (meWhat : Nat) (meSign : Nat) (mpile : Nat) (mbank : Int32) (mrb : Int32) (mcodes : Int32) (mwithin : Int32) (mpiled : Int32) (munitsInRule : Int32) (maskDay : Int32) (maskUses : Int32) (maskSpent : Int32) (mall : Nat) (Fmall : Nat → Int32) (mwas : Nat) (macts : Int32) (mundone : Int32) (musedBy0 : Nat) (musedBy1 : Nat) (mmornings : Nat) (mcameFrom : Nat) (mcameBy : Nat) (mlevelAt : Nat) (mwins : Nat) (mslots : Nat) (mlevelOf : Nat) (mworthOf : Nat) (mstates : Int32) (mlevels : Int32) (mside0 : Int32) (mside1 : Int32) (mdeathDay : Int32) (maway : Int32) (mhires : Int32) (mhirer : Int32) (mslotFound : Int32) (misSpent : Int32) (mfound : Int32) (mlaid : Int32) (mlaidRow : Nat) (mgReason : Nat) (mgDay : Nat) (mgTold : Nat) (mgUntold : Nat) (msights : Int32) (mtime : Int32) (mboxAll : Nat) (misBoxed : Nat) (p0 : Int32) (hh0 : 0 ≤ mtaped.toInt ∧ mtaped.toInt ≤ 1600) (hh1 : 0 ≤ msize.toInt ∧ msize.toInt ≤ 1600) (hh2 : 0 ≤ mat.toInt ∧ mat.toInt ≤ 1600) (hh3 : 0 ≤ mend.toInt ∧ mend.toInt ≤ 1600) (hh4 : 0 ≤ mtoken.toInt ∧ mtoken.toInt ≤ 5) (hh18 : 0 ≤ mbank.toInt ∧ mbank.toInt ≤ 1) (hh19 : 0 ≤ mrb.toInt ∧ mrb.toInt ≤ 1) (hh20 : 0 ≤ mcodes.toInt ∧ mcodes.toInt ≤ 1120) (hh21 : 0 ≤ mpiled.toInt ∧ mpiled.toInt ≤ 90) (hh22 : 0 ≤ munitsInRule.toInt ∧ munitsInRule.toInt ≤ 30) (hh23 : Ia Fmall) (hh25 : 0 ≤ macts.toInt ∧ macts.toInt ≤ 40) (hh26 : 0 ≤ mundone.toInt ∧ mundone.toInt ≤ 40) (hh34 : 0 ≤ mstates.toInt ∧ mstates.toInt ≤ 3000) (hh35 : 0 ≤ mlevels.toInt ∧ mlevels.toInt ≤ 18) (hh36 : 0 ≤ mside0.toInt ∧ mside0.toInt ≤ 5) (hh37 : 0 ≤ mside1.toInt ∧ mside1.toInt ≤ 5) (hh38 : 0 ≤ mslotFound.toInt ∧ mslotFound.toInt ≤ 8191) (hh39 : 0 ≤ misSpent.toInt ∧ misSpent.toInt ≤ 1) (hh40 : 0 ≤ mlaid.toInt ∧ mlaid.toInt ≤ 16) (hh41 : 0 ≤ msights.toInt ∧ msights.toInt ≤ 30) (hh42 : 0 ≤ mtime.toInt ∧ mtime.toInt ≤ 100000) : Met l yX12_isDuel (.code yX12_isDuel cX12_isDuel 2 (some .boolean) :: gT) ({ frames := 1, cells := 0, slots := 0, locals := 22 }) (va_Pc [.ref h, .int p0] (Pst g sz [(h, .inr (12, [.ref mtape, .ref mtext, .int mtaped, .int msize, .int mfaultKind, .int mfaultPlace, .int mat, .int mend, .int mtoken, .int mnumber, .long mname, .ref mmen, .ref mkinds, .ref mreasons, .ref mtold, .ref munits, .ref mhonour, .ref mdraw, .ref mdies, .ref mcoin, .ref msonOf, .ref mkindOf, .ref mowner, .ref mfirst, .ref mlast, .ref mrent, .ref msort, .ref mduelOne, .ref mduelOther, .ref mduelOn, .ref mruleFrom, .ref mruleTo, .ref mhasHonour, .ref mhasDraw, .ref mmName, .ref mkName, .ref mrName, .ref mdName, .ref mcode, .ref mcodeNumber, .ref meWhat, .ref meSign, .ref mpile, .int mbank, .int mrb, .int mcodes, .int mwithin, .int mpiled, .int munitsInRule, .int maskDay, .int maskUses, .int maskSpent, .ref mall, .ref mwas, .int macts, .int mundone, .ref musedBy0, .ref musedBy1, .ref mmornings, .ref mcameFrom, .ref mcameBy, .ref mlevelAt, .ref mwins, .ref mslots, .ref mlevelOf, .ref mworthOf, .int mstates, .int mlevels, .int mside0, .int mside1, .int mdeathDay, .int maway, .int mhires, .int mhirer, .int mslotFound, .int misSpent, .int mfound, .int mlaid, .ref mlaidRow, .ref mgReason, .ref mgDay, .ref mgTold, .ref mgUntold, .int msights, .int mtime, .ref mboxAll, .ref misBoxed])), (mall, aI g 374 Fmall)] nX)) (va_Qi (fun (r : Int32) => fun (_ : Unit) => (r = 1 ∧ (0 ≤ p0.toInt ∧ p0.toInt ≤ 7)) ∨ (r = 0)) (Qst g [] sz (fun _ => [])) (va_A [] sz)) 0 0 (va_A [] sz) := by
  refine Met.ofW (cc := cX12_isDuel) (maxL := 2) (ret := (some .boolean)) (by decide) rfl ?_
  intro p e s m args below meth c s₁ B hml hv
  obtain ⟨rfl, hsz, hP, hK, hD0, hX⟩ := hv
  have hx := B.exec
  have hb := B.bytes
  have hr := B.returns
  have hT : ∀ w ∈ gT, w.before _ s = true := fun w h => atoms_spec (ws := .code yX12_isDuel cX12_isDuel 2 (some .boolean) :: gT) B.pre w (List.mem_cons_of_mem _ h)
  have hown : s.vm.findClass RX12 = some m.cls := findClass_of_methodNamed B.named
  have hlocks := B.notSynchronized
  subst hsz
  have hD := hD0
  generalize hAe : va_A [] s.heap.size = A at ⊢
  have hA : ∀ q : Nat, s.heap.size ≤ q → A q := fun q h => by rw [← hAe]; exact Or.inr h
  have hS : va_S A s.heap s.heap [] := va_S.rf
  have hl := lv_entry ([.ref h, .int p0]) (n := 2) (Nat.le_of_ble_eq_true rfl)
  rw [lg_entry_eq]
  generalize (lg_sl ([.ref h, .int p0]) ++ List.replicate (2 - (lg_sl ([.ref h, .int p0])).length) Slot.unset).toArray = ls at hl ⊢
  have hl : lv_has ls 2 [(0, .ref h), (1, .int p0)] := hl
  refine p_nH (fun H hH => ?_)
  have hP : va_P g.1 vwCl [(h, .inr (12, [.ref mtape, .ref mtext, .int mtaped, .int msize, .int mfaultKind, .int mfaultPlace, .int mat, .int mend, .int mtoken, .int mnumber, .long mname, .ref mmen, .ref mkinds, .ref mreasons, .ref mtold, .ref munits, .ref mhonour, .ref mdraw, .ref mdies, .ref mcoin, .ref msonOf, .ref mkindOf, .ref mowner, .ref mfirst, .ref mlast, .ref mrent, .ref msort, .ref mduelOne, .ref mduelOther, .ref mduelOn, .ref mruleFrom, .ref mruleTo, .ref mhasHonour, .ref mhasDraw, .ref mmName, .ref mkName, .ref mrName, .ref mdName, .ref mcode, .ref mcodeNumber, .ref meWhat, .ref meSign, .ref mpile, .int mbank, .int mrb, .int mcodes, .int mwithin, .int mpiled, .int munitsInRule, .int maskDay, .int maskUses, .int maskSpent, .ref mall, .ref mwas, .int macts, .int mundone, .ref musedBy0, .ref musedBy1, .ref mmornings, .ref mcameFrom, .ref mcameBy, .ref mlevelAt, .ref mwins, .ref mslots, .ref mlevelOf, .ref mworthOf, .int mstates, .int mlevels, .int mside0, .int mside1, .int mdeathDay, .int maway, .int mhires, .int mhirer, .int mslotFound, .int misSpent, .int mfound, .int mlaid, .ref mlaidRow, .ref mgReason, .ref mgDay, .ref mgTold, .ref mgUntold, .int msights, .int mtime, .ref mboxAll, .ref misBoxed])), (mall, aI g 374 Fmall)] H := by rw [hH]; exact hP
  have hS : va_S A s.heap H [] := by rw [hH]; exact hS
  refine lv_iload_n hx hb dX12_isDuel_0 rfl (lv_at hl 1 rfl) ?_
  refine lv_iconst (v := 0) hx hb dX12_isDuel_1 (by decide) ?_
  refine lv_aload_n hx hb dX12_isDuel_2 rfl (lv_at hl 0 rfl) ?_
  refine va_get (D := g.1) (ci := 12) (v := .ref mall) (C := RX12) (T := TX12) (N := 87) hx hb hT inF_X12 hown hK.1 hP 0 rfl rfl 52 (by decide) (hT _ bw_832) (fun _ h9 => h9) rfl dX12_isDuel_3 ?_
  refine lv_bipush (v := 70) hx hb dX12_isDuel_6 (by decide) ?_
  have h_1 : vp_in 70 374 := vp_in_iff.mpr (by decide)
  refine va_iald hx hb hK.1 hP 1 1 rfl rfl (i := 70) h_1 dX12_isDuel_8 ?_
  refine lv_topi (fun x_2 ex_2 => ?_)
  have cn_3 : (70 : Int32).toNatClampNeg = 70 := by decide
  have ux_2 := congrArg Int32.toInt ex_2
  have px_2 : In ((70 : Int32).toNatClampNeg % 374) x_2.toInt := Im.rd hh23 h_1 ex_2
  have fx_2 : 0 ≤ x_2.toInt ∧ x_2.toInt ≤ 8 := px_2.1 (by omega)
  refine lv_iconst (v := 1) hx hb dX12_isDuel_9 (by decide) ?_
  refine lv_isub hx hb dX12_isDuel_10 ?_
  refine lv_topi (fun x_4 ex_4 => ?_)
  have fx_4 : x_4.toInt = x_2.toInt - 1 := by rw [ex_4]; exact I_sub rfl (by decide : (1 : Int32).toInt = 1) (by omega) (by omega)
  refine k_iR (k_S (n := 3) ⟨hx, hb, hml, hown, hT⟩ hK hP hD [] rfl (by decide +kernel) (s_X12_isIn l g H.size p0 0 x_4) (gS bw_826 bw_827 bw_828 bw_817) rfl rfl (by decide +kernel) ⟨by decide, by decide⟩ (fun _ _ _ _ _ => trivial) (fun _ _ _ => trivial) rfl rfl hl.1 (Nat.le_of_ble_eq_true rfl) dX12_isDuel_11 ⟨by decide, by decide⟩) hP hS hA (fun r_5 _ H locs hw0 hP hS => ?_)
  have hw : (r_5 = 1 ∧ (0 ≤ p0.toInt ∧ p0.toInt ≤ x_4.toInt)) ∨ (r_5 = 0 ∧ (p0.toInt < 0 ∨ x_4.toInt < p0.toInt)) := hw0
  clear hw0
  rcases hw with ⟨e_7, w_6⟩ | ⟨e_9, w_8⟩
  · subst e_7
    have hP9 : va_P g.1 vwCl [] H := hP.sub [] rfl
    have hD9 : va_D A [] := ⟨fun i j p q h => by simp at h, fun k q h => by simp at h⟩
    exact W.zret (v := 1) (ty := .boolean) hx hb hr rfl (fun t ht hW => ⟨⟨1, (), rfl, (Or.inl ⟨rfl, by omega⟩), by rw [ht]; exact hP9, by rw [hAe]; exact hD9⟩, hS.F ht⟩) hS.2.2 dX12_isDuel_14
  · subst e_9
    have hP9 : va_P g.1 vwCl [] H := hP.sub [] rfl
    have hD9 : va_D A [] := ⟨fun i j p q h => by simp at h, fun k q h => by simp at h⟩
    exact W.zret (v := 0) (ty := .boolean) hx hb hr rfl (fun t ht hW => ⟨⟨0, (), rfl, (Or.inr (rfl)), by rw [ht]; exact hP9, by rw [hAe]; exact hD9⟩, hS.F ht⟩) hS.2.2 dX12_isDuel_14

theorem bw_834 : Cond.code yX12_isAlive cX12_isAlive 2 (some .boolean) ∈ gT := gT_tb 1753 (by decide +kernel) (by decide +kernel)
theorem dX12_isAlive_0 : decode cX12_isAlive 0 = .ok (.aload_n 0, 1) := by decide +kernel
theorem dX12_isAlive_1 : decode cX12_isAlive 1 = .ok (.getfield 119, 3) := by decide +kernel
theorem dX12_isAlive_4 : decode cX12_isAlive 4 = .ok (.iconst 0, 1) := by decide +kernel
theorem dX12_isAlive_5 : decode cX12_isAlive 5 = .ok (.iaload, 1) := by decide +kernel
theorem dX12_isAlive_6 : decode cX12_isAlive 6 = .ok (.iload_n 1, 1) := by decide +kernel
theorem dX12_isAlive_7 : decode cX12_isAlive 7 = .ok (.ishr, 1) := by decide +kernel
theorem dX12_isAlive_8 : decode cX12_isAlive 8 = .ok (.iconst 1, 1) := by decide +kernel
theorem dX12_isAlive_9 : decode cX12_isAlive 9 = .ok (.iand, 1) := by decide +kernel
theorem dX12_isAlive_10 : decode cX12_isAlive 10 = .ok (.iconst 1, 1) := by decide +kernel
theorem dX12_isAlive_11 : decode cX12_isAlive 11 = .ok (.if_icmp .ne 7, 3) := by decide +kernel
theorem dX12_isAlive_14 : decode cX12_isAlive 14 = .ok (.iconst 1, 1) := by decide +kernel
theorem dX12_isAlive_15 : decode cX12_isAlive 15 = .ok (.goto 4, 3) := by decide +kernel
theorem dX12_isAlive_18 : decode cX12_isAlive 18 = .ok (.iconst 0, 1) := by decide +kernel
theorem dX12_isAlive_19 : decode cX12_isAlive 19 = .ok (.ireturn, 1) := by decide +kernel
set_option maxHeartbeats 40000000 in
set_option maxRecDepth 100000 in
theorem s_X12_isAlive (l : Launch) (g : GG) (sz : Nat) (h : Nat) (mtape : Nat) (mtext : Nat) (mtaped : Int32) (msize : Int32) (mfaultKind : Int32) (mfaultPlace : Int32) (mat : Int32) (mend : Int32) (mtoken : Int32) (mnumber : Int32) (mname : Int64) (mmen : Nat) (mkinds : Nat) (mreasons : Nat) (mtold : Nat) (munits : Nat) (mhonour : Nat) (mdraw : Nat) (mdies : Nat) (mcoin : Nat) (msonOf : Nat) (mkindOf : Nat) (mowner : Nat) (mfirst : Nat) (mlast : Nat) (mrent : Nat) (msort : Nat) (mduelOne : Nat) (mduelOther : Nat) (mduelOn : Nat) (mruleFrom : Nat) (mruleTo : Nat) (mhasHonour : Nat) (mhasDraw : Nat) (mmName : Nat) (mkName : Nat) (mrName : Nat) (mdName : Nat) (mcode : Nat) (mcodeNumber : Nat) (meWhat : Nat) (meSign : Nat) (mpile : Nat) (mbank : Int32) (mrb : Int32) (mcodes : Int32) (mwithin : Int32) (mpiled : Int32) (munitsInRule : Int32) (maskDay : Int32) (maskUses : Int32) (maskSpent : Int32) (mall : Nat) (Fmall : Nat → Int32) (mwas : Nat) (macts : Int32) (mundone : Int32) (musedBy0 : Nat) (musedBy1 : Nat) (mmornings : Nat) (mcameFrom : Nat) (mcameBy : Nat) (mlevelAt : Nat) (mwins : Nat) (mslots : Nat) (mlevelOf : Nat) (mworthOf : Nat) (mstates : Int32) (mlevels : Int32) (mside0 : Int32) (mside1 : Int32) (mdeathDay : Int32) (maway : Int32) (mhires : Int32) (mhirer : Int32) (mslotFound : Int32) (misSpent : Int32) (mfound : Int32) (mlaid : Int32) (mlaidRow : Nat) (mgReason : Nat) (mgDay : Nat) (mgTold : Nat) (mgUntold : Nat) (msights : Int32) (mtime : Int32) (mboxAll : Nat) (misBoxed : Nat) (p0 : Int32) (hh0 : 0 ≤ mtaped.toInt ∧ mtaped.toInt ≤ 1600) (hh1 : 0 ≤ msize.toInt ∧ msize.toInt ≤ 1600) (hh2 : 0 ≤ mat.toInt ∧ mat.toInt ≤ 1600) (hh3 : 0 ≤ mend.toInt ∧ mend.toInt ≤ 1600) (hh4 : 0 ≤ mtoken.toInt ∧ mtoken.toInt ≤ 5) (hh18 : 0 ≤ mbank.toInt ∧ mbank.toInt ≤ 1) (hh19 : 0 ≤ mrb.toInt ∧ mrb.toInt ≤ 1) (hh20 : 0 ≤ mcodes.toInt ∧ mcodes.toInt ≤ 1120) (hh21 : 0 ≤ mpiled.toInt ∧ mpiled.toInt ≤ 90) (hh22 : 0 ≤ munitsInRule.toInt ∧ munitsInRule.toInt ≤ 30) (hh23 : Ia Fmall) (hh25 : 0 ≤ macts.toInt ∧ macts.toInt ≤ 40) (hh26 : 0 ≤ mundone.toInt ∧ mundone.toInt ≤ 40) (hh34 : 0 ≤ mstates.toInt ∧ mstates.toInt ≤ 3000) (hh35 : 0 ≤ mlevels.toInt ∧ mlevels.toInt ≤ 18) (hh36 : 0 ≤ mside0.toInt ∧ mside0.toInt ≤ 5) (hh37 : 0 ≤ mside1.toInt ∧ mside1.toInt ≤ 5) (hh38 : 0 ≤ mslotFound.toInt ∧ mslotFound.toInt ≤ 8191) (hh39 : 0 ≤ misSpent.toInt ∧ misSpent.toInt ≤ 1) (hh40 : 0 ≤ mlaid.toInt ∧ mlaid.toInt ≤ 16) (hh41 : 0 ≤ msights.toInt ∧ msights.toInt ≤ 30) (hh42 : 0 ≤ mtime.toInt ∧ mtime.toInt ≤ 100000) : Met l yX12_isAlive (.code yX12_isAlive cX12_isAlive 2 (some .boolean) :: gT) ({ frames := 0, cells := 0, slots := 0, locals := 0 }) (va_Pc [.ref h, .int p0] (Pst g sz [(h, .inr (12, [.ref mtape, .ref mtext, .int mtaped, .int msize, .int mfaultKind, .int mfaultPlace, .int mat, .int mend, .int mtoken, .int mnumber, .long mname, .ref mmen, .ref mkinds, .ref mreasons, .ref mtold, .ref munits, .ref mhonour, .ref mdraw, .ref mdies, .ref mcoin, .ref msonOf, .ref mkindOf, .ref mowner, .ref mfirst, .ref mlast, .ref mrent, .ref msort, .ref mduelOne, .ref mduelOther, .ref mduelOn, .ref mruleFrom, .ref mruleTo, .ref mhasHonour, .ref mhasDraw, .ref mmName, .ref mkName, .ref mrName, .ref mdName, .ref mcode, .ref mcodeNumber, .ref meWhat, .ref meSign, .ref mpile, .int mbank, .int mrb, .int mcodes, .int mwithin, .int mpiled, .int munitsInRule, .int maskDay, .int maskUses, .int maskSpent, .ref mall, .ref mwas, .int macts, .int mundone, .ref musedBy0, .ref musedBy1, .ref mmornings, .ref mcameFrom, .ref mcameBy, .ref mlevelAt, .ref mwins, .ref mslots, .ref mlevelOf, .ref mworthOf, .int mstates, .int mlevels, .int mside0, .int mside1, .int mdeathDay, .int maway, .int mhires, .int mhirer, .int mslotFound, .int misSpent, .int mfound, .int mlaid, .ref mlaidRow, .ref mgReason, .ref mgDay, .ref mgTold, .ref mgUntold, .int msights, .int mtime, .ref mboxAll, .ref misBoxed])), (mall, aI g 374 Fmall)] nX)) (va_Qi (fun (r : Int32) => fun (_ : Unit) => 0 ≤ r.toInt ∧ r.toInt ≤ 1) (Qst g [] sz (fun _ => [])) (va_A [] sz)) 0 0 (va_A [] sz) := by
  refine Met.ofW (cc := cX12_isAlive) (maxL := 2) (ret := (some .boolean)) (by decide) rfl ?_
  intro p e s m args below meth c s₁ B hml hv
  obtain ⟨rfl, hsz, hP, hK, hD0, hX⟩ := hv
  have hx := B.exec
  have hb := B.bytes
  have hr := B.returns
  have hT : ∀ w ∈ gT, w.before _ s = true := fun w h => atoms_spec (ws := .code yX12_isAlive cX12_isAlive 2 (some .boolean) :: gT) B.pre w (List.mem_cons_of_mem _ h)
  have hown : s.vm.findClass RX12 = some m.cls := findClass_of_methodNamed B.named
  have hlocks := B.notSynchronized
  subst hsz
  have hD := hD0
  generalize hAe : va_A [] s.heap.size = A at ⊢
  have hA : ∀ q : Nat, s.heap.size ≤ q → A q := fun q h => by rw [← hAe]; exact Or.inr h
  have hS : va_S A s.heap s.heap [] := va_S.rf
  have hl := lv_entry ([.ref h, .int p0]) (n := 2) (Nat.le_of_ble_eq_true rfl)
  rw [lg_entry_eq]
  generalize (lg_sl ([.ref h, .int p0]) ++ List.replicate (2 - (lg_sl ([.ref h, .int p0])).length) Slot.unset).toArray = ls at hl ⊢
  have hl : lv_has ls 2 [(0, .ref h), (1, .int p0)] := hl
  refine p_nH (fun H hH => ?_)
  have hP : va_P g.1 vwCl [(h, .inr (12, [.ref mtape, .ref mtext, .int mtaped, .int msize, .int mfaultKind, .int mfaultPlace, .int mat, .int mend, .int mtoken, .int mnumber, .long mname, .ref mmen, .ref mkinds, .ref mreasons, .ref mtold, .ref munits, .ref mhonour, .ref mdraw, .ref mdies, .ref mcoin, .ref msonOf, .ref mkindOf, .ref mowner, .ref mfirst, .ref mlast, .ref mrent, .ref msort, .ref mduelOne, .ref mduelOther, .ref mduelOn, .ref mruleFrom, .ref mruleTo, .ref mhasHonour, .ref mhasDraw, .ref mmName, .ref mkName, .ref mrName, .ref mdName, .ref mcode, .ref mcodeNumber, .ref meWhat, .ref meSign, .ref mpile, .int mbank, .int mrb, .int mcodes, .int mwithin, .int mpiled, .int munitsInRule, .int maskDay, .int maskUses, .int maskSpent, .ref mall, .ref mwas, .int macts, .int mundone, .ref musedBy0, .ref musedBy1, .ref mmornings, .ref mcameFrom, .ref mcameBy, .ref mlevelAt, .ref mwins, .ref mslots, .ref mlevelOf, .ref mworthOf, .int mstates, .int mlevels, .int mside0, .int mside1, .int mdeathDay, .int maway, .int mhires, .int mhirer, .int mslotFound, .int misSpent, .int mfound, .int mlaid, .ref mlaidRow, .ref mgReason, .ref mgDay, .ref mgTold, .ref mgUntold, .int msights, .int mtime, .ref mboxAll, .ref misBoxed])), (mall, aI g 374 Fmall)] H := by rw [hH]; exact hP
  have hS : va_S A s.heap H [] := by rw [hH]; exact hS
  refine lv_aload_n hx hb dX12_isAlive_0 rfl (lv_at hl 0 rfl) ?_
  refine va_get (D := g.1) (ci := 12) (v := .ref mall) (C := RX12) (T := TX12) (N := 87) hx hb hT inF_X12 hown hK.1 hP 0 rfl rfl 52 (by decide) (hT _ bw_832) (fun _ h9 => h9) rfl dX12_isAlive_1 ?_
  refine lv_iconst (v := 0) hx hb dX12_isAlive_4 (by decide) ?_
  have h_1 : vp_in 0 374 := vp_in_iff.mpr (by decide)
  refine va_iald hx hb hK.1 hP 1 1 rfl rfl (i := 0) h_1 dX12_isAlive_5 ?_
  refine lv_topi (fun x_2 ex_2 => ?_)
  have cn_3 : (0 : Int32).toNatClampNeg = 0 := by decide
  have ux_2 := congrArg Int32.toInt ex_2
  have px_2 : In ((0 : Int32).toNatClampNeg % 374) x_2.toInt := Im.rd hh23 h_1 ex_2
  refine lv_iload_n hx hb dX12_isAlive_6 rfl (lv_at hl 1 rfl) ?_
  refine lv_ishr hx hb dX12_isAlive_7 ?_
  refine lv_topi (fun x_4 ex_4 => ?_)
  refine lv_iconst (v := 1) hx hb dX12_isAlive_8 (by decide) ?_
  refine lv_iand hx hb dX12_isAlive_9 ?_
  refine lv_topi (fun x_5 ex_5 => ?_)
  have fx_5 : 0 ≤ x_5.toInt ∧ x_5.toInt ≤ 1 := by rw [ex_5]; exact I_and (by decide) (by decide)
  refine lv_iconst (v := 1) hx hb dX12_isAlive_10 (by decide) ?_
  refine lv_icmp_ne (tgt := 18) hx hb dX12_isAlive_11 (by decide) (fun c_6 => ?_) (fun c_6 => ?_)
  · have f_7 := E_ne (rfl : x_5.toInt = _) (by decide : (1 : Int32).toInt = 1) c_6
    refine lv_iconst (v := 0) hx hb dX12_isAlive_18 (by decide) ?_
    have hP9 : va_P g.1 vwCl [] H := hP.sub [] rfl
    have hD9 : va_D A [] := ⟨fun i j p q h => by simp at h, fun k q h => by simp at h⟩
    exact W.zret (v := 0) (ty := .boolean) hx hb hr rfl (fun t ht hW => ⟨⟨0, (), rfl, ⟨by decide, by decide⟩, by rw [ht]; exact hP9, by rw [hAe]; exact hD9⟩, hS.F ht⟩) hS.2.2 dX12_isAlive_19
  · have f_8 := E_eq (rfl : x_5.toInt = _) (by decide : (1 : Int32).toInt = 1) c_6
    refine lv_iconst (v := 1) hx hb dX12_isAlive_14 (by decide) ?_
    refine lv_goto (tgt := 19) hx hb dX12_isAlive_15 (by decide) ?_
    have hP9 : va_P g.1 vwCl [] H := hP.sub [] rfl
    have hD9 : va_D A [] := ⟨fun i j p q h => by simp at h, fun k q h => by simp at h⟩
    exact W.zret (v := 1) (ty := .boolean) hx hb hr rfl (fun t ht hW => ⟨⟨1, (), rfl, ⟨by decide, by decide⟩, by rw [ht]; exact hP9, by rw [hAe]; exact hD9⟩, hS.F ht⟩) hS.2.2 dX12_isAlive_19

theorem bw_835 : Cond.code yX12_isStruck cX12_isStruck 2 (some .boolean) ∈ gT := gT_tb 1784 (by decide +kernel) (by decide +kernel)
theorem dX12_isStruck_0 : decode cX12_isStruck 0 = .ok (.aload_n 0, 1) := by decide +kernel
theorem dX12_isStruck_1 : decode cX12_isStruck 1 = .ok (.getfield 119, 3) := by decide +kernel
theorem dX12_isStruck_4 : decode cX12_isStruck 4 = .ok (.bipush 13, 2) := by decide +kernel
theorem dX12_isStruck_6 : decode cX12_isStruck 6 = .ok (.iaload, 1) := by decide +kernel
theorem dX12_isStruck_7 : decode cX12_isStruck 7 = .ok (.iload_n 1, 1) := by decide +kernel
theorem dX12_isStruck_8 : decode cX12_isStruck 8 = .ok (.ishr, 1) := by decide +kernel
theorem dX12_isStruck_9 : decode cX12_isStruck 9 = .ok (.iconst 1, 1) := by decide +kernel
theorem dX12_isStruck_10 : decode cX12_isStruck 10 = .ok (.iand, 1) := by decide +kernel
theorem dX12_isStruck_11 : decode cX12_isStruck 11 = .ok (.iconst 1, 1) := by decide +kernel
theorem dX12_isStruck_12 : decode cX12_isStruck 12 = .ok (.if_icmp .ne 7, 3) := by decide +kernel
theorem dX12_isStruck_15 : decode cX12_isStruck 15 = .ok (.iconst 1, 1) := by decide +kernel
theorem dX12_isStruck_16 : decode cX12_isStruck 16 = .ok (.goto 4, 3) := by decide +kernel
theorem dX12_isStruck_19 : decode cX12_isStruck 19 = .ok (.iconst 0, 1) := by decide +kernel
theorem dX12_isStruck_20 : decode cX12_isStruck 20 = .ok (.ireturn, 1) := by decide +kernel
set_option maxHeartbeats 40000000 in
set_option maxRecDepth 100000 in
theorem s_X12_isStruck (l : Launch) (g : GG) (sz : Nat) (h : Nat) (mtape : Nat) (mtext : Nat) (mtaped : Int32) (msize : Int32) (mfaultKind : Int32) (mfaultPlace : Int32) (mat : Int32) (mend : Int32) (mtoken : Int32) (mnumber : Int32) (mname : Int64) (mmen : Nat) (mkinds : Nat) (mreasons : Nat) (mtold : Nat) (munits : Nat) (mhonour : Nat) (mdraw : Nat) (mdies : Nat) (mcoin : Nat) (msonOf : Nat) (mkindOf : Nat) (mowner : Nat) (mfirst : Nat) (mlast : Nat) (mrent : Nat) (msort : Nat) (mduelOne : Nat) (mduelOther : Nat) (mduelOn : Nat) (mruleFrom : Nat) (mruleTo : Nat) (mhasHonour : Nat) (mhasDraw : Nat) (mmName : Nat) (mkName : Nat) (mrName : Nat) (mdName : Nat) (mcode : Nat) (mcodeNumber : Nat) (meWhat : Nat) (meSign : Nat) (mpile : Nat) (mbank : Int32) (mrb : Int32) (mcodes : Int32) (mwithin : Int32) (mpiled : Int32) (munitsInRule : Int32) (maskDay : Int32) (maskUses : Int32) (maskSpent : Int32) (mall : Nat) (Fmall : Nat → Int32) (mwas : Nat) (macts : Int32) (mundone : Int32) (musedBy0 : Nat) (musedBy1 : Nat) (mmornings : Nat) (mcameFrom : Nat) (mcameBy : Nat) (mlevelAt : Nat) (mwins : Nat) (mslots : Nat) (mlevelOf : Nat) (mworthOf : Nat) (mstates : Int32) (mlevels : Int32) (mside0 : Int32) (mside1 : Int32) (mdeathDay : Int32) (maway : Int32) (mhires : Int32) (mhirer : Int32) (mslotFound : Int32) (misSpent : Int32) (mfound : Int32) (mlaid : Int32) (mlaidRow : Nat) (mgReason : Nat) (mgDay : Nat) (mgTold : Nat) (mgUntold : Nat) (msights : Int32) (mtime : Int32) (mboxAll : Nat) (misBoxed : Nat) (p0 : Int32) (hh0 : 0 ≤ mtaped.toInt ∧ mtaped.toInt ≤ 1600) (hh1 : 0 ≤ msize.toInt ∧ msize.toInt ≤ 1600) (hh2 : 0 ≤ mat.toInt ∧ mat.toInt ≤ 1600) (hh3 : 0 ≤ mend.toInt ∧ mend.toInt ≤ 1600) (hh4 : 0 ≤ mtoken.toInt ∧ mtoken.toInt ≤ 5) (hh18 : 0 ≤ mbank.toInt ∧ mbank.toInt ≤ 1) (hh19 : 0 ≤ mrb.toInt ∧ mrb.toInt ≤ 1) (hh20 : 0 ≤ mcodes.toInt ∧ mcodes.toInt ≤ 1120) (hh21 : 0 ≤ mpiled.toInt ∧ mpiled.toInt ≤ 90) (hh22 : 0 ≤ munitsInRule.toInt ∧ munitsInRule.toInt ≤ 30) (hh23 : Ia Fmall) (hh25 : 0 ≤ macts.toInt ∧ macts.toInt ≤ 40) (hh26 : 0 ≤ mundone.toInt ∧ mundone.toInt ≤ 40) (hh34 : 0 ≤ mstates.toInt ∧ mstates.toInt ≤ 3000) (hh35 : 0 ≤ mlevels.toInt ∧ mlevels.toInt ≤ 18) (hh36 : 0 ≤ mside0.toInt ∧ mside0.toInt ≤ 5) (hh37 : 0 ≤ mside1.toInt ∧ mside1.toInt ≤ 5) (hh38 : 0 ≤ mslotFound.toInt ∧ mslotFound.toInt ≤ 8191) (hh39 : 0 ≤ misSpent.toInt ∧ misSpent.toInt ≤ 1) (hh40 : 0 ≤ mlaid.toInt ∧ mlaid.toInt ≤ 16) (hh41 : 0 ≤ msights.toInt ∧ msights.toInt ≤ 30) (hh42 : 0 ≤ mtime.toInt ∧ mtime.toInt ≤ 100000) : Met l yX12_isStruck (.code yX12_isStruck cX12_isStruck 2 (some .boolean) :: gT) ({ frames := 0, cells := 0, slots := 0, locals := 0 }) (va_Pc [.ref h, .int p0] (Pst g sz [(h, .inr (12, [.ref mtape, .ref mtext, .int mtaped, .int msize, .int mfaultKind, .int mfaultPlace, .int mat, .int mend, .int mtoken, .int mnumber, .long mname, .ref mmen, .ref mkinds, .ref mreasons, .ref mtold, .ref munits, .ref mhonour, .ref mdraw, .ref mdies, .ref mcoin, .ref msonOf, .ref mkindOf, .ref mowner, .ref mfirst, .ref mlast, .ref mrent, .ref msort, .ref mduelOne, .ref mduelOther, .ref mduelOn, .ref mruleFrom, .ref mruleTo, .ref mhasHonour, .ref mhasDraw, .ref mmName, .ref mkName, .ref mrName, .ref mdName, .ref mcode, .ref mcodeNumber, .ref meWhat, .ref meSign, .ref mpile, .int mbank, .int mrb, .int mcodes, .int mwithin, .int mpiled, .int munitsInRule, .int maskDay, .int maskUses, .int maskSpent, .ref mall, .ref mwas, .int macts, .int mundone, .ref musedBy0, .ref musedBy1, .ref mmornings, .ref mcameFrom, .ref mcameBy, .ref mlevelAt, .ref mwins, .ref mslots, .ref mlevelOf, .ref mworthOf, .int mstates, .int mlevels, .int mside0, .int mside1, .int mdeathDay, .int maway, .int mhires, .int mhirer, .int mslotFound, .int misSpent, .int mfound, .int mlaid, .ref mlaidRow, .ref mgReason, .ref mgDay, .ref mgTold, .ref mgUntold, .int msights, .int mtime, .ref mboxAll, .ref misBoxed])), (mall, aI g 374 Fmall)] nX)) (va_Qi (fun (r : Int32) => fun (_ : Unit) => 0 ≤ r.toInt ∧ r.toInt ≤ 1) (Qst g [] sz (fun _ => [])) (va_A [] sz)) 0 0 (va_A [] sz) := by
  refine Met.ofW (cc := cX12_isStruck) (maxL := 2) (ret := (some .boolean)) (by decide) rfl ?_
  intro p e s m args below meth c s₁ B hml hv
  obtain ⟨rfl, hsz, hP, hK, hD0, hX⟩ := hv
  have hx := B.exec
  have hb := B.bytes
  have hr := B.returns
  have hT : ∀ w ∈ gT, w.before _ s = true := fun w h => atoms_spec (ws := .code yX12_isStruck cX12_isStruck 2 (some .boolean) :: gT) B.pre w (List.mem_cons_of_mem _ h)
  have hown : s.vm.findClass RX12 = some m.cls := findClass_of_methodNamed B.named
  have hlocks := B.notSynchronized
  subst hsz
  have hD := hD0
  generalize hAe : va_A [] s.heap.size = A at ⊢
  have hA : ∀ q : Nat, s.heap.size ≤ q → A q := fun q h => by rw [← hAe]; exact Or.inr h
  have hS : va_S A s.heap s.heap [] := va_S.rf
  have hl := lv_entry ([.ref h, .int p0]) (n := 2) (Nat.le_of_ble_eq_true rfl)
  rw [lg_entry_eq]
  generalize (lg_sl ([.ref h, .int p0]) ++ List.replicate (2 - (lg_sl ([.ref h, .int p0])).length) Slot.unset).toArray = ls at hl ⊢
  have hl : lv_has ls 2 [(0, .ref h), (1, .int p0)] := hl
  refine p_nH (fun H hH => ?_)
  have hP : va_P g.1 vwCl [(h, .inr (12, [.ref mtape, .ref mtext, .int mtaped, .int msize, .int mfaultKind, .int mfaultPlace, .int mat, .int mend, .int mtoken, .int mnumber, .long mname, .ref mmen, .ref mkinds, .ref mreasons, .ref mtold, .ref munits, .ref mhonour, .ref mdraw, .ref mdies, .ref mcoin, .ref msonOf, .ref mkindOf, .ref mowner, .ref mfirst, .ref mlast, .ref mrent, .ref msort, .ref mduelOne, .ref mduelOther, .ref mduelOn, .ref mruleFrom, .ref mruleTo, .ref mhasHonour, .ref mhasDraw, .ref mmName, .ref mkName, .ref mrName, .ref mdName, .ref mcode, .ref mcodeNumber, .ref meWhat, .ref meSign, .ref mpile, .int mbank, .int mrb, .int mcodes, .int mwithin, .int mpiled, .int munitsInRule, .int maskDay, .int maskUses, .int maskSpent, .ref mall, .ref mwas, .int macts, .int mundone, .ref musedBy0, .ref musedBy1, .ref mmornings, .ref mcameFrom, .ref mcameBy, .ref mlevelAt, .ref mwins, .ref mslots, .ref mlevelOf, .ref mworthOf, .int mstates, .int mlevels, .int mside0, .int mside1, .int mdeathDay, .int maway, .int mhires, .int mhirer, .int mslotFound, .int misSpent, .int mfound, .int mlaid, .ref mlaidRow, .ref mgReason, .ref mgDay, .ref mgTold, .ref mgUntold, .int msights, .int mtime, .ref mboxAll, .ref misBoxed])), (mall, aI g 374 Fmall)] H := by rw [hH]; exact hP
  have hS : va_S A s.heap H [] := by rw [hH]; exact hS
  refine lv_aload_n hx hb dX12_isStruck_0 rfl (lv_at hl 0 rfl) ?_
  refine va_get (D := g.1) (ci := 12) (v := .ref mall) (C := RX12) (T := TX12) (N := 87) hx hb hT inF_X12 hown hK.1 hP 0 rfl rfl 52 (by decide) (hT _ bw_832) (fun _ h9 => h9) rfl dX12_isStruck_1 ?_
  refine lv_bipush (v := 13) hx hb dX12_isStruck_4 (by decide) ?_
  have h_1 : vp_in 13 374 := vp_in_iff.mpr (by decide)
  refine va_iald hx hb hK.1 hP 1 1 rfl rfl (i := 13) h_1 dX12_isStruck_6 ?_
  refine lv_topi (fun x_2 ex_2 => ?_)
  have cn_3 : (13 : Int32).toNatClampNeg = 13 := by decide
  have ux_2 := congrArg Int32.toInt ex_2
  have px_2 : In ((13 : Int32).toNatClampNeg % 374) x_2.toInt := Im.rd hh23 h_1 ex_2
  refine lv_iload_n hx hb dX12_isStruck_7 rfl (lv_at hl 1 rfl) ?_
  refine lv_ishr hx hb dX12_isStruck_8 ?_
  refine lv_topi (fun x_4 ex_4 => ?_)
  refine lv_iconst (v := 1) hx hb dX12_isStruck_9 (by decide) ?_
  refine lv_iand hx hb dX12_isStruck_10 ?_
  refine lv_topi (fun x_5 ex_5 => ?_)
  have fx_5 : 0 ≤ x_5.toInt ∧ x_5.toInt ≤ 1 := by rw [ex_5]; exact I_and (by decide) (by decide)
  refine lv_iconst (v := 1) hx hb dX12_isStruck_11 (by decide) ?_
  refine lv_icmp_ne (tgt := 19) hx hb dX12_isStruck_12 (by decide) (fun c_6 => ?_) (fun c_6 => ?_)
  · have f_7 := E_ne (rfl : x_5.toInt = _) (by decide : (1 : Int32).toInt = 1) c_6
    refine lv_iconst (v := 0) hx hb dX12_isStruck_19 (by decide) ?_
    have hP9 : va_P g.1 vwCl [] H := hP.sub [] rfl
    have hD9 : va_D A [] := ⟨fun i j p q h => by simp at h, fun k q h => by simp at h⟩
    exact W.zret (v := 0) (ty := .boolean) hx hb hr rfl (fun t ht hW => ⟨⟨0, (), rfl, ⟨by decide, by decide⟩, by rw [ht]; exact hP9, by rw [hAe]; exact hD9⟩, hS.F ht⟩) hS.2.2 dX12_isStruck_20
  · have f_8 := E_eq (rfl : x_5.toInt = _) (by decide : (1 : Int32).toInt = 1) c_6
    refine lv_iconst (v := 1) hx hb dX12_isStruck_15 (by decide) ?_
    refine lv_goto (tgt := 20) hx hb dX12_isStruck_16 (by decide) ?_
    have hP9 : va_P g.1 vwCl [] H := hP.sub [] rfl
    have hD9 : va_D A [] := ⟨fun i j p q h => by simp at h, fun k q h => by simp at h⟩
    exact W.zret (v := 1) (ty := .boolean) hx hb hr rfl (fun t ht hW => ⟨⟨1, (), rfl, ⟨by decide, by decide⟩, by rw [ht]; exact hP9, by rw [hAe]; exact hD9⟩, hS.F ht⟩) hS.2.2 dX12_isStruck_20

theorem bw_836 : Cond.code yX12_of cX12_of 3 (some .int) ∈ gT := gT_tb 1769 (by decide +kernel) (by decide +kernel)
theorem dX12_of_0 : decode cX12_of 0 = .ok (.aload_n 0, 1) := by decide +kernel
theorem dX12_of_1 : decode cX12_of 1 = .ok (.getfield 119, 3) := by decide +kernel
theorem dX12_of_4 : decode cX12_of 4 = .ok (.bipush 14, 2) := by decide +kernel
theorem dX12_of_6 : decode cX12_of 6 = .ok (.bipush 7, 2) := by decide +kernel
theorem dX12_of_8 : decode cX12_of 8 = .ok (.iload_n 1, 1) := by decide +kernel
theorem dX12_of_9 : decode cX12_of 9 = .ok (.imul, 1) := by decide +kernel
theorem dX12_of_10 : decode cX12_of 10 = .ok (.iadd, 1) := by decide +kernel
theorem dX12_of_11 : decode cX12_of 11 = .ok (.iload_n 2, 1) := by decide +kernel
theorem dX12_of_12 : decode cX12_of 12 = .ok (.iadd, 1) := by decide +kernel
theorem dX12_of_13 : decode cX12_of 13 = .ok (.iaload, 1) := by decide +kernel
theorem dX12_of_14 : decode cX12_of 14 = .ok (.ireturn, 1) := by decide +kernel
set_option maxHeartbeats 40000000 in
set_option maxRecDepth 100000 in
theorem s_X12_of_0 (l : Launch) (g : GG) (sz : Nat) (h : Nat) (mtape : Nat) (mtext : Nat) (mtaped : Int32) (msize : Int32) (mfaultKind : Int32) (mfaultPlace : Int32) (mat : Int32) (mend : Int32) (mtoken : Int32) (mnumber : Int32) (mname : Int64) (mmen : Nat) (mkinds : Nat) (mreasons : Nat) (mtold : Nat) (munits : Nat) (mhonour : Nat) (mdraw : Nat) (mdies : Nat) (mcoin : Nat) (msonOf : Nat) (mkindOf : Nat) (mowner : Nat) (mfirst : Nat) (mlast : Nat) (mrent : Nat) (msort : Nat) (mduelOne : Nat) (mduelOther : Nat) (mduelOn : Nat) (mruleFrom : Nat) (mruleTo : Nat) (mhasHonour : Nat) (mhasDraw : Nat) (mmName : Nat) (mkName : Nat) (mrName : Nat) (mdName : Nat) (mcode : Nat) (mcodeNumber : Nat) (meWhat : Nat) (meSign : Nat) (mpile : Nat) (mbank : Int32) (mrb : Int32) (mcodes : Int32) (mwithin : Int32) (mpiled : Int32) (munitsInRule : Int32) (maskDay : Int32) (maskUses : Int32) (maskSpent : Int32) (mall : Nat) (Fmall : Nat → Int32) (mwas : Nat) (macts : Int32) (mundone : Int32) (musedBy0 : Nat) (musedBy1 : Nat) (mmornings : Nat) (mcameFrom : Nat) (mcameBy : Nat) (mlevelAt : Nat) (mwins : Nat) (mslots : Nat) (mlevelOf : Nat) (mworthOf : Nat) (mstates : Int32) (mlevels : Int32) (mside0 : Int32) (mside1 : Int32) (mdeathDay : Int32) (maway : Int32) (mhires : Int32) (mhirer : Int32) (mslotFound : Int32) (misSpent : Int32) (mfound : Int32) (mlaid : Int32) (mlaidRow : Nat) (mgReason : Nat) (mgDay : Nat) (mgTold : Nat) (mgUntold : Nat) (msights : Int32) (mtime : Int32) (mboxAll : Nat) (misBoxed : Nat) (p0 : Int32) (hh0 : 0 ≤ mtaped.toInt ∧ mtaped.toInt ≤ 1600) (hh1 : 0 ≤ msize.toInt ∧ msize.toInt ≤ 1600) (hh2 : 0 ≤ mat.toInt ∧ mat.toInt ≤ 1600) (hh3 : 0 ≤ mend.toInt ∧ mend.toInt ≤ 1600) (hh4 : 0 ≤ mtoken.toInt ∧ mtoken.toInt ≤ 5) (hh18 : 0 ≤ mbank.toInt ∧ mbank.toInt ≤ 1) (hh19 : 0 ≤ mrb.toInt ∧ mrb.toInt ≤ 1) (hh20 : 0 ≤ mcodes.toInt ∧ mcodes.toInt ≤ 1120) (hh21 : 0 ≤ mpiled.toInt ∧ mpiled.toInt ≤ 90) (hh22 : 0 ≤ munitsInRule.toInt ∧ munitsInRule.toInt ≤ 30) (hh23 : Ia Fmall) (hh25 : 0 ≤ macts.toInt ∧ macts.toInt ≤ 40) (hh26 : 0 ≤ mundone.toInt ∧ mundone.toInt ≤ 40) (hh34 : 0 ≤ mstates.toInt ∧ mstates.toInt ≤ 3000) (hh35 : 0 ≤ mlevels.toInt ∧ mlevels.toInt ≤ 18) (hh36 : 0 ≤ mside0.toInt ∧ mside0.toInt ≤ 5) (hh37 : 0 ≤ mside1.toInt ∧ mside1.toInt ≤ 5) (hh38 : 0 ≤ mslotFound.toInt ∧ mslotFound.toInt ≤ 8191) (hh39 : 0 ≤ misSpent.toInt ∧ misSpent.toInt ≤ 1) (hh40 : 0 ≤ mlaid.toInt ∧ mlaid.toInt ≤ 16) (hh41 : 0 ≤ msights.toInt ∧ msights.toInt ≤ 30) (hh42 : 0 ≤ mtime.toInt ∧ mtime.toInt ≤ 100000) (hh44 : 0 ≤ p0.toInt ∧ p0.toInt ≤ 7) : Met l yX12_of (.code yX12_of cX12_of 3 (some .int) :: gT) ({ frames := 0, cells := 0, slots := 0, locals := 0 }) (va_Pc [.ref h, .int p0, .int 0] (Pst g sz [(h, .inr (12, [.ref mtape, .ref mtext, .int mtaped, .int msize, .int mfaultKind, .int mfaultPlace, .int mat, .int mend, .int mtoken, .int mnumber, .long mname, .ref mmen, .ref mkinds, .ref mreasons, .ref mtold, .ref munits, .ref mhonour, .ref mdraw, .ref mdies, .ref mcoin, .ref msonOf, .ref mkindOf, .ref mowner, .ref mfirst, .ref mlast, .ref mrent, .ref msort, .ref mduelOne, .ref mduelOther, .ref mduelOn, .ref mruleFrom, .ref mruleTo, .ref mhasHonour, .ref mhasDraw, .ref mmName, .ref mkName, .ref mrName, .ref mdName, .ref mcode, .ref mcodeNumber, .ref meWhat, .ref meSign, .ref mpile, .int mbank, .int mrb, .int mcodes, .int mwithin, .int mpiled, .int munitsInRule, .int maskDay, .int maskUses, .int maskSpent, .ref mall, .ref mwas, .int macts, .int mundone, .ref musedBy0, .ref musedBy1, .ref mmornings, .ref mcameFrom, .ref mcameBy, .ref mlevelAt, .ref mwins, .ref mslots, .ref mlevelOf, .ref mworthOf, .int mstates, .int mlevels, .int mside0, .int mside1, .int mdeathDay, .int maway, .int mhires, .int mhirer, .int mslotFound, .int misSpent, .int mfound, .int mlaid, .ref mlaidRow, .ref mgReason, .ref mgDay, .ref mgTold, .ref mgUntold, .int msights, .int mtime, .ref mboxAll, .ref misBoxed])), (mall, aI g 374 Fmall)] nX)) (va_Qi (fun (r : Int32) => fun (_ : Unit) => 0 ≤ r.toInt ∧ r.toInt ≤ 5) (Qst g [] sz (fun _ => [])) (va_A [] sz)) 0 0 (va_A [] sz) := by
  refine Met.ofW (cc := cX12_of) (maxL := 3) (ret := (some .int)) (by decide) rfl ?_
  intro p e s m args below meth c s₁ B hml hv
  obtain ⟨rfl, hsz, hP, hK, hD0, hX⟩ := hv
  have hx := B.exec
  have hb := B.bytes
  have hr := B.returns
  have hT : ∀ w ∈ gT, w.before _ s = true := fun w h => atoms_spec (ws := .code yX12_of cX12_of 3 (some .int) :: gT) B.pre w (List.mem_cons_of_mem _ h)
  have hown : s.vm.findClass RX12 = some m.cls := findClass_of_methodNamed B.named
  have hlocks := B.notSynchronized
  subst hsz
  have hD := hD0
  generalize hAe : va_A [] s.heap.size = A at ⊢
  have hA : ∀ q : Nat, s.heap.size ≤ q → A q := fun q h => by rw [← hAe]; exact Or.inr h
  have hS : va_S A s.heap s.heap [] := va_S.rf
  have hl := lv_entry ([.ref h, .int p0, .int 0]) (n := 3) (Nat.le_of_ble_eq_true rfl)
  rw [lg_entry_eq]
  generalize (lg_sl ([.ref h, .int p0, .int 0]) ++ List.replicate (3 - (lg_sl ([.ref h, .int p0, .int 0])).length) Slot.unset).toArray = ls at hl ⊢
  have hl : lv_has ls 3 [(0, .ref h), (1, .int p0), (2, .int 0)] := hl
  refine p_nH (fun H hH => ?_)
  have hP : va_P g.1 vwCl [(h, .inr (12, [.ref mtape, .ref mtext, .int mtaped, .int msize, .int mfaultKind, .int mfaultPlace, .int mat, .int mend, .int mtoken, .int mnumber, .long mname, .ref mmen, .ref mkinds, .ref mreasons, .ref mtold, .ref munits, .ref mhonour, .ref mdraw, .ref mdies, .ref mcoin, .ref msonOf, .ref mkindOf, .ref mowner, .ref mfirst, .ref mlast, .ref mrent, .ref msort, .ref mduelOne, .ref mduelOther, .ref mduelOn, .ref mruleFrom, .ref mruleTo, .ref mhasHonour, .ref mhasDraw, .ref mmName, .ref mkName, .ref mrName, .ref mdName, .ref mcode, .ref mcodeNumber, .ref meWhat, .ref meSign, .ref mpile, .int mbank, .int mrb, .int mcodes, .int mwithin, .int mpiled, .int munitsInRule, .int maskDay, .int maskUses, .int maskSpent, .ref mall, .ref mwas, .int macts, .int mundone, .ref musedBy0, .ref musedBy1, .ref mmornings, .ref mcameFrom, .ref mcameBy, .ref mlevelAt, .ref mwins, .ref mslots, .ref mlevelOf, .ref mworthOf, .int mstates, .int mlevels, .int mside0, .int mside1, .int mdeathDay, .int maway, .int mhires, .int mhirer, .int mslotFound, .int misSpent, .int mfound, .int mlaid, .ref mlaidRow, .ref mgReason, .ref mgDay, .ref mgTold, .ref mgUntold, .int msights, .int mtime, .ref mboxAll, .ref misBoxed])), (mall, aI g 374 Fmall)] H := by rw [hH]; exact hP
  have hS : va_S A s.heap H [] := by rw [hH]; exact hS
  refine lv_aload_n hx hb dX12_of_0 rfl (lv_at hl 0 rfl) ?_
  refine va_get (D := g.1) (ci := 12) (v := .ref mall) (C := RX12) (T := TX12) (N := 87) hx hb hT inF_X12 hown hK.1 hP 0 rfl rfl 52 (by decide) (hT _ bw_832) (fun _ h9 => h9) rfl dX12_of_1 ?_
  refine lv_bipush (v := 14) hx hb dX12_of_4 (by decide) ?_
  refine lv_bipush (v := 7) hx hb dX12_of_6 (by decide) ?_
  refine lv_iload_n hx hb dX12_of_8 rfl (lv_at hl 1 rfl) ?_
  refine lv_imul hx hb dX12_of_9 ?_
  refine lv_topi (fun x_1 ex_1 => ?_)
  have fx_1 : x_1.toInt = 7 * p0.toInt := by rw [ex_1]; exact I_mul (by decide : (7 : Int32).toInt = 7) rfl (by omega) (by omega)
  refine lv_iadd hx hb dX12_of_10 ?_
  refine lv_topi (fun x_2 ex_2 => ?_)
  have fx_2 : x_2.toInt = 14 + x_1.toInt := by rw [ex_2]; exact I_add (by decide : (14 : Int32).toInt = 14) rfl (by omega) (by omega)
  refine lv_iload_n hx hb dX12_of_11 rfl (lv_at hl 2 rfl) ?_
  refine lv_iadd hx hb dX12_of_12 ?_
  refine lv_topi (fun x_3 ex_3 => ?_)
  have fx_3 : x_3.toInt = x_2.toInt + 0 := by rw [ex_3]; exact I_add rfl (by decide : (0 : Int32).toInt = 0) (by omega) (by omega)
  have h_4 : vp_in x_3 374 := vp_in_iff.mpr (by omega)
  refine va_iald hx hb hK.1 hP 1 1 rfl rfl (i := x_3) h_4 dX12_of_13 ?_
  refine lv_topi (fun x_5 ex_5 => ?_)
  have cn_6 := clampI (x := x_3) (by omega)
  have mcn_6 : (x_3 : Int32).toNatClampNeg % 374 = (x_3 : Int32).toNatClampNeg := Nat.mod_eq_of_lt (by omega)
  have ux_5 := congrArg Int32.toInt ex_5
  have px_5 : In ((x_3 : Int32).toNatClampNeg % 374) x_5.toInt := Im.rd hh23 h_4 ex_5
  have fx_5 : 0 ≤ x_5.toInt ∧ x_5.toInt ≤ 5 := px_5.2.2.2.1 (by omega) (by omega) (by omega)
  have hP9 : va_P g.1 vwCl [] H := hP.sub [] rfl
  have hD9 : va_D A [] := ⟨fun i j p q h => by simp at h, fun k q h => by simp at h⟩
  exact W.iret (v := x_5) hx hb hr (fun t ht hW => ⟨⟨x_5, (), rfl, (by first | with_reducible assumption | omega), by rw [ht]; exact hP9, by rw [hAe]; exact hD9⟩, hS.F ht⟩) hS.2.2 dX12_of_14

set_option maxHeartbeats 40000000 in
set_option maxRecDepth 100000 in
theorem s_X12_of_1 (l : Launch) (g : GG) (sz : Nat) (h : Nat) (mtape : Nat) (mtext : Nat) (mtaped : Int32) (msize : Int32) (mfaultKind : Int32) (mfaultPlace : Int32) (mat : Int32) (mend : Int32) (mtoken : Int32) (mnumber : Int32) (mname : Int64) (mmen : Nat) (mkinds : Nat) (mreasons : Nat) (mtold : Nat) (munits : Nat) (mhonour : Nat) (mdraw : Nat) (mdies : Nat) (mcoin : Nat) (msonOf : Nat) (mkindOf : Nat) (mowner : Nat) (mfirst : Nat) (mlast : Nat) (mrent : Nat) (msort : Nat) (mduelOne : Nat) (mduelOther : Nat) (mduelOn : Nat) (mruleFrom : Nat) (mruleTo : Nat) (mhasHonour : Nat) (mhasDraw : Nat) (mmName : Nat) (mkName : Nat) (mrName : Nat) (mdName : Nat) (mcode : Nat) (mcodeNumber : Nat) (meWhat : Nat) (meSign : Nat) (mpile : Nat) (mbank : Int32) (mrb : Int32) (mcodes : Int32) (mwithin : Int32) (mpiled : Int32) (munitsInRule : Int32) (maskDay : Int32) (maskUses : Int32) (maskSpent : Int32) (mall : Nat) (Fmall : Nat → Int32) (mwas : Nat) (macts : Int32) (mundone : Int32) (musedBy0 : Nat) (musedBy1 : Nat) (mmornings : Nat) (mcameFrom : Nat) (mcameBy : Nat) (mlevelAt : Nat) (mwins : Nat) (mslots : Nat) (mlevelOf : Nat) (mworthOf : Nat) (mstates : Int32) (mlevels : Int32) (mside0 : Int32) (mside1 : Int32) (mdeathDay : Int32) (maway : Int32) (mhires : Int32) (mhirer : Int32) (mslotFound : Int32) (misSpent : Int32) (mfound : Int32) (mlaid : Int32) (mlaidRow : Nat) (mgReason : Nat) (mgDay : Nat) (mgTold : Nat) (mgUntold : Nat) (msights : Int32) (mtime : Int32) (mboxAll : Nat) (misBoxed : Nat) (p0 : Int32) (hh0 : 0 ≤ mtaped.toInt ∧ mtaped.toInt ≤ 1600) (hh1 : 0 ≤ msize.toInt ∧ msize.toInt ≤ 1600) (hh2 : 0 ≤ mat.toInt ∧ mat.toInt ≤ 1600) (hh3 : 0 ≤ mend.toInt ∧ mend.toInt ≤ 1600) (hh4 : 0 ≤ mtoken.toInt ∧ mtoken.toInt ≤ 5) (hh18 : 0 ≤ mbank.toInt ∧ mbank.toInt ≤ 1) (hh19 : 0 ≤ mrb.toInt ∧ mrb.toInt ≤ 1) (hh20 : 0 ≤ mcodes.toInt ∧ mcodes.toInt ≤ 1120) (hh21 : 0 ≤ mpiled.toInt ∧ mpiled.toInt ≤ 90) (hh22 : 0 ≤ munitsInRule.toInt ∧ munitsInRule.toInt ≤ 30) (hh23 : Ia Fmall) (hh25 : 0 ≤ macts.toInt ∧ macts.toInt ≤ 40) (hh26 : 0 ≤ mundone.toInt ∧ mundone.toInt ≤ 40) (hh34 : 0 ≤ mstates.toInt ∧ mstates.toInt ≤ 3000) (hh35 : 0 ≤ mlevels.toInt ∧ mlevels.toInt ≤ 18) (hh36 : 0 ≤ mside0.toInt ∧ mside0.toInt ≤ 5) (hh37 : 0 ≤ mside1.toInt ∧ mside1.toInt ≤ 5) (hh38 : 0 ≤ mslotFound.toInt ∧ mslotFound.toInt ≤ 8191) (hh39 : 0 ≤ misSpent.toInt ∧ misSpent.toInt ≤ 1) (hh40 : 0 ≤ mlaid.toInt ∧ mlaid.toInt ≤ 16) (hh41 : 0 ≤ msights.toInt ∧ msights.toInt ≤ 30) (hh42 : 0 ≤ mtime.toInt ∧ mtime.toInt ≤ 100000) (hh44 : 0 ≤ p0.toInt ∧ p0.toInt ≤ 7) : Met l yX12_of (.code yX12_of cX12_of 3 (some .int) :: gT) ({ frames := 0, cells := 0, slots := 0, locals := 0 }) (va_Pc [.ref h, .int p0, .int 1] (Pst g sz [(h, .inr (12, [.ref mtape, .ref mtext, .int mtaped, .int msize, .int mfaultKind, .int mfaultPlace, .int mat, .int mend, .int mtoken, .int mnumber, .long mname, .ref mmen, .ref mkinds, .ref mreasons, .ref mtold, .ref munits, .ref mhonour, .ref mdraw, .ref mdies, .ref mcoin, .ref msonOf, .ref mkindOf, .ref mowner, .ref mfirst, .ref mlast, .ref mrent, .ref msort, .ref mduelOne, .ref mduelOther, .ref mduelOn, .ref mruleFrom, .ref mruleTo, .ref mhasHonour, .ref mhasDraw, .ref mmName, .ref mkName, .ref mrName, .ref mdName, .ref mcode, .ref mcodeNumber, .ref meWhat, .ref meSign, .ref mpile, .int mbank, .int mrb, .int mcodes, .int mwithin, .int mpiled, .int munitsInRule, .int maskDay, .int maskUses, .int maskSpent, .ref mall, .ref mwas, .int macts, .int mundone, .ref musedBy0, .ref musedBy1, .ref mmornings, .ref mcameFrom, .ref mcameBy, .ref mlevelAt, .ref mwins, .ref mslots, .ref mlevelOf, .ref mworthOf, .int mstates, .int mlevels, .int mside0, .int mside1, .int mdeathDay, .int maway, .int mhires, .int mhirer, .int mslotFound, .int misSpent, .int mfound, .int mlaid, .ref mlaidRow, .ref mgReason, .ref mgDay, .ref mgTold, .ref mgUntold, .int msights, .int mtime, .ref mboxAll, .ref misBoxed])), (mall, aI g 374 Fmall)] nX)) (va_Qi (fun (r : Int32) => fun (_ : Unit) => 0 ≤ r.toInt ∧ r.toInt ≤ 5) (Qst g [] sz (fun _ => [])) (va_A [] sz)) 0 0 (va_A [] sz) := by
  refine Met.ofW (cc := cX12_of) (maxL := 3) (ret := (some .int)) (by decide) rfl ?_
  intro p e s m args below meth c s₁ B hml hv
  obtain ⟨rfl, hsz, hP, hK, hD0, hX⟩ := hv
  have hx := B.exec
  have hb := B.bytes
  have hr := B.returns
  have hT : ∀ w ∈ gT, w.before _ s = true := fun w h => atoms_spec (ws := .code yX12_of cX12_of 3 (some .int) :: gT) B.pre w (List.mem_cons_of_mem _ h)
  have hown : s.vm.findClass RX12 = some m.cls := findClass_of_methodNamed B.named
  have hlocks := B.notSynchronized
  subst hsz
  have hD := hD0
  generalize hAe : va_A [] s.heap.size = A at ⊢
  have hA : ∀ q : Nat, s.heap.size ≤ q → A q := fun q h => by rw [← hAe]; exact Or.inr h
  have hS : va_S A s.heap s.heap [] := va_S.rf
  have hl := lv_entry ([.ref h, .int p0, .int 1]) (n := 3) (Nat.le_of_ble_eq_true rfl)
  rw [lg_entry_eq]
  generalize (lg_sl ([.ref h, .int p0, .int 1]) ++ List.replicate (3 - (lg_sl ([.ref h, .int p0, .int 1])).length) Slot.unset).toArray = ls at hl ⊢
  have hl : lv_has ls 3 [(0, .ref h), (1, .int p0), (2, .int 1)] := hl
  refine p_nH (fun H hH => ?_)
  have hP : va_P g.1 vwCl [(h, .inr (12, [.ref mtape, .ref mtext, .int mtaped, .int msize, .int mfaultKind, .int mfaultPlace, .int mat, .int mend, .int mtoken, .int mnumber, .long mname, .ref mmen, .ref mkinds, .ref mreasons, .ref mtold, .ref munits, .ref mhonour, .ref mdraw, .ref mdies, .ref mcoin, .ref msonOf, .ref mkindOf, .ref mowner, .ref mfirst, .ref mlast, .ref mrent, .ref msort, .ref mduelOne, .ref mduelOther, .ref mduelOn, .ref mruleFrom, .ref mruleTo, .ref mhasHonour, .ref mhasDraw, .ref mmName, .ref mkName, .ref mrName, .ref mdName, .ref mcode, .ref mcodeNumber, .ref meWhat, .ref meSign, .ref mpile, .int mbank, .int mrb, .int mcodes, .int mwithin, .int mpiled, .int munitsInRule, .int maskDay, .int maskUses, .int maskSpent, .ref mall, .ref mwas, .int macts, .int mundone, .ref musedBy0, .ref musedBy1, .ref mmornings, .ref mcameFrom, .ref mcameBy, .ref mlevelAt, .ref mwins, .ref mslots, .ref mlevelOf, .ref mworthOf, .int mstates, .int mlevels, .int mside0, .int mside1, .int mdeathDay, .int maway, .int mhires, .int mhirer, .int mslotFound, .int misSpent, .int mfound, .int mlaid, .ref mlaidRow, .ref mgReason, .ref mgDay, .ref mgTold, .ref mgUntold, .int msights, .int mtime, .ref mboxAll, .ref misBoxed])), (mall, aI g 374 Fmall)] H := by rw [hH]; exact hP
  have hS : va_S A s.heap H [] := by rw [hH]; exact hS
  refine lv_aload_n hx hb dX12_of_0 rfl (lv_at hl 0 rfl) ?_
  refine va_get (D := g.1) (ci := 12) (v := .ref mall) (C := RX12) (T := TX12) (N := 87) hx hb hT inF_X12 hown hK.1 hP 0 rfl rfl 52 (by decide) (hT _ bw_832) (fun _ h9 => h9) rfl dX12_of_1 ?_
  refine lv_bipush (v := 14) hx hb dX12_of_4 (by decide) ?_
  refine lv_bipush (v := 7) hx hb dX12_of_6 (by decide) ?_
  refine lv_iload_n hx hb dX12_of_8 rfl (lv_at hl 1 rfl) ?_
  refine lv_imul hx hb dX12_of_9 ?_
  refine lv_topi (fun x_1 ex_1 => ?_)
  have fx_1 : x_1.toInt = 7 * p0.toInt := by rw [ex_1]; exact I_mul (by decide : (7 : Int32).toInt = 7) rfl (by omega) (by omega)
  refine lv_iadd hx hb dX12_of_10 ?_
  refine lv_topi (fun x_2 ex_2 => ?_)
  have fx_2 : x_2.toInt = 14 + x_1.toInt := by rw [ex_2]; exact I_add (by decide : (14 : Int32).toInt = 14) rfl (by omega) (by omega)
  refine lv_iload_n hx hb dX12_of_11 rfl (lv_at hl 2 rfl) ?_
  refine lv_iadd hx hb dX12_of_12 ?_
  refine lv_topi (fun x_3 ex_3 => ?_)
  have fx_3 : x_3.toInt = x_2.toInt + 1 := by rw [ex_3]; exact I_add rfl (by decide : (1 : Int32).toInt = 1) (by omega) (by omega)
  have h_4 : vp_in x_3 374 := vp_in_iff.mpr (by omega)
  refine va_iald hx hb hK.1 hP 1 1 rfl rfl (i := x_3) h_4 dX12_of_13 ?_
  refine lv_topi (fun x_5 ex_5 => ?_)
  have cn_6 := clampI (x := x_3) (by omega)
  have mcn_6 : (x_3 : Int32).toNatClampNeg % 374 = (x_3 : Int32).toNatClampNeg := Nat.mod_eq_of_lt (by omega)
  have ux_5 := congrArg Int32.toInt ex_5
  have px_5 : In ((x_3 : Int32).toNatClampNeg % 374) x_5.toInt := Im.rd hh23 h_4 ex_5
  have fx_5 : 0 ≤ x_5.toInt ∧ x_5.toInt ≤ 5 := px_5.2.2.2.1 (by omega) (by omega) (by omega)
  have hP9 : va_P g.1 vwCl [] H := hP.sub [] rfl
  have hD9 : va_D A [] := ⟨fun i j p q h => by simp at h, fun k q h => by simp at h⟩
  exact W.iret (v := x_5) hx hb hr (fun t ht hW => ⟨⟨x_5, (), rfl, (by first | with_reducible assumption | omega), by rw [ht]; exact hP9, by rw [hAe]; exact hD9⟩, hS.F ht⟩) hS.2.2 dX12_of_14

set_option maxHeartbeats 40000000 in
set_option maxRecDepth 100000 in
theorem s_X12_of_2 (l : Launch) (g : GG) (sz : Nat) (h : Nat) (mtape : Nat) (mtext : Nat) (mtaped : Int32) (msize : Int32) (mfaultKind : Int32) (mfaultPlace : Int32) (mat : Int32) (mend : Int32) (mtoken : Int32) (mnumber : Int32) (mname : Int64) (mmen : Nat) (mkinds : Nat) (mreasons : Nat) (mtold : Nat) (munits : Nat) (mhonour : Nat) (mdraw : Nat) (mdies : Nat) (mcoin : Nat) (msonOf : Nat) (mkindOf : Nat) (mowner : Nat) (mfirst : Nat) (mlast : Nat) (mrent : Nat) (msort : Nat) (mduelOne : Nat) (mduelOther : Nat) (mduelOn : Nat) (mruleFrom : Nat) (mruleTo : Nat) (mhasHonour : Nat) (mhasDraw : Nat) (mmName : Nat) (mkName : Nat) (mrName : Nat) (mdName : Nat) (mcode : Nat) (mcodeNumber : Nat) (meWhat : Nat) (meSign : Nat) (mpile : Nat) (mbank : Int32) (mrb : Int32) (mcodes : Int32) (mwithin : Int32) (mpiled : Int32) (munitsInRule : Int32) (maskDay : Int32) (maskUses : Int32) (maskSpent : Int32) (mall : Nat) (Fmall : Nat → Int32) (mwas : Nat) (macts : Int32) (mundone : Int32) (musedBy0 : Nat) (musedBy1 : Nat) (mmornings : Nat) (mcameFrom : Nat) (mcameBy : Nat) (mlevelAt : Nat) (mwins : Nat) (mslots : Nat) (mlevelOf : Nat) (mworthOf : Nat) (mstates : Int32) (mlevels : Int32) (mside0 : Int32) (mside1 : Int32) (mdeathDay : Int32) (maway : Int32) (mhires : Int32) (mhirer : Int32) (mslotFound : Int32) (misSpent : Int32) (mfound : Int32) (mlaid : Int32) (mlaidRow : Nat) (mgReason : Nat) (mgDay : Nat) (mgTold : Nat) (mgUntold : Nat) (msights : Int32) (mtime : Int32) (mboxAll : Nat) (misBoxed : Nat) (p0 : Int32) (hh0 : 0 ≤ mtaped.toInt ∧ mtaped.toInt ≤ 1600) (hh1 : 0 ≤ msize.toInt ∧ msize.toInt ≤ 1600) (hh2 : 0 ≤ mat.toInt ∧ mat.toInt ≤ 1600) (hh3 : 0 ≤ mend.toInt ∧ mend.toInt ≤ 1600) (hh4 : 0 ≤ mtoken.toInt ∧ mtoken.toInt ≤ 5) (hh18 : 0 ≤ mbank.toInt ∧ mbank.toInt ≤ 1) (hh19 : 0 ≤ mrb.toInt ∧ mrb.toInt ≤ 1) (hh20 : 0 ≤ mcodes.toInt ∧ mcodes.toInt ≤ 1120) (hh21 : 0 ≤ mpiled.toInt ∧ mpiled.toInt ≤ 90) (hh22 : 0 ≤ munitsInRule.toInt ∧ munitsInRule.toInt ≤ 30) (hh23 : Ia Fmall) (hh25 : 0 ≤ macts.toInt ∧ macts.toInt ≤ 40) (hh26 : 0 ≤ mundone.toInt ∧ mundone.toInt ≤ 40) (hh34 : 0 ≤ mstates.toInt ∧ mstates.toInt ≤ 3000) (hh35 : 0 ≤ mlevels.toInt ∧ mlevels.toInt ≤ 18) (hh36 : 0 ≤ mside0.toInt ∧ mside0.toInt ≤ 5) (hh37 : 0 ≤ mside1.toInt ∧ mside1.toInt ≤ 5) (hh38 : 0 ≤ mslotFound.toInt ∧ mslotFound.toInt ≤ 8191) (hh39 : 0 ≤ misSpent.toInt ∧ misSpent.toInt ≤ 1) (hh40 : 0 ≤ mlaid.toInt ∧ mlaid.toInt ≤ 16) (hh41 : 0 ≤ msights.toInt ∧ msights.toInt ≤ 30) (hh42 : 0 ≤ mtime.toInt ∧ mtime.toInt ≤ 100000) (hh44 : 0 ≤ p0.toInt ∧ p0.toInt ≤ 7) : Met l yX12_of (.code yX12_of cX12_of 3 (some .int) :: gT) ({ frames := 0, cells := 0, slots := 0, locals := 0 }) (va_Pc [.ref h, .int p0, .int 2] (Pst g sz [(h, .inr (12, [.ref mtape, .ref mtext, .int mtaped, .int msize, .int mfaultKind, .int mfaultPlace, .int mat, .int mend, .int mtoken, .int mnumber, .long mname, .ref mmen, .ref mkinds, .ref mreasons, .ref mtold, .ref munits, .ref mhonour, .ref mdraw, .ref mdies, .ref mcoin, .ref msonOf, .ref mkindOf, .ref mowner, .ref mfirst, .ref mlast, .ref mrent, .ref msort, .ref mduelOne, .ref mduelOther, .ref mduelOn, .ref mruleFrom, .ref mruleTo, .ref mhasHonour, .ref mhasDraw, .ref mmName, .ref mkName, .ref mrName, .ref mdName, .ref mcode, .ref mcodeNumber, .ref meWhat, .ref meSign, .ref mpile, .int mbank, .int mrb, .int mcodes, .int mwithin, .int mpiled, .int munitsInRule, .int maskDay, .int maskUses, .int maskSpent, .ref mall, .ref mwas, .int macts, .int mundone, .ref musedBy0, .ref musedBy1, .ref mmornings, .ref mcameFrom, .ref mcameBy, .ref mlevelAt, .ref mwins, .ref mslots, .ref mlevelOf, .ref mworthOf, .int mstates, .int mlevels, .int mside0, .int mside1, .int mdeathDay, .int maway, .int mhires, .int mhirer, .int mslotFound, .int misSpent, .int mfound, .int mlaid, .ref mlaidRow, .ref mgReason, .ref mgDay, .ref mgTold, .ref mgUntold, .int msights, .int mtime, .ref mboxAll, .ref misBoxed])), (mall, aI g 374 Fmall)] nX)) (va_Qi (fun (r : Int32) => fun (_ : Unit) => True) (Qst g [] sz (fun _ => [])) (va_A [] sz)) 0 0 (va_A [] sz) := by
  refine Met.ofW (cc := cX12_of) (maxL := 3) (ret := (some .int)) (by decide) rfl ?_
  intro p e s m args below meth c s₁ B hml hv
  obtain ⟨rfl, hsz, hP, hK, hD0, hX⟩ := hv
  have hx := B.exec
  have hb := B.bytes
  have hr := B.returns
  have hT : ∀ w ∈ gT, w.before _ s = true := fun w h => atoms_spec (ws := .code yX12_of cX12_of 3 (some .int) :: gT) B.pre w (List.mem_cons_of_mem _ h)
  have hown : s.vm.findClass RX12 = some m.cls := findClass_of_methodNamed B.named
  have hlocks := B.notSynchronized
  subst hsz
  have hD := hD0
  generalize hAe : va_A [] s.heap.size = A at ⊢
  have hA : ∀ q : Nat, s.heap.size ≤ q → A q := fun q h => by rw [← hAe]; exact Or.inr h
  have hS : va_S A s.heap s.heap [] := va_S.rf
  have hl := lv_entry ([.ref h, .int p0, .int 2]) (n := 3) (Nat.le_of_ble_eq_true rfl)
  rw [lg_entry_eq]
  generalize (lg_sl ([.ref h, .int p0, .int 2]) ++ List.replicate (3 - (lg_sl ([.ref h, .int p0, .int 2])).length) Slot.unset).toArray = ls at hl ⊢
  have hl : lv_has ls 3 [(0, .ref h), (1, .int p0), (2, .int 2)] := hl
  refine p_nH (fun H hH => ?_)
  have hP : va_P g.1 vwCl [(h, .inr (12, [.ref mtape, .ref mtext, .int mtaped, .int msize, .int mfaultKind, .int mfaultPlace, .int mat, .int mend, .int mtoken, .int mnumber, .long mname, .ref mmen, .ref mkinds, .ref mreasons, .ref mtold, .ref munits, .ref mhonour, .ref mdraw, .ref mdies, .ref mcoin, .ref msonOf, .ref mkindOf, .ref mowner, .ref mfirst, .ref mlast, .ref mrent, .ref msort, .ref mduelOne, .ref mduelOther, .ref mduelOn, .ref mruleFrom, .ref mruleTo, .ref mhasHonour, .ref mhasDraw, .ref mmName, .ref mkName, .ref mrName, .ref mdName, .ref mcode, .ref mcodeNumber, .ref meWhat, .ref meSign, .ref mpile, .int mbank, .int mrb, .int mcodes, .int mwithin, .int mpiled, .int munitsInRule, .int maskDay, .int maskUses, .int maskSpent, .ref mall, .ref mwas, .int macts, .int mundone, .ref musedBy0, .ref musedBy1, .ref mmornings, .ref mcameFrom, .ref mcameBy, .ref mlevelAt, .ref mwins, .ref mslots, .ref mlevelOf, .ref mworthOf, .int mstates, .int mlevels, .int mside0, .int mside1, .int mdeathDay, .int maway, .int mhires, .int mhirer, .int mslotFound, .int misSpent, .int mfound, .int mlaid, .ref mlaidRow, .ref mgReason, .ref mgDay, .ref mgTold, .ref mgUntold, .int msights, .int mtime, .ref mboxAll, .ref misBoxed])), (mall, aI g 374 Fmall)] H := by rw [hH]; exact hP
  have hS : va_S A s.heap H [] := by rw [hH]; exact hS
  refine lv_aload_n hx hb dX12_of_0 rfl (lv_at hl 0 rfl) ?_
  refine va_get (D := g.1) (ci := 12) (v := .ref mall) (C := RX12) (T := TX12) (N := 87) hx hb hT inF_X12 hown hK.1 hP 0 rfl rfl 52 (by decide) (hT _ bw_832) (fun _ h9 => h9) rfl dX12_of_1 ?_
  refine lv_bipush (v := 14) hx hb dX12_of_4 (by decide) ?_
  refine lv_bipush (v := 7) hx hb dX12_of_6 (by decide) ?_
  refine lv_iload_n hx hb dX12_of_8 rfl (lv_at hl 1 rfl) ?_
  refine lv_imul hx hb dX12_of_9 ?_
  refine lv_topi (fun x_1 ex_1 => ?_)
  have fx_1 : x_1.toInt = 7 * p0.toInt := by rw [ex_1]; exact I_mul (by decide : (7 : Int32).toInt = 7) rfl (by omega) (by omega)
  refine lv_iadd hx hb dX12_of_10 ?_
  refine lv_topi (fun x_2 ex_2 => ?_)
  have fx_2 : x_2.toInt = 14 + x_1.toInt := by rw [ex_2]; exact I_add (by decide : (14 : Int32).toInt = 14) rfl (by omega) (by omega)
  refine lv_iload_n hx hb dX12_of_11 rfl (lv_at hl 2 rfl) ?_
  refine lv_iadd hx hb dX12_of_12 ?_
  refine lv_topi (fun x_3 ex_3 => ?_)
  have fx_3 : x_3.toInt = x_2.toInt + 2 := by rw [ex_3]; exact I_add rfl (by decide : (2 : Int32).toInt = 2) (by omega) (by omega)
  have h_4 : vp_in x_3 374 := vp_in_iff.mpr (by omega)
  refine va_iald hx hb hK.1 hP 1 1 rfl rfl (i := x_3) h_4 dX12_of_13 ?_
  refine lv_topi (fun x_5 ex_5 => ?_)
  have cn_6 := clampI (x := x_3) (by omega)
  have mcn_6 : (x_3 : Int32).toNatClampNeg % 374 = (x_3 : Int32).toNatClampNeg := Nat.mod_eq_of_lt (by omega)
  have ux_5 := congrArg Int32.toInt ex_5
  have px_5 : In ((x_3 : Int32).toNatClampNeg % 374) x_5.toInt := Im.rd hh23 h_4 ex_5
  have hP9 : va_P g.1 vwCl [] H := hP.sub [] rfl
  have hD9 : va_D A [] := ⟨fun i j p q h => by simp at h, fun k q h => by simp at h⟩
  exact W.iret (v := x_5) hx hb hr (fun t ht hW => ⟨⟨x_5, (), rfl, trivial, by rw [ht]; exact hP9, by rw [hAe]; exact hD9⟩, hS.F ht⟩) hS.2.2 dX12_of_14

set_option maxHeartbeats 40000000 in
set_option maxRecDepth 100000 in
theorem s_X12_of_3 (l : Launch) (g : GG) (sz : Nat) (h : Nat) (mtape : Nat) (mtext : Nat) (mtaped : Int32) (msize : Int32) (mfaultKind : Int32) (mfaultPlace : Int32) (mat : Int32) (mend : Int32) (mtoken : Int32) (mnumber : Int32) (mname : Int64) (mmen : Nat) (mkinds : Nat) (mreasons : Nat) (mtold : Nat) (munits : Nat) (mhonour : Nat) (mdraw : Nat) (mdies : Nat) (mcoin : Nat) (msonOf : Nat) (mkindOf : Nat) (mowner : Nat) (mfirst : Nat) (mlast : Nat) (mrent : Nat) (msort : Nat) (mduelOne : Nat) (mduelOther : Nat) (mduelOn : Nat) (mruleFrom : Nat) (mruleTo : Nat) (mhasHonour : Nat) (mhasDraw : Nat) (mmName : Nat) (mkName : Nat) (mrName : Nat) (mdName : Nat) (mcode : Nat) (mcodeNumber : Nat) (meWhat : Nat) (meSign : Nat) (mpile : Nat) (mbank : Int32) (mrb : Int32) (mcodes : Int32) (mwithin : Int32) (mpiled : Int32) (munitsInRule : Int32) (maskDay : Int32) (maskUses : Int32) (maskSpent : Int32) (mall : Nat) (Fmall : Nat → Int32) (mwas : Nat) (macts : Int32) (mundone : Int32) (musedBy0 : Nat) (musedBy1 : Nat) (mmornings : Nat) (mcameFrom : Nat) (mcameBy : Nat) (mlevelAt : Nat) (mwins : Nat) (mslots : Nat) (mlevelOf : Nat) (mworthOf : Nat) (mstates : Int32) (mlevels : Int32) (mside0 : Int32) (mside1 : Int32) (mdeathDay : Int32) (maway : Int32) (mhires : Int32) (mhirer : Int32) (mslotFound : Int32) (misSpent : Int32) (mfound : Int32) (mlaid : Int32) (mlaidRow : Nat) (mgReason : Nat) (mgDay : Nat) (mgTold : Nat) (mgUntold : Nat) (msights : Int32) (mtime : Int32) (mboxAll : Nat) (misBoxed : Nat) (p0 : Int32) (hh0 : 0 ≤ mtaped.toInt ∧ mtaped.toInt ≤ 1600) (hh1 : 0 ≤ msize.toInt ∧ msize.toInt ≤ 1600) (hh2 : 0 ≤ mat.toInt ∧ mat.toInt ≤ 1600) (hh3 : 0 ≤ mend.toInt ∧ mend.toInt ≤ 1600) (hh4 : 0 ≤ mtoken.toInt ∧ mtoken.toInt ≤ 5) (hh18 : 0 ≤ mbank.toInt ∧ mbank.toInt ≤ 1) (hh19 : 0 ≤ mrb.toInt ∧ mrb.toInt ≤ 1) (hh20 : 0 ≤ mcodes.toInt ∧ mcodes.toInt ≤ 1120) (hh21 : 0 ≤ mpiled.toInt ∧ mpiled.toInt ≤ 90) (hh22 : 0 ≤ munitsInRule.toInt ∧ munitsInRule.toInt ≤ 30) (hh23 : Ia Fmall) (hh25 : 0 ≤ macts.toInt ∧ macts.toInt ≤ 40) (hh26 : 0 ≤ mundone.toInt ∧ mundone.toInt ≤ 40) (hh34 : 0 ≤ mstates.toInt ∧ mstates.toInt ≤ 3000) (hh35 : 0 ≤ mlevels.toInt ∧ mlevels.toInt ≤ 18) (hh36 : 0 ≤ mside0.toInt ∧ mside0.toInt ≤ 5) (hh37 : 0 ≤ mside1.toInt ∧ mside1.toInt ≤ 5) (hh38 : 0 ≤ mslotFound.toInt ∧ mslotFound.toInt ≤ 8191) (hh39 : 0 ≤ misSpent.toInt ∧ misSpent.toInt ≤ 1) (hh40 : 0 ≤ mlaid.toInt ∧ mlaid.toInt ≤ 16) (hh41 : 0 ≤ msights.toInt ∧ msights.toInt ≤ 30) (hh42 : 0 ≤ mtime.toInt ∧ mtime.toInt ≤ 100000) (hh44 : 0 ≤ p0.toInt ∧ p0.toInt ≤ 7) : Met l yX12_of (.code yX12_of cX12_of 3 (some .int) :: gT) ({ frames := 0, cells := 0, slots := 0, locals := 0 }) (va_Pc [.ref h, .int p0, .int 3] (Pst g sz [(h, .inr (12, [.ref mtape, .ref mtext, .int mtaped, .int msize, .int mfaultKind, .int mfaultPlace, .int mat, .int mend, .int mtoken, .int mnumber, .long mname, .ref mmen, .ref mkinds, .ref mreasons, .ref mtold, .ref munits, .ref mhonour, .ref mdraw, .ref mdies, .ref mcoin, .ref msonOf, .ref mkindOf, .ref mowner, .ref mfirst, .ref mlast, .ref mrent, .ref msort, .ref mduelOne, .ref mduelOther, .ref mduelOn, .ref mruleFrom, .ref mruleTo, .ref mhasHonour, .ref mhasDraw, .ref mmName, .ref mkName, .ref mrName, .ref mdName, .ref mcode, .ref mcodeNumber, .ref meWhat, .ref meSign, .ref mpile, .int mbank, .int mrb, .int mcodes, .int mwithin, .int mpiled, .int munitsInRule, .int maskDay, .int maskUses, .int maskSpent, .ref mall, .ref mwas, .int macts, .int mundone, .ref musedBy0, .ref musedBy1, .ref mmornings, .ref mcameFrom, .ref mcameBy, .ref mlevelAt, .ref mwins, .ref mslots, .ref mlevelOf, .ref mworthOf, .int mstates, .int mlevels, .int mside0, .int mside1, .int mdeathDay, .int maway, .int mhires, .int mhirer, .int mslotFound, .int misSpent, .int mfound, .int mlaid, .ref mlaidRow, .ref mgReason, .ref mgDay, .ref mgTold, .ref mgUntold, .int msights, .int mtime, .ref mboxAll, .ref misBoxed])), (mall, aI g 374 Fmall)] nX)) (va_Qi (fun (r : Int32) => fun (_ : Unit) => True) (Qst g [] sz (fun _ => [])) (va_A [] sz)) 0 0 (va_A [] sz) := by
  refine Met.ofW (cc := cX12_of) (maxL := 3) (ret := (some .int)) (by decide) rfl ?_
  intro p e s m args below meth c s₁ B hml hv
  obtain ⟨rfl, hsz, hP, hK, hD0, hX⟩ := hv
  have hx := B.exec
  have hb := B.bytes
  have hr := B.returns
  have hT : ∀ w ∈ gT, w.before _ s = true := fun w h => atoms_spec (ws := .code yX12_of cX12_of 3 (some .int) :: gT) B.pre w (List.mem_cons_of_mem _ h)
  have hown : s.vm.findClass RX12 = some m.cls := findClass_of_methodNamed B.named
  have hlocks := B.notSynchronized
  subst hsz
  have hD := hD0
  generalize hAe : va_A [] s.heap.size = A at ⊢
  have hA : ∀ q : Nat, s.heap.size ≤ q → A q := fun q h => by rw [← hAe]; exact Or.inr h
  have hS : va_S A s.heap s.heap [] := va_S.rf
  have hl := lv_entry ([.ref h, .int p0, .int 3]) (n := 3) (Nat.le_of_ble_eq_true rfl)
  rw [lg_entry_eq]
  generalize (lg_sl ([.ref h, .int p0, .int 3]) ++ List.replicate (3 - (lg_sl ([.ref h, .int p0, .int 3])).length) Slot.unset).toArray = ls at hl ⊢
  have hl : lv_has ls 3 [(0, .ref h), (1, .int p0), (2, .int 3)] := hl
  refine p_nH (fun H hH => ?_)
  have hP : va_P g.1 vwCl [(h, .inr (12, [.ref mtape, .ref mtext, .int mtaped, .int msize, .int mfaultKind, .int mfaultPlace, .int mat, .int mend, .int mtoken, .int mnumber, .long mname, .ref mmen, .ref mkinds, .ref mreasons, .ref mtold, .ref munits, .ref mhonour, .ref mdraw, .ref mdies, .ref mcoin, .ref msonOf, .ref mkindOf, .ref mowner, .ref mfirst, .ref mlast, .ref mrent, .ref msort, .ref mduelOne, .ref mduelOther, .ref mduelOn, .ref mruleFrom, .ref mruleTo, .ref mhasHonour, .ref mhasDraw, .ref mmName, .ref mkName, .ref mrName, .ref mdName, .ref mcode, .ref mcodeNumber, .ref meWhat, .ref meSign, .ref mpile, .int mbank, .int mrb, .int mcodes, .int mwithin, .int mpiled, .int munitsInRule, .int maskDay, .int maskUses, .int maskSpent, .ref mall, .ref mwas, .int macts, .int mundone, .ref musedBy0, .ref musedBy1, .ref mmornings, .ref mcameFrom, .ref mcameBy, .ref mlevelAt, .ref mwins, .ref mslots, .ref mlevelOf, .ref mworthOf, .int mstates, .int mlevels, .int mside0, .int mside1, .int mdeathDay, .int maway, .int mhires, .int mhirer, .int mslotFound, .int misSpent, .int mfound, .int mlaid, .ref mlaidRow, .ref mgReason, .ref mgDay, .ref mgTold, .ref mgUntold, .int msights, .int mtime, .ref mboxAll, .ref misBoxed])), (mall, aI g 374 Fmall)] H := by rw [hH]; exact hP
  have hS : va_S A s.heap H [] := by rw [hH]; exact hS
  refine lv_aload_n hx hb dX12_of_0 rfl (lv_at hl 0 rfl) ?_
  refine va_get (D := g.1) (ci := 12) (v := .ref mall) (C := RX12) (T := TX12) (N := 87) hx hb hT inF_X12 hown hK.1 hP 0 rfl rfl 52 (by decide) (hT _ bw_832) (fun _ h9 => h9) rfl dX12_of_1 ?_
  refine lv_bipush (v := 14) hx hb dX12_of_4 (by decide) ?_
  refine lv_bipush (v := 7) hx hb dX12_of_6 (by decide) ?_
  refine lv_iload_n hx hb dX12_of_8 rfl (lv_at hl 1 rfl) ?_
  refine lv_imul hx hb dX12_of_9 ?_
  refine lv_topi (fun x_1 ex_1 => ?_)
  have fx_1 : x_1.toInt = 7 * p0.toInt := by rw [ex_1]; exact I_mul (by decide : (7 : Int32).toInt = 7) rfl (by omega) (by omega)
  refine lv_iadd hx hb dX12_of_10 ?_
  refine lv_topi (fun x_2 ex_2 => ?_)
  have fx_2 : x_2.toInt = 14 + x_1.toInt := by rw [ex_2]; exact I_add (by decide : (14 : Int32).toInt = 14) rfl (by omega) (by omega)
  refine lv_iload_n hx hb dX12_of_11 rfl (lv_at hl 2 rfl) ?_
  refine lv_iadd hx hb dX12_of_12 ?_
  refine lv_topi (fun x_3 ex_3 => ?_)
  have fx_3 : x_3.toInt = x_2.toInt + 3 := by rw [ex_3]; exact I_add rfl (by decide : (3 : Int32).toInt = 3) (by omega) (by omega)
  have h_4 : vp_in x_3 374 := vp_in_iff.mpr (by omega)
  refine va_iald hx hb hK.1 hP 1 1 rfl rfl (i := x_3) h_4 dX12_of_13 ?_
  refine lv_topi (fun x_5 ex_5 => ?_)
  have cn_6 := clampI (x := x_3) (by omega)
  have mcn_6 : (x_3 : Int32).toNatClampNeg % 374 = (x_3 : Int32).toNatClampNeg := Nat.mod_eq_of_lt (by omega)
  have ux_5 := congrArg Int32.toInt ex_5
  have px_5 : In ((x_3 : Int32).toNatClampNeg % 374) x_5.toInt := Im.rd hh23 h_4 ex_5
  have hP9 : va_P g.1 vwCl [] H := hP.sub [] rfl
  have hD9 : va_D A [] := ⟨fun i j p q h => by simp at h, fun k q h => by simp at h⟩
  exact W.iret (v := x_5) hx hb hr (fun t ht hW => ⟨⟨x_5, (), rfl, trivial, by rw [ht]; exact hP9, by rw [hAe]; exact hD9⟩, hS.F ht⟩) hS.2.2 dX12_of_14

set_option maxHeartbeats 40000000 in
set_option maxRecDepth 100000 in
theorem s_X12_of_4 (l : Launch) (g : GG) (sz : Nat) (h : Nat) (mtape : Nat) (mtext : Nat) (mtaped : Int32) (msize : Int32) (mfaultKind : Int32) (mfaultPlace : Int32) (mat : Int32) (mend : Int32) (mtoken : Int32) (mnumber : Int32) (mname : Int64) (mmen : Nat) (mkinds : Nat) (mreasons : Nat) (mtold : Nat) (munits : Nat) (mhonour : Nat) (mdraw : Nat) (mdies : Nat) (mcoin : Nat) (msonOf : Nat) (mkindOf : Nat) (mowner : Nat) (mfirst : Nat) (mlast : Nat) (mrent : Nat) (msort : Nat) (mduelOne : Nat) (mduelOther : Nat) (mduelOn : Nat) (mruleFrom : Nat) (mruleTo : Nat) (mhasHonour : Nat) (mhasDraw : Nat) (mmName : Nat) (mkName : Nat) (mrName : Nat) (mdName : Nat) (mcode : Nat) (mcodeNumber : Nat) (meWhat : Nat) (meSign : Nat) (mpile : Nat) (mbank : Int32) (mrb : Int32) (mcodes : Int32) (mwithin : Int32) (mpiled : Int32) (munitsInRule : Int32) (maskDay : Int32) (maskUses : Int32) (maskSpent : Int32) (mall : Nat) (Fmall : Nat → Int32) (mwas : Nat) (macts : Int32) (mundone : Int32) (musedBy0 : Nat) (musedBy1 : Nat) (mmornings : Nat) (mcameFrom : Nat) (mcameBy : Nat) (mlevelAt : Nat) (mwins : Nat) (mslots : Nat) (mlevelOf : Nat) (mworthOf : Nat) (mstates : Int32) (mlevels : Int32) (mside0 : Int32) (mside1 : Int32) (mdeathDay : Int32) (maway : Int32) (mhires : Int32) (mhirer : Int32) (mslotFound : Int32) (misSpent : Int32) (mfound : Int32) (mlaid : Int32) (mlaidRow : Nat) (mgReason : Nat) (mgDay : Nat) (mgTold : Nat) (mgUntold : Nat) (msights : Int32) (mtime : Int32) (mboxAll : Nat) (misBoxed : Nat) (p0 : Int32) (hh0 : 0 ≤ mtaped.toInt ∧ mtaped.toInt ≤ 1600) (hh1 : 0 ≤ msize.toInt ∧ msize.toInt ≤ 1600) (hh2 : 0 ≤ mat.toInt ∧ mat.toInt ≤ 1600) (hh3 : 0 ≤ mend.toInt ∧ mend.toInt ≤ 1600) (hh4 : 0 ≤ mtoken.toInt ∧ mtoken.toInt ≤ 5) (hh18 : 0 ≤ mbank.toInt ∧ mbank.toInt ≤ 1) (hh19 : 0 ≤ mrb.toInt ∧ mrb.toInt ≤ 1) (hh20 : 0 ≤ mcodes.toInt ∧ mcodes.toInt ≤ 1120) (hh21 : 0 ≤ mpiled.toInt ∧ mpiled.toInt ≤ 90) (hh22 : 0 ≤ munitsInRule.toInt ∧ munitsInRule.toInt ≤ 30) (hh23 : Ia Fmall) (hh25 : 0 ≤ macts.toInt ∧ macts.toInt ≤ 40) (hh26 : 0 ≤ mundone.toInt ∧ mundone.toInt ≤ 40) (hh34 : 0 ≤ mstates.toInt ∧ mstates.toInt ≤ 3000) (hh35 : 0 ≤ mlevels.toInt ∧ mlevels.toInt ≤ 18) (hh36 : 0 ≤ mside0.toInt ∧ mside0.toInt ≤ 5) (hh37 : 0 ≤ mside1.toInt ∧ mside1.toInt ≤ 5) (hh38 : 0 ≤ mslotFound.toInt ∧ mslotFound.toInt ≤ 8191) (hh39 : 0 ≤ misSpent.toInt ∧ misSpent.toInt ≤ 1) (hh40 : 0 ≤ mlaid.toInt ∧ mlaid.toInt ≤ 16) (hh41 : 0 ≤ msights.toInt ∧ msights.toInt ≤ 30) (hh42 : 0 ≤ mtime.toInt ∧ mtime.toInt ≤ 100000) (hh44 : 0 ≤ p0.toInt ∧ p0.toInt ≤ 7) : Met l yX12_of (.code yX12_of cX12_of 3 (some .int) :: gT) ({ frames := 0, cells := 0, slots := 0, locals := 0 }) (va_Pc [.ref h, .int p0, .int 4] (Pst g sz [(h, .inr (12, [.ref mtape, .ref mtext, .int mtaped, .int msize, .int mfaultKind, .int mfaultPlace, .int mat, .int mend, .int mtoken, .int mnumber, .long mname, .ref mmen, .ref mkinds, .ref mreasons, .ref mtold, .ref munits, .ref mhonour, .ref mdraw, .ref mdies, .ref mcoin, .ref msonOf, .ref mkindOf, .ref mowner, .ref mfirst, .ref mlast, .ref mrent, .ref msort, .ref mduelOne, .ref mduelOther, .ref mduelOn, .ref mruleFrom, .ref mruleTo, .ref mhasHonour, .ref mhasDraw, .ref mmName, .ref mkName, .ref mrName, .ref mdName, .ref mcode, .ref mcodeNumber, .ref meWhat, .ref meSign, .ref mpile, .int mbank, .int mrb, .int mcodes, .int mwithin, .int mpiled, .int munitsInRule, .int maskDay, .int maskUses, .int maskSpent, .ref mall, .ref mwas, .int macts, .int mundone, .ref musedBy0, .ref musedBy1, .ref mmornings, .ref mcameFrom, .ref mcameBy, .ref mlevelAt, .ref mwins, .ref mslots, .ref mlevelOf, .ref mworthOf, .int mstates, .int mlevels, .int mside0, .int mside1, .int mdeathDay, .int maway, .int mhires, .int mhirer, .int mslotFound, .int misSpent, .int mfound, .int mlaid, .ref mlaidRow, .ref mgReason, .ref mgDay, .ref mgTold, .ref mgUntold, .int msights, .int mtime, .ref mboxAll, .ref misBoxed])), (mall, aI g 374 Fmall)] nX)) (va_Qi (fun (r : Int32) => fun (_ : Unit) => True) (Qst g [] sz (fun _ => [])) (va_A [] sz)) 0 0 (va_A [] sz) := by
  refine Met.ofW (cc := cX12_of) (maxL := 3) (ret := (some .int)) (by decide) rfl ?_
  intro p e s m args below meth c s₁ B hml hv
  obtain ⟨rfl, hsz, hP, hK, hD0, hX⟩ := hv
  have hx := B.exec
  have hb := B.bytes
  have hr := B.returns
  have hT : ∀ w ∈ gT, w.before _ s = true := fun w h => atoms_spec (ws := .code yX12_of cX12_of 3 (some .int) :: gT) B.pre w (List.mem_cons_of_mem _ h)
  have hown : s.vm.findClass RX12 = some m.cls := findClass_of_methodNamed B.named
  have hlocks := B.notSynchronized
  subst hsz
  have hD := hD0
  generalize hAe : va_A [] s.heap.size = A at ⊢
  have hA : ∀ q : Nat, s.heap.size ≤ q → A q := fun q h => by rw [← hAe]; exact Or.inr h
  have hS : va_S A s.heap s.heap [] := va_S.rf
  have hl := lv_entry ([.ref h, .int p0, .int 4]) (n := 3) (Nat.le_of_ble_eq_true rfl)
  rw [lg_entry_eq]
  generalize (lg_sl ([.ref h, .int p0, .int 4]) ++ List.replicate (3 - (lg_sl ([.ref h, .int p0, .int 4])).length) Slot.unset).toArray = ls at hl ⊢
  have hl : lv_has ls 3 [(0, .ref h), (1, .int p0), (2, .int 4)] := hl
  refine p_nH (fun H hH => ?_)
  have hP : va_P g.1 vwCl [(h, .inr (12, [.ref mtape, .ref mtext, .int mtaped, .int msize, .int mfaultKind, .int mfaultPlace, .int mat, .int mend, .int mtoken, .int mnumber, .long mname, .ref mmen, .ref mkinds, .ref mreasons, .ref mtold, .ref munits, .ref mhonour, .ref mdraw, .ref mdies, .ref mcoin, .ref msonOf, .ref mkindOf, .ref mowner, .ref mfirst, .ref mlast, .ref mrent, .ref msort, .ref mduelOne, .ref mduelOther, .ref mduelOn, .ref mruleFrom, .ref mruleTo, .ref mhasHonour, .ref mhasDraw, .ref mmName, .ref mkName, .ref mrName, .ref mdName, .ref mcode, .ref mcodeNumber, .ref meWhat, .ref meSign, .ref mpile, .int mbank, .int mrb, .int mcodes, .int mwithin, .int mpiled, .int munitsInRule, .int maskDay, .int maskUses, .int maskSpent, .ref mall, .ref mwas, .int macts, .int mundone, .ref musedBy0, .ref musedBy1, .ref mmornings, .ref mcameFrom, .ref mcameBy, .ref mlevelAt, .ref mwins, .ref mslots, .ref mlevelOf, .ref mworthOf, .int mstates, .int mlevels, .int mside0, .int mside1, .int mdeathDay, .int maway, .int mhires, .int mhirer, .int mslotFound, .int misSpent, .int mfound, .int mlaid, .ref mlaidRow, .ref mgReason, .ref mgDay, .ref mgTold, .ref mgUntold, .int msights, .int mtime, .ref mboxAll, .ref misBoxed])), (mall, aI g 374 Fmall)] H := by rw [hH]; exact hP
  have hS : va_S A s.heap H [] := by rw [hH]; exact hS
  refine lv_aload_n hx hb dX12_of_0 rfl (lv_at hl 0 rfl) ?_
  refine va_get (D := g.1) (ci := 12) (v := .ref mall) (C := RX12) (T := TX12) (N := 87) hx hb hT inF_X12 hown hK.1 hP 0 rfl rfl 52 (by decide) (hT _ bw_832) (fun _ h9 => h9) rfl dX12_of_1 ?_
  refine lv_bipush (v := 14) hx hb dX12_of_4 (by decide) ?_
  refine lv_bipush (v := 7) hx hb dX12_of_6 (by decide) ?_
  refine lv_iload_n hx hb dX12_of_8 rfl (lv_at hl 1 rfl) ?_
  refine lv_imul hx hb dX12_of_9 ?_
  refine lv_topi (fun x_1 ex_1 => ?_)
  have fx_1 : x_1.toInt = 7 * p0.toInt := by rw [ex_1]; exact I_mul (by decide : (7 : Int32).toInt = 7) rfl (by omega) (by omega)
  refine lv_iadd hx hb dX12_of_10 ?_
  refine lv_topi (fun x_2 ex_2 => ?_)
  have fx_2 : x_2.toInt = 14 + x_1.toInt := by rw [ex_2]; exact I_add (by decide : (14 : Int32).toInt = 14) rfl (by omega) (by omega)
  refine lv_iload_n hx hb dX12_of_11 rfl (lv_at hl 2 rfl) ?_
  refine lv_iadd hx hb dX12_of_12 ?_
  refine lv_topi (fun x_3 ex_3 => ?_)
  have fx_3 : x_3.toInt = x_2.toInt + 4 := by rw [ex_3]; exact I_add rfl (by decide : (4 : Int32).toInt = 4) (by omega) (by omega)
  have h_4 : vp_in x_3 374 := vp_in_iff.mpr (by omega)
  refine va_iald hx hb hK.1 hP 1 1 rfl rfl (i := x_3) h_4 dX12_of_13 ?_
  refine lv_topi (fun x_5 ex_5 => ?_)
  have cn_6 := clampI (x := x_3) (by omega)
  have mcn_6 : (x_3 : Int32).toNatClampNeg % 374 = (x_3 : Int32).toNatClampNeg := Nat.mod_eq_of_lt (by omega)
  have ux_5 := congrArg Int32.toInt ex_5
  have px_5 : In ((x_3 : Int32).toNatClampNeg % 374) x_5.toInt := Im.rd hh23 h_4 ex_5
  have hP9 : va_P g.1 vwCl [] H := hP.sub [] rfl
  have hD9 : va_D A [] := ⟨fun i j p q h => by simp at h, fun k q h => by simp at h⟩
  exact W.iret (v := x_5) hx hb hr (fun t ht hW => ⟨⟨x_5, (), rfl, trivial, by rw [ht]; exact hP9, by rw [hAe]; exact hD9⟩, hS.F ht⟩) hS.2.2 dX12_of_14

set_option maxHeartbeats 40000000 in
set_option maxRecDepth 100000 in
theorem s_X12_of_5 (l : Launch) (g : GG) (sz : Nat) (h : Nat) (mtape : Nat) (mtext : Nat) (mtaped : Int32) (msize : Int32) (mfaultKind : Int32) (mfaultPlace : Int32) (mat : Int32) (mend : Int32) (mtoken : Int32) (mnumber : Int32) (mname : Int64) (mmen : Nat) (mkinds : Nat) (mreasons : Nat) (mtold : Nat) (munits : Nat) (mhonour : Nat) (mdraw : Nat) (mdies : Nat) (mcoin : Nat) (msonOf : Nat) (mkindOf : Nat) (mowner : Nat) (mfirst : Nat) (mlast : Nat) (mrent : Nat) (msort : Nat) (mduelOne : Nat) (mduelOther : Nat) (mduelOn : Nat) (mruleFrom : Nat) (mruleTo : Nat) (mhasHonour : Nat) (mhasDraw : Nat) (mmName : Nat) (mkName : Nat) (mrName : Nat) (mdName : Nat) (mcode : Nat) (mcodeNumber : Nat) (meWhat : Nat) (meSign : Nat) (mpile : Nat) (mbank : Int32) (mrb : Int32) (mcodes : Int32) (mwithin : Int32) (mpiled : Int32) (munitsInRule : Int32) (maskDay : Int32) (maskUses : Int32) (maskSpent : Int32) (mall : Nat) (Fmall : Nat → Int32) (mwas : Nat) (macts : Int32) (mundone : Int32) (musedBy0 : Nat) (musedBy1 : Nat) (mmornings : Nat) (mcameFrom : Nat) (mcameBy : Nat) (mlevelAt : Nat) (mwins : Nat) (mslots : Nat) (mlevelOf : Nat) (mworthOf : Nat) (mstates : Int32) (mlevels : Int32) (mside0 : Int32) (mside1 : Int32) (mdeathDay : Int32) (maway : Int32) (mhires : Int32) (mhirer : Int32) (mslotFound : Int32) (misSpent : Int32) (mfound : Int32) (mlaid : Int32) (mlaidRow : Nat) (mgReason : Nat) (mgDay : Nat) (mgTold : Nat) (mgUntold : Nat) (msights : Int32) (mtime : Int32) (mboxAll : Nat) (misBoxed : Nat) (p0 : Int32) (hh0 : 0 ≤ mtaped.toInt ∧ mtaped.toInt ≤ 1600) (hh1 : 0 ≤ msize.toInt ∧ msize.toInt ≤ 1600) (hh2 : 0 ≤ mat.toInt ∧ mat.toInt ≤ 1600) (hh3 : 0 ≤ mend.toInt ∧ mend.toInt ≤ 1600) (hh4 : 0 ≤ mtoken.toInt ∧ mtoken.toInt ≤ 5) (hh18 : 0 ≤ mbank.toInt ∧ mbank.toInt ≤ 1) (hh19 : 0 ≤ mrb.toInt ∧ mrb.toInt ≤ 1) (hh20 : 0 ≤ mcodes.toInt ∧ mcodes.toInt ≤ 1120) (hh21 : 0 ≤ mpiled.toInt ∧ mpiled.toInt ≤ 90) (hh22 : 0 ≤ munitsInRule.toInt ∧ munitsInRule.toInt ≤ 30) (hh23 : Ia Fmall) (hh25 : 0 ≤ macts.toInt ∧ macts.toInt ≤ 40) (hh26 : 0 ≤ mundone.toInt ∧ mundone.toInt ≤ 40) (hh34 : 0 ≤ mstates.toInt ∧ mstates.toInt ≤ 3000) (hh35 : 0 ≤ mlevels.toInt ∧ mlevels.toInt ≤ 18) (hh36 : 0 ≤ mside0.toInt ∧ mside0.toInt ≤ 5) (hh37 : 0 ≤ mside1.toInt ∧ mside1.toInt ≤ 5) (hh38 : 0 ≤ mslotFound.toInt ∧ mslotFound.toInt ≤ 8191) (hh39 : 0 ≤ misSpent.toInt ∧ misSpent.toInt ≤ 1) (hh40 : 0 ≤ mlaid.toInt ∧ mlaid.toInt ≤ 16) (hh41 : 0 ≤ msights.toInt ∧ msights.toInt ≤ 30) (hh42 : 0 ≤ mtime.toInt ∧ mtime.toInt ≤ 100000) (hh44 : 0 ≤ p0.toInt ∧ p0.toInt ≤ 7) : Met l yX12_of (.code yX12_of cX12_of 3 (some .int) :: gT) ({ frames := 0, cells := 0, slots := 0, locals := 0 }) (va_Pc [.ref h, .int p0, .int 5] (Pst g sz [(h, .inr (12, [.ref mtape, .ref mtext, .int mtaped, .int msize, .int mfaultKind, .int mfaultPlace, .int mat, .int mend, .int mtoken, .int mnumber, .long mname, .ref mmen, .ref mkinds, .ref mreasons, .ref mtold, .ref munits, .ref mhonour, .ref mdraw, .ref mdies, .ref mcoin, .ref msonOf, .ref mkindOf, .ref mowner, .ref mfirst, .ref mlast, .ref mrent, .ref msort, .ref mduelOne, .ref mduelOther, .ref mduelOn, .ref mruleFrom, .ref mruleTo, .ref mhasHonour, .ref mhasDraw, .ref mmName, .ref mkName, .ref mrName, .ref mdName, .ref mcode, .ref mcodeNumber, .ref meWhat, .ref meSign, .ref mpile, .int mbank, .int mrb, .int mcodes, .int mwithin, .int mpiled, .int munitsInRule, .int maskDay, .int maskUses, .int maskSpent, .ref mall, .ref mwas, .int macts, .int mundone, .ref musedBy0, .ref musedBy1, .ref mmornings, .ref mcameFrom, .ref mcameBy, .ref mlevelAt, .ref mwins, .ref mslots, .ref mlevelOf, .ref mworthOf, .int mstates, .int mlevels, .int mside0, .int mside1, .int mdeathDay, .int maway, .int mhires, .int mhirer, .int mslotFound, .int misSpent, .int mfound, .int mlaid, .ref mlaidRow, .ref mgReason, .ref mgDay, .ref mgTold, .ref mgUntold, .int msights, .int mtime, .ref mboxAll, .ref misBoxed])), (mall, aI g 374 Fmall)] nX)) (va_Qi (fun (r : Int32) => fun (_ : Unit) => 0 ≤ r.toInt ∧ r.toInt ≤ 255) (Qst g [] sz (fun _ => [])) (va_A [] sz)) 0 0 (va_A [] sz) := by
  refine Met.ofW (cc := cX12_of) (maxL := 3) (ret := (some .int)) (by decide) rfl ?_
  intro p e s m args below meth c s₁ B hml hv
  obtain ⟨rfl, hsz, hP, hK, hD0, hX⟩ := hv
  have hx := B.exec
  have hb := B.bytes
  have hr := B.returns
  have hT : ∀ w ∈ gT, w.before _ s = true := fun w h => atoms_spec (ws := .code yX12_of cX12_of 3 (some .int) :: gT) B.pre w (List.mem_cons_of_mem _ h)
  have hown : s.vm.findClass RX12 = some m.cls := findClass_of_methodNamed B.named
  have hlocks := B.notSynchronized
  subst hsz
  have hD := hD0
  generalize hAe : va_A [] s.heap.size = A at ⊢
  have hA : ∀ q : Nat, s.heap.size ≤ q → A q := fun q h => by rw [← hAe]; exact Or.inr h
  have hS : va_S A s.heap s.heap [] := va_S.rf
  have hl := lv_entry ([.ref h, .int p0, .int 5]) (n := 3) (Nat.le_of_ble_eq_true rfl)
  rw [lg_entry_eq]
  generalize (lg_sl ([.ref h, .int p0, .int 5]) ++ List.replicate (3 - (lg_sl ([.ref h, .int p0, .int 5])).length) Slot.unset).toArray = ls at hl ⊢
  have hl : lv_has ls 3 [(0, .ref h), (1, .int p0), (2, .int 5)] := hl
  refine p_nH (fun H hH => ?_)
  have hP : va_P g.1 vwCl [(h, .inr (12, [.ref mtape, .ref mtext, .int mtaped, .int msize, .int mfaultKind, .int mfaultPlace, .int mat, .int mend, .int mtoken, .int mnumber, .long mname, .ref mmen, .ref mkinds, .ref mreasons, .ref mtold, .ref munits, .ref mhonour, .ref mdraw, .ref mdies, .ref mcoin, .ref msonOf, .ref mkindOf, .ref mowner, .ref mfirst, .ref mlast, .ref mrent, .ref msort, .ref mduelOne, .ref mduelOther, .ref mduelOn, .ref mruleFrom, .ref mruleTo, .ref mhasHonour, .ref mhasDraw, .ref mmName, .ref mkName, .ref mrName, .ref mdName, .ref mcode, .ref mcodeNumber, .ref meWhat, .ref meSign, .ref mpile, .int mbank, .int mrb, .int mcodes, .int mwithin, .int mpiled, .int munitsInRule, .int maskDay, .int maskUses, .int maskSpent, .ref mall, .ref mwas, .int macts, .int mundone, .ref musedBy0, .ref musedBy1, .ref mmornings, .ref mcameFrom, .ref mcameBy, .ref mlevelAt, .ref mwins, .ref mslots, .ref mlevelOf, .ref mworthOf, .int mstates, .int mlevels, .int mside0, .int mside1, .int mdeathDay, .int maway, .int mhires, .int mhirer, .int mslotFound, .int misSpent, .int mfound, .int mlaid, .ref mlaidRow, .ref mgReason, .ref mgDay, .ref mgTold, .ref mgUntold, .int msights, .int mtime, .ref mboxAll, .ref misBoxed])), (mall, aI g 374 Fmall)] H := by rw [hH]; exact hP
  have hS : va_S A s.heap H [] := by rw [hH]; exact hS
  refine lv_aload_n hx hb dX12_of_0 rfl (lv_at hl 0 rfl) ?_
  refine va_get (D := g.1) (ci := 12) (v := .ref mall) (C := RX12) (T := TX12) (N := 87) hx hb hT inF_X12 hown hK.1 hP 0 rfl rfl 52 (by decide) (hT _ bw_832) (fun _ h9 => h9) rfl dX12_of_1 ?_
  refine lv_bipush (v := 14) hx hb dX12_of_4 (by decide) ?_
  refine lv_bipush (v := 7) hx hb dX12_of_6 (by decide) ?_
  refine lv_iload_n hx hb dX12_of_8 rfl (lv_at hl 1 rfl) ?_
  refine lv_imul hx hb dX12_of_9 ?_
  refine lv_topi (fun x_1 ex_1 => ?_)
  have fx_1 : x_1.toInt = 7 * p0.toInt := by rw [ex_1]; exact I_mul (by decide : (7 : Int32).toInt = 7) rfl (by omega) (by omega)
  refine lv_iadd hx hb dX12_of_10 ?_
  refine lv_topi (fun x_2 ex_2 => ?_)
  have fx_2 : x_2.toInt = 14 + x_1.toInt := by rw [ex_2]; exact I_add (by decide : (14 : Int32).toInt = 14) rfl (by omega) (by omega)
  refine lv_iload_n hx hb dX12_of_11 rfl (lv_at hl 2 rfl) ?_
  refine lv_iadd hx hb dX12_of_12 ?_
  refine lv_topi (fun x_3 ex_3 => ?_)
  have fx_3 : x_3.toInt = x_2.toInt + 5 := by rw [ex_3]; exact I_add rfl (by decide : (5 : Int32).toInt = 5) (by omega) (by omega)
  have h_4 : vp_in x_3 374 := vp_in_iff.mpr (by omega)
  refine va_iald hx hb hK.1 hP 1 1 rfl rfl (i := x_3) h_4 dX12_of_13 ?_
  refine lv_topi (fun x_5 ex_5 => ?_)
  have cn_6 := clampI (x := x_3) (by omega)
  have mcn_6 : (x_3 : Int32).toNatClampNeg % 374 = (x_3 : Int32).toNatClampNeg := Nat.mod_eq_of_lt (by omega)
  have ux_5 := congrArg Int32.toInt ex_5
  have px_5 : In ((x_3 : Int32).toNatClampNeg % 374) x_5.toInt := Im.rd hh23 h_4 ex_5
  have fx_5 : 0 ≤ x_5.toInt ∧ x_5.toInt ≤ 255 := px_5.2.2.2.2 (by omega) (by omega) (by omega)
  have hP9 : va_P g.1 vwCl [] H := hP.sub [] rfl
  have hD9 : va_D A [] := ⟨fun i j p q h => by simp at h, fun k q h => by simp at h⟩
  exact W.iret (v := x_5) hx hb hr (fun t ht hW => ⟨⟨x_5, (), rfl, (by first | with_reducible assumption | omega), by rw [ht]; exact hP9, by rw [hAe]; exact hD9⟩, hS.F ht⟩) hS.2.2 dX12_of_14

set_option maxHeartbeats 40000000 in
set_option maxRecDepth 100000 in
theorem s_X12_of_6 (l : Launch) (g : GG) (sz : Nat) (h : Nat) (mtape : Nat) (mtext : Nat) (mtaped : Int32) (msize : Int32) (mfaultKind : Int32) (mfaultPlace : Int32) (mat : Int32) (mend : Int32) (mtoken : Int32) (mnumber : Int32) (mname : Int64) (mmen : Nat) (mkinds : Nat) (mreasons : Nat) (mtold : Nat) (munits : Nat) (mhonour : Nat) (mdraw : Nat) (mdies : Nat) (mcoin : Nat) (msonOf : Nat) (mkindOf : Nat) (mowner : Nat) (mfirst : Nat) (mlast : Nat) (mrent : Nat) (msort : Nat) (mduelOne : Nat) (mduelOther : Nat) (mduelOn : Nat) (mruleFrom : Nat) (mruleTo : Nat) (mhasHonour : Nat) (mhasDraw : Nat) (mmName : Nat) (mkName : Nat) (mrName : Nat) (mdName : Nat) (mcode : Nat) (mcodeNumber : Nat) (meWhat : Nat) (meSign : Nat) (mpile : Nat) (mbank : Int32) (mrb : Int32) (mcodes : Int32) (mwithin : Int32) (mpiled : Int32) (munitsInRule : Int32) (maskDay : Int32) (maskUses : Int32) (maskSpent : Int32) (mall : Nat) (Fmall : Nat → Int32) (mwas : Nat) (macts : Int32) (mundone : Int32) (musedBy0 : Nat) (musedBy1 : Nat) (mmornings : Nat) (mcameFrom : Nat) (mcameBy : Nat) (mlevelAt : Nat) (mwins : Nat) (mslots : Nat) (mlevelOf : Nat) (mworthOf : Nat) (mstates : Int32) (mlevels : Int32) (mside0 : Int32) (mside1 : Int32) (mdeathDay : Int32) (maway : Int32) (mhires : Int32) (mhirer : Int32) (mslotFound : Int32) (misSpent : Int32) (mfound : Int32) (mlaid : Int32) (mlaidRow : Nat) (mgReason : Nat) (mgDay : Nat) (mgTold : Nat) (mgUntold : Nat) (msights : Int32) (mtime : Int32) (mboxAll : Nat) (misBoxed : Nat) (p0 : Int32) (hh0 : 0 ≤ mtaped.toInt ∧ mtaped.toInt ≤ 1600) (hh1 : 0 ≤ msize.toInt ∧ msize.toInt ≤ 1600) (hh2 : 0 ≤ mat.toInt ∧ mat.toInt ≤ 1600) (hh3 : 0 ≤ mend.toInt ∧ mend.toInt ≤ 1600) (hh4 : 0 ≤ mtoken.toInt ∧ mtoken.toInt ≤ 5) (hh18 : 0 ≤ mbank.toInt ∧ mbank.toInt ≤ 1) (hh19 : 0 ≤ mrb.toInt ∧ mrb.toInt ≤ 1) (hh20 : 0 ≤ mcodes.toInt ∧ mcodes.toInt ≤ 1120) (hh21 : 0 ≤ mpiled.toInt ∧ mpiled.toInt ≤ 90) (hh22 : 0 ≤ munitsInRule.toInt ∧ munitsInRule.toInt ≤ 30) (hh23 : Ia Fmall) (hh25 : 0 ≤ macts.toInt ∧ macts.toInt ≤ 40) (hh26 : 0 ≤ mundone.toInt ∧ mundone.toInt ≤ 40) (hh34 : 0 ≤ mstates.toInt ∧ mstates.toInt ≤ 3000) (hh35 : 0 ≤ mlevels.toInt ∧ mlevels.toInt ≤ 18) (hh36 : 0 ≤ mside0.toInt ∧ mside0.toInt ≤ 5) (hh37 : 0 ≤ mside1.toInt ∧ mside1.toInt ≤ 5) (hh38 : 0 ≤ mslotFound.toInt ∧ mslotFound.toInt ≤ 8191) (hh39 : 0 ≤ misSpent.toInt ∧ misSpent.toInt ≤ 1) (hh40 : 0 ≤ mlaid.toInt ∧ mlaid.toInt ≤ 16) (hh41 : 0 ≤ msights.toInt ∧ msights.toInt ≤ 30) (hh42 : 0 ≤ mtime.toInt ∧ mtime.toInt ≤ 100000) (hh44 : 0 ≤ p0.toInt ∧ p0.toInt ≤ 7) : Met l yX12_of (.code yX12_of cX12_of 3 (some .int) :: gT) ({ frames := 0, cells := 0, slots := 0, locals := 0 }) (va_Pc [.ref h, .int p0, .int 6] (Pst g sz [(h, .inr (12, [.ref mtape, .ref mtext, .int mtaped, .int msize, .int mfaultKind, .int mfaultPlace, .int mat, .int mend, .int mtoken, .int mnumber, .long mname, .ref mmen, .ref mkinds, .ref mreasons, .ref mtold, .ref munits, .ref mhonour, .ref mdraw, .ref mdies, .ref mcoin, .ref msonOf, .ref mkindOf, .ref mowner, .ref mfirst, .ref mlast, .ref mrent, .ref msort, .ref mduelOne, .ref mduelOther, .ref mduelOn, .ref mruleFrom, .ref mruleTo, .ref mhasHonour, .ref mhasDraw, .ref mmName, .ref mkName, .ref mrName, .ref mdName, .ref mcode, .ref mcodeNumber, .ref meWhat, .ref meSign, .ref mpile, .int mbank, .int mrb, .int mcodes, .int mwithin, .int mpiled, .int munitsInRule, .int maskDay, .int maskUses, .int maskSpent, .ref mall, .ref mwas, .int macts, .int mundone, .ref musedBy0, .ref musedBy1, .ref mmornings, .ref mcameFrom, .ref mcameBy, .ref mlevelAt, .ref mwins, .ref mslots, .ref mlevelOf, .ref mworthOf, .int mstates, .int mlevels, .int mside0, .int mside1, .int mdeathDay, .int maway, .int mhires, .int mhirer, .int mslotFound, .int misSpent, .int mfound, .int mlaid, .ref mlaidRow, .ref mgReason, .ref mgDay, .ref mgTold, .ref mgUntold, .int msights, .int mtime, .ref mboxAll, .ref misBoxed])), (mall, aI g 374 Fmall)] nX)) (va_Qi (fun (r : Int32) => fun (_ : Unit) => 0 ≤ r.toInt ∧ r.toInt ≤ 255) (Qst g [] sz (fun _ => [])) (va_A [] sz)) 0 0 (va_A [] sz) := by
  refine Met.ofW (cc := cX12_of) (maxL := 3) (ret := (some .int)) (by decide) rfl ?_
  intro p e s m args below meth c s₁ B hml hv
  obtain ⟨rfl, hsz, hP, hK, hD0, hX⟩ := hv
  have hx := B.exec
  have hb := B.bytes
  have hr := B.returns
  have hT : ∀ w ∈ gT, w.before _ s = true := fun w h => atoms_spec (ws := .code yX12_of cX12_of 3 (some .int) :: gT) B.pre w (List.mem_cons_of_mem _ h)
  have hown : s.vm.findClass RX12 = some m.cls := findClass_of_methodNamed B.named
  have hlocks := B.notSynchronized
  subst hsz
  have hD := hD0
  generalize hAe : va_A [] s.heap.size = A at ⊢
  have hA : ∀ q : Nat, s.heap.size ≤ q → A q := fun q h => by rw [← hAe]; exact Or.inr h
  have hS : va_S A s.heap s.heap [] := va_S.rf
  have hl := lv_entry ([.ref h, .int p0, .int 6]) (n := 3) (Nat.le_of_ble_eq_true rfl)
  rw [lg_entry_eq]
  generalize (lg_sl ([.ref h, .int p0, .int 6]) ++ List.replicate (3 - (lg_sl ([.ref h, .int p0, .int 6])).length) Slot.unset).toArray = ls at hl ⊢
  have hl : lv_has ls 3 [(0, .ref h), (1, .int p0), (2, .int 6)] := hl
  refine p_nH (fun H hH => ?_)
  have hP : va_P g.1 vwCl [(h, .inr (12, [.ref mtape, .ref mtext, .int mtaped, .int msize, .int mfaultKind, .int mfaultPlace, .int mat, .int mend, .int mtoken, .int mnumber, .long mname, .ref mmen, .ref mkinds, .ref mreasons, .ref mtold, .ref munits, .ref mhonour, .ref mdraw, .ref mdies, .ref mcoin, .ref msonOf, .ref mkindOf, .ref mowner, .ref mfirst, .ref mlast, .ref mrent, .ref msort, .ref mduelOne, .ref mduelOther, .ref mduelOn, .ref mruleFrom, .ref mruleTo, .ref mhasHonour, .ref mhasDraw, .ref mmName, .ref mkName, .ref mrName, .ref mdName, .ref mcode, .ref mcodeNumber, .ref meWhat, .ref meSign, .ref mpile, .int mbank, .int mrb, .int mcodes, .int mwithin, .int mpiled, .int munitsInRule, .int maskDay, .int maskUses, .int maskSpent, .ref mall, .ref mwas, .int macts, .int mundone, .ref musedBy0, .ref musedBy1, .ref mmornings, .ref mcameFrom, .ref mcameBy, .ref mlevelAt, .ref mwins, .ref mslots, .ref mlevelOf, .ref mworthOf, .int mstates, .int mlevels, .int mside0, .int mside1, .int mdeathDay, .int maway, .int mhires, .int mhirer, .int mslotFound, .int misSpent, .int mfound, .int mlaid, .ref mlaidRow, .ref mgReason, .ref mgDay, .ref mgTold, .ref mgUntold, .int msights, .int mtime, .ref mboxAll, .ref misBoxed])), (mall, aI g 374 Fmall)] H := by rw [hH]; exact hP
  have hS : va_S A s.heap H [] := by rw [hH]; exact hS
  refine lv_aload_n hx hb dX12_of_0 rfl (lv_at hl 0 rfl) ?_
  refine va_get (D := g.1) (ci := 12) (v := .ref mall) (C := RX12) (T := TX12) (N := 87) hx hb hT inF_X12 hown hK.1 hP 0 rfl rfl 52 (by decide) (hT _ bw_832) (fun _ h9 => h9) rfl dX12_of_1 ?_
  refine lv_bipush (v := 14) hx hb dX12_of_4 (by decide) ?_
  refine lv_bipush (v := 7) hx hb dX12_of_6 (by decide) ?_
  refine lv_iload_n hx hb dX12_of_8 rfl (lv_at hl 1 rfl) ?_
  refine lv_imul hx hb dX12_of_9 ?_
  refine lv_topi (fun x_1 ex_1 => ?_)
  have fx_1 : x_1.toInt = 7 * p0.toInt := by rw [ex_1]; exact I_mul (by decide : (7 : Int32).toInt = 7) rfl (by omega) (by omega)
  refine lv_iadd hx hb dX12_of_10 ?_
  refine lv_topi (fun x_2 ex_2 => ?_)
  have fx_2 : x_2.toInt = 14 + x_1.toInt := by rw [ex_2]; exact I_add (by decide : (14 : Int32).toInt = 14) rfl (by omega) (by omega)
  refine lv_iload_n hx hb dX12_of_11 rfl (lv_at hl 2 rfl) ?_
  refine lv_iadd hx hb dX12_of_12 ?_
  refine lv_topi (fun x_3 ex_3 => ?_)
  have fx_3 : x_3.toInt = x_2.toInt + 6 := by rw [ex_3]; exact I_add rfl (by decide : (6 : Int32).toInt = 6) (by omega) (by omega)
  have h_4 : vp_in x_3 374 := vp_in_iff.mpr (by omega)
  refine va_iald hx hb hK.1 hP 1 1 rfl rfl (i := x_3) h_4 dX12_of_13 ?_
  refine lv_topi (fun x_5 ex_5 => ?_)
  have cn_6 := clampI (x := x_3) (by omega)
  have mcn_6 : (x_3 : Int32).toNatClampNeg % 374 = (x_3 : Int32).toNatClampNeg := Nat.mod_eq_of_lt (by omega)
  have ux_5 := congrArg Int32.toInt ex_5
  have px_5 : In ((x_3 : Int32).toNatClampNeg % 374) x_5.toInt := Im.rd hh23 h_4 ex_5
  have fx_5 : 0 ≤ x_5.toInt ∧ x_5.toInt ≤ 255 := px_5.2.2.2.2 (by omega) (by omega) (by omega)
  have hP9 : va_P g.1 vwCl [] H := hP.sub [] rfl
  have hD9 : va_D A [] := ⟨fun i j p q h => by simp at h, fun k q h => by simp at h⟩
  exact W.iret (v := x_5) hx hb hr (fun t ht hW => ⟨⟨x_5, (), rfl, (by first | with_reducible assumption | omega), by rw [ht]; exact hP9, by rw [hAe]; exact hD9⟩, hS.F ht⟩) hS.2.2 dX12_of_14

set_option maxHeartbeats 40000000 in
set_option maxRecDepth 100000 in
theorem s_X12_of_s (l : Launch) (g : GG) (sz : Nat) (h : Nat) (mtape : Nat) (mtext : Nat) (mtaped : Int32) (msize : Int32) (mfaultKind : Int32) (mfaultPlace : Int32) (mat : Int32) (mend : Int32) (mtoken : Int32) (mnumber : Int32) (mname : Int64) (mmen : Nat) (mkinds : Nat) (mreasons : Nat) (mtold : Nat) (munits : Nat) (mhonour : Nat) (mdraw : Nat) (mdies : Nat) (mcoin : Nat) (msonOf : Nat) (mkindOf : Nat) (mowner : Nat) (mfirst : Nat) (mlast : Nat) (mrent : Nat) (msort : Nat) (mduelOne : Nat) (mduelOther : Nat) (mduelOn : Nat) (mruleFrom : Nat) (mruleTo : Nat) (mhasHonour : Nat) (mhasDraw : Nat) (mmName : Nat) (mkName : Nat) (mrName : Nat) (mdName : Nat) (mcode : Nat) (mcodeNumber : Nat) (meWhat : Nat) (meSign : Nat) (mpile : Nat) (mbank : Int32) (mrb : Int32) (mcodes : Int32) (mwithin : Int32) (mpiled : Int32) (munitsInRule : Int32) (maskDay : Int32) (maskUses : Int32) (maskSpent : Int32) (mall : Nat) (Fmall : Nat → Int32) (mwas : Nat) (macts : Int32) (mundone : Int32) (musedBy0 : Nat) (musedBy1 : Nat) (mmornings : Nat) (mcameFrom : Nat) (mcameBy : Nat) (mlevelAt : Nat) (mwins : Nat) (mslots : Nat) (mlevelOf : Nat) (mworthOf : Nat) (mstates : Int32) (mlevels : Int32) (mside0 : Int32) (mside1 : Int32) (mdeathDay : Int32) (maway : Int32) (mhires : Int32) (mhirer : Int32) (mslotFound : Int32) (misSpent : Int32) (mfound : Int32) (mlaid : Int32) (mlaidRow : Nat) (mgReason : Nat) (mgDay : Nat) (mgTold : Nat) (mgUntold : Nat) (msights : Int32) (mtime : Int32) (mboxAll : Nat) (misBoxed : Nat) (p0 : Int32) (p1 : Int32) (hh0 : 0 ≤ mtaped.toInt ∧ mtaped.toInt ≤ 1600) (hh1 : 0 ≤ msize.toInt ∧ msize.toInt ≤ 1600) (hh2 : 0 ≤ mat.toInt ∧ mat.toInt ≤ 1600) (hh3 : 0 ≤ mend.toInt ∧ mend.toInt ≤ 1600) (hh4 : 0 ≤ mtoken.toInt ∧ mtoken.toInt ≤ 5) (hh18 : 0 ≤ mbank.toInt ∧ mbank.toInt ≤ 1) (hh19 : 0 ≤ mrb.toInt ∧ mrb.toInt ≤ 1) (hh20 : 0 ≤ mcodes.toInt ∧ mcodes.toInt ≤ 1120) (hh21 : 0 ≤ mpiled.toInt ∧ mpiled.toInt ≤ 90) (hh22 : 0 ≤ munitsInRule.toInt ∧ munitsInRule.toInt ≤ 30) (hh23 : Ia Fmall) (hh25 : 0 ≤ macts.toInt ∧ macts.toInt ≤ 40) (hh26 : 0 ≤ mundone.toInt ∧ mundone.toInt ≤ 40) (hh34 : 0 ≤ mstates.toInt ∧ mstates.toInt ≤ 3000) (hh35 : 0 ≤ mlevels.toInt ∧ mlevels.toInt ≤ 18) (hh36 : 0 ≤ mside0.toInt ∧ mside0.toInt ≤ 5) (hh37 : 0 ≤ mside1.toInt ∧ mside1.toInt ≤ 5) (hh38 : 0 ≤ mslotFound.toInt ∧ mslotFound.toInt ≤ 8191) (hh39 : 0 ≤ misSpent.toInt ∧ misSpent.toInt ≤ 1) (hh40 : 0 ≤ mlaid.toInt ∧ mlaid.toInt ≤ 16) (hh41 : 0 ≤ msights.toInt ∧ msights.toInt ≤ 30) (hh42 : 0 ≤ mtime.toInt ∧ mtime.toInt ≤ 100000) (hh44 : 0 ≤ p0.toInt ∧ p0.toInt ≤ 7) (hh45 : 0 ≤ p1.toInt ∧ p1.toInt ≤ 1) : Met l yX12_of (.code yX12_of cX12_of 3 (some .int) :: gT) ({ frames := 0, cells := 0, slots := 0, locals := 0 }) (va_Pc [.ref h, .int p0, .int p1] (Pst g sz [(h, .inr (12, [.ref mtape, .ref mtext, .int mtaped, .int msize, .int mfaultKind, .int mfaultPlace, .int mat, .int mend, .int mtoken, .int mnumber, .long mname, .ref mmen, .ref mkinds, .ref mreasons, .ref mtold, .ref munits, .ref mhonour, .ref mdraw, .ref mdies, .ref mcoin, .ref msonOf, .ref mkindOf, .ref mowner, .ref mfirst, .ref mlast, .ref mrent, .ref msort, .ref mduelOne, .ref mduelOther, .ref mduelOn, .ref mruleFrom, .ref mruleTo, .ref mhasHonour, .ref mhasDraw, .ref mmName, .ref mkName, .ref mrName, .ref mdName, .ref mcode, .ref mcodeNumber, .ref meWhat, .ref meSign, .ref mpile, .int mbank, .int mrb, .int mcodes, .int mwithin, .int mpiled, .int munitsInRule, .int maskDay, .int maskUses, .int maskSpent, .ref mall, .ref mwas, .int macts, .int mundone, .ref musedBy0, .ref musedBy1, .ref mmornings, .ref mcameFrom, .ref mcameBy, .ref mlevelAt, .ref mwins, .ref mslots, .ref mlevelOf, .ref mworthOf, .int mstates, .int mlevels, .int mside0, .int mside1, .int mdeathDay, .int maway, .int mhires, .int mhirer, .int mslotFound, .int misSpent, .int mfound, .int mlaid, .ref mlaidRow, .ref mgReason, .ref mgDay, .ref mgTold, .ref mgUntold, .int msights, .int mtime, .ref mboxAll, .ref misBoxed])), (mall, aI g 374 Fmall)] nX)) (va_Qi (fun (r : Int32) => fun (_ : Unit) => 0 ≤ r.toInt ∧ r.toInt ≤ 5) (Qst g [] sz (fun _ => [])) (va_A [] sz)) 0 0 (va_A [] sz) := by
  refine Met.ofW (cc := cX12_of) (maxL := 3) (ret := (some .int)) (by decide) rfl ?_
  intro p e s m args below meth c s₁ B hml hv
  obtain ⟨rfl, hsz, hP, hK, hD0, hX⟩ := hv
  have hx := B.exec
  have hb := B.bytes
  have hr := B.returns
  have hT : ∀ w ∈ gT, w.before _ s = true := fun w h => atoms_spec (ws := .code yX12_of cX12_of 3 (some .int) :: gT) B.pre w (List.mem_cons_of_mem _ h)
  have hown : s.vm.findClass RX12 = some m.cls := findClass_of_methodNamed B.named
  have hlocks := B.notSynchronized
  subst hsz
  have hD := hD0
  generalize hAe : va_A [] s.heap.size = A at ⊢
  have hA : ∀ q : Nat, s.heap.size ≤ q → A q := fun q h => by rw [← hAe]; exact Or.inr h
  have hS : va_S A s.heap s.heap [] := va_S.rf
  have hl := lv_entry ([.ref h, .int p0, .int p1]) (n := 3) (Nat.le_of_ble_eq_true rfl)
  rw [lg_entry_eq]
  generalize (lg_sl ([.ref h, .int p0, .int p1]) ++ List.replicate (3 - (lg_sl ([.ref h, .int p0, .int p1])).length) Slot.unset).toArray = ls at hl ⊢
  have hl : lv_has ls 3 [(0, .ref h), (1, .int p0), (2, .int p1)] := hl
  refine p_nH (fun H hH => ?_)
  have hP : va_P g.1 vwCl [(h, .inr (12, [.ref mtape, .ref mtext, .int mtaped, .int msize, .int mfaultKind, .int mfaultPlace, .int mat, .int mend, .int mtoken, .int mnumber, .long mname, .ref mmen, .ref mkinds, .ref mreasons, .ref mtold, .ref munits, .ref mhonour, .ref mdraw, .ref mdies, .ref mcoin, .ref msonOf, .ref mkindOf, .ref mowner, .ref mfirst, .ref mlast, .ref mrent, .ref msort, .ref mduelOne, .ref mduelOther, .ref mduelOn, .ref mruleFrom, .ref mruleTo, .ref mhasHonour, .ref mhasDraw, .ref mmName, .ref mkName, .ref mrName, .ref mdName, .ref mcode, .ref mcodeNumber, .ref meWhat, .ref meSign, .ref mpile, .int mbank, .int mrb, .int mcodes, .int mwithin, .int mpiled, .int munitsInRule, .int maskDay, .int maskUses, .int maskSpent, .ref mall, .ref mwas, .int macts, .int mundone, .ref musedBy0, .ref musedBy1, .ref mmornings, .ref mcameFrom, .ref mcameBy, .ref mlevelAt, .ref mwins, .ref mslots, .ref mlevelOf, .ref mworthOf, .int mstates, .int mlevels, .int mside0, .int mside1, .int mdeathDay, .int maway, .int mhires, .int mhirer, .int mslotFound, .int misSpent, .int mfound, .int mlaid, .ref mlaidRow, .ref mgReason, .ref mgDay, .ref mgTold, .ref mgUntold, .int msights, .int mtime, .ref mboxAll, .ref misBoxed])), (mall, aI g 374 Fmall)] H := by rw [hH]; exact hP
  have hS : va_S A s.heap H [] := by rw [hH]; exact hS
  refine lv_aload_n hx hb dX12_of_0 rfl (lv_at hl 0 rfl) ?_
  refine va_get (D := g.1) (ci := 12) (v := .ref mall) (C := RX12) (T := TX12) (N := 87) hx hb hT inF_X12 hown hK.1 hP 0 rfl rfl 52 (by decide) (hT _ bw_832) (fun _ h9 => h9) rfl dX12_of_1 ?_
  refine lv_bipush (v := 14) hx hb dX12_of_4 (by decide) ?_
  refine lv_bipush (v := 7) hx hb dX12_of_6 (by decide) ?_
  refine lv_iload_n hx hb dX12_of_8 rfl (lv_at hl 1 rfl) ?_
  refine lv_imul hx hb dX12_of_9 ?_
  refine lv_topi (fun x_1 ex_1 => ?_)
  have fx_1 : x_1.toInt = 7 * p0.toInt := by rw [ex_1]; exact I_mul (by decide : (7 : Int32).toInt = 7) rfl (by omega) (by omega)
  refine lv_iadd hx hb dX12_of_10 ?_
  refine lv_topi (fun x_2 ex_2 => ?_)
  have fx_2 : x_2.toInt = 14 + x_1.toInt := by rw [ex_2]; exact I_add (by decide : (14 : Int32).toInt = 14) rfl (by omega) (by omega)
  refine lv_iload_n hx hb dX12_of_11 rfl (lv_at hl 2 rfl) ?_
  refine lv_iadd hx hb dX12_of_12 ?_
  refine lv_topi (fun x_3 ex_3 => ?_)
  have fx_3 : x_3.toInt = x_2.toInt + p1.toInt := by rw [ex_3]; exact I_add rfl rfl (by omega) (by omega)
  have h_4 : vp_in x_3 374 := vp_in_iff.mpr (by omega)
  refine va_iald hx hb hK.1 hP 1 1 rfl rfl (i := x_3) h_4 dX12_of_13 ?_
  refine lv_topi (fun x_5 ex_5 => ?_)
  have cn_6 := clampI (x := x_3) (by omega)
  have mcn_6 : (x_3 : Int32).toNatClampNeg % 374 = (x_3 : Int32).toNatClampNeg := Nat.mod_eq_of_lt (by omega)
  have ux_5 := congrArg Int32.toInt ex_5
  have px_5 : In ((x_3 : Int32).toNatClampNeg % 374) x_5.toInt := Im.rd hh23 h_4 ex_5
  have fx_5 : 0 ≤ x_5.toInt ∧ x_5.toInt ≤ 5 := px_5.2.2.2.1 (by omega) (by omega) (by omega)
  have hP9 : va_P g.1 vwCl [] H := hP.sub [] rfl
  have hD9 : va_D A [] := ⟨fun i j p q h => by simp at h, fun k q h => by simp at h⟩
  exact W.iret (v := x_5) hx hb hr (fun t ht hW => ⟨⟨x_5, (), rfl, (by first | with_reducible assumption | omega), by rw [ht]; exact hP9, by rw [hAe]; exact hD9⟩, hS.F ht⟩) hS.2.2 dX12_of_14

set_option maxHeartbeats 40000000 in
set_option maxRecDepth 100000 in
theorem s_X12_of_u (l : Launch) (g : GG) (sz : Nat) (h : Nat) (mtape : Nat) (mtext : Nat) (mtaped : Int32) (msize : Int32) (mfaultKind : Int32) (mfaultPlace : Int32) (mat : Int32) (mend : Int32) (mtoken : Int32) (mnumber : Int32) (mname : Int64) (mmen : Nat) (mkinds : Nat) (mreasons : Nat) (mtold : Nat) (munits : Nat) (mhonour : Nat) (mdraw : Nat) (mdies : Nat) (mcoin : Nat) (msonOf : Nat) (mkindOf : Nat) (mowner : Nat) (mfirst : Nat) (mlast : Nat) (mrent : Nat) (msort : Nat) (mduelOne : Nat) (mduelOther : Nat) (mduelOn : Nat) (mruleFrom : Nat) (mruleTo : Nat) (mhasHonour : Nat) (mhasDraw : Nat) (mmName : Nat) (mkName : Nat) (mrName : Nat) (mdName : Nat) (mcode : Nat) (mcodeNumber : Nat) (meWhat : Nat) (meSign : Nat) (mpile : Nat) (mbank : Int32) (mrb : Int32) (mcodes : Int32) (mwithin : Int32) (mpiled : Int32) (munitsInRule : Int32) (maskDay : Int32) (maskUses : Int32) (maskSpent : Int32) (mall : Nat) (Fmall : Nat → Int32) (mwas : Nat) (macts : Int32) (mundone : Int32) (musedBy0 : Nat) (musedBy1 : Nat) (mmornings : Nat) (mcameFrom : Nat) (mcameBy : Nat) (mlevelAt : Nat) (mwins : Nat) (mslots : Nat) (mlevelOf : Nat) (mworthOf : Nat) (mstates : Int32) (mlevels : Int32) (mside0 : Int32) (mside1 : Int32) (mdeathDay : Int32) (maway : Int32) (mhires : Int32) (mhirer : Int32) (mslotFound : Int32) (misSpent : Int32) (mfound : Int32) (mlaid : Int32) (mlaidRow : Nat) (mgReason : Nat) (mgDay : Nat) (mgTold : Nat) (mgUntold : Nat) (msights : Int32) (mtime : Int32) (mboxAll : Nat) (misBoxed : Nat) (p0 : Int32) (p1 : Int32) (hh0 : 0 ≤ mtaped.toInt ∧ mtaped.toInt ≤ 1600) (hh1 : 0 ≤ msize.toInt ∧ msize.toInt ≤ 1600) (hh2 : 0 ≤ mat.toInt ∧ mat.toInt ≤ 1600) (hh3 : 0 ≤ mend.toInt ∧ mend.toInt ≤ 1600) (hh4 : 0 ≤ mtoken.toInt ∧ mtoken.toInt ≤ 5) (hh18 : 0 ≤ mbank.toInt ∧ mbank.toInt ≤ 1) (hh19 : 0 ≤ mrb.toInt ∧ mrb.toInt ≤ 1) (hh20 : 0 ≤ mcodes.toInt ∧ mcodes.toInt ≤ 1120) (hh21 : 0 ≤ mpiled.toInt ∧ mpiled.toInt ≤ 90) (hh22 : 0 ≤ munitsInRule.toInt ∧ munitsInRule.toInt ≤ 30) (hh23 : Ia Fmall) (hh25 : 0 ≤ macts.toInt ∧ macts.toInt ≤ 40) (hh26 : 0 ≤ mundone.toInt ∧ mundone.toInt ≤ 40) (hh34 : 0 ≤ mstates.toInt ∧ mstates.toInt ≤ 3000) (hh35 : 0 ≤ mlevels.toInt ∧ mlevels.toInt ≤ 18) (hh36 : 0 ≤ mside0.toInt ∧ mside0.toInt ≤ 5) (hh37 : 0 ≤ mside1.toInt ∧ mside1.toInt ≤ 5) (hh38 : 0 ≤ mslotFound.toInt ∧ mslotFound.toInt ≤ 8191) (hh39 : 0 ≤ misSpent.toInt ∧ misSpent.toInt ≤ 1) (hh40 : 0 ≤ mlaid.toInt ∧ mlaid.toInt ≤ 16) (hh41 : 0 ≤ msights.toInt ∧ msights.toInt ≤ 30) (hh42 : 0 ≤ mtime.toInt ∧ mtime.toInt ≤ 100000) (hh44 : 0 ≤ p0.toInt ∧ p0.toInt ≤ 7) (hh45 : 5 ≤ p1.toInt ∧ p1.toInt ≤ 6) : Met l yX12_of (.code yX12_of cX12_of 3 (some .int) :: gT) ({ frames := 0, cells := 0, slots := 0, locals := 0 }) (va_Pc [.ref h, .int p0, .int p1] (Pst g sz [(h, .inr (12, [.ref mtape, .ref mtext, .int mtaped, .int msize, .int mfaultKind, .int mfaultPlace, .int mat, .int mend, .int mtoken, .int mnumber, .long mname, .ref mmen, .ref mkinds, .ref mreasons, .ref mtold, .ref munits, .ref mhonour, .ref mdraw, .ref mdies, .ref mcoin, .ref msonOf, .ref mkindOf, .ref mowner, .ref mfirst, .ref mlast, .ref mrent, .ref msort, .ref mduelOne, .ref mduelOther, .ref mduelOn, .ref mruleFrom, .ref mruleTo, .ref mhasHonour, .ref mhasDraw, .ref mmName, .ref mkName, .ref mrName, .ref mdName, .ref mcode, .ref mcodeNumber, .ref meWhat, .ref meSign, .ref mpile, .int mbank, .int mrb, .int mcodes, .int mwithin, .int mpiled, .int munitsInRule, .int maskDay, .int maskUses, .int maskSpent, .ref mall, .ref mwas, .int macts, .int mundone, .ref musedBy0, .ref musedBy1, .ref mmornings, .ref mcameFrom, .ref mcameBy, .ref mlevelAt, .ref mwins, .ref mslots, .ref mlevelOf, .ref mworthOf, .int mstates, .int mlevels, .int mside0, .int mside1, .int mdeathDay, .int maway, .int mhires, .int mhirer, .int mslotFound, .int misSpent, .int mfound, .int mlaid, .ref mlaidRow, .ref mgReason, .ref mgDay, .ref mgTold, .ref mgUntold, .int msights, .int mtime, .ref mboxAll, .ref misBoxed])), (mall, aI g 374 Fmall)] nX)) (va_Qi (fun (r : Int32) => fun (_ : Unit) => 0 ≤ r.toInt ∧ r.toInt ≤ 255) (Qst g [] sz (fun _ => [])) (va_A [] sz)) 0 0 (va_A [] sz) := by
  refine Met.ofW (cc := cX12_of) (maxL := 3) (ret := (some .int)) (by decide) rfl ?_
  intro p e s m args below meth c s₁ B hml hv
  obtain ⟨rfl, hsz, hP, hK, hD0, hX⟩ := hv
  have hx := B.exec
  have hb := B.bytes
  have hr := B.returns
  have hT : ∀ w ∈ gT, w.before _ s = true := fun w h => atoms_spec (ws := .code yX12_of cX12_of 3 (some .int) :: gT) B.pre w (List.mem_cons_of_mem _ h)
  have hown : s.vm.findClass RX12 = some m.cls := findClass_of_methodNamed B.named
  have hlocks := B.notSynchronized
  subst hsz
  have hD := hD0
  generalize hAe : va_A [] s.heap.size = A at ⊢
  have hA : ∀ q : Nat, s.heap.size ≤ q → A q := fun q h => by rw [← hAe]; exact Or.inr h
  have hS : va_S A s.heap s.heap [] := va_S.rf
  have hl := lv_entry ([.ref h, .int p0, .int p1]) (n := 3) (Nat.le_of_ble_eq_true rfl)
  rw [lg_entry_eq]
  generalize (lg_sl ([.ref h, .int p0, .int p1]) ++ List.replicate (3 - (lg_sl ([.ref h, .int p0, .int p1])).length) Slot.unset).toArray = ls at hl ⊢
  have hl : lv_has ls 3 [(0, .ref h), (1, .int p0), (2, .int p1)] := hl
  refine p_nH (fun H hH => ?_)
  have hP : va_P g.1 vwCl [(h, .inr (12, [.ref mtape, .ref mtext, .int mtaped, .int msize, .int mfaultKind, .int mfaultPlace, .int mat, .int mend, .int mtoken, .int mnumber, .long mname, .ref mmen, .ref mkinds, .ref mreasons, .ref mtold, .ref munits, .ref mhonour, .ref mdraw, .ref mdies, .ref mcoin, .ref msonOf, .ref mkindOf, .ref mowner, .ref mfirst, .ref mlast, .ref mrent, .ref msort, .ref mduelOne, .ref mduelOther, .ref mduelOn, .ref mruleFrom, .ref mruleTo, .ref mhasHonour, .ref mhasDraw, .ref mmName, .ref mkName, .ref mrName, .ref mdName, .ref mcode, .ref mcodeNumber, .ref meWhat, .ref meSign, .ref mpile, .int mbank, .int mrb, .int mcodes, .int mwithin, .int mpiled, .int munitsInRule, .int maskDay, .int maskUses, .int maskSpent, .ref mall, .ref mwas, .int macts, .int mundone, .ref musedBy0, .ref musedBy1, .ref mmornings, .ref mcameFrom, .ref mcameBy, .ref mlevelAt, .ref mwins, .ref mslots, .ref mlevelOf, .ref mworthOf, .int mstates, .int mlevels, .int mside0, .int mside1, .int mdeathDay, .int maway, .int mhires, .int mhirer, .int mslotFound, .int misSpent, .int mfound, .int mlaid, .ref mlaidRow, .ref mgReason, .ref mgDay, .ref mgTold, .ref mgUntold, .int msights, .int mtime, .ref mboxAll, .ref misBoxed])), (mall, aI g 374 Fmall)] H := by rw [hH]; exact hP
  have hS : va_S A s.heap H [] := by rw [hH]; exact hS
  refine lv_aload_n hx hb dX12_of_0 rfl (lv_at hl 0 rfl) ?_
  refine va_get (D := g.1) (ci := 12) (v := .ref mall) (C := RX12) (T := TX12) (N := 87) hx hb hT inF_X12 hown hK.1 hP 0 rfl rfl 52 (by decide) (hT _ bw_832) (fun _ h9 => h9) rfl dX12_of_1 ?_
  refine lv_bipush (v := 14) hx hb dX12_of_4 (by decide) ?_
  refine lv_bipush (v := 7) hx hb dX12_of_6 (by decide) ?_
  refine lv_iload_n hx hb dX12_of_8 rfl (lv_at hl 1 rfl) ?_
  refine lv_imul hx hb dX12_of_9 ?_
  refine lv_topi (fun x_1 ex_1 => ?_)
  have fx_1 : x_1.toInt = 7 * p0.toInt := by rw [ex_1]; exact I_mul (by decide : (7 : Int32).toInt = 7) rfl (by omega) (by omega)
  refine lv_iadd hx hb dX12_of_10 ?_
  refine lv_topi (fun x_2 ex_2 => ?_)
  have fx_2 : x_2.toInt = 14 + x_1.toInt := by rw [ex_2]; exact I_add (by decide : (14 : Int32).toInt = 14) rfl (by omega) (by omega)
  refine lv_iload_n hx hb dX12_of_11 rfl (lv_at hl 2 rfl) ?_
  refine lv_iadd hx hb dX12_of_12 ?_
  refine lv_topi (fun x_3 ex_3 => ?_)
  have fx_3 : x_3.toInt = x_2.toInt + p1.toInt := by rw [ex_3]; exact I_add rfl rfl (by omega) (by omega)
  have h_4 : vp_in x_3 374 := vp_in_iff.mpr (by omega)
  refine va_iald hx hb hK.1 hP 1 1 rfl rfl (i := x_3) h_4 dX12_of_13 ?_
  refine lv_topi (fun x_5 ex_5 => ?_)
  have cn_6 := clampI (x := x_3) (by omega)
  have mcn_6 : (x_3 : Int32).toNatClampNeg % 374 = (x_3 : Int32).toNatClampNeg := Nat.mod_eq_of_lt (by omega)
  have ux_5 := congrArg Int32.toInt ex_5
  have px_5 : In ((x_3 : Int32).toNatClampNeg % 374) x_5.toInt := Im.rd hh23 h_4 ex_5
  have fx_5 : 0 ≤ x_5.toInt ∧ x_5.toInt ≤ 255 := px_5.2.2.2.2 (by omega) (by omega) (by omega)
  have hP9 : va_P g.1 vwCl [] H := hP.sub [] rfl
  have hD9 : va_D A [] := ⟨fun i j p q h => by simp at h, fun k q h => by simp at h⟩
  exact W.iret (v := x_5) hx hb hr (fun t ht hW => ⟨⟨x_5, (), rfl, (by first | with_reducible assumption | omega), by rw [ht]; exact hP9, by rw [hAe]; exact hD9⟩, hS.F ht⟩) hS.2.2 dX12_of_14

set_option maxHeartbeats 40000000 in
set_option maxRecDepth 100000 in
theorem s_X12_of_a (l : Launch) (g : GG) (sz : Nat) (h : Nat) (mtape : Nat) (mtext : Nat) (mtaped : Int32) (msize : Int32) (mfaultKind : Int32) (mfaultPlace : Int32) (mat : Int32) (mend : Int32) (mtoken : Int32) (mnumber : Int32) (mname : Int64) (mmen : Nat) (mkinds : Nat) (mreasons : Nat) (mtold : Nat) (munits : Nat) (mhonour : Nat) (mdraw : Nat) (mdies : Nat) (mcoin : Nat) (msonOf : Nat) (mkindOf : Nat) (mowner : Nat) (mfirst : Nat) (mlast : Nat) (mrent : Nat) (msort : Nat) (mduelOne : Nat) (mduelOther : Nat) (mduelOn : Nat) (mruleFrom : Nat) (mruleTo : Nat) (mhasHonour : Nat) (mhasDraw : Nat) (mmName : Nat) (mkName : Nat) (mrName : Nat) (mdName : Nat) (mcode : Nat) (mcodeNumber : Nat) (meWhat : Nat) (meSign : Nat) (mpile : Nat) (mbank : Int32) (mrb : Int32) (mcodes : Int32) (mwithin : Int32) (mpiled : Int32) (munitsInRule : Int32) (maskDay : Int32) (maskUses : Int32) (maskSpent : Int32) (mall : Nat) (Fmall : Nat → Int32) (mwas : Nat) (macts : Int32) (mundone : Int32) (musedBy0 : Nat) (musedBy1 : Nat) (mmornings : Nat) (mcameFrom : Nat) (mcameBy : Nat) (mlevelAt : Nat) (mwins : Nat) (mslots : Nat) (mlevelOf : Nat) (mworthOf : Nat) (mstates : Int32) (mlevels : Int32) (mside0 : Int32) (mside1 : Int32) (mdeathDay : Int32) (maway : Int32) (mhires : Int32) (mhirer : Int32) (mslotFound : Int32) (misSpent : Int32) (mfound : Int32) (mlaid : Int32) (mlaidRow : Nat) (mgReason : Nat) (mgDay : Nat) (mgTold : Nat) (mgUntold : Nat) (msights : Int32) (mtime : Int32) (mboxAll : Nat) (misBoxed : Nat) (p0 : Int32) (p1 : Int32) (hh0 : 0 ≤ mtaped.toInt ∧ mtaped.toInt ≤ 1600) (hh1 : 0 ≤ msize.toInt ∧ msize.toInt ≤ 1600) (hh2 : 0 ≤ mat.toInt ∧ mat.toInt ≤ 1600) (hh3 : 0 ≤ mend.toInt ∧ mend.toInt ≤ 1600) (hh4 : 0 ≤ mtoken.toInt ∧ mtoken.toInt ≤ 5) (hh18 : 0 ≤ mbank.toInt ∧ mbank.toInt ≤ 1) (hh19 : 0 ≤ mrb.toInt ∧ mrb.toInt ≤ 1) (hh20 : 0 ≤ mcodes.toInt ∧ mcodes.toInt ≤ 1120) (hh21 : 0 ≤ mpiled.toInt ∧ mpiled.toInt ≤ 90) (hh22 : 0 ≤ munitsInRule.toInt ∧ munitsInRule.toInt ≤ 30) (hh23 : Ia Fmall) (hh25 : 0 ≤ macts.toInt ∧ macts.toInt ≤ 40) (hh26 : 0 ≤ mundone.toInt ∧ mundone.toInt ≤ 40) (hh34 : 0 ≤ mstates.toInt ∧ mstates.toInt ≤ 3000) (hh35 : 0 ≤ mlevels.toInt ∧ mlevels.toInt ≤ 18) (hh36 : 0 ≤ mside0.toInt ∧ mside0.toInt ≤ 5) (hh37 : 0 ≤ mside1.toInt ∧ mside1.toInt ≤ 5) (hh38 : 0 ≤ mslotFound.toInt ∧ mslotFound.toInt ≤ 8191) (hh39 : 0 ≤ misSpent.toInt ∧ misSpent.toInt ≤ 1) (hh40 : 0 ≤ mlaid.toInt ∧ mlaid.toInt ≤ 16) (hh41 : 0 ≤ msights.toInt ∧ msights.toInt ≤ 30) (hh42 : 0 ≤ mtime.toInt ∧ mtime.toInt ≤ 100000) (hh44 : 0 ≤ p0.toInt ∧ p0.toInt ≤ 7) (hh45 : 0 ≤ p1.toInt ∧ p1.toInt ≤ 6) : Met l yX12_of (.code yX12_of cX12_of 3 (some .int) :: gT) ({ frames := 0, cells := 0, slots := 0, locals := 0 }) (va_Pc [.ref h, .int p0, .int p1] (Pst g sz [(h, .inr (12, [.ref mtape, .ref mtext, .int mtaped, .int msize, .int mfaultKind, .int mfaultPlace, .int mat, .int mend, .int mtoken, .int mnumber, .long mname, .ref mmen, .ref mkinds, .ref mreasons, .ref mtold, .ref munits, .ref mhonour, .ref mdraw, .ref mdies, .ref mcoin, .ref msonOf, .ref mkindOf, .ref mowner, .ref mfirst, .ref mlast, .ref mrent, .ref msort, .ref mduelOne, .ref mduelOther, .ref mduelOn, .ref mruleFrom, .ref mruleTo, .ref mhasHonour, .ref mhasDraw, .ref mmName, .ref mkName, .ref mrName, .ref mdName, .ref mcode, .ref mcodeNumber, .ref meWhat, .ref meSign, .ref mpile, .int mbank, .int mrb, .int mcodes, .int mwithin, .int mpiled, .int munitsInRule, .int maskDay, .int maskUses, .int maskSpent, .ref mall, .ref mwas, .int macts, .int mundone, .ref musedBy0, .ref musedBy1, .ref mmornings, .ref mcameFrom, .ref mcameBy, .ref mlevelAt, .ref mwins, .ref mslots, .ref mlevelOf, .ref mworthOf, .int mstates, .int mlevels, .int mside0, .int mside1, .int mdeathDay, .int maway, .int mhires, .int mhirer, .int mslotFound, .int misSpent, .int mfound, .int mlaid, .ref mlaidRow, .ref mgReason, .ref mgDay, .ref mgTold, .ref mgUntold, .int msights, .int mtime, .ref mboxAll, .ref misBoxed])), (mall, aI g 374 Fmall)] nX)) (va_Qi (fun (r : Int32) => fun (_ : Unit) => True) (Qst g [] sz (fun _ => [])) (va_A [] sz)) 0 0 (va_A [] sz) := by
  refine Met.ofW (cc := cX12_of) (maxL := 3) (ret := (some .int)) (by decide) rfl ?_
  intro p e s m args below meth c s₁ B hml hv
  obtain ⟨rfl, hsz, hP, hK, hD0, hX⟩ := hv
  have hx := B.exec
  have hb := B.bytes
  have hr := B.returns
  have hT : ∀ w ∈ gT, w.before _ s = true := fun w h => atoms_spec (ws := .code yX12_of cX12_of 3 (some .int) :: gT) B.pre w (List.mem_cons_of_mem _ h)
  have hown : s.vm.findClass RX12 = some m.cls := findClass_of_methodNamed B.named
  have hlocks := B.notSynchronized
  subst hsz
  have hD := hD0
  generalize hAe : va_A [] s.heap.size = A at ⊢
  have hA : ∀ q : Nat, s.heap.size ≤ q → A q := fun q h => by rw [← hAe]; exact Or.inr h
  have hS : va_S A s.heap s.heap [] := va_S.rf
  have hl := lv_entry ([.ref h, .int p0, .int p1]) (n := 3) (Nat.le_of_ble_eq_true rfl)
  rw [lg_entry_eq]
  generalize (lg_sl ([.ref h, .int p0, .int p1]) ++ List.replicate (3 - (lg_sl ([.ref h, .int p0, .int p1])).length) Slot.unset).toArray = ls at hl ⊢
  have hl : lv_has ls 3 [(0, .ref h), (1, .int p0), (2, .int p1)] := hl
  refine p_nH (fun H hH => ?_)
  have hP : va_P g.1 vwCl [(h, .inr (12, [.ref mtape, .ref mtext, .int mtaped, .int msize, .int mfaultKind, .int mfaultPlace, .int mat, .int mend, .int mtoken, .int mnumber, .long mname, .ref mmen, .ref mkinds, .ref mreasons, .ref mtold, .ref munits, .ref mhonour, .ref mdraw, .ref mdies, .ref mcoin, .ref msonOf, .ref mkindOf, .ref mowner, .ref mfirst, .ref mlast, .ref mrent, .ref msort, .ref mduelOne, .ref mduelOther, .ref mduelOn, .ref mruleFrom, .ref mruleTo, .ref mhasHonour, .ref mhasDraw, .ref mmName, .ref mkName, .ref mrName, .ref mdName, .ref mcode, .ref mcodeNumber, .ref meWhat, .ref meSign, .ref mpile, .int mbank, .int mrb, .int mcodes, .int mwithin, .int mpiled, .int munitsInRule, .int maskDay, .int maskUses, .int maskSpent, .ref mall, .ref mwas, .int macts, .int mundone, .ref musedBy0, .ref musedBy1, .ref mmornings, .ref mcameFrom, .ref mcameBy, .ref mlevelAt, .ref mwins, .ref mslots, .ref mlevelOf, .ref mworthOf, .int mstates, .int mlevels, .int mside0, .int mside1, .int mdeathDay, .int maway, .int mhires, .int mhirer, .int mslotFound, .int misSpent, .int mfound, .int mlaid, .ref mlaidRow, .ref mgReason, .ref mgDay, .ref mgTold, .ref mgUntold, .int msights, .int mtime, .ref mboxAll, .ref misBoxed])), (mall, aI g 374 Fmall)] H := by rw [hH]; exact hP
  have hS : va_S A s.heap H [] := by rw [hH]; exact hS
  refine lv_aload_n hx hb dX12_of_0 rfl (lv_at hl 0 rfl) ?_
  refine va_get (D := g.1) (ci := 12) (v := .ref mall) (C := RX12) (T := TX12) (N := 87) hx hb hT inF_X12 hown hK.1 hP 0 rfl rfl 52 (by decide) (hT _ bw_832) (fun _ h9 => h9) rfl dX12_of_1 ?_
  refine lv_bipush (v := 14) hx hb dX12_of_4 (by decide) ?_
  refine lv_bipush (v := 7) hx hb dX12_of_6 (by decide) ?_
  refine lv_iload_n hx hb dX12_of_8 rfl (lv_at hl 1 rfl) ?_
  refine lv_imul hx hb dX12_of_9 ?_
  refine lv_topi (fun x_1 ex_1 => ?_)
  have fx_1 : x_1.toInt = 7 * p0.toInt := by rw [ex_1]; exact I_mul (by decide : (7 : Int32).toInt = 7) rfl (by omega) (by omega)
  refine lv_iadd hx hb dX12_of_10 ?_
  refine lv_topi (fun x_2 ex_2 => ?_)
  have fx_2 : x_2.toInt = 14 + x_1.toInt := by rw [ex_2]; exact I_add (by decide : (14 : Int32).toInt = 14) rfl (by omega) (by omega)
  refine lv_iload_n hx hb dX12_of_11 rfl (lv_at hl 2 rfl) ?_
  refine lv_iadd hx hb dX12_of_12 ?_
  refine lv_topi (fun x_3 ex_3 => ?_)
  have fx_3 : x_3.toInt = x_2.toInt + p1.toInt := by rw [ex_3]; exact I_add rfl rfl (by omega) (by omega)
  have h_4 : vp_in x_3 374 := vp_in_iff.mpr (by omega)
  refine va_iald hx hb hK.1 hP 1 1 rfl rfl (i := x_3) h_4 dX12_of_13 ?_
  refine lv_topi (fun x_5 ex_5 => ?_)
  have cn_6 := clampI (x := x_3) (by omega)
  have mcn_6 : (x_3 : Int32).toNatClampNeg % 374 = (x_3 : Int32).toNatClampNeg := Nat.mod_eq_of_lt (by omega)
  have ux_5 := congrArg Int32.toInt ex_5
  have px_5 : In ((x_3 : Int32).toNatClampNeg % 374) x_5.toInt := Im.rd hh23 h_4 ex_5
  have hP9 : va_P g.1 vwCl [] H := hP.sub [] rfl
  have hD9 : va_D A [] := ⟨fun i j p q h => by simp at h, fun k q h => by simp at h⟩
  exact W.iret (v := x_5) hx hb hr (fun t ht hW => ⟨⟨x_5, (), rfl, trivial, by rw [ht]; exact hP9, by rw [hAe]; exact hD9⟩, hS.F ht⟩) hS.2.2 dX12_of_14

theorem bw_837 : Cond.methodLink RX12 415 yX12_isDuel ∈ gT := gT_tb 1762 (by decide +kernel) (by decide +kernel)
theorem bw_838 : Cond.instanceMethod yX12_isDuel ∈ gT := gT_tb 1764 (by decide +kernel) (by decide +kernel)
theorem bw_839 : Cond.selects RX12 yX12_isDuel yX12_isDuel ∈ gT := gT_sl 88 (by decide +kernel) (by decide +kernel)
theorem bw_840 : Cond.initialized RX12 ∈ gT := gT_tb 19 (by decide +kernel) (by decide +kernel)
theorem bw_841 : Cond.methodLink RX12 418 yX12_of ∈ gT := gT_tb 1766 (by decide +kernel) (by decide +kernel)
theorem bw_842 : Cond.instanceMethod yX12_of ∈ gT := gT_tb 1768 (by decide +kernel) (by decide +kernel)
theorem bw_843 : Cond.selects RX12 yX12_of yX12_of ∈ gT := gT_sl 89 (by decide +kernel) (by decide +kernel)
theorem bw_844 : Cond.code yX12_isOpen cX12_isOpen 2 (some .boolean) ∈ gT := gT_tb 1818 (by decide +kernel) (by decide +kernel)
theorem dX12_isOpen_0 : decode cX12_isOpen 0 = .ok (.aload_n 0, 1) := by decide +kernel
theorem dX12_isOpen_1 : decode cX12_isOpen 1 = .ok (.iload_n 1, 1) := by decide +kernel
theorem dX12_isOpen_2 : decode cX12_isOpen 2 = .ok (.invokevirtual 415, 3) := by decide +kernel
theorem dX12_isOpen_5 : decode cX12_isOpen 5 = .ok (.ifCond .eq 17, 3) := by decide +kernel
theorem dX12_isOpen_8 : decode cX12_isOpen 8 = .ok (.aload_n 0, 1) := by decide +kernel
theorem dX12_isOpen_9 : decode cX12_isOpen 9 = .ok (.iload_n 1, 1) := by decide +kernel
theorem dX12_isOpen_10 : decode cX12_isOpen 10 = .ok (.iconst 4, 1) := by decide +kernel
theorem dX12_isOpen_11 : decode cX12_isOpen 11 = .ok (.invokevirtual 418, 3) := by decide +kernel
theorem dX12_isOpen_14 : decode cX12_isOpen 14 = .ok (.iconst 1, 1) := by decide +kernel
theorem dX12_isOpen_15 : decode cX12_isOpen 15 = .ok (.if_icmp .ne 7, 3) := by decide +kernel
theorem dX12_isOpen_18 : decode cX12_isOpen 18 = .ok (.iconst 1, 1) := by decide +kernel
theorem dX12_isOpen_19 : decode cX12_isOpen 19 = .ok (.goto 4, 3) := by decide +kernel
theorem dX12_isOpen_22 : decode cX12_isOpen 22 = .ok (.iconst 0, 1) := by decide +kernel
theorem dX12_isOpen_23 : decode cX12_isOpen 23 = .ok (.ireturn, 1) := by decide +kernel
set_option maxHeartbeats 40000000 in
set_option maxRecDepth 100000 in
theorem s_X12_isOpen (l : Launch) (g : GG) (sz : Nat) (h : Nat) (mtape : Nat) (mtext : Nat) (mtaped : Int32) (msize : Int32) (mfaultKind : Int32) (mfaultPlace : Int32) (mat : Int32) (mend : Int32) (mtoken : Int32) (mnumber : Int32) (mname : Int64) (mmen : Nat) (mkinds : Nat) (mreasons : Nat) (mtold : Nat) (munits : Nat) (mhonour : Nat) (mdraw : Nat) (mdies : Nat) (mcoin : Nat) (msonOf : Nat) (mkindOf : Nat) (mowner : Nat) (mfirst : Nat) (mlast : Nat) (mrent : Nat) (msort : Nat) (mduelOne : Nat) (mduelOther : Nat) (mduelOn : Nat) (mruleFrom : Nat) (mruleTo : Nat) (mhasHonour : Nat) (mhasDraw : Nat) (mmName : Nat) (mkName : Nat) (mrName : Nat) (mdName : Nat) (mcode : Nat) (mcodeNumber : Nat) (meWhat : Nat) (meSign : Nat) (mpile : Nat) (mbank : Int32) (mrb : Int32) (mcodes : Int32) (mwithin : Int32) (mpiled : Int32) (munitsInRule : Int32) (maskDay : Int32) (maskUses : Int32) (maskSpent : Int32) (mall : Nat) (Fmall : Nat → Int32) (mwas : Nat) (macts : Int32) (mundone : Int32) (musedBy0 : Nat) (musedBy1 : Nat) (mmornings : Nat) (mcameFrom : Nat) (mcameBy : Nat) (mlevelAt : Nat) (mwins : Nat) (mslots : Nat) (mlevelOf : Nat) (mworthOf : Nat) (mstates : Int32) (mlevels : Int32) (mside0 : Int32) (mside1 : Int32) (mdeathDay : Int32) (maway : Int32) (mhires : Int32) (mhirer : Int32) (mslotFound : Int32) (misSpent : Int32) (mfound : Int32) (mlaid : Int32) (mlaidRow : Nat) (mgReason : Nat) (mgDay : Nat) (mgTold : Nat) (mgUntold : Nat) (msights : Int32) (mtime : Int32) (mboxAll : Nat) (misBoxed : Nat) (p0 : Int32) (hh0 : 0 ≤ mtaped.toInt ∧ mtaped.toInt ≤ 1600) (hh1 : 0 ≤ msize.toInt ∧ msize.toInt ≤ 1600) (hh2 : 0 ≤ mat.toInt ∧ mat.toInt ≤ 1600) (hh3 : 0 ≤ mend.toInt ∧ mend.toInt ≤ 1600) (hh4 : 0 ≤ mtoken.toInt ∧ mtoken.toInt ≤ 5) (hh18 : 0 ≤ mbank.toInt ∧ mbank.toInt ≤ 1) (hh19 : 0 ≤ mrb.toInt ∧ mrb.toInt ≤ 1) (hh20 : 0 ≤ mcodes.toInt ∧ mcodes.toInt ≤ 1120) (hh21 : 0 ≤ mpiled.toInt ∧ mpiled.toInt ≤ 90) (hh22 : 0 ≤ munitsInRule.toInt ∧ munitsInRule.toInt ≤ 30) (hh23 : Ia Fmall) (hh25 : 0 ≤ macts.toInt ∧ macts.toInt ≤ 40) (hh26 : 0 ≤ mundone.toInt ∧ mundone.toInt ≤ 40) (hh34 : 0 ≤ mstates.toInt ∧ mstates.toInt ≤ 3000) (hh35 : 0 ≤ mlevels.toInt ∧ mlevels.toInt ≤ 18) (hh36 : 0 ≤ mside0.toInt ∧ mside0.toInt ≤ 5) (hh37 : 0 ≤ mside1.toInt ∧ mside1.toInt ≤ 5) (hh38 : 0 ≤ mslotFound.toInt ∧ mslotFound.toInt ≤ 8191) (hh39 : 0 ≤ misSpent.toInt ∧ misSpent.toInt ≤ 1) (hh40 : 0 ≤ mlaid.toInt ∧ mlaid.toInt ≤ 16) (hh41 : 0 ≤ msights.toInt ∧ msights.toInt ≤ 30) (hh42 : 0 ≤ mtime.toInt ∧ mtime.toInt ≤ 100000) : Met l yX12_isOpen (.code yX12_isOpen cX12_isOpen 2 (some .boolean) :: gT) ({ frames := 2, cells := 0, slots := 0, locals := 43 }) (va_Pc [.ref h, .int p0] (Pst g sz [(h, .inr (12, [.ref mtape, .ref mtext, .int mtaped, .int msize, .int mfaultKind, .int mfaultPlace, .int mat, .int mend, .int mtoken, .int mnumber, .long mname, .ref mmen, .ref mkinds, .ref mreasons, .ref mtold, .ref munits, .ref mhonour, .ref mdraw, .ref mdies, .ref mcoin, .ref msonOf, .ref mkindOf, .ref mowner, .ref mfirst, .ref mlast, .ref mrent, .ref msort, .ref mduelOne, .ref mduelOther, .ref mduelOn, .ref mruleFrom, .ref mruleTo, .ref mhasHonour, .ref mhasDraw, .ref mmName, .ref mkName, .ref mrName, .ref mdName, .ref mcode, .ref mcodeNumber, .ref meWhat, .ref meSign, .ref mpile, .int mbank, .int mrb, .int mcodes, .int mwithin, .int mpiled, .int munitsInRule, .int maskDay, .int maskUses, .int maskSpent, .ref mall, .ref mwas, .int macts, .int mundone, .ref musedBy0, .ref musedBy1, .ref mmornings, .ref mcameFrom, .ref mcameBy, .ref mlevelAt, .ref mwins, .ref mslots, .ref mlevelOf, .ref mworthOf, .int mstates, .int mlevels, .int mside0, .int mside1, .int mdeathDay, .int maway, .int mhires, .int mhirer, .int mslotFound, .int misSpent, .int mfound, .int mlaid, .ref mlaidRow, .ref mgReason, .ref mgDay, .ref mgTold, .ref mgUntold, .int msights, .int mtime, .ref mboxAll, .ref misBoxed])), (mall, aI g 374 Fmall)] nX)) (va_Qi (fun (r : Int32) => fun (_ : Unit) => (r = 1 ∧ (0 ≤ p0.toInt ∧ p0.toInt ≤ 7)) ∨ (r = 0)) (Qst g [] sz (fun _ => [])) (va_A [] sz)) 0 0 (va_A [] sz) := by
  refine Met.ofW (cc := cX12_isOpen) (maxL := 2) (ret := (some .boolean)) (by decide) rfl ?_
  intro p e s m args below meth c s₁ B hml hv
  obtain ⟨rfl, hsz, hP, hK, hD0, hX⟩ := hv
  have hx := B.exec
  have hb := B.bytes
  have hr := B.returns
  have hT : ∀ w ∈ gT, w.before _ s = true := fun w h => atoms_spec (ws := .code yX12_isOpen cX12_isOpen 2 (some .boolean) :: gT) B.pre w (List.mem_cons_of_mem _ h)
  have hown : s.vm.findClass RX12 = some m.cls := findClass_of_methodNamed B.named
  have hlocks := B.notSynchronized
  subst hsz
  have hD := hD0
  generalize hAe : va_A [] s.heap.size = A at ⊢
  have hA : ∀ q : Nat, s.heap.size ≤ q → A q := fun q h => by rw [← hAe]; exact Or.inr h
  have hS : va_S A s.heap s.heap [] := va_S.rf
  have hl := lv_entry ([.ref h, .int p0]) (n := 2) (Nat.le_of_ble_eq_true rfl)
  rw [lg_entry_eq]
  generalize (lg_sl ([.ref h, .int p0]) ++ List.replicate (2 - (lg_sl ([.ref h, .int p0])).length) Slot.unset).toArray = ls at hl ⊢
  have hl : lv_has ls 2 [(0, .ref h), (1, .int p0)] := hl
  refine p_nH (fun H hH => ?_)
  have hP : va_P g.1 vwCl [(h, .inr (12, [.ref mtape, .ref mtext, .int mtaped, .int msize, .int mfaultKind, .int mfaultPlace, .int mat, .int mend, .int mtoken, .int mnumber, .long mname, .ref mmen, .ref mkinds, .ref mreasons, .ref mtold, .ref munits, .ref mhonour, .ref mdraw, .ref mdies, .ref mcoin, .ref msonOf, .ref mkindOf, .ref mowner, .ref mfirst, .ref mlast, .ref mrent, .ref msort, .ref mduelOne, .ref mduelOther, .ref mduelOn, .ref mruleFrom, .ref mruleTo, .ref mhasHonour, .ref mhasDraw, .ref mmName, .ref mkName, .ref mrName, .ref mdName, .ref mcode, .ref mcodeNumber, .ref meWhat, .ref meSign, .ref mpile, .int mbank, .int mrb, .int mcodes, .int mwithin, .int mpiled, .int munitsInRule, .int maskDay, .int maskUses, .int maskSpent, .ref mall, .ref mwas, .int macts, .int mundone, .ref musedBy0, .ref musedBy1, .ref mmornings, .ref mcameFrom, .ref mcameBy, .ref mlevelAt, .ref mwins, .ref mslots, .ref mlevelOf, .ref mworthOf, .int mstates, .int mlevels, .int mside0, .int mside1, .int mdeathDay, .int maway, .int mhires, .int mhirer, .int mslotFound, .int misSpent, .int mfound, .int mlaid, .ref mlaidRow, .ref mgReason, .ref mgDay, .ref mgTold, .ref mgUntold, .int msights, .int mtime, .ref mboxAll, .ref misBoxed])), (mall, aI g 374 Fmall)] H := by rw [hH]; exact hP
  have hS : va_S A s.heap H [] := by rw [hH]; exact hS
  refine lv_aload_n hx hb dX12_isOpen_0 rfl (lv_at hl 0 rfl) ?_
  refine lv_iload_n hx hb dX12_isOpen_1 rfl (lv_at hl 1 rfl) ?_
  refine k_iR (k_V (n := 1) ⟨hx, hb, hml, hown, hT⟩ hK hP hD [0, 1] rfl (by decide +kernel) (s_X12_isDuel l g H.size h mtape mtext mtaped msize mfaultKind mfaultPlace mat mend mtoken mnumber mname mmen mkinds mreasons mtold munits mhonour mdraw mdies mcoin msonOf mkindOf mowner mfirst mlast mrent msort mduelOne mduelOther mduelOn mruleFrom mruleTo mhasHonour mhasDraw mmName mkName mrName mdName mcode mcodeNumber meWhat meSign mpile mbank mrb mcodes mwithin mpiled munitsInRule maskDay maskUses maskSpent mall Fmall mwas macts mundone musedBy0 musedBy1 mmornings mcameFrom mcameBy mlevelAt mwins mslots mlevelOf mworthOf mstates mlevels mside0 mside1 mdeathDay maway mhires mhirer mslotFound misSpent mfound mlaid mlaidRow mgReason mgDay mgTold mgUntold msights mtime mboxAll misBoxed p0 (by first | with_reducible assumption | omega) (by first | with_reducible assumption | omega) (by first | with_reducible assumption | omega) (by first | with_reducible assumption | omega) (by first | with_reducible assumption | omega) (by first | with_reducible assumption | omega) (by first | with_reducible assumption | omega) (by first | with_reducible assumption | omega) (by first | with_reducible assumption | omega) (by first | with_reducible assumption | omega) hh23 (by first | with_reducible assumption | omega) (by first | with_reducible assumption | omega) (by first | with_reducible assumption | omega) (by first | with_reducible assumption | omega) (by first | with_reducible assumption | omega) (by first | with_reducible assumption | omega) (by first | with_reducible assumption | omega) (by first | with_reducible assumption | omega) (by first | with_reducible assumption | omega) (by first | with_reducible assumption | omega) (by first | with_reducible assumption | omega)) (gV bw_837 bw_838 bw_839 bw_840 bw_833) rfl rfl (by decide +kernel) ⟨by decide, by decide⟩ (ci := 12) (q0 := 0) rfl rfl (fun _ _ _ _ _ => trivial) (fun _ _ _ => trivial) rfl rfl hl.1 (Nat.le_of_ble_eq_true rfl) dX12_isOpen_2 ⟨by decide, by decide⟩) hP hS hA (fun r_1 _ H locs hw0 hP hS => ?_)
  have hw : (r_1 = 1 ∧ (0 ≤ p0.toInt ∧ p0.toInt ≤ 7)) ∨ (r_1 = 0) := hw0
  clear hw0
  rcases hw with ⟨e_3, w_2⟩ | e_4
  · subst e_3
    refine lv_if_eq (tgt := 22) hx hb dX12_isOpen_5 (by decide) (fun c9 => absurd c9 (by decide)) (fun _ => ?_)
    refine lv_aload_n hx hb dX12_isOpen_8 rfl (lv_at hl 0 rfl) ?_
    refine lv_iload_n hx hb dX12_isOpen_9 rfl (lv_at hl 1 rfl) ?_
    refine lv_iconst (v := 4) hx hb dX12_isOpen_10 (by decide) ?_
    refine k_iR (k_V (n := 2) ⟨hx, hb, hml, hown, hT⟩ hK hP hD [0, 1] rfl (by decide +kernel) (s_X12_of_4 l g H.size h mtape mtext mtaped msize mfaultKind mfaultPlace mat mend mtoken mnumber mname mmen mkinds mreasons mtold munits mhonour mdraw mdies mcoin msonOf mkindOf mowner mfirst mlast mrent msort mduelOne mduelOther mduelOn mruleFrom mruleTo mhasHonour mhasDraw mmName mkName mrName mdName mcode mcodeNumber meWhat meSign mpile mbank mrb mcodes mwithin mpiled munitsInRule maskDay maskUses maskSpent mall Fmall mwas macts mundone musedBy0 musedBy1 mmornings mcameFrom mcameBy mlevelAt mwins mslots mlevelOf mworthOf mstates mlevels mside0 mside1 mdeathDay maway mhires mhirer mslotFound misSpent mfound mlaid mlaidRow mgReason mgDay mgTold mgUntold msights mtime mboxAll misBoxed p0 (by first | with_reducible assumption | omega) (by first | with_reducible assumption | omega) (by first | with_reducible assumption | omega) (by first | with_reducible assumption | omega) (by first | with_reducible assumption | omega) (by first | with_reducible assumption | omega) (by first | with_reducible assumption | omega) (by first | with_reducible assumption | omega) (by first | with_reducible assumption | omega) (by first | with_reducible assumption | omega) hh23 (by first | with_reducible assumption | omega) (by first | with_reducible assumption | omega) (by first | with_reducible assumption | omega) (by first | with_reducible assumption | omega) (by first | with_reducible assumption | omega) (by first | with_reducible assumption | omega) (by first | with_reducible assumption | omega) (by first | with_reducible assumption | omega) (by first | with_reducible assumption | omega) (by first | with_reducible assumption | omega) (by first | with_reducible assumption | omega) (by first | with_reducible assumption | omega)) (gV bw_841 bw_842 bw_843 bw_840 bw_836) rfl rfl (by decide +kernel) ⟨by decide, by decide⟩ (ci := 12) (q0 := 0) rfl rfl (fun _ _ _ _ _ => trivial) (fun _ _ _ => trivial) rfl rfl hl.1 (Nat.le_of_ble_eq_true rfl) dX12_isOpen_11 ⟨by decide, by decide⟩) hP hS hA (fun r_5 _ H locs hw0 hP hS => ?_)
    refine lv_iconst (v := 1) hx hb dX12_isOpen_14 (by decide) ?_
    refine lv_icmp_ne (tgt := 22) hx hb dX12_isOpen_15 (by decide) (fun c_6 => ?_) (fun c_6 => ?_)
    · have f_7 := E_ne (rfl : r_5.toInt = _) (by decide : (1 : Int32).toInt = 1) c_6
      refine lv_iconst (v := 0) hx hb dX12_isOpen_22 (by decide) ?_
      have hP9 : va_P g.1 vwCl [] H := hP.sub [] rfl
      have hD9 : va_D A [] := ⟨fun i j p q h => by simp at h, fun k q h => by simp at h⟩
      exact W.zret (v := 0) (ty := .boolean) hx hb hr rfl (fun t ht hW => ⟨⟨0, (), rfl, (Or.inr (rfl)), by rw [ht]; exact hP9, by rw [hAe]; exact hD9⟩, hS.F ht⟩) hS.2.2 dX12_isOpen_23
    · have f_8 := E_eq (rfl : r_5.toInt = _) (by decide : (1 : Int32).toInt = 1) c_6
      refine lv_iconst (v := 1) hx hb dX12_isOpen_18 (by decide) ?_
      refine lv_goto (tgt := 23) hx hb dX12_isOpen_19 (by decide) ?_
      have hP9 : va_P g.1 vwCl [] H := hP.sub [] rfl
      have hD9 : va_D A [] := ⟨fun i j p q h => by simp at h, fun k q h => by simp at h⟩
      exact W.zret (v := 1) (ty := .boolean) hx hb hr rfl (fun t ht hW => ⟨⟨1, (), rfl, (Or.inl ⟨rfl, w_2⟩), by rw [ht]; exact hP9, by rw [hAe]; exact hD9⟩, hS.F ht⟩) hS.2.2 dX12_isOpen_23
  · subst e_4
    refine lv_if_eq (tgt := 22) hx hb dX12_isOpen_5 (by decide) (fun _ => ?_) (fun c9 => absurd (by decide) c9)
    refine lv_iconst (v := 0) hx hb dX12_isOpen_22 (by decide) ?_
    have hP9 : va_P g.1 vwCl [] H := hP.sub [] rfl
    have hD9 : va_D A [] := ⟨fun i j p q h => by simp at h, fun k q h => by simp at h⟩
    exact W.zret (v := 0) (ty := .boolean) hx hb hr rfl (fun t ht hW => ⟨⟨0, (), rfl, (Or.inr (rfl)), by rw [ht]; exact hP9, by rw [hAe]; exact hD9⟩, hS.F ht⟩) hS.2.2 dX12_isOpen_23

theorem bw_845 : Cond.fieldLink RX12 42 "DuelDelaysModel" "dies" "[I" ∈ gT := gT_tb 1323 (by decide +kernel) (by decide +kernel)
theorem bw_846 : Cond.code yX12_diesOn cX12_diesOn 2 (some .int) ∈ gT := gT_tb 1757 (by decide +kernel) (by decide +kernel)
theorem dX12_diesOn_0 : decode cX12_diesOn 0 = .ok (.aload_n 0, 1) := by decide +kernel
theorem dX12_diesOn_1 : decode cX12_diesOn 1 = .ok (.getfield 42, 3) := by decide +kernel
theorem dX12_diesOn_4 : decode cX12_diesOn 4 = .ok (.bipush 6, 2) := by decide +kernel
theorem dX12_diesOn_6 : decode cX12_diesOn 6 = .ok (.aload_n 0, 1) := by decide +kernel
theorem dX12_diesOn_7 : decode cX12_diesOn 7 = .ok (.getfield 308, 3) := by decide +kernel
theorem dX12_diesOn_10 : decode cX12_diesOn 10 = .ok (.imul, 1) := by decide +kernel
theorem dX12_diesOn_11 : decode cX12_diesOn 11 = .ok (.iload_n 1, 1) := by decide +kernel
theorem dX12_diesOn_12 : decode cX12_diesOn 12 = .ok (.iadd, 1) := by decide +kernel
theorem dX12_diesOn_13 : decode cX12_diesOn 13 = .ok (.iaload, 1) := by decide +kernel
theorem dX12_diesOn_14 : decode cX12_diesOn 14 = .ok (.ireturn, 1) := by decide +kernel
set_option maxHeartbeats 40000000 in
set_option maxRecDepth 100000 in
theorem s_X12_diesOn (l : Launch) (g : GG) (sz : Nat) (h : Nat) (mtape : Nat) (mtext : Nat) (mtaped : Int32) (msize : Int32) (mfaultKind : Int32) (mfaultPlace : Int32) (mat : Int32) (mend : Int32) (mtoken : Int32) (mnumber : Int32) (mname : Int64) (mmen : Nat) (mkinds : Nat) (mreasons : Nat) (mtold : Nat) (munits : Nat) (mhonour : Nat) (mdraw : Nat) (mdies : Nat) (Fmdies : Nat → Int32) (mcoin : Nat) (msonOf : Nat) (mkindOf : Nat) (mowner : Nat) (mfirst : Nat) (mlast : Nat) (mrent : Nat) (msort : Nat) (mduelOne : Nat) (mduelOther : Nat) (mduelOn : Nat) (mruleFrom : Nat) (mruleTo : Nat) (mhasHonour : Nat) (mhasDraw : Nat) (mmName : Nat) (mkName : Nat) (mrName : Nat) (mdName : Nat) (mcode : Nat) (mcodeNumber : Nat) (meWhat : Nat) (meSign : Nat) (mpile : Nat) (mbank : Int32) (mrb : Int32) (mcodes : Int32) (mwithin : Int32) (mpiled : Int32) (munitsInRule : Int32) (maskDay : Int32) (maskUses : Int32) (maskSpent : Int32) (mall : Nat) (mwas : Nat) (macts : Int32) (mundone : Int32) (musedBy0 : Nat) (musedBy1 : Nat) (mmornings : Nat) (mcameFrom : Nat) (mcameBy : Nat) (mlevelAt : Nat) (mwins : Nat) (mslots : Nat) (mlevelOf : Nat) (mworthOf : Nat) (mstates : Int32) (mlevels : Int32) (mside0 : Int32) (mside1 : Int32) (mdeathDay : Int32) (maway : Int32) (mhires : Int32) (mhirer : Int32) (mslotFound : Int32) (misSpent : Int32) (mfound : Int32) (mlaid : Int32) (mlaidRow : Nat) (mgReason : Nat) (mgDay : Nat) (mgTold : Nat) (mgUntold : Nat) (msights : Int32) (mtime : Int32) (mboxAll : Nat) (misBoxed : Nat) (p0 : Int32) (hh0 : 0 ≤ mtaped.toInt ∧ mtaped.toInt ≤ 1600) (hh1 : 0 ≤ msize.toInt ∧ msize.toInt ≤ 1600) (hh2 : 0 ≤ mat.toInt ∧ mat.toInt ≤ 1600) (hh3 : 0 ≤ mend.toInt ∧ mend.toInt ≤ 1600) (hh4 : 0 ≤ mtoken.toInt ∧ mtoken.toInt ≤ 5) (hh18 : 0 ≤ mbank.toInt ∧ mbank.toInt ≤ 1) (hh19 : 0 ≤ mrb.toInt ∧ mrb.toInt ≤ 1) (hh20 : 0 ≤ mcodes.toInt ∧ mcodes.toInt ≤ 1120) (hh21 : 0 ≤ mpiled.toInt ∧ mpiled.toInt ≤ 90) (hh22 : 0 ≤ munitsInRule.toInt ∧ munitsInRule.toInt ≤ 30) (hh25 : 0 ≤ macts.toInt ∧ macts.toInt ≤ 40) (hh26 : 0 ≤ mundone.toInt ∧ mundone.toInt ≤ 40) (hh34 : 0 ≤ mstates.toInt ∧ mstates.toInt ≤ 3000) (hh35 : 0 ≤ mlevels.toInt ∧ mlevels.toInt ≤ 18) (hh36 : 0 ≤ mside0.toInt ∧ mside0.toInt ≤ 5) (hh37 : 0 ≤ mside1.toInt ∧ mside1.toInt ≤ 5) (hh38 : 0 ≤ mslotFound.toInt ∧ mslotFound.toInt ≤ 8191) (hh39 : 0 ≤ misSpent.toInt ∧ misSpent.toInt ≤ 1) (hh40 : 0 ≤ mlaid.toInt ∧ mlaid.toInt ≤ 16) (hh41 : 0 ≤ msights.toInt ∧ msights.toInt ≤ 30) (hh42 : 0 ≤ mtime.toInt ∧ mtime.toInt ≤ 100000) (hh44 : 0 ≤ p0.toInt ∧ p0.toInt ≤ 5) : Met l yX12_diesOn (.code yX12_diesOn cX12_diesOn 2 (some .int) :: gT) ({ frames := 0, cells := 0, slots := 0, locals := 0 }) (va_Pc [.ref h, .int p0] (Pst g sz [(h, .inr (12, [.ref mtape, .ref mtext, .int mtaped, .int msize, .int mfaultKind, .int mfaultPlace, .int mat, .int mend, .int mtoken, .int mnumber, .long mname, .ref mmen, .ref mkinds, .ref mreasons, .ref mtold, .ref munits, .ref mhonour, .ref mdraw, .ref mdies, .ref mcoin, .ref msonOf, .ref mkindOf, .ref mowner, .ref mfirst, .ref mlast, .ref mrent, .ref msort, .ref mduelOne, .ref mduelOther, .ref mduelOn, .ref mruleFrom, .ref mruleTo, .ref mhasHonour, .ref mhasDraw, .ref mmName, .ref mkName, .ref mrName, .ref mdName, .ref mcode, .ref mcodeNumber, .ref meWhat, .ref meSign, .ref mpile, .int mbank, .int mrb, .int mcodes, .int mwithin, .int mpiled, .int munitsInRule, .int maskDay, .int maskUses, .int maskSpent, .ref mall, .ref mwas, .int macts, .int mundone, .ref musedBy0, .ref musedBy1, .ref mmornings, .ref mcameFrom, .ref mcameBy, .ref mlevelAt, .ref mwins, .ref mslots, .ref mlevelOf, .ref mworthOf, .int mstates, .int mlevels, .int mside0, .int mside1, .int mdeathDay, .int maway, .int mhires, .int mhirer, .int mslotFound, .int misSpent, .int mfound, .int mlaid, .ref mlaidRow, .ref mgReason, .ref mgDay, .ref mgTold, .ref mgUntold, .int msights, .int mtime, .ref mboxAll, .ref misBoxed])), (mdies, aI g 12 Fmdies)] nX)) (va_Qi (fun (r : Int32) => fun (_ : Unit) => True) (Qst g [] sz (fun _ => [])) (va_A [] sz)) 0 0 (va_A [] sz) := by
  refine Met.ofW (cc := cX12_diesOn) (maxL := 2) (ret := (some .int)) (by decide) rfl ?_
  intro p e s m args below meth c s₁ B hml hv
  obtain ⟨rfl, hsz, hP, hK, hD0, hX⟩ := hv
  have hx := B.exec
  have hb := B.bytes
  have hr := B.returns
  have hT : ∀ w ∈ gT, w.before _ s = true := fun w h => atoms_spec (ws := .code yX12_diesOn cX12_diesOn 2 (some .int) :: gT) B.pre w (List.mem_cons_of_mem _ h)
  have hown : s.vm.findClass RX12 = some m.cls := findClass_of_methodNamed B.named
  have hlocks := B.notSynchronized
  subst hsz
  have hD := hD0
  generalize hAe : va_A [] s.heap.size = A at ⊢
  have hA : ∀ q : Nat, s.heap.size ≤ q → A q := fun q h => by rw [← hAe]; exact Or.inr h
  have hS : va_S A s.heap s.heap [] := va_S.rf
  have hl := lv_entry ([.ref h, .int p0]) (n := 2) (Nat.le_of_ble_eq_true rfl)
  rw [lg_entry_eq]
  generalize (lg_sl ([.ref h, .int p0]) ++ List.replicate (2 - (lg_sl ([.ref h, .int p0])).length) Slot.unset).toArray = ls at hl ⊢
  have hl : lv_has ls 2 [(0, .ref h), (1, .int p0)] := hl
  refine p_nH (fun H hH => ?_)
  have hP : va_P g.1 vwCl [(h, .inr (12, [.ref mtape, .ref mtext, .int mtaped, .int msize, .int mfaultKind, .int mfaultPlace, .int mat, .int mend, .int mtoken, .int mnumber, .long mname, .ref mmen, .ref mkinds, .ref mreasons, .ref mtold, .ref munits, .ref mhonour, .ref mdraw, .ref mdies, .ref mcoin, .ref msonOf, .ref mkindOf, .ref mowner, .ref mfirst, .ref mlast, .ref mrent, .ref msort, .ref mduelOne, .ref mduelOther, .ref mduelOn, .ref mruleFrom, .ref mruleTo, .ref mhasHonour, .ref mhasDraw, .ref mmName, .ref mkName, .ref mrName, .ref mdName, .ref mcode, .ref mcodeNumber, .ref meWhat, .ref meSign, .ref mpile, .int mbank, .int mrb, .int mcodes, .int mwithin, .int mpiled, .int munitsInRule, .int maskDay, .int maskUses, .int maskSpent, .ref mall, .ref mwas, .int macts, .int mundone, .ref musedBy0, .ref musedBy1, .ref mmornings, .ref mcameFrom, .ref mcameBy, .ref mlevelAt, .ref mwins, .ref mslots, .ref mlevelOf, .ref mworthOf, .int mstates, .int mlevels, .int mside0, .int mside1, .int mdeathDay, .int maway, .int mhires, .int mhirer, .int mslotFound, .int misSpent, .int mfound, .int mlaid, .ref mlaidRow, .ref mgReason, .ref mgDay, .ref mgTold, .ref mgUntold, .int msights, .int mtime, .ref mboxAll, .ref misBoxed])), (mdies, aI g 12 Fmdies)] H := by rw [hH]; exact hP
  have hS : va_S A s.heap H [] := by rw [hH]; exact hS
  refine lv_aload_n hx hb dX12_diesOn_0 rfl (lv_at hl 0 rfl) ?_
  refine va_get (D := g.1) (ci := 12) (v := .ref mdies) (C := RX12) (T := TX12) (N := 87) hx hb hT inF_X12 hown hK.1 hP 0 rfl rfl 18 (by decide) (hT _ bw_845) (fun _ h9 => h9) rfl dX12_diesOn_1 ?_
  refine lv_bipush (v := 6) hx hb dX12_diesOn_4 (by decide) ?_
  refine lv_aload_n hx hb dX12_diesOn_6 rfl (lv_at hl 0 rfl) ?_
  refine va_get (D := g.1) (ci := 12) (v := .int mbank) (C := RX12) (T := TX12) (N := 87) hx hb hT inF_X12 hown hK.1 hP 0 rfl rfl 43 (by decide) (hT _ bw_825) (fun _ h9 => h9) rfl dX12_diesOn_7 ?_
  refine lv_imul hx hb dX12_diesOn_10 ?_
  refine lv_topi (fun x_1 ex_1 => ?_)
  have fx_1 : x_1.toInt = 6 * mbank.toInt := by rw [ex_1]; exact I_mul (by decide : (6 : Int32).toInt = 6) rfl (by omega) (by omega)
  refine lv_iload_n hx hb dX12_diesOn_11 rfl (lv_at hl 1 rfl) ?_
  refine lv_iadd hx hb dX12_diesOn_12 ?_
  refine lv_topi (fun x_2 ex_2 => ?_)
  have fx_2 : x_2.toInt = x_1.toInt + p0.toInt := by rw [ex_2]; exact I_add rfl rfl (by omega) (by omega)
  have h_3 : vp_in x_2 12 := vp_in_iff.mpr (by omega)
  refine va_iald hx hb hK.1 hP 1 1 rfl rfl (i := x_2) h_3 dX12_diesOn_13 ?_
  refine lv_topi (fun x_4 ex_4 => ?_)
  have ux_4 := congrArg Int32.toInt ex_4
  have hP9 : va_P g.1 vwCl [] H := hP.sub [] rfl
  have hD9 : va_D A [] := ⟨fun i j p q h => by simp at h, fun k q h => by simp at h⟩
  exact W.iret (v := x_4) hx hb hr (fun t ht hW => ⟨⟨x_4, (), rfl, trivial, by rw [ht]; exact hP9, by rw [hAe]; exact hD9⟩, hS.F ht⟩) hS.2.2 dX12_diesOn_14

theorem bw_847 : Cond.fieldLink RX12 54 "DuelDelaysModel" "owner" "[I" ∈ gT := gT_tb 1327 (by decide +kernel) (by decide +kernel)
theorem bw_848 : Cond.code yX12_ownerOf cX12_ownerOf 2 (some .int) ∈ gT := gT_tb 1826 (by decide +kernel) (by decide +kernel)
theorem dX12_ownerOf_0 : decode cX12_ownerOf 0 = .ok (.aload_n 0, 1) := by decide +kernel
theorem dX12_ownerOf_1 : decode cX12_ownerOf 1 = .ok (.getfield 54, 3) := by decide +kernel
theorem dX12_ownerOf_4 : decode cX12_ownerOf 4 = .ok (.bipush 8, 2) := by decide +kernel
theorem dX12_ownerOf_6 : decode cX12_ownerOf 6 = .ok (.aload_n 0, 1) := by decide +kernel
theorem dX12_ownerOf_7 : decode cX12_ownerOf 7 = .ok (.getfield 308, 3) := by decide +kernel
theorem dX12_ownerOf_10 : decode cX12_ownerOf 10 = .ok (.imul, 1) := by decide +kernel
theorem dX12_ownerOf_11 : decode cX12_ownerOf 11 = .ok (.iload_n 1, 1) := by decide +kernel
theorem dX12_ownerOf_12 : decode cX12_ownerOf 12 = .ok (.iadd, 1) := by decide +kernel
theorem dX12_ownerOf_13 : decode cX12_ownerOf 13 = .ok (.iaload, 1) := by decide +kernel
theorem dX12_ownerOf_14 : decode cX12_ownerOf 14 = .ok (.ireturn, 1) := by decide +kernel
set_option maxHeartbeats 40000000 in
set_option maxRecDepth 100000 in
theorem s_X12_ownerOf (l : Launch) (g : GG) (sz : Nat) (h : Nat) (mtape : Nat) (mtext : Nat) (mtaped : Int32) (msize : Int32) (mfaultKind : Int32) (mfaultPlace : Int32) (mat : Int32) (mend : Int32) (mtoken : Int32) (mnumber : Int32) (mname : Int64) (mmen : Nat) (mkinds : Nat) (mreasons : Nat) (mtold : Nat) (munits : Nat) (mhonour : Nat) (mdraw : Nat) (mdies : Nat) (mcoin : Nat) (msonOf : Nat) (mkindOf : Nat) (mowner : Nat) (Fmowner : Nat → Int32) (mfirst : Nat) (mlast : Nat) (mrent : Nat) (msort : Nat) (mduelOne : Nat) (mduelOther : Nat) (mduelOn : Nat) (mruleFrom : Nat) (mruleTo : Nat) (mhasHonour : Nat) (mhasDraw : Nat) (mmName : Nat) (mkName : Nat) (mrName : Nat) (mdName : Nat) (mcode : Nat) (mcodeNumber : Nat) (meWhat : Nat) (meSign : Nat) (mpile : Nat) (mbank : Int32) (mrb : Int32) (mcodes : Int32) (mwithin : Int32) (mpiled : Int32) (munitsInRule : Int32) (maskDay : Int32) (maskUses : Int32) (maskSpent : Int32) (mall : Nat) (mwas : Nat) (macts : Int32) (mundone : Int32) (musedBy0 : Nat) (musedBy1 : Nat) (mmornings : Nat) (mcameFrom : Nat) (mcameBy : Nat) (mlevelAt : Nat) (mwins : Nat) (mslots : Nat) (mlevelOf : Nat) (mworthOf : Nat) (mstates : Int32) (mlevels : Int32) (mside0 : Int32) (mside1 : Int32) (mdeathDay : Int32) (maway : Int32) (mhires : Int32) (mhirer : Int32) (mslotFound : Int32) (misSpent : Int32) (mfound : Int32) (mlaid : Int32) (mlaidRow : Nat) (mgReason : Nat) (mgDay : Nat) (mgTold : Nat) (mgUntold : Nat) (msights : Int32) (mtime : Int32) (mboxAll : Nat) (misBoxed : Nat) (p0 : Int32) (hh0 : 0 ≤ mtaped.toInt ∧ mtaped.toInt ≤ 1600) (hh1 : 0 ≤ msize.toInt ∧ msize.toInt ≤ 1600) (hh2 : 0 ≤ mat.toInt ∧ mat.toInt ≤ 1600) (hh3 : 0 ≤ mend.toInt ∧ mend.toInt ≤ 1600) (hh4 : 0 ≤ mtoken.toInt ∧ mtoken.toInt ≤ 5) (hh13 : Rg 16 (-1) 5 Fmowner) (hh18 : 0 ≤ mbank.toInt ∧ mbank.toInt ≤ 1) (hh19 : 0 ≤ mrb.toInt ∧ mrb.toInt ≤ 1) (hh20 : 0 ≤ mcodes.toInt ∧ mcodes.toInt ≤ 1120) (hh21 : 0 ≤ mpiled.toInt ∧ mpiled.toInt ≤ 90) (hh22 : 0 ≤ munitsInRule.toInt ∧ munitsInRule.toInt ≤ 30) (hh25 : 0 ≤ macts.toInt ∧ macts.toInt ≤ 40) (hh26 : 0 ≤ mundone.toInt ∧ mundone.toInt ≤ 40) (hh34 : 0 ≤ mstates.toInt ∧ mstates.toInt ≤ 3000) (hh35 : 0 ≤ mlevels.toInt ∧ mlevels.toInt ≤ 18) (hh36 : 0 ≤ mside0.toInt ∧ mside0.toInt ≤ 5) (hh37 : 0 ≤ mside1.toInt ∧ mside1.toInt ≤ 5) (hh38 : 0 ≤ mslotFound.toInt ∧ mslotFound.toInt ≤ 8191) (hh39 : 0 ≤ misSpent.toInt ∧ misSpent.toInt ≤ 1) (hh40 : 0 ≤ mlaid.toInt ∧ mlaid.toInt ≤ 16) (hh41 : 0 ≤ msights.toInt ∧ msights.toInt ≤ 30) (hh42 : 0 ≤ mtime.toInt ∧ mtime.toInt ≤ 100000) (hh44 : 0 ≤ p0.toInt ∧ p0.toInt ≤ 7) : Met l yX12_ownerOf (.code yX12_ownerOf cX12_ownerOf 2 (some .int) :: gT) ({ frames := 0, cells := 0, slots := 0, locals := 0 }) (va_Pc [.ref h, .int p0] (Pst g sz [(h, .inr (12, [.ref mtape, .ref mtext, .int mtaped, .int msize, .int mfaultKind, .int mfaultPlace, .int mat, .int mend, .int mtoken, .int mnumber, .long mname, .ref mmen, .ref mkinds, .ref mreasons, .ref mtold, .ref munits, .ref mhonour, .ref mdraw, .ref mdies, .ref mcoin, .ref msonOf, .ref mkindOf, .ref mowner, .ref mfirst, .ref mlast, .ref mrent, .ref msort, .ref mduelOne, .ref mduelOther, .ref mduelOn, .ref mruleFrom, .ref mruleTo, .ref mhasHonour, .ref mhasDraw, .ref mmName, .ref mkName, .ref mrName, .ref mdName, .ref mcode, .ref mcodeNumber, .ref meWhat, .ref meSign, .ref mpile, .int mbank, .int mrb, .int mcodes, .int mwithin, .int mpiled, .int munitsInRule, .int maskDay, .int maskUses, .int maskSpent, .ref mall, .ref mwas, .int macts, .int mundone, .ref musedBy0, .ref musedBy1, .ref mmornings, .ref mcameFrom, .ref mcameBy, .ref mlevelAt, .ref mwins, .ref mslots, .ref mlevelOf, .ref mworthOf, .int mstates, .int mlevels, .int mside0, .int mside1, .int mdeathDay, .int maway, .int mhires, .int mhirer, .int mslotFound, .int misSpent, .int mfound, .int mlaid, .ref mlaidRow, .ref mgReason, .ref mgDay, .ref mgTold, .ref mgUntold, .int msights, .int mtime, .ref mboxAll, .ref misBoxed])), (mowner, aI g 16 Fmowner)] nX)) (va_Qi (fun (r : Int32) => fun (_ : Unit) => ((-1) ≤ r.toInt ∧ r.toInt ≤ 5) ∧ (r = Fmowner (8 * mbank.toNatClampNeg + p0.toNatClampNeg))) (Qst g [] sz (fun _ => [])) (va_A [] sz)) 0 0 (va_A [] sz) := by
  refine Met.ofW (cc := cX12_ownerOf) (maxL := 2) (ret := (some .int)) (by decide) rfl ?_
  intro p e s m args below meth c s₁ B hml hv
  obtain ⟨rfl, hsz, hP, hK, hD0, hX⟩ := hv
  have hx := B.exec
  have hb := B.bytes
  have hr := B.returns
  have hT : ∀ w ∈ gT, w.before _ s = true := fun w h => atoms_spec (ws := .code yX12_ownerOf cX12_ownerOf 2 (some .int) :: gT) B.pre w (List.mem_cons_of_mem _ h)
  have hown : s.vm.findClass RX12 = some m.cls := findClass_of_methodNamed B.named
  have hlocks := B.notSynchronized
  subst hsz
  have hD := hD0
  generalize hAe : va_A [] s.heap.size = A at ⊢
  have hA : ∀ q : Nat, s.heap.size ≤ q → A q := fun q h => by rw [← hAe]; exact Or.inr h
  have hS : va_S A s.heap s.heap [] := va_S.rf
  have hl := lv_entry ([.ref h, .int p0]) (n := 2) (Nat.le_of_ble_eq_true rfl)
  rw [lg_entry_eq]
  generalize (lg_sl ([.ref h, .int p0]) ++ List.replicate (2 - (lg_sl ([.ref h, .int p0])).length) Slot.unset).toArray = ls at hl ⊢
  have hl : lv_has ls 2 [(0, .ref h), (1, .int p0)] := hl
  refine p_nH (fun H hH => ?_)
  have hP : va_P g.1 vwCl [(h, .inr (12, [.ref mtape, .ref mtext, .int mtaped, .int msize, .int mfaultKind, .int mfaultPlace, .int mat, .int mend, .int mtoken, .int mnumber, .long mname, .ref mmen, .ref mkinds, .ref mreasons, .ref mtold, .ref munits, .ref mhonour, .ref mdraw, .ref mdies, .ref mcoin, .ref msonOf, .ref mkindOf, .ref mowner, .ref mfirst, .ref mlast, .ref mrent, .ref msort, .ref mduelOne, .ref mduelOther, .ref mduelOn, .ref mruleFrom, .ref mruleTo, .ref mhasHonour, .ref mhasDraw, .ref mmName, .ref mkName, .ref mrName, .ref mdName, .ref mcode, .ref mcodeNumber, .ref meWhat, .ref meSign, .ref mpile, .int mbank, .int mrb, .int mcodes, .int mwithin, .int mpiled, .int munitsInRule, .int maskDay, .int maskUses, .int maskSpent, .ref mall, .ref mwas, .int macts, .int mundone, .ref musedBy0, .ref musedBy1, .ref mmornings, .ref mcameFrom, .ref mcameBy, .ref mlevelAt, .ref mwins, .ref mslots, .ref mlevelOf, .ref mworthOf, .int mstates, .int mlevels, .int mside0, .int mside1, .int mdeathDay, .int maway, .int mhires, .int mhirer, .int mslotFound, .int misSpent, .int mfound, .int mlaid, .ref mlaidRow, .ref mgReason, .ref mgDay, .ref mgTold, .ref mgUntold, .int msights, .int mtime, .ref mboxAll, .ref misBoxed])), (mowner, aI g 16 Fmowner)] H := by rw [hH]; exact hP
  have hS : va_S A s.heap H [] := by rw [hH]; exact hS
  refine lv_aload_n hx hb dX12_ownerOf_0 rfl (lv_at hl 0 rfl) ?_
  refine va_get (D := g.1) (ci := 12) (v := .ref mowner) (C := RX12) (T := TX12) (N := 87) hx hb hT inF_X12 hown hK.1 hP 0 rfl rfl 22 (by decide) (hT _ bw_847) (fun _ h9 => h9) rfl dX12_ownerOf_1 ?_
  refine lv_bipush (v := 8) hx hb dX12_ownerOf_4 (by decide) ?_
  refine lv_aload_n hx hb dX12_ownerOf_6 rfl (lv_at hl 0 rfl) ?_
  refine va_get (D := g.1) (ci := 12) (v := .int mbank) (C := RX12) (T := TX12) (N := 87) hx hb hT inF_X12 hown hK.1 hP 0 rfl rfl 43 (by decide) (hT _ bw_825) (fun _ h9 => h9) rfl dX12_ownerOf_7 ?_
  refine lv_imul hx hb dX12_ownerOf_10 ?_
  refine lv_topi (fun x_1 ex_1 => ?_)
  have fx_1 : x_1.toInt = 8 * mbank.toInt := by rw [ex_1]; exact I_mul (by decide : (8 : Int32).toInt = 8) rfl (by omega) (by omega)
  refine lv_iload_n hx hb dX12_ownerOf_11 rfl (lv_at hl 1 rfl) ?_
  refine lv_iadd hx hb dX12_ownerOf_12 ?_
  refine lv_topi (fun x_2 ex_2 => ?_)
  have fx_2 : x_2.toInt = x_1.toInt + p0.toInt := by rw [ex_2]; exact I_add rfl rfl (by omega) (by omega)
  have h_3 : vp_in x_2 16 := vp_in_iff.mpr (by omega)
  refine va_iald hx hb hK.1 hP 1 1 rfl rfl (i := x_2) h_3 dX12_ownerOf_13 ?_
  refine lv_topi (fun x_4 ex_4 => ?_)
  have fx_4 : (-1) ≤ x_4.toInt ∧ x_4.toInt ≤ 5 := Rg.rd hh13 h_3 ex_4
  have ux_4 := congrArg Int32.toInt ex_4
  have hP9 : va_P g.1 vwCl [] H := hP.sub [] rfl
  have hD9 : va_D A [] := ⟨fun i j p q h => by simp at h, fun k q h => by simp at h⟩
  exact W.iret (v := x_4) hx hb hr (fun t ht hW => ⟨⟨x_4, (), rfl, ⟨(by first | with_reducible assumption | omega), (by rw [ex_4]; congr 1; have c1 := clampI (x := mbank) (by omega); have c2 := clampI (x := p0) (by omega); have c3 := clampI (x := x_2) (by omega); omega)⟩, by rw [ht]; exact hP9, by rw [hAe]; exact hD9⟩, hS.F ht⟩) hS.2.2 dX12_ownerOf_14

theorem bw_849 : Cond.code yX12_bitsOf cX12_bitsOf 3 (some .int) ∈ gT := gT_tb 1772 (by decide +kernel) (by decide +kernel)
theorem dX12_bitsOf_0 : decode cX12_bitsOf 0 = .ok (.iconst 0, 1) := by decide +kernel
theorem dX12_bitsOf_1 : decode cX12_bitsOf 1 = .ok (.istore_n 1, 1) := by decide +kernel
theorem dX12_bitsOf_2 : decode cX12_bitsOf 2 = .ok (.iload_n 0, 1) := by decide +kernel
theorem dX12_bitsOf_3 : decode cX12_bitsOf 3 = .ok (.istore_n 2, 1) := by decide +kernel
theorem dX12_bitsOf_4 : decode cX12_bitsOf 4 = .ok (.iload_n 2, 1) := by decide +kernel
theorem dX12_bitsOf_5 : decode cX12_bitsOf 5 = .ok (.ifCond .eq 15, 3) := by decide +kernel
theorem dX12_bitsOf_8 : decode cX12_bitsOf 8 = .ok (.iinc 1 1, 3) := by decide +kernel
theorem dX12_bitsOf_11 : decode cX12_bitsOf 11 = .ok (.iload_n 2, 1) := by decide +kernel
theorem dX12_bitsOf_12 : decode cX12_bitsOf 12 = .ok (.iload_n 2, 1) := by decide +kernel
theorem dX12_bitsOf_13 : decode cX12_bitsOf 13 = .ok (.iconst 1, 1) := by decide +kernel
theorem dX12_bitsOf_14 : decode cX12_bitsOf 14 = .ok (.isub, 1) := by decide +kernel
theorem dX12_bitsOf_15 : decode cX12_bitsOf 15 = .ok (.iand, 1) := by decide +kernel
theorem dX12_bitsOf_16 : decode cX12_bitsOf 16 = .ok (.istore_n 2, 1) := by decide +kernel
theorem dX12_bitsOf_17 : decode cX12_bitsOf 17 = .ok (.goto (-13), 3) := by decide +kernel
theorem dX12_bitsOf_20 : decode cX12_bitsOf 20 = .ok (.iload_n 1, 1) := by decide +kernel
theorem dX12_bitsOf_21 : decode cX12_bitsOf 21 = .ok (.ireturn, 1) := by decide +kernel
set_option maxHeartbeats 40000000 in
set_option maxRecDepth 100000 in
theorem s_X12_bitsOf (l : Launch) (g : GG) (sz : Nat) (p0 : Int32) (hh0 : 0 ≤ p0.toInt ∧ p0.toInt ≤ 65535) : Met l yX12_bitsOf (.code yX12_bitsOf cX12_bitsOf 3 (some .int) :: gT) ({ frames := 0, cells := 0, slots := 0, locals := 0 }) (va_Pc [.int p0] (Pst g sz [] nX)) (va_Qi (fun (r : Int32) => fun (_ : Unit) => True) (Qst g [] sz (fun _ => [])) (va_A [] sz)) 0 0 (va_A [] sz) := by
  refine Met.ofW (cc := cX12_bitsOf) (maxL := 3) (ret := (some .int)) (by decide) rfl ?_
  intro p e s m args below meth c s₁ B hml hv
  obtain ⟨rfl, hsz, hP, hK, hD0, hX⟩ := hv
  have hx := B.exec
  have hb := B.bytes
  have hr := B.returns
  have hT : ∀ w ∈ gT, w.before _ s = true := fun w h => atoms_spec (ws := .code yX12_bitsOf cX12_bitsOf 3 (some .int) :: gT) B.pre w (List.mem_cons_of_mem _ h)
  have hown : s.vm.findClass RX12 = some m.cls := findClass_of_methodNamed B.named
  have hlocks := B.notSynchronized
  subst hsz
  have hD := hD0
  generalize hAe : va_A [] s.heap.size = A at ⊢
  have hA : ∀ q : Nat, s.heap.size ≤ q → A q := fun q h => by rw [← hAe]; exact Or.inr h
  have hS : va_S A s.heap s.heap [] := va_S.rf
  have hl := lv_entry ([.int p0]) (n := 3) (Nat.le_of_ble_eq_true rfl)
  rw [lg_entry_eq]
  generalize (lg_sl ([.int p0]) ++ List.replicate (3 - (lg_sl ([.int p0])).length) Slot.unset).toArray = ls at hl ⊢
  have hl : lv_has ls 3 [(0, .int p0)] := hl
  refine p_nH (fun H hH => ?_)
  have hP : va_P g.1 vwCl [] H := by rw [hH]; exact hP
  have hS : va_S A s.heap H [] := by rw [hH]; exact hS
  refine lv_iconst (v := 0) hx hb dX12_bitsOf_0 (by decide) ?_
  refine lv_istore_n (lv' := [(1, .int 0), (0, .int p0)]) hx hb dX12_bitsOf_1 rfl hl (by decide) rfl (fun ls hl => ?_)
  refine lv_iload_n hx hb dX12_bitsOf_2 rfl (lv_at hl 1 rfl) ?_
  refine lv_istore_n (lv' := [(2, .int p0), (1, .int 0), (0, .int p0)]) hx hb dX12_bitsOf_3 rfl hl (by decide) rfl (fun ls hl => ?_)
  refine k_floop 4 (fun n H locs ls => ∃ (L_1 : Int32) (L_2 : Int32), (0 ≤ L_1.toInt ∧ L_1.toInt ≤ 65535) ∧ L_1.toInt ≤ (n : Int) ∧ va_P g.1 vwCl [] H ∧ va_S A s.heap H locs ∧ lv_has ls 3 [(2, .int L_1), (1, .int L_2), (0, .int p0)]) (fun n H locs ls hI ih => ?_) ((p0.toInt : Int)).toNat ⟨p0, 0, (by first | with_reducible assumption | omega), by have k0 : (0 : Int32).toInt = 0 := (by decide); omega, hP, hS, hl⟩
  refine hI.elim (fun L_1 hI => hI.elim (fun L_2 hI => ?_))
  have g_3 := hI.1
  have hm_4 := hI.2.1
  have hP := hI.2.2.1
  have hS := hI.2.2.2.1
  have hl := hI.2.2.2.2
  clear hI
  refine lv_iload_n hx hb dX12_bitsOf_4 rfl (lv_at hl 0 rfl) ?_
  refine lv_if_eq (tgt := 20) hx hb dX12_bitsOf_5 (by decide) (fun c_5 => ?_) (fun c_5 => ?_)
  · have f_6 := E_eq (rfl : L_1.toInt = _) (by decide : (0 : Int32).toInt = 0) c_5
    refine lv_iload_n hx hb dX12_bitsOf_20 rfl (lv_at hl 1 rfl) ?_
    have hP9 : va_P g.1 vwCl [] H := hP.sub [] rfl
    have hD9 : va_D A [] := ⟨fun i j p q h => by simp at h, fun k q h => by simp at h⟩
    exact W.iret (v := L_2) hx hb hr (fun t ht hW => ⟨⟨L_2, (), rfl, trivial, by rw [ht]; exact hP9, by rw [hAe]; exact hD9⟩, hS.F ht⟩) hS.2.2 dX12_bitsOf_21
  · have f_7 := E_ne (rfl : L_1.toInt = _) (by decide : (0 : Int32).toInt = 0) c_5
    obtain ⟨x_8, ex_8⟩ : ∃ y : Int32, y = L_2 + 1 := ⟨_, rfl⟩
    refine lv_iinc (v := x_8) (lv' := [(1, .int x_8), (2, .int L_1), (0, .int p0)]) hx hb dX12_bitsOf_8 hl (k := 1) rfl (by rw [ex_8]; rfl) (by decide) rfl (fun ls hl => ?_)
    refine lv_iload_n hx hb dX12_bitsOf_11 rfl (lv_at hl 1 rfl) ?_
    refine lv_iload_n hx hb dX12_bitsOf_12 rfl (lv_at hl 1 rfl) ?_
    refine lv_iconst (v := 1) hx hb dX12_bitsOf_13 (by decide) ?_
    refine lv_isub hx hb dX12_bitsOf_14 ?_
    refine lv_topi (fun x_9 ex_9 => ?_)
    have fx_9 : x_9.toInt = L_1.toInt - 1 := by rw [ex_9]; exact I_sub rfl (by decide : (1 : Int32).toInt = 1) (by omega) (by omega)
    refine lv_iand hx hb dX12_bitsOf_15 ?_
    refine lv_topi (fun x_10 ex_10 => ?_)
    have fx_10 : 0 ≤ x_10.toInt ∧ x_10.toInt ≤ x_9.toInt := by rw [ex_10]; exact I_and rfl (by omega)
    refine lv_istore_n (lv' := [(2, .int x_10), (1, .int x_8), (0, .int p0)]) hx hb dX12_bitsOf_16 rfl hl (by decide) rfl (fun ls hl => ?_)
    refine lv_goto (tgt := 4) hx hb dX12_bitsOf_17 (by decide) ?_
    exact ih (n - 1) (by omega) H locs ls ⟨x_10, x_8, (by first | with_reducible assumption | omega), by omega, hP.sub [] rfl, hS, lv_sub hl [0, 1, 2] rfl⟩
