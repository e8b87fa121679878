theorem bw_404 : Cond.code yX10_isBlank cX10_isBlank 1 (some .boolean) ∈ gT := gT_tb 606 (by decide +kernel) (by decide +kernel)
theorem dX10_isBlank_0 : decode cX10_isBlank 0 = .ok (.iload_n 0, 1) := by decide +kernel
theorem dX10_isBlank_1 : decode cX10_isBlank 1 = .ok (.bipush 32, 2) := by decide +kernel
theorem dX10_isBlank_3 : decode cX10_isBlank 3 = .ok (.if_icmp .eq 9, 3) := by decide +kernel
theorem dX10_isBlank_6 : decode cX10_isBlank 6 = .ok (.iload_n 0, 1) := by decide +kernel
theorem dX10_isBlank_7 : decode cX10_isBlank 7 = .ok (.bipush 10, 2) := by decide +kernel
theorem dX10_isBlank_9 : decode cX10_isBlank 9 = .ok (.if_icmp .ne 7, 3) := by decide +kernel
theorem dX10_isBlank_12 : decode cX10_isBlank 12 = .ok (.iconst 1, 1) := by decide +kernel
theorem dX10_isBlank_13 : decode cX10_isBlank 13 = .ok (.goto 4, 3) := by decide +kernel
theorem dX10_isBlank_16 : decode cX10_isBlank 16 = .ok (.iconst 0, 1) := by decide +kernel
theorem dX10_isBlank_17 : decode cX10_isBlank 17 = .ok (.ireturn, 1) := by decide +kernel
set_option maxHeartbeats 4000000 in
set_option maxRecDepth 100000 in
theorem s_X10_isBlank (l : Launch) (g : GG) (sz : Nat) (p0 : Int32) : Met l yX10_isBlank (.code yX10_isBlank cX10_isBlank 1 (some .boolean) :: gT) ({ frames := 0, cells := 0, slots := 0, locals := 0 }) (va_Pc [.int p0] (Pst g sz [] nX)) (va_Qi (fun (r : Int32) => fun (_ : Unit) => 0 ≤ r.toInt ∧ r.toInt ≤ 1) (Qst g [] sz (fun _ => [])) (va_A [] sz)) 0 0 (va_A [] sz) := by
  refine Met.ofW (cc := cX10_isBlank) (maxL := 1) (ret := (some .boolean)) (by decide) rfl ?_
  intro p e s m args below meth c s₁ B hml hv
  obtain ⟨rfl, hsz, hP, hK, hD0, hX⟩ := hv
  have hx := B.exec
  have hb := B.bytes
  have hr := B.returns
  have hT : ∀ w ∈ gT, w.before _ s = true := fun w h => atoms_spec (ws := .code yX10_isBlank cX10_isBlank 1 (some .boolean) :: gT) B.pre w (List.mem_cons_of_mem _ h)
  have hown : s.vm.findClass RX10 = some m.cls := findClass_of_methodNamed B.named
  have hlocks := B.notSynchronized
  subst hsz
  have hD := hD0
  generalize hAe : va_A [] s.heap.size = A at ⊢
  have hA : ∀ q : Nat, s.heap.size ≤ q → A q := fun q h => by rw [← hAe]; exact Or.inr h
  have hS : va_S A s.heap s.heap [] := va_S.rf
  have hl := lv_entry ([.int p0]) (n := 1) (Nat.le_of_ble_eq_true rfl)
  rw [lg_entry_eq]
  generalize (lg_sl ([.int p0]) ++ List.replicate (1 - (lg_sl ([.int p0])).length) Slot.unset).toArray = ls at hl ⊢
  have hl : lv_has ls 1 [(0, .int p0)] := hl
  refine p_nH (fun H hH => ?_)
  have hP : va_P g.1 vwCl [] H := by rw [hH]; exact hP
  have hS : va_S A s.heap H [] := by rw [hH]; exact hS
  refine lv_iload_n hx hb dX10_isBlank_0 rfl (lv_at hl 0 rfl) ?_
  refine lv_bipush (v := 32) hx hb dX10_isBlank_1 (by decide) ?_
  refine lv_icmp_eq (tgt := 12) hx hb dX10_isBlank_3 (by decide) (fun c_1 => ?_) (fun c_1 => ?_)
  · have f_2 := E_eq (rfl : p0.toInt = _) (by decide : (32 : Int32).toInt = 32) c_1
    refine lv_iconst (v := 1) hx hb dX10_isBlank_12 (by decide) ?_
    refine lv_goto (tgt := 17) hx hb dX10_isBlank_13 (by decide) ?_
    have hP9 : va_P g.1 vwCl [] H := hP.sub [] rfl
    have hD9 : va_D A [] := ⟨fun i j p q h => by simp at h, fun k q h => by simp at h⟩
    exact W.zret (v := 1) (ty := .boolean) hx hb hr rfl (fun t ht hW => ⟨⟨1, (), rfl, ⟨by decide, by decide⟩, by rw [ht]; exact hP9, by rw [hAe]; exact hD9⟩, hS.F ht⟩) hS.2.2 dX10_isBlank_17
  · have f_3 := E_ne (rfl : p0.toInt = _) (by decide : (32 : Int32).toInt = 32) c_1
    refine lv_iload_n hx hb dX10_isBlank_6 rfl (lv_at hl 0 rfl) ?_
    refine lv_bipush (v := 10) hx hb dX10_isBlank_7 (by decide) ?_
    refine lv_icmp_ne (tgt := 16) hx hb dX10_isBlank_9 (by decide) (fun c_4 => ?_) (fun c_4 => ?_)
    · have f_5 := E_ne (rfl : p0.toInt = _) (by decide : (10 : Int32).toInt = 10) c_4
      refine lv_iconst (v := 0) hx hb dX10_isBlank_16 (by decide) ?_
      have hP9 : va_P g.1 vwCl [] H := hP.sub [] rfl
      have hD9 : va_D A [] := ⟨fun i j p q h => by simp at h, fun k q h => by simp at h⟩
      exact W.zret (v := 0) (ty := .boolean) hx hb hr rfl (fun t ht hW => ⟨⟨0, (), rfl, ⟨by decide, by decide⟩, by rw [ht]; exact hP9, by rw [hAe]; exact hD9⟩, hS.F ht⟩) hS.2.2 dX10_isBlank_17
    · have f_6 := E_eq (rfl : p0.toInt = _) (by decide : (10 : Int32).toInt = 10) c_4
      refine lv_iconst (v := 1) hx hb dX10_isBlank_12 (by decide) ?_
      refine lv_goto (tgt := 17) hx hb dX10_isBlank_13 (by decide) ?_
      have hP9 : va_P g.1 vwCl [] H := hP.sub [] rfl
      have hD9 : va_D A [] := ⟨fun i j p q h => by simp at h, fun k q h => by simp at h⟩
      exact W.zret (v := 1) (ty := .boolean) hx hb hr rfl (fun t ht hW => ⟨⟨1, (), rfl, ⟨by decide, by decide⟩, by rw [ht]; exact hP9, by rw [hAe]; exact hD9⟩, hS.F ht⟩) hS.2.2 dX10_isBlank_17

theorem bw_405 : Cond.code yX10_isLetter cX10_isLetter 1 (some .boolean) ∈ gT := gT_tb 609 (by decide +kernel) (by decide +kernel)
theorem dX10_isLetter_0 : decode cX10_isLetter 0 = .ok (.iload_n 0, 1) := by decide +kernel
theorem dX10_isLetter_1 : decode cX10_isLetter 1 = .ok (.bipush 97, 2) := by decide +kernel
theorem dX10_isLetter_3 : decode cX10_isLetter 3 = .ok (.if_icmp .lt 13, 3) := by decide +kernel
theorem dX10_isLetter_6 : decode cX10_isLetter 6 = .ok (.iload_n 0, 1) := by decide +kernel
theorem dX10_isLetter_7 : decode cX10_isLetter 7 = .ok (.bipush 122, 2) := by decide +kernel
theorem dX10_isLetter_9 : decode cX10_isLetter 9 = .ok (.if_icmp .gt 7, 3) := by decide +kernel
theorem dX10_isLetter_12 : decode cX10_isLetter 12 = .ok (.iconst 1, 1) := by decide +kernel
theorem dX10_isLetter_13 : decode cX10_isLetter 13 = .ok (.goto 4, 3) := by decide +kernel
theorem dX10_isLetter_16 : decode cX10_isLetter 16 = .ok (.iconst 0, 1) := by decide +kernel
theorem dX10_isLetter_17 : decode cX10_isLetter 17 = .ok (.ireturn, 1) := by decide +kernel
set_option maxHeartbeats 4000000 in
set_option maxRecDepth 100000 in
theorem s_X10_isLetter (l : Launch) (g : GG) (sz : Nat) (p0 : Int32) : Met l yX10_isLetter (.code yX10_isLetter cX10_isLetter 1 (some .boolean) :: gT) ({ frames := 0, cells := 0, slots := 0, locals := 0 }) (va_Pc [.int p0] (Pst g sz [] nX)) (va_Qi (fun (r : Int32) => fun (_ : Unit) => 0 ≤ r.toInt ∧ r.toInt ≤ 1) (Qst g [] sz (fun _ => [])) (va_A [] sz)) 0 0 (va_A [] sz) := by
  refine Met.ofW (cc := cX10_isLetter) (maxL := 1) (ret := (some .boolean)) (by decide) rfl ?_
  intro p e s m args below meth c s₁ B hml hv
  obtain ⟨rfl, hsz, hP, hK, hD0, hX⟩ := hv
  have hx := B.exec
  have hb := B.bytes
  have hr := B.returns
  have hT : ∀ w ∈ gT, w.before _ s = true := fun w h => atoms_spec (ws := .code yX10_isLetter cX10_isLetter 1 (some .boolean) :: gT) B.pre w (List.mem_cons_of_mem _ h)
  have hown : s.vm.findClass RX10 = some m.cls := findClass_of_methodNamed B.named
  have hlocks := B.notSynchronized
  subst hsz
  have hD := hD0
  generalize hAe : va_A [] s.heap.size = A at ⊢
  have hA : ∀ q : Nat, s.heap.size ≤ q → A q := fun q h => by rw [← hAe]; exact Or.inr h
  have hS : va_S A s.heap s.heap [] := va_S.rf
  have hl := lv_entry ([.int p0]) (n := 1) (Nat.le_of_ble_eq_true rfl)
  rw [lg_entry_eq]
  generalize (lg_sl ([.int p0]) ++ List.replicate (1 - (lg_sl ([.int p0])).length) Slot.unset).toArray = ls at hl ⊢
  have hl : lv_has ls 1 [(0, .int p0)] := hl
  refine p_nH (fun H hH => ?_)
  have hP : va_P g.1 vwCl [] H := by rw [hH]; exact hP
  have hS : va_S A s.heap H [] := by rw [hH]; exact hS
  refine lv_iload_n hx hb dX10_isLetter_0 rfl (lv_at hl 0 rfl) ?_
  refine lv_bipush (v := 97) hx hb dX10_isLetter_1 (by decide) ?_
  refine lv_icmp_lt (tgt := 16) hx hb dX10_isLetter_3 (by decide) (fun c_1 => ?_) (fun c_1 => ?_)
  · have f_2 := E_lt (rfl : p0.toInt = _) (by decide : (97 : Int32).toInt = 97) c_1
    refine lv_iconst (v := 0) hx hb dX10_isLetter_16 (by decide) ?_
    have hP9 : va_P g.1 vwCl [] H := hP.sub [] rfl
    have hD9 : va_D A [] := ⟨fun i j p q h => by simp at h, fun k q h => by simp at h⟩
    exact W.zret (v := 0) (ty := .boolean) hx hb hr rfl (fun t ht hW => ⟨⟨0, (), rfl, ⟨by decide, by decide⟩, by rw [ht]; exact hP9, by rw [hAe]; exact hD9⟩, hS.F ht⟩) hS.2.2 dX10_isLetter_17
  · have f_3 := E_nlt (rfl : p0.toInt = _) (by decide : (97 : Int32).toInt = 97) c_1
    refine lv_iload_n hx hb dX10_isLetter_6 rfl (lv_at hl 0 rfl) ?_
    refine lv_bipush (v := 122) hx hb dX10_isLetter_7 (by decide) ?_
    refine lv_icmp_gt (tgt := 16) hx hb dX10_isLetter_9 (by decide) (fun c_4 => ?_) (fun c_4 => ?_)
    · have f_5 := E_lt (by decide : (122 : Int32).toInt = 122) (rfl : p0.toInt = _) c_4
      refine lv_iconst (v := 0) hx hb dX10_isLetter_16 (by decide) ?_
      have hP9 : va_P g.1 vwCl [] H := hP.sub [] rfl
      have hD9 : va_D A [] := ⟨fun i j p q h => by simp at h, fun k q h => by simp at h⟩
      exact W.zret (v := 0) (ty := .boolean) hx hb hr rfl (fun t ht hW => ⟨⟨0, (), rfl, ⟨by decide, by decide⟩, by rw [ht]; exact hP9, by rw [hAe]; exact hD9⟩, hS.F ht⟩) hS.2.2 dX10_isLetter_17
    · have f_6 := E_nlt (by decide : (122 : Int32).toInt = 122) (rfl : p0.toInt = _) c_4
      refine lv_iconst (v := 1) hx hb dX10_isLetter_12 (by decide) ?_
      refine lv_goto (tgt := 17) hx hb dX10_isLetter_13 (by decide) ?_
      have hP9 : va_P g.1 vwCl [] H := hP.sub [] rfl
      have hD9 : va_D A [] := ⟨fun i j p q h => by simp at h, fun k q h => by simp at h⟩
      exact W.zret (v := 1) (ty := .boolean) hx hb hr rfl (fun t ht hW => ⟨⟨1, (), rfl, ⟨by decide, by decide⟩, by rw [ht]; exact hP9, by rw [hAe]; exact hD9⟩, hS.F ht⟩) hS.2.2 dX10_isLetter_17

theorem bw_406 : Cond.code yX10_isDigit cX10_isDigit 1 (some .boolean) ∈ gT := gT_tb 619 (by decide +kernel) (by decide +kernel)
theorem dX10_isDigit_0 : decode cX10_isDigit 0 = .ok (.iload_n 0, 1) := by decide +kernel
theorem dX10_isDigit_1 : decode cX10_isDigit 1 = .ok (.bipush 48, 2) := by decide +kernel
theorem dX10_isDigit_3 : decode cX10_isDigit 3 = .ok (.if_icmp .lt 13, 3) := by decide +kernel
theorem dX10_isDigit_6 : decode cX10_isDigit 6 = .ok (.iload_n 0, 1) := by decide +kernel
theorem dX10_isDigit_7 : decode cX10_isDigit 7 = .ok (.bipush 57, 2) := by decide +kernel
theorem dX10_isDigit_9 : decode cX10_isDigit 9 = .ok (.if_icmp .gt 7, 3) := by decide +kernel
theorem dX10_isDigit_12 : decode cX10_isDigit 12 = .ok (.iconst 1, 1) := by decide +kernel
theorem dX10_isDigit_13 : decode cX10_isDigit 13 = .ok (.goto 4, 3) := by decide +kernel
theorem dX10_isDigit_16 : decode cX10_isDigit 16 = .ok (.iconst 0, 1) := by decide +kernel
theorem dX10_isDigit_17 : decode cX10_isDigit 17 = .ok (.ireturn, 1) := by decide +kernel
set_option maxHeartbeats 4000000 in
set_option maxRecDepth 100000 in
theorem s_X10_isDigit (l : Launch) (g : GG) (sz : Nat) (p0 : Int32) : Met l yX10_isDigit (.code yX10_isDigit cX10_isDigit 1 (some .boolean) :: gT) ({ frames := 0, cells := 0, slots := 0, locals := 0 }) (va_Pc [.int p0] (Pst g sz [] nX)) (va_Qi (fun (r : Int32) => fun (_ : Unit) => 0 ≤ r.toInt ∧ r.toInt ≤ 1) (Qst g [] sz (fun _ => [])) (va_A [] sz)) 0 0 (va_A [] sz) := by
  refine Met.ofW (cc := cX10_isDigit) (maxL := 1) (ret := (some .boolean)) (by decide) rfl ?_
  intro p e s m args below meth c s₁ B hml hv
  obtain ⟨rfl, hsz, hP, hK, hD0, hX⟩ := hv
  have hx := B.exec
  have hb := B.bytes
  have hr := B.returns
  have hT : ∀ w ∈ gT, w.before _ s = true := fun w h => atoms_spec (ws := .code yX10_isDigit cX10_isDigit 1 (some .boolean) :: gT) B.pre w (List.mem_cons_of_mem _ h)
  have hown : s.vm.findClass RX10 = some m.cls := findClass_of_methodNamed B.named
  have hlocks := B.notSynchronized
  subst hsz
  have hD := hD0
  generalize hAe : va_A [] s.heap.size = A at ⊢
  have hA : ∀ q : Nat, s.heap.size ≤ q → A q := fun q h => by rw [← hAe]; exact Or.inr h
  have hS : va_S A s.heap s.heap [] := va_S.rf
  have hl := lv_entry ([.int p0]) (n := 1) (Nat.le_of_ble_eq_true rfl)
  rw [lg_entry_eq]
  generalize (lg_sl ([.int p0]) ++ List.replicate (1 - (lg_sl ([.int p0])).length) Slot.unset).toArray = ls at hl ⊢
  have hl : lv_has ls 1 [(0, .int p0)] := hl
  refine p_nH (fun H hH => ?_)
  have hP : va_P g.1 vwCl [] H := by rw [hH]; exact hP
  have hS : va_S A s.heap H [] := by rw [hH]; exact hS
  refine lv_iload_n hx hb dX10_isDigit_0 rfl (lv_at hl 0 rfl) ?_
  refine lv_bipush (v := 48) hx hb dX10_isDigit_1 (by decide) ?_
  refine lv_icmp_lt (tgt := 16) hx hb dX10_isDigit_3 (by decide) (fun c_1 => ?_) (fun c_1 => ?_)
  · have f_2 := E_lt (rfl : p0.toInt = _) (by decide : (48 : Int32).toInt = 48) c_1
    refine lv_iconst (v := 0) hx hb dX10_isDigit_16 (by decide) ?_
    have hP9 : va_P g.1 vwCl [] H := hP.sub [] rfl
    have hD9 : va_D A [] := ⟨fun i j p q h => by simp at h, fun k q h => by simp at h⟩
    exact W.zret (v := 0) (ty := .boolean) hx hb hr rfl (fun t ht hW => ⟨⟨0, (), rfl, ⟨by decide, by decide⟩, by rw [ht]; exact hP9, by rw [hAe]; exact hD9⟩, hS.F ht⟩) hS.2.2 dX10_isDigit_17
  · have f_3 := E_nlt (rfl : p0.toInt = _) (by decide : (48 : Int32).toInt = 48) c_1
    refine lv_iload_n hx hb dX10_isDigit_6 rfl (lv_at hl 0 rfl) ?_
    refine lv_bipush (v := 57) hx hb dX10_isDigit_7 (by decide) ?_
    refine lv_icmp_gt (tgt := 16) hx hb dX10_isDigit_9 (by decide) (fun c_4 => ?_) (fun c_4 => ?_)
    · have f_5 := E_lt (by decide : (57 : Int32).toInt = 57) (rfl : p0.toInt = _) c_4
      refine lv_iconst (v := 0) hx hb dX10_isDigit_16 (by decide) ?_
      have hP9 : va_P g.1 vwCl [] H := hP.sub [] rfl
      have hD9 : va_D A [] := ⟨fun i j p q h => by simp at h, fun k q h => by simp at h⟩
      exact W.zret (v := 0) (ty := .boolean) hx hb hr rfl (fun t ht hW => ⟨⟨0, (), rfl, ⟨by decide, by decide⟩, by rw [ht]; exact hP9, by rw [hAe]; exact hD9⟩, hS.F ht⟩) hS.2.2 dX10_isDigit_17
    · have f_6 := E_nlt (by decide : (57 : Int32).toInt = 57) (rfl : p0.toInt = _) c_4
      refine lv_iconst (v := 1) hx hb dX10_isDigit_12 (by decide) ?_
      refine lv_goto (tgt := 17) hx hb dX10_isDigit_13 (by decide) ?_
      have hP9 : va_P g.1 vwCl [] H := hP.sub [] rfl
      have hD9 : va_D A [] := ⟨fun i j p q h => by simp at h, fun k q h => by simp at h⟩
      exact W.zret (v := 1) (ty := .boolean) hx hb hr rfl (fun t ht hW => ⟨⟨1, (), rfl, ⟨by decide, by decide⟩, by rw [ht]; exact hP9, by rw [hAe]; exact hD9⟩, hS.F ht⟩) hS.2.2 dX10_isDigit_17

theorem bw_407 : Cond.constantLong RX10 91 (32) ∈ gT := gT_tb 95 (by decide +kernel) (by decide +kernel)
theorem bw_408 : Cond.code yX10_withLetter cX10_withLetter 3 (some .long) ∈ gT := gT_tb 94 (by decide +kernel) (by decide +kernel)
theorem dX10_withLetter_0 : decode cX10_withLetter 0 = .ok (.lload_n 0, 1) := by decide +kernel
theorem dX10_withLetter_1 : decode cX10_withLetter 1 = .ok (.ldc2_w 91, 3) := by decide +kernel
theorem dX10_withLetter_4 : decode cX10_withLetter 4 = .ok (.lmul, 1) := by decide +kernel
theorem dX10_withLetter_5 : decode cX10_withLetter 5 = .ok (.iload_n 2, 1) := by decide +kernel
theorem dX10_withLetter_6 : decode cX10_withLetter 6 = .ok (.bipush 97, 2) := by decide +kernel
theorem dX10_withLetter_8 : decode cX10_withLetter 8 = .ok (.isub, 1) := by decide +kernel
theorem dX10_withLetter_9 : decode cX10_withLetter 9 = .ok (.iconst 1, 1) := by decide +kernel
theorem dX10_withLetter_10 : decode cX10_withLetter 10 = .ok (.iadd, 1) := by decide +kernel
theorem dX10_withLetter_11 : decode cX10_withLetter 11 = .ok (.i2l, 1) := by decide +kernel
theorem dX10_withLetter_12 : decode cX10_withLetter 12 = .ok (.ladd, 1) := by decide +kernel
theorem dX10_withLetter_13 : decode cX10_withLetter 13 = .ok (.lreturn, 1) := by decide +kernel
set_option maxHeartbeats 4000000 in
set_option maxRecDepth 100000 in
theorem s_X10_withLetter (l : Launch) (g : GG) (sz : Nat) (z9 : Int64) (p0 : Int32) : Met l yX10_withLetter (.code yX10_withLetter cX10_withLetter 3 (some .long) :: gT) ({ frames := 0, cells := 0, slots := 0, locals := 0 }) (va_Pc [.long z9, .int p0] (Pst g sz [] nX)) (va_Ql (fun (r : Int64) => fun (_ : Unit) => True) (Qst g [] sz (fun _ => [])) (va_A [] sz)) 0 0 (va_A [] sz) := by
  refine Met.ofW (cc := cX10_withLetter) (maxL := 3) (ret := (some .long)) (by decide) rfl ?_
  intro p e s m args below meth c s₁ B hml hv
  obtain ⟨rfl, hsz, hP, hK, hD0, hX⟩ := hv
  have hx := B.exec
  have hb := B.bytes
  have hr := B.returns
  have hT : ∀ w ∈ gT, w.before _ s = true := fun w h => atoms_spec (ws := .code yX10_withLetter cX10_withLetter 3 (some .long) :: gT) B.pre w (List.mem_cons_of_mem _ h)
  have hown : s.vm.findClass RX10 = some m.cls := findClass_of_methodNamed B.named
  have hlocks := B.notSynchronized
  subst hsz
  have hD := hD0
  generalize hAe : va_A [] s.heap.size = A at ⊢
  have hA : ∀ q : Nat, s.heap.size ≤ q → A q := fun q h => by rw [← hAe]; exact Or.inr h
  have hS : va_S A s.heap s.heap [] := va_S.rf
  have hl := lv_entry ([.long z9, .int p0]) (n := 3) (Nat.le_of_ble_eq_true rfl)
  rw [lg_entry_eq]
  generalize (lg_sl ([.long z9, .int p0]) ++ List.replicate (3 - (lg_sl ([.long z9, .int p0])).length) Slot.unset).toArray = ls at hl ⊢
  have hl : lv_has ls 3 [(0, .long z9), (2, .int p0)] := hl
  refine p_nH (fun H hH => ?_)
  have hP : va_P g.1 vwCl [] H := by rw [hH]; exact hP
  have hS : va_S A s.heap H [] := by rw [hH]; exact hS
  refine lv_lload_n hx hb dX10_withLetter_0 rfl (lv_at hl 0 rfl) ?_
  refine lv_ldc2 (v := 32) hx hb hown (hT _ bw_407) dX10_withLetter_1 ?_
  refine lv_lmul hx hb dX10_withLetter_4 ?_
  refine lv_topl (fun x_1 ex_1 => ?_)
  refine lv_iload_n hx hb dX10_withLetter_5 rfl (lv_at hl 1 rfl) ?_
  refine lv_bipush (v := 97) hx hb dX10_withLetter_6 (by decide) ?_
  refine lv_isub hx hb dX10_withLetter_8 ?_
  refine lv_topi (fun x_2 ex_2 => ?_)
  refine lv_iconst (v := 1) hx hb dX10_withLetter_9 (by decide) ?_
  refine lv_iadd hx hb dX10_withLetter_10 ?_
  refine lv_topi (fun x_3 ex_3 => ?_)
  obtain ⟨x_4, ex_4⟩ : ∃ y : Int64, x_3.toInt64 = y := ⟨_, rfl⟩
  refine lv_i2l (v := x_4) hx hb dX10_withLetter_11 ex_4 ?_
  refine lv_ladd hx hb dX10_withLetter_12 ?_
  refine lv_topl (fun x_5 ex_5 => ?_)
  have hP9 : va_P g.1 vwCl [] H := hP.sub [] rfl
  have hD9 : va_D A [] := ⟨fun i j p q h => by simp at h, fun k q h => by simp at h⟩
  exact W.lret (v := x_5) hx hb hr (fun t ht hW => ⟨⟨x_5, (), rfl, trivial, by rw [ht]; exact hP9, by rw [hAe]; exact hD9⟩, hS.F ht⟩) hS.2.2 dX10_withLetter_13

set_option maxRecDepth 20000 in
theorem inF_X10 : ∀ w ∈ u_ws RX10 TX10 8, w ∈ gT := gT_u [108, 110, 112, 114, 116, 118, 120, 122] (by decide +kernel) (by decide +kernel)
theorem bw_409 : Cond.fieldLink RX10 64 "DuelDelays$Tokens" "sort" "I" ∈ gT := gT_tb 97 (by decide +kernel) (by decide +kernel)
theorem bw_410 : Cond.fieldLink RX10 57 "DuelDelays$Tokens" "value" "I" ∈ gT := gT_tb 101 (by decide +kernel) (by decide +kernel)
theorem bw_411 : Cond.code yX10_isWord cX10_isWord 2 (some .boolean) ∈ gT := gT_tb 707 (by decide +kernel) (by decide +kernel)
theorem dX10_isWord_0 : decode cX10_isWord 0 = .ok (.aload_n 0, 1) := by decide +kernel
theorem dX10_isWord_1 : decode cX10_isWord 1 = .ok (.getfield 64, 3) := by decide +kernel
theorem dX10_isWord_4 : decode cX10_isWord 4 = .ok (.iconst 3, 1) := by decide +kernel
theorem dX10_isWord_5 : decode cX10_isWord 5 = .ok (.if_icmp .ne 15, 3) := by decide +kernel
theorem dX10_isWord_8 : decode cX10_isWord 8 = .ok (.aload_n 0, 1) := by decide +kernel
theorem dX10_isWord_9 : decode cX10_isWord 9 = .ok (.getfield 57, 3) := by decide +kernel
theorem dX10_isWord_12 : decode cX10_isWord 12 = .ok (.iload_n 1, 1) := by decide +kernel
theorem dX10_isWord_13 : decode cX10_isWord 13 = .ok (.if_icmp .ne 7, 3) := by decide +kernel
theorem dX10_isWord_16 : decode cX10_isWord 16 = .ok (.iconst 1, 1) := by decide +kernel
theorem dX10_isWord_17 : decode cX10_isWord 17 = .ok (.goto 4, 3) := by decide +kernel
theorem dX10_isWord_20 : decode cX10_isWord 20 = .ok (.iconst 0, 1) := by decide +kernel
theorem dX10_isWord_21 : decode cX10_isWord 21 = .ok (.ireturn, 1) := by decide +kernel
set_option maxHeartbeats 4000000 in
set_option maxRecDepth 100000 in
theorem s_X10_isWord (l : Launch) (g : GG) (sz : Nat) (h : Nat) (bsort : Int32) (bplace : Int32) (bvalue : Int32) (bname : Int64) (btext : Nat) (blength : Int32) (bfollowing : Int32) (bwords : Nat) (p0 : Int32) (hh0 : 0 ≤ blength.toInt ∧ blength.toInt ≤ 1600) (hh1 : 0 ≤ bfollowing.toInt ∧ bfollowing.toInt ≤ 1600) : Met l yX10_isWord (.code yX10_isWord cX10_isWord 2 (some .boolean) :: gT) ({ frames := 0, cells := 0, slots := 0, locals := 0 }) (va_Pc [.ref h, .int p0] (Pst g sz [(h, .inr (10, [.int bsort, .int bplace, .int bvalue, .long bname, .ref btext, .int blength, .int bfollowing, .ref bwords]))] nX)) (va_Qi (fun (r : Int32) => fun (_ : Unit) => 0 ≤ r.toInt ∧ r.toInt ≤ 1) (Qst g [] sz (fun _ => [])) (va_A [] sz)) 0 0 (va_A [] sz) := by
  refine Met.ofW (cc := cX10_isWord) (maxL := 2) (ret := (some .boolean)) (by decide) rfl ?_
  intro p e s m args below meth c s₁ B hml hv
  obtain ⟨rfl, hsz, hP, hK, hD0, hX⟩ := hv
  have hx := B.exec
  have hb := B.bytes
  have hr := B.returns
  have hT : ∀ w ∈ gT, w.before _ s = true := fun w h => atoms_spec (ws := .code yX10_isWord cX10_isWord 2 (some .boolean) :: gT) B.pre w (List.mem_cons_of_mem _ h)
  have hown : s.vm.findClass RX10 = some m.cls := findClass_of_methodNamed B.named
  have hlocks := B.notSynchronized
  subst hsz
  have hD := hD0
  generalize hAe : va_A [] s.heap.size = A at ⊢
  have hA : ∀ q : Nat, s.heap.size ≤ q → A q := fun q h => by rw [← hAe]; exact Or.inr h
  have hS : va_S A s.heap s.heap [] := va_S.rf
  have hl := lv_entry ([.ref h, .int p0]) (n := 2) (Nat.le_of_ble_eq_true rfl)
  rw [lg_entry_eq]
  generalize (lg_sl ([.ref h, .int p0]) ++ List.replicate (2 - (lg_sl ([.ref h, .int p0])).length) Slot.unset).toArray = ls at hl ⊢
  have hl : lv_has ls 2 [(0, .ref h), (1, .int p0)] := hl
  refine p_nH (fun H hH => ?_)
  have hP : va_P g.1 vwCl [(h, .inr (10, [.int bsort, .int bplace, .int bvalue, .long bname, .ref btext, .int blength, .int bfollowing, .ref bwords]))] H := by rw [hH]; exact hP
  have hS : va_S A s.heap H [] := by rw [hH]; exact hS
  refine lv_aload_n hx hb dX10_isWord_0 rfl (lv_at hl 0 rfl) ?_
  refine va_get (D := g.1) (ci := 10) (v := .int bsort) (C := RX10) (T := TX10) (N := 8) hx hb hT inF_X10 hown hK.1 hP 0 rfl rfl 0 (by decide) (hT _ bw_409) (fun _ h9 => h9) rfl dX10_isWord_1 ?_
  refine lv_iconst (v := 3) hx hb dX10_isWord_4 (by decide) ?_
  refine lv_icmp_ne (tgt := 20) hx hb dX10_isWord_5 (by decide) (fun c_1 => ?_) (fun c_1 => ?_)
  · have f_2 := E_ne (rfl : bsort.toInt = _) (by decide : (3 : Int32).toInt = 3) c_1
    refine lv_iconst (v := 0) hx hb dX10_isWord_20 (by decide) ?_
    have hP9 : va_P g.1 vwCl [] H := hP.sub [] rfl
    have hD9 : va_D A [] := ⟨fun i j p q h => by simp at h, fun k q h => by simp at h⟩
    exact W.zret (v := 0) (ty := .boolean) hx hb hr rfl (fun t ht hW => ⟨⟨0, (), rfl, ⟨by decide, by decide⟩, by rw [ht]; exact hP9, by rw [hAe]; exact hD9⟩, hS.F ht⟩) hS.2.2 dX10_isWord_21
  · have f_3 := E_eq (rfl : bsort.toInt = _) (by decide : (3 : Int32).toInt = 3) c_1
    refine lv_aload_n hx hb dX10_isWord_8 rfl (lv_at hl 0 rfl) ?_
    refine va_get (D := g.1) (ci := 10) (v := .int bvalue) (C := RX10) (T := TX10) (N := 8) hx hb hT inF_X10 hown hK.1 hP 0 rfl rfl 2 (by decide) (hT _ bw_410) (fun _ h9 => h9) rfl dX10_isWord_9 ?_
    refine lv_iload_n hx hb dX10_isWord_12 rfl (lv_at hl 1 rfl) ?_
    refine lv_icmp_ne (tgt := 20) hx hb dX10_isWord_13 (by decide) (fun c_4 => ?_) (fun c_4 => ?_)
    · have f_5 := E_ne (rfl : bvalue.toInt = _) (rfl : p0.toInt = _) c_4
      refine lv_iconst (v := 0) hx hb dX10_isWord_20 (by decide) ?_
      have hP9 : va_P g.1 vwCl [] H := hP.sub [] rfl
      have hD9 : va_D A [] := ⟨fun i j p q h => by simp at h, fun k q h => by simp at h⟩
      exact W.zret (v := 0) (ty := .boolean) hx hb hr rfl (fun t ht hW => ⟨⟨0, (), rfl, ⟨by decide, by decide⟩, by rw [ht]; exact hP9, by rw [hAe]; exact hD9⟩, hS.F ht⟩) hS.2.2 dX10_isWord_21
    · have f_6 := E_eq (rfl : bvalue.toInt = _) (rfl : p0.toInt = _) c_4
      refine lv_iconst (v := 1) hx hb dX10_isWord_16 (by decide) ?_
      refine lv_goto (tgt := 21) hx hb dX10_isWord_17 (by decide) ?_
      have hP9 : va_P g.1 vwCl [] H := hP.sub [] rfl
      have hD9 : va_D A [] := ⟨fun i j p q h => by simp at h, fun k q h => by simp at h⟩
      exact W.zret (v := 1) (ty := .boolean) hx hb hr rfl (fun t ht hW => ⟨⟨1, (), rfl, ⟨by decide, by decide⟩, by rw [ht]; exact hP9, by rw [hAe]; exact hD9⟩, hS.F ht⟩) hS.2.2 dX10_isWord_21

theorem bw_412 : Cond.code yX10_isSign cX10_isSign 2 (some .boolean) ∈ gT := gT_tb 731 (by decide +kernel) (by decide +kernel)
theorem dX10_isSign_0 : decode cX10_isSign 0 = .ok (.aload_n 0, 1) := by decide +kernel
theorem dX10_isSign_1 : decode cX10_isSign 1 = .ok (.getfield 64, 3) := by decide +kernel
theorem dX10_isSign_4 : decode cX10_isSign 4 = .ok (.iconst 5, 1) := by decide +kernel
theorem dX10_isSign_5 : decode cX10_isSign 5 = .ok (.if_icmp .ne 15, 3) := by decide +kernel
theorem dX10_isSign_8 : decode cX10_isSign 8 = .ok (.aload_n 0, 1) := by decide +kernel
theorem dX10_isSign_9 : decode cX10_isSign 9 = .ok (.getfield 57, 3) := by decide +kernel
theorem dX10_isSign_12 : decode cX10_isSign 12 = .ok (.iload_n 1, 1) := by decide +kernel
theorem dX10_isSign_13 : decode cX10_isSign 13 = .ok (.if_icmp .ne 7, 3) := by decide +kernel
theorem dX10_isSign_16 : decode cX10_isSign 16 = .ok (.iconst 1, 1) := by decide +kernel
theorem dX10_isSign_17 : decode cX10_isSign 17 = .ok (.goto 4, 3) := by decide +kernel
theorem dX10_isSign_20 : decode cX10_isSign 20 = .ok (.iconst 0, 1) := by decide +kernel
theorem dX10_isSign_21 : decode cX10_isSign 21 = .ok (.ireturn, 1) := by decide +kernel
set_option maxHeartbeats 4000000 in
set_option maxRecDepth 100000 in
theorem s_X10_isSign (l : Launch) (g : GG) (sz : Nat) (h : Nat) (bsort : Int32) (bplace : Int32) (bvalue : Int32) (bname : Int64) (btext : Nat) (blength : Int32) (bfollowing : Int32) (bwords : Nat) (p0 : Int32) (hh0 : 0 ≤ blength.toInt ∧ blength.toInt ≤ 1600) (hh1 : 0 ≤ bfollowing.toInt ∧ bfollowing.toInt ≤ 1600) : Met l yX10_isSign (.code yX10_isSign cX10_isSign 2 (some .boolean) :: gT) ({ frames := 0, cells := 0, slots := 0, locals := 0 }) (va_Pc [.ref h, .int p0] (Pst g sz [(h, .inr (10, [.int bsort, .int bplace, .int bvalue, .long bname, .ref btext, .int blength, .int bfollowing, .ref bwords]))] nX)) (va_Qi (fun (r : Int32) => fun (_ : Unit) => 0 ≤ r.toInt ∧ r.toInt ≤ 1) (Qst g [] sz (fun _ => [])) (va_A [] sz)) 0 0 (va_A [] sz) := by
  refine Met.ofW (cc := cX10_isSign) (maxL := 2) (ret := (some .boolean)) (by decide) rfl ?_
  intro p e s m args below meth c s₁ B hml hv
  obtain ⟨rfl, hsz, hP, hK, hD0, hX⟩ := hv
  have hx := B.exec
  have hb := B.bytes
  have hr := B.returns
  have hT : ∀ w ∈ gT, w.before _ s = true := fun w h => atoms_spec (ws := .code yX10_isSign cX10_isSign 2 (some .boolean) :: gT) B.pre w (List.mem_cons_of_mem _ h)
  have hown : s.vm.findClass RX10 = some m.cls := findClass_of_methodNamed B.named
  have hlocks := B.notSynchronized
  subst hsz
  have hD := hD0
  generalize hAe : va_A [] s.heap.size = A at ⊢
  have hA : ∀ q : Nat, s.heap.size ≤ q → A q := fun q h => by rw [← hAe]; exact Or.inr h
  have hS : va_S A s.heap s.heap [] := va_S.rf
  have hl := lv_entry ([.ref h, .int p0]) (n := 2) (Nat.le_of_ble_eq_true rfl)
  rw [lg_entry_eq]
  generalize (lg_sl ([.ref h, .int p0]) ++ List.replicate (2 - (lg_sl ([.ref h, .int p0])).length) Slot.unset).toArray = ls at hl ⊢
  have hl : lv_has ls 2 [(0, .ref h), (1, .int p0)] := hl
  refine p_nH (fun H hH => ?_)
  have hP : va_P g.1 vwCl [(h, .inr (10, [.int bsort, .int bplace, .int bvalue, .long bname, .ref btext, .int blength, .int bfollowing, .ref bwords]))] H := by rw [hH]; exact hP
  have hS : va_S A s.heap H [] := by rw [hH]; exact hS
  refine lv_aload_n hx hb dX10_isSign_0 rfl (lv_at hl 0 rfl) ?_
  refine va_get (D := g.1) (ci := 10) (v := .int bsort) (C := RX10) (T := TX10) (N := 8) hx hb hT inF_X10 hown hK.1 hP 0 rfl rfl 0 (by decide) (hT _ bw_409) (fun _ h9 => h9) rfl dX10_isSign_1 ?_
  refine lv_iconst (v := 5) hx hb dX10_isSign_4 (by decide) ?_
  refine lv_icmp_ne (tgt := 20) hx hb dX10_isSign_5 (by decide) (fun c_1 => ?_) (fun c_1 => ?_)
  · have f_2 := E_ne (rfl : bsort.toInt = _) (by decide : (5 : Int32).toInt = 5) c_1
    refine lv_iconst (v := 0) hx hb dX10_isSign_20 (by decide) ?_
    have hP9 : va_P g.1 vwCl [] H := hP.sub [] rfl
    have hD9 : va_D A [] := ⟨fun i j p q h => by simp at h, fun k q h => by simp at h⟩
    exact W.zret (v := 0) (ty := .boolean) hx hb hr rfl (fun t ht hW => ⟨⟨0, (), rfl, ⟨by decide, by decide⟩, by rw [ht]; exact hP9, by rw [hAe]; exact hD9⟩, hS.F ht⟩) hS.2.2 dX10_isSign_21
  · have f_3 := E_eq (rfl : bsort.toInt = _) (by decide : (5 : Int32).toInt = 5) c_1
    refine lv_aload_n hx hb dX10_isSign_8 rfl (lv_at hl 0 rfl) ?_
    refine va_get (D := g.1) (ci := 10) (v := .int bvalue) (C := RX10) (T := TX10) (N := 8) hx hb hT inF_X10 hown hK.1 hP 0 rfl rfl 2 (by decide) (hT _ bw_410) (fun _ h9 => h9) rfl dX10_isSign_9 ?_
    refine lv_iload_n hx hb dX10_isSign_12 rfl (lv_at hl 1 rfl) ?_
    refine lv_icmp_ne (tgt := 20) hx hb dX10_isSign_13 (by decide) (fun c_4 => ?_) (fun c_4 => ?_)
    · have f_5 := E_ne (rfl : bvalue.toInt = _) (rfl : p0.toInt = _) c_4
      refine lv_iconst (v := 0) hx hb dX10_isSign_20 (by decide) ?_
      have hP9 : va_P g.1 vwCl [] H := hP.sub [] rfl
      have hD9 : va_D A [] := ⟨fun i j p q h => by simp at h, fun k q h => by simp at h⟩
      exact W.zret (v := 0) (ty := .boolean) hx hb hr rfl (fun t ht hW => ⟨⟨0, (), rfl, ⟨by decide, by decide⟩, by rw [ht]; exact hP9, by rw [hAe]; exact hD9⟩, hS.F ht⟩) hS.2.2 dX10_isSign_21
    · have f_6 := E_eq (rfl : bvalue.toInt = _) (rfl : p0.toInt = _) c_4
      refine lv_iconst (v := 1) hx hb dX10_isSign_16 (by decide) ?_
      refine lv_goto (tgt := 21) hx hb dX10_isSign_17 (by decide) ?_
      have hP9 : va_P g.1 vwCl [] H := hP.sub [] rfl
      have hD9 : va_D A [] := ⟨fun i j p q h => by simp at h, fun k q h => by simp at h⟩
      exact W.zret (v := 1) (ty := .boolean) hx hb hr rfl (fun t ht hW => ⟨⟨1, (), rfl, ⟨by decide, by decide⟩, by rw [ht]; exact hP9, by rw [hAe]; exact hD9⟩, hS.F ht⟩) hS.2.2 dX10_isSign_21

theorem bw_413 : Cond.code yX0_closeKind cX0_closeKind 1 none ∈ gT := gT_tb 799 (by decide +kernel) (by decide +kernel)
theorem dX0_closeKind_0 : decode cX0_closeKind 0 = .ok (.aload_n 0, 1) := by decide +kernel
theorem dX0_closeKind_1 : decode cX0_closeKind 1 = .ok (.dup, 1) := by decide +kernel
theorem dX0_closeKind_2 : decode cX0_closeKind 2 = .ok (.getfield 25, 3) := by decide +kernel
theorem dX0_closeKind_5 : decode cX0_closeKind 5 = .ok (.iconst 1, 1) := by decide +kernel
theorem dX0_closeKind_6 : decode cX0_closeKind 6 = .ok (.iadd, 1) := by decide +kernel
theorem dX0_closeKind_7 : decode cX0_closeKind 7 = .ok (.putfield 25, 3) := by decide +kernel
theorem dX0_closeKind_10 : decode cX0_closeKind 10 = .ok (.aload_n 0, 1) := by decide +kernel
theorem dX0_closeKind_11 : decode cX0_closeKind 11 = .ok (.getfield 15, 3) := by decide +kernel
theorem dX0_closeKind_14 : decode cX0_closeKind 14 = .ok (.aload_n 0, 1) := by decide +kernel
theorem dX0_closeKind_15 : decode cX0_closeKind 15 = .ok (.getfield 25, 3) := by decide +kernel
theorem dX0_closeKind_18 : decode cX0_closeKind 18 = .ok (.aload_n 0, 1) := by decide +kernel
theorem dX0_closeKind_19 : decode cX0_closeKind 19 = .ok (.getfield 32, 3) := by decide +kernel
theorem dX0_closeKind_22 : decode cX0_closeKind 22 = .ok (.iastore, 1) := by decide +kernel
theorem dX0_closeKind_23 : decode cX0_closeKind 23 = .ok (.return_, 1) := by decide +kernel
set_option maxHeartbeats 4000000 in
set_option maxRecDepth 100000 in
theorem s_X0_closeKind (l : Launch) (g : GG) (sz : Nat) (h : Nat) (bcount : Int32) (bunits : Int32) (bnames : Nat) (bunitsOfThis : Int32) (blength : Int32) (bstarts : Nat) (Fbstarts : Nat → Int32) (bsteps : Nat) (bstack : Nat) (hh0 : 0 ≤ bcount.toInt ∧ bcount.toInt ≤ 4) (hh1 : 0 ≤ bunits.toInt ∧ bunits.toInt ≤ 60) (hh2 : 0 ≤ bunitsOfThis.toInt ∧ bunitsOfThis.toInt ≤ 30) (hh3 : 0 ≤ blength.toInt ∧ blength.toInt ≤ 640) (hh4 : Rg 5 0 640 Fbstarts) (hh5 : 0 ≤ bcount.toInt ∧ bcount.toInt ≤ 3) : Met l yX0_closeKind (.code yX0_closeKind cX0_closeKind 1 none :: gT) ({ frames := 0, cells := 0, slots := 0, locals := 0 }) (va_Pc [.ref h] (Pst g sz [(h, .inr (0, [.int bcount, .int bunits, .ref bnames, .int bunitsOfThis, .int blength, .ref bstarts, .ref bsteps, .ref bstack])), (bstarts, aI g 5 Fbstarts)] nX)) (va_Qv (fun ((o0_count, o1_F) : Int32 × (Nat → Int32)) => (0 ≤ o0_count.toInt ∧ o0_count.toInt ≤ 4) ∧ (Rg 5 0 640 o1_F)) (Qst g [(h, .inr (0, [.int bcount, .int bunits, .ref bnames, .int bunitsOfThis, .int blength, .ref bstarts, .ref bsteps, .ref bstack])), (bstarts, aI g 5 Fbstarts)] sz (fun ((o0_count, o1_F) : Int32 × (Nat → Int32)) => [(h, .inr (0, [.int o0_count, .int bunits, .ref bnames, .int bunitsOfThis, .int blength, .ref bstarts, .ref bsteps, .ref bstack])), (bstarts, aI g 5 o1_F)])) (va_A [(h, .inr (0, [.int bcount, .int bunits, .ref bnames, .int bunitsOfThis, .int blength, .ref bstarts, .ref bsteps, .ref bstack])), (bstarts, aI g 5 Fbstarts)] sz)) 0 0 (va_A [(h, .inr (0, [.int bcount, .int bunits, .ref bnames, .int bunitsOfThis, .int blength, .ref bstarts, .ref bsteps, .ref bstack])), (bstarts, aI g 5 Fbstarts)] sz) := by
  refine Met.ofW (cc := cX0_closeKind) (maxL := 1) (ret := none) (by decide) rfl ?_
  intro p e s m args below meth c s₁ B hml hv
  obtain ⟨rfl, hsz, hP, hK, hD0, hX⟩ := hv
  have hx := B.exec
  have hb := B.bytes
  have hr := B.returns
  have hT : ∀ w ∈ gT, w.before _ s = true := fun w h => atoms_spec (ws := .code yX0_closeKind cX0_closeKind 1 none :: gT) B.pre w (List.mem_cons_of_mem _ h)
  have hown : s.vm.findClass RX0 = some m.cls := findClass_of_methodNamed B.named
  have hlocks := B.notSynchronized
  subst hsz
  have hD := hD0.self (sz := s.heap.size)
  generalize hAe : va_A [(h, .inr (0, [.int bcount, .int bunits, .ref bnames, .int bunitsOfThis, .int blength, .ref bstarts, .ref bsteps, .ref bstack])), (bstarts, aI g 5 Fbstarts)] s.heap.size = A at hD ⊢
  have hA : ∀ q : Nat, s.heap.size ≤ q → A q := fun q h => by rw [← hAe]; exact Or.inr h
  have hS : va_S A s.heap s.heap [] := va_S.rf
  have hl := lv_entry ([.ref h]) (n := 1) (Nat.le_of_ble_eq_true rfl)
  rw [lg_entry_eq]
  generalize (lg_sl ([.ref h]) ++ List.replicate (1 - (lg_sl ([.ref h])).length) Slot.unset).toArray = ls at hl ⊢
  have hl : lv_has ls 1 [(0, .ref h)] := hl
  refine p_nH (fun H hH => ?_)
  have hP : va_P g.1 vwCl [(h, .inr (0, [.int bcount, .int bunits, .ref bnames, .int bunitsOfThis, .int blength, .ref bstarts, .ref bsteps, .ref bstack])), (bstarts, aI g 5 Fbstarts)] H := by rw [hH]; exact hP
  have hS : va_S A s.heap H [] := by rw [hH]; exact hS
  refine lv_aload_n hx hb dX0_closeKind_0 rfl (lv_at hl 0 rfl) ?_
  refine lv_dup hx hb dX0_closeKind_1 rfl ?_
  refine va_get (D := g.1) (ci := 0) (v := .int bcount) (C := RX0) (T := TX0) (N := 8) hx hb hT inF_X0 hown hK.1 hP 0 rfl rfl 0 (by decide) (hT _ bw_117) (fun _ h9 => h9) rfl dX0_closeKind_2 ?_
  refine lv_iconst (v := 1) hx hb dX0_closeKind_5 (by decide) ?_
  refine lv_iadd hx hb dX0_closeKind_6 ?_
  refine lv_topi (fun x_1 ex_1 => ?_)
  have fx_1 : x_1.toInt = bcount.toInt + 1 := by rw [ex_1]; exact I_add rfl (by decide : (1 : Int32).toInt = 1) (by omega) (by omega)
  refine va_put (D := g.1) (ci := 0) (v := .int x_1) (ty := .int) (C := RX0) (T := TX0) (N := 8) hx hb hT inF_X0 tyX0 tyX0_ok nmX0 hown hK.1 hP hD hS 0 rfl rfl 0 (by decide) (hT _ bw_117) (fun _ h9 => h9) rfl (by decide +kernel) rfl rfl (Nat.le_of_ble_eq_true rfl) dX0_closeKind_7 (fun H locs hP hD hS => ?_)
  have hP : va_P g.1 vwCl [(h, .inr (0, [.int x_1, .int bunits, .ref bnames, .int bunitsOfThis, .int blength, .ref bstarts, .ref bsteps, .ref bstack])), (bstarts, aI g 5 Fbstarts)] H := hP
  have hD : va_D A [(h, .inr (0, [.int x_1, .int bunits, .ref bnames, .int bunitsOfThis, .int blength, .ref bstarts, .ref bsteps, .ref bstack])), (bstarts, aI g 5 Fbstarts)] := hD
  refine lv_aload_n hx hb dX0_closeKind_10 rfl (lv_at hl 0 rfl) ?_
  refine va_get (D := g.1) (ci := 0) (v := .ref bstarts) (C := RX0) (T := TX0) (N := 8) hx hb hT inF_X0 hown hK.1 hP 0 rfl rfl 5 (by decide) (hT _ bw_121) (fun _ h9 => h9) rfl dX0_closeKind_11 ?_
  refine lv_aload_n hx hb dX0_closeKind_14 rfl (lv_at hl 0 rfl) ?_
  refine va_get (D := g.1) (ci := 0) (v := .int x_1) (C := RX0) (T := TX0) (N := 8) hx hb hT inF_X0 hown hK.1 hP 0 rfl rfl 0 (by decide) (hT _ bw_117) (fun _ h9 => h9) rfl dX0_closeKind_15 ?_
  refine lv_aload_n hx hb dX0_closeKind_18 rfl (lv_at hl 0 rfl) ?_
  refine va_get (D := g.1) (ci := 0) (v := .int blength) (C := RX0) (T := TX0) (N := 8) hx hb hT inF_X0 hown hK.1 hP 0 rfl rfl 4 (by decide) (hT _ bw_119) (fun _ h9 => h9) rfl dX0_closeKind_19 ?_
  have h_2 : vp_in x_1 5 := vp_in_iff.mpr (by omega)
  refine va_iast hx hb hK.1 hP hD hS 1 1 rfl rfl (i := x_1) (x := blength) h_2 dX0_closeKind_22 (fun H locs hP hD hS => ?_)
  have gf_3 : Rg 5 0 640 (upd Fbstarts (x_1 : Int32).toNatClampNeg blength) := Rg.upd hh4 (by omega)
  generalize upd Fbstarts (x_1 : Int32).toNatClampNeg blength = f_3 at hP hD gf_3
  have hP : va_P g.1 vwCl [(h, .inr (0, [.int x_1, .int bunits, .ref bnames, .int bunitsOfThis, .int blength, .ref bstarts, .ref bsteps, .ref bstack])), (bstarts, aI g 5 f_3)] H := hP
  have hD : va_D A [(h, .inr (0, [.int x_1, .int bunits, .ref bnames, .int bunitsOfThis, .int blength, .ref bstarts, .ref bsteps, .ref bstack])), (bstarts, aI g 5 f_3)] := hD
  have hP9 : va_P g.1 vwCl [(h, .inr (0, [.int x_1, .int bunits, .ref bnames, .int bunitsOfThis, .int blength, .ref bstarts, .ref bsteps, .ref bstack])), (bstarts, aI g 5 f_3)] H := hP.sub [0, 1] rfl
  have hD9 : va_D A [(h, .inr (0, [.int x_1, .int bunits, .ref bnames, .int bunitsOfThis, .int blength, .ref bstarts, .ref bsteps, .ref bstack])), (bstarts, aI g 5 f_3)] := hD.sub [0, 1] (by decide +kernel) rfl
  exact W.vret hx hb hr (fun t ht hW => ⟨⟨(x_1, f_3), rfl, ⟨(by first | with_reducible assumption | omega), gf_3⟩, by rw [ht]; exact hP9, by rw [hAe]; exact hD9⟩, hS.F ht⟩) hS.2.2 dX0_closeKind_23

theorem bw_414 : Cond.code yX0_countUnit cX0_countUnit 1 none ∈ gT := gT_tb 779 (by decide +kernel) (by decide +kernel)
theorem dX0_countUnit_0 : decode cX0_countUnit 0 = .ok (.aload_n 0, 1) := by decide +kernel
theorem dX0_countUnit_1 : decode cX0_countUnit 1 = .ok (.dup, 1) := by decide +kernel
theorem dX0_countUnit_2 : decode cX0_countUnit 2 = .ok (.getfield 29, 3) := by decide +kernel
theorem dX0_countUnit_5 : decode cX0_countUnit 5 = .ok (.iconst 1, 1) := by decide +kernel
theorem dX0_countUnit_6 : decode cX0_countUnit 6 = .ok (.iadd, 1) := by decide +kernel
theorem dX0_countUnit_7 : decode cX0_countUnit 7 = .ok (.putfield 29, 3) := by decide +kernel
theorem dX0_countUnit_10 : decode cX0_countUnit 10 = .ok (.aload_n 0, 1) := by decide +kernel
theorem dX0_countUnit_11 : decode cX0_countUnit 11 = .ok (.dup, 1) := by decide +kernel
theorem dX0_countUnit_12 : decode cX0_countUnit 12 = .ok (.getfield 35, 3) := by decide +kernel
theorem dX0_countUnit_15 : decode cX0_countUnit 15 = .ok (.iconst 1, 1) := by decide +kernel
theorem dX0_countUnit_16 : decode cX0_countUnit 16 = .ok (.iadd, 1) := by decide +kernel
theorem dX0_countUnit_17 : decode cX0_countUnit 17 = .ok (.putfield 35, 3) := by decide +kernel
theorem dX0_countUnit_20 : decode cX0_countUnit 20 = .ok (.return_, 1) := by decide +kernel
set_option maxHeartbeats 4000000 in
set_option maxRecDepth 100000 in
theorem s_X0_countUnit (l : Launch) (g : GG) (sz : Nat) (h : Nat) (bcount : Int32) (bunits : Int32) (bnames : Nat) (bunitsOfThis : Int32) (blength : Int32) (bstarts : Nat) (bsteps : Nat) (bstack : Nat) (hh0 : 0 ≤ bcount.toInt ∧ bcount.toInt ≤ 4) (hh1 : 0 ≤ bunits.toInt ∧ bunits.toInt ≤ 60) (hh2 : 0 ≤ bunitsOfThis.toInt ∧ bunitsOfThis.toInt ≤ 30) (hh3 : 0 ≤ blength.toInt ∧ blength.toInt ≤ 640) (hh5 : 0 ≤ bunits.toInt ∧ bunits.toInt ≤ 59) (hh6 : 0 ≤ bunitsOfThis.toInt ∧ bunitsOfThis.toInt ≤ 29) : Met l yX0_countUnit (.code yX0_countUnit cX0_countUnit 1 none :: gT) ({ frames := 0, cells := 0, slots := 0, locals := 0 }) (va_Pc [.ref h] (Pst g sz [(h, .inr (0, [.int bcount, .int bunits, .ref bnames, .int bunitsOfThis, .int blength, .ref bstarts, .ref bsteps, .ref bstack]))] nX)) (va_Qv (fun ((o0_units, o1_unitsOfThis) : Int32 × Int32) => (0 ≤ o0_units.toInt ∧ o0_units.toInt ≤ 60) ∧ (0 ≤ o1_unitsOfThis.toInt ∧ o1_unitsOfThis.toInt ≤ 30)) (Qst g [(h, .inr (0, [.int bcount, .int bunits, .ref bnames, .int bunitsOfThis, .int blength, .ref bstarts, .ref bsteps, .ref bstack]))] sz (fun ((o0_units, o1_unitsOfThis) : Int32 × Int32) => [(h, .inr (0, [.int bcount, .int o0_units, .ref bnames, .int o1_unitsOfThis, .int blength, .ref bstarts, .ref bsteps, .ref bstack]))])) (va_A [(h, .inr (0, [.int bcount, .int bunits, .ref bnames, .int bunitsOfThis, .int blength, .ref bstarts, .ref bsteps, .ref bstack]))] sz)) 0 0 (va_A [(h, .inr (0, [.int bcount, .int bunits, .ref bnames, .int bunitsOfThis, .int blength, .ref bstarts, .ref bsteps, .ref bstack]))] sz) := by
  refine Met.ofW (cc := cX0_countUnit) (maxL := 1) (ret := none) (by decide) rfl ?_
  intro p e s m args below meth c s₁ B hml hv
  obtain ⟨rfl, hsz, hP, hK, hD0, hX⟩ := hv
  have hx := B.exec
  have hb := B.bytes
  have hr := B.returns
  have hT : ∀ w ∈ gT, w.before _ s = true := fun w h => atoms_spec (ws := .code yX0_countUnit cX0_countUnit 1 none :: gT) B.pre w (List.mem_cons_of_mem _ h)
  have hown : s.vm.findClass RX0 = some m.cls := findClass_of_methodNamed B.named
  have hlocks := B.notSynchronized
  subst hsz
  have hD := hD0.self (sz := s.heap.size)
  generalize hAe : va_A [(h, .inr (0, [.int bcount, .int bunits, .ref bnames, .int bunitsOfThis, .int blength, .ref bstarts, .ref bsteps, .ref bstack]))] s.heap.size = A at hD ⊢
  have hA : ∀ q : Nat, s.heap.size ≤ q → A q := fun q h => by rw [← hAe]; exact Or.inr h
  have hS : va_S A s.heap s.heap [] := va_S.rf
  have hl := lv_entry ([.ref h]) (n := 1) (Nat.le_of_ble_eq_true rfl)
  rw [lg_entry_eq]
  generalize (lg_sl ([.ref h]) ++ List.replicate (1 - (lg_sl ([.ref h])).length) Slot.unset).toArray = ls at hl ⊢
  have hl : lv_has ls 1 [(0, .ref h)] := hl
  refine p_nH (fun H hH => ?_)
  have hP : va_P g.1 vwCl [(h, .inr (0, [.int bcount, .int bunits, .ref bnames, .int bunitsOfThis, .int blength, .ref bstarts, .ref bsteps, .ref bstack]))] H := by rw [hH]; exact hP
  have hS : va_S A s.heap H [] := by rw [hH]; exact hS
  refine lv_aload_n hx hb dX0_countUnit_0 rfl (lv_at hl 0 rfl) ?_
  refine lv_dup hx hb dX0_countUnit_1 rfl ?_
  refine va_get (D := g.1) (ci := 0) (v := .int bunits) (C := RX0) (T := TX0) (N := 8) hx hb hT inF_X0 hown hK.1 hP 0 rfl rfl 1 (by decide) (hT _ bw_118) (fun _ h9 => h9) rfl dX0_countUnit_2 ?_
  refine lv_iconst (v := 1) hx hb dX0_countUnit_5 (by decide) ?_
  refine lv_iadd hx hb dX0_countUnit_6 ?_
  refine lv_topi (fun x_1 ex_1 => ?_)
  have fx_1 : x_1.toInt = bunits.toInt + 1 := by rw [ex_1]; exact I_add rfl (by decide : (1 : Int32).toInt = 1) (by omega) (by omega)
  refine va_put (D := g.1) (ci := 0) (v := .int x_1) (ty := .int) (C := RX0) (T := TX0) (N := 8) hx hb hT inF_X0 tyX0 tyX0_ok nmX0 hown hK.1 hP hD hS 0 rfl rfl 1 (by decide) (hT _ bw_118) (fun _ h9 => h9) rfl (by decide +kernel) rfl rfl (Nat.le_of_ble_eq_true rfl) dX0_countUnit_7 (fun H locs hP hD hS => ?_)
  have hP : va_P g.1 vwCl [(h, .inr (0, [.int bcount, .int x_1, .ref bnames, .int bunitsOfThis, .int blength, .ref bstarts, .ref bsteps, .ref bstack]))] H := hP
  have hD : va_D A [(h, .inr (0, [.int bcount, .int x_1, .ref bnames, .int bunitsOfThis, .int blength, .ref bstarts, .ref bsteps, .ref bstack]))] := hD
  refine lv_aload_n hx hb dX0_countUnit_10 rfl (lv_at hl 0 rfl) ?_
  refine lv_dup hx hb dX0_countUnit_11 rfl ?_
  refine va_get (D := g.1) (ci := 0) (v := .int bunitsOfThis) (C := RX0) (T := TX0) (N := 8) hx hb hT inF_X0 hown hK.1 hP 0 rfl rfl 3 (by decide) (hT _ bw_122) (fun _ h9 => h9) rfl dX0_countUnit_12 ?_
  refine lv_iconst (v := 1) hx hb dX0_countUnit_15 (by decide) ?_
  refine lv_iadd hx hb dX0_countUnit_16 ?_
  refine lv_topi (fun x_2 ex_2 => ?_)
  have fx_2 : x_2.toInt = bunitsOfThis.toInt + 1 := by rw [ex_2]; exact I_add rfl (by decide : (1 : Int32).toInt = 1) (by omega) (by omega)
  refine va_put (D := g.1) (ci := 0) (v := .int x_2) (ty := .int) (C := RX0) (T := TX0) (N := 8) hx hb hT inF_X0 tyX0 tyX0_ok nmX0 hown hK.1 hP hD hS 0 rfl rfl 3 (by decide) (hT _ bw_122) (fun _ h9 => h9) rfl (by decide +kernel) rfl rfl (Nat.le_of_ble_eq_true rfl) dX0_countUnit_17 (fun H locs hP hD hS => ?_)
  have hP : va_P g.1 vwCl [(h, .inr (0, [.int bcount, .int x_1, .ref bnames, .int x_2, .int blength, .ref bstarts, .ref bsteps, .ref bstack]))] H := hP
  have hD : va_D A [(h, .inr (0, [.int bcount, .int x_1, .ref bnames, .int x_2, .int blength, .ref bstarts, .ref bsteps, .ref bstack]))] := hD
  have hP9 : va_P g.1 vwCl [(h, .inr (0, [.int bcount, .int x_1, .ref bnames, .int x_2, .int blength, .ref bstarts, .ref bsteps, .ref bstack]))] H := hP.sub [0] rfl
  have hD9 : va_D A [(h, .inr (0, [.int bcount, .int x_1, .ref bnames, .int x_2, .int blength, .ref bstarts, .ref bsteps, .ref bstack]))] := hD.sub [0] (by decide +kernel) rfl
  exact W.vret hx hb hr (fun t ht hW => ⟨⟨(x_1, x_2), rfl, ⟨(by first | with_reducible assumption | omega), (by first | with_reducible assumption | omega)⟩, by rw [ht]; exact hP9, by rw [hAe]; exact hD9⟩, hS.F ht⟩) hS.2.2 dX0_countUnit_20
