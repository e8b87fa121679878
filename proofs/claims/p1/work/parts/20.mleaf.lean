theorem bw_219 : Cond.code yX12_isIn cX12_isIn 3 (some .boolean) ∈ gT := gT_tb 1749 (by decide +kernel) (by decide +kernel)
theorem dX12_isIn_0 : decode cX12_isIn 0 = .ok (.iload_n 0, 1) := by decide +kernel
theorem dX12_isIn_1 : decode cX12_isIn 1 = .ok (.iload_n 1, 1) := by decide +kernel
theorem dX12_isIn_2 : decode cX12_isIn 2 = .ok (.if_icmp .lt 12, 3) := by decide +kernel
theorem dX12_isIn_5 : decode cX12_isIn 5 = .ok (.iload_n 0, 1) := by decide +kernel
theorem dX12_isIn_6 : decode cX12_isIn 6 = .ok (.iload_n 2, 1) := by decide +kernel
theorem dX12_isIn_7 : decode cX12_isIn 7 = .ok (.if_icmp .gt 7, 3) := by decide +kernel
theorem dX12_isIn_14 : decode cX12_isIn 14 = .ok (.iconst 0, 1) := by decide +kernel
theorem dX12_isIn_15 : decode cX12_isIn 15 = .ok (.ireturn, 1) := by decide +kernel
set_option maxHeartbeats 4000000 in
set_option maxRecDepth 100000 in
theorem c_X12_isIn_m1 (l : Launch) (g : GG) (sz : Nat) (p0 : Int32) : Met l yX12_isIn (.code yX12_isIn cX12_isIn 3 (some .boolean) :: gT) ({ frames := 0, cells := 0, slots := 0, locals := 0 }) (va_Pc [.int p0, .int 0, .int (-1)] (Pst g sz [] nX)) (va_Qi (fun (r : Int32) (_ : Unit) => r = 0) (Qst g [] sz (fun _ => [])) (va_A [] sz)) 0 0 (va_A [] sz) := by
  refine Met.ofW (cc := cX12_isIn) (maxL := 3) (ret := (some .boolean)) (by decide) rfl ?_
  intro p e s m args below meth c s₁ B hml hv
  obtain ⟨rfl, hsz, hP, hK, hD0, hX⟩ := hv
  have hx := B.exec
  have hb := B.bytes
  have hr := B.returns
  have hT : ∀ w ∈ gT, w.before _ s = true := fun w h => atoms_spec (ws := .code yX12_isIn cX12_isIn 3 (some .boolean) :: gT) B.pre w (List.mem_cons_of_mem _ h)
  have hown : s.vm.findClass RX12 = some m.cls := findClass_of_methodNamed B.named
  have hlocks := B.notSynchronized
  subst hsz
  have hD := hD0
  generalize hAe : va_A [] s.heap.size = A at ⊢
  have hA : ∀ q : Nat, s.heap.size ≤ q → A q := fun q h => by rw [← hAe]; exact Or.inr h
  have hS : va_S A s.heap s.heap [] := va_S.rf
  have hl := lv_entry ([.int p0, .int 0, .int (-1)]) (n := 3) (Nat.le_of_ble_eq_true rfl)
  rw [lg_entry_eq]
  generalize (lg_sl ([.int p0, .int 0, .int (-1)]) ++ List.replicate (3 - (lg_sl ([.int p0, .int 0, .int (-1)])).length) Slot.unset).toArray = ls at hl ⊢
  have hl : lv_has ls 3 [(0, .int p0), (1, .int 0), (2, .int (-1))] := hl
  refine p_nH (fun H hH => ?_)
  have hP : va_P g.1 vwCl [] H := by rw [hH]; exact hP
  have hS : va_S A s.heap H [] := by rw [hH]; exact hS
  refine lv_iload_n hx hb dX12_isIn_0 rfl (lv_at hl 0 rfl) ?_
  refine lv_iload_n hx hb dX12_isIn_1 rfl (lv_at hl 1 rfl) ?_
  refine lv_icmp_lt (tgt := 14) hx hb dX12_isIn_2 (by decide) (fun c_1 => ?_) (fun c_1 => ?_)
  · refine lv_iconst (v := 0) hx hb dX12_isIn_14 (by decide) ?_
    have hP9 : va_P g.1 vwCl [] H := hP.sub [] rfl
    have hD9 : va_D A [] := ⟨fun i j p q h => by simp at h, fun k q h => by simp at h⟩
    exact W.zret (v := 0) (ty := .boolean) hx hb hr rfl (fun t ht hW => ⟨⟨0, (), rfl, rfl, by rw [ht]; exact hP9, by rw [hAe]; exact hD9⟩, hS.F ht⟩) hS.2.2 dX12_isIn_15
  · refine lv_iload_n hx hb dX12_isIn_5 rfl (lv_at hl 0 rfl) ?_
    refine lv_iload_n hx hb dX12_isIn_6 rfl (lv_at hl 2 rfl) ?_
    refine lv_icmp_gt (tgt := 14) hx hb dX12_isIn_7 (by decide) (fun _ => ?_) (fun c9 => absurd (by have e0 : ((-1) : Int32).toInt = (-1) := (by decide); have e1 : (0 : Int32).toInt = 0 := (by decide); simp only [Int32.lt_iff_toInt_lt, Int32.le_iff_toInt_le, ← Int32.toInt_inj, e0, e1] at c_1 ⊢; omega) c9)
    refine lv_iconst (v := 0) hx hb dX12_isIn_14 (by decide) ?_
    have hP9 : va_P g.1 vwCl [] H := hP.sub [] rfl
    have hD9 : va_D A [] := ⟨fun i j p q h => by simp at h, fun k q h => by simp at h⟩
    exact W.zret (v := 0) (ty := .boolean) hx hb hr rfl (fun t ht hW => ⟨⟨0, (), rfl, rfl, by rw [ht]; exact hP9, by rw [hAe]; exact hD9⟩, hS.F ht⟩) hS.2.2 dX12_isIn_15

theorem dX12_isIn_10 : decode cX12_isIn 10 = .ok (.iconst 1, 1) := by decide +kernel
theorem dX12_isIn_11 : decode cX12_isIn 11 = .ok (.goto 4, 3) := by decide +kernel
set_option maxHeartbeats 4000000 in
set_option maxRecDepth 100000 in
theorem c_X12_isIn_1 (l : Launch) (g : GG) (sz : Nat) (p0 : Int32) : Met l yX12_isIn (.code yX12_isIn cX12_isIn 3 (some .boolean) :: gT) ({ frames := 0, cells := 0, slots := 0, locals := 0 }) (va_Pc [.int p0, .int 0, .int 1] (Pst g sz [] nX)) (va_Qi (fun (r : Int32) (_ : Unit) => (r = 1 ∧ 0 ≤ p0 ∧ p0 ≤ 1) ∨ (r = 0 ∧ ¬ (0 ≤ p0 ∧ p0 ≤ 1))) (Qst g [] sz (fun _ => [])) (va_A [] sz)) 0 0 (va_A [] sz) := by
  refine Met.ofW (cc := cX12_isIn) (maxL := 3) (ret := (some .boolean)) (by decide) rfl ?_
  intro p e s m args below meth c s₁ B hml hv
  obtain ⟨rfl, hsz, hP, hK, hD0, hX⟩ := hv
  have hx := B.exec
  have hb := B.bytes
  have hr := B.returns
  have hT : ∀ w ∈ gT, w.before _ s = true := fun w h => atoms_spec (ws := .code yX12_isIn cX12_isIn 3 (some .boolean) :: gT) B.pre w (List.mem_cons_of_mem _ h)
  have hown : s.vm.findClass RX12 = some m.cls := findClass_of_methodNamed B.named
  have hlocks := B.notSynchronized
  subst hsz
  have hD := hD0
  generalize hAe : va_A [] s.heap.size = A at ⊢
  have hA : ∀ q : Nat, s.heap.size ≤ q → A q := fun q h => by rw [← hAe]; exact Or.inr h
  have hS : va_S A s.heap s.heap [] := va_S.rf
  have hl := lv_entry ([.int p0, .int 0, .int 1]) (n := 3) (Nat.le_of_ble_eq_true rfl)
  rw [lg_entry_eq]
  generalize (lg_sl ([.int p0, .int 0, .int 1]) ++ List.replicate (3 - (lg_sl ([.int p0, .int 0, .int 1])).length) Slot.unset).toArray = ls at hl ⊢
  have hl : lv_has ls 3 [(0, .int p0), (1, .int 0), (2, .int 1)] := hl
  refine p_nH (fun H hH => ?_)
  have hP : va_P g.1 vwCl [] H := by rw [hH]; exact hP
  have hS : va_S A s.heap H [] := by rw [hH]; exact hS
  refine lv_iload_n hx hb dX12_isIn_0 rfl (lv_at hl 0 rfl) ?_
  refine lv_iload_n hx hb dX12_isIn_1 rfl (lv_at hl 1 rfl) ?_
  refine lv_icmp_lt (tgt := 14) hx hb dX12_isIn_2 (by decide) (fun c_1 => ?_) (fun c_1 => ?_)
  · refine lv_iconst (v := 0) hx hb dX12_isIn_14 (by decide) ?_
    have hP9 : va_P g.1 vwCl [] H := hP.sub [] rfl
    have hD9 : va_D A [] := ⟨fun i j p q h => by simp at h, fun k q h => by simp at h⟩
    exact W.zret (v := 0) (ty := .boolean) hx hb hr rfl (fun t ht hW => ⟨⟨0, (), rfl, (Or.inr ⟨rfl, by have e0 : (0 : Int32).toInt = 0 := (by decide); have e1 : (1 : Int32).toInt = 1 := (by decide); simp only [Int32.lt_iff_toInt_lt, Int32.le_iff_toInt_le, ← Int32.toInt_inj, e0, e1] at c_1 ⊢; omega⟩), by rw [ht]; exact hP9, by rw [hAe]; exact hD9⟩, hS.F ht⟩) hS.2.2 dX12_isIn_15
  · refine lv_iload_n hx hb dX12_isIn_5 rfl (lv_at hl 0 rfl) ?_
    refine lv_iload_n hx hb dX12_isIn_6 rfl (lv_at hl 2 rfl) ?_
    refine lv_icmp_gt (tgt := 14) hx hb dX12_isIn_7 (by decide) (fun c_2 => ?_) (fun c_2 => ?_)
    · refine lv_iconst (v := 0) hx hb dX12_isIn_14 (by decide) ?_
      have hP9 : va_P g.1 vwCl [] H := hP.sub [] rfl
      have hD9 : va_D A [] := ⟨fun i j p q h => by simp at h, fun k q h => by simp at h⟩
      exact W.zret (v := 0) (ty := .boolean) hx hb hr rfl (fun t ht hW => ⟨⟨0, (), rfl, (Or.inr ⟨rfl, by have e0 : (0 : Int32).toInt = 0 := (by decide); have e1 : (1 : Int32).toInt = 1 := (by decide); simp only [Int32.lt_iff_toInt_lt, Int32.le_iff_toInt_le, ← Int32.toInt_inj, e0, e1] at c_1 c_2 ⊢; omega⟩), by rw [ht]; exact hP9, by rw [hAe]; exact hD9⟩, hS.F ht⟩) hS.2.2 dX12_isIn_15
    · refine lv_iconst (v := 1) hx hb dX12_isIn_10 (by decide) ?_
      refine lv_goto (tgt := 15) hx hb dX12_isIn_11 (by decide) ?_
      have hP9 : va_P g.1 vwCl [] H := hP.sub [] rfl
      have hD9 : va_D A [] := ⟨fun i j p q h => by simp at h, fun k q h => by simp at h⟩
      exact W.zret (v := 1) (ty := .boolean) hx hb hr rfl (fun t ht hW => ⟨⟨1, (), rfl, (Or.inl ⟨rfl, by have e0 : (0 : Int32).toInt = 0 := (by decide); have e1 : (1 : Int32).toInt = 1 := (by decide); simp only [Int32.lt_iff_toInt_lt, Int32.le_iff_toInt_le, ← Int32.toInt_inj, e0, e1] at c_1 c_2 ⊢; omega, by have e0 : (0 : Int32).toInt = 0 := (by decide); have e1 : (1 : Int32).toInt = 1 := (by decide); simp only [Int32.lt_iff_toInt_lt, Int32.le_iff_toInt_le, ← Int32.toInt_inj, e0, e1] at c_1 c_2 ⊢; omega⟩), by rw [ht]; exact hP9, by rw [hAe]; exact hD9⟩, hS.F ht⟩) hS.2.2 dX12_isIn_15

set_option maxHeartbeats 4000000 in
set_option maxRecDepth 100000 in
theorem c_X12_isIn_2 (l : Launch) (g : GG) (sz : Nat) (p0 : Int32) : Met l yX12_isIn (.code yX12_isIn cX12_isIn 3 (some .boolean) :: gT) ({ frames := 0, cells := 0, slots := 0, locals := 0 }) (va_Pc [.int p0, .int 0, .int 2] (Pst g sz [] nX)) (va_Qi (fun (r : Int32) (_ : Unit) => (r = 1 ∧ 0 ≤ p0 ∧ p0 ≤ 2) ∨ (r = 0 ∧ ¬ (0 ≤ p0 ∧ p0 ≤ 2))) (Qst g [] sz (fun _ => [])) (va_A [] sz)) 0 0 (va_A [] sz) := by
  refine Met.ofW (cc := cX12_isIn) (maxL := 3) (ret := (some .boolean)) (by decide) rfl ?_
  intro p e s m args below meth c s₁ B hml hv
  obtain ⟨rfl, hsz, hP, hK, hD0, hX⟩ := hv
  have hx := B.exec
  have hb := B.bytes
  have hr := B.returns
  have hT : ∀ w ∈ gT, w.before _ s = true := fun w h => atoms_spec (ws := .code yX12_isIn cX12_isIn 3 (some .boolean) :: gT) B.pre w (List.mem_cons_of_mem _ h)
  have hown : s.vm.findClass RX12 = some m.cls := findClass_of_methodNamed B.named
  have hlocks := B.notSynchronized
  subst hsz
  have hD := hD0
  generalize hAe : va_A [] s.heap.size = A at ⊢
  have hA : ∀ q : Nat, s.heap.size ≤ q → A q := fun q h => by rw [← hAe]; exact Or.inr h
  have hS : va_S A s.heap s.heap [] := va_S.rf
  have hl := lv_entry ([.int p0, .int 0, .int 2]) (n := 3) (Nat.le_of_ble_eq_true rfl)
  rw [lg_entry_eq]
  generalize (lg_sl ([.int p0, .int 0, .int 2]) ++ List.replicate (3 - (lg_sl ([.int p0, .int 0, .int 2])).length) Slot.unset).toArray = ls at hl ⊢
  have hl : lv_has ls 3 [(0, .int p0), (1, .int 0), (2, .int 2)] := hl
  refine p_nH (fun H hH => ?_)
  have hP : va_P g.1 vwCl [] H := by rw [hH]; exact hP
  have hS : va_S A s.heap H [] := by rw [hH]; exact hS
  refine lv_iload_n hx hb dX12_isIn_0 rfl (lv_at hl 0 rfl) ?_
  refine lv_iload_n hx hb dX12_isIn_1 rfl (lv_at hl 1 rfl) ?_
  refine lv_icmp_lt (tgt := 14) hx hb dX12_isIn_2 (by decide) (fun c_1 => ?_) (fun c_1 => ?_)
  · refine lv_iconst (v := 0) hx hb dX12_isIn_14 (by decide) ?_
    have hP9 : va_P g.1 vwCl [] H := hP.sub [] rfl
    have hD9 : va_D A [] := ⟨fun i j p q h => by simp at h, fun k q h => by simp at h⟩
    exact W.zret (v := 0) (ty := .boolean) hx hb hr rfl (fun t ht hW => ⟨⟨0, (), rfl, (Or.inr ⟨rfl, by have e0 : (0 : Int32).toInt = 0 := (by decide); have e1 : (2 : Int32).toInt = 2 := (by decide); simp only [Int32.lt_iff_toInt_lt, Int32.le_iff_toInt_le, ← Int32.toInt_inj, e0, e1] at c_1 ⊢; omega⟩), by rw [ht]; exact hP9, by rw [hAe]; exact hD9⟩, hS.F ht⟩) hS.2.2 dX12_isIn_15
  · refine lv_iload_n hx hb dX12_isIn_5 rfl (lv_at hl 0 rfl) ?_
    refine lv_iload_n hx hb dX12_isIn_6 rfl (lv_at hl 2 rfl) ?_
    refine lv_icmp_gt (tgt := 14) hx hb dX12_isIn_7 (by decide) (fun c_2 => ?_) (fun c_2 => ?_)
    · refine lv_iconst (v := 0) hx hb dX12_isIn_14 (by decide) ?_
      have hP9 : va_P g.1 vwCl [] H := hP.sub [] rfl
      have hD9 : va_D A [] := ⟨fun i j p q h => by simp at h, fun k q h => by simp at h⟩
      exact W.zret (v := 0) (ty := .boolean) hx hb hr rfl (fun t ht hW => ⟨⟨0, (), rfl, (Or.inr ⟨rfl, by have e0 : (0 : Int32).toInt = 0 := (by decide); have e1 : (2 : Int32).toInt = 2 := (by decide); simp only [Int32.lt_iff_toInt_lt, Int32.le_iff_toInt_le, ← Int32.toInt_inj, e0, e1] at c_1 c_2 ⊢; omega⟩), by rw [ht]; exact hP9, by rw [hAe]; exact hD9⟩, hS.F ht⟩) hS.2.2 dX12_isIn_15
    · refine lv_iconst (v := 1) hx hb dX12_isIn_10 (by decide) ?_
      refine lv_goto (tgt := 15) hx hb dX12_isIn_11 (by decide) ?_
      have hP9 : va_P g.1 vwCl [] H := hP.sub [] rfl
      have hD9 : va_D A [] := ⟨fun i j p q h => by simp at h, fun k q h => by simp at h⟩
      exact W.zret (v := 1) (ty := .boolean) hx hb hr rfl (fun t ht hW => ⟨⟨1, (), rfl, (Or.inl ⟨rfl, by have e0 : (0 : Int32).toInt = 0 := (by decide); have e1 : (2 : Int32).toInt = 2 := (by decide); simp only [Int32.lt_iff_toInt_lt, Int32.le_iff_toInt_le, ← Int32.toInt_inj, e0, e1] at c_1 c_2 ⊢; omega, by have e0 : (0 : Int32).toInt = 0 := (by decide); have e1 : (2 : Int32).toInt = 2 := (by decide); simp only [Int32.lt_iff_toInt_lt, Int32.le_iff_toInt_le, ← Int32.toInt_inj, e0, e1] at c_1 c_2 ⊢; omega⟩), by rw [ht]; exact hP9, by rw [hAe]; exact hD9⟩, hS.F ht⟩) hS.2.2 dX12_isIn_15

set_option maxHeartbeats 4000000 in
set_option maxRecDepth 100000 in
theorem c_X12_isIn_400 (l : Launch) (g : GG) (sz : Nat) (p0 : Int32) : Met l yX12_isIn (.code yX12_isIn cX12_isIn 3 (some .boolean) :: gT) ({ frames := 0, cells := 0, slots := 0, locals := 0 }) (va_Pc [.int p0, .int 0, .int 400] (Pst g sz [] nX)) (va_Qi (fun (r : Int32) (_ : Unit) => (r = 1 ∧ 0 ≤ p0 ∧ p0 ≤ 400) ∨ (r = 0 ∧ ¬ (0 ≤ p0 ∧ p0 ≤ 400))) (Qst g [] sz (fun _ => [])) (va_A [] sz)) 0 0 (va_A [] sz) := by
  refine Met.ofW (cc := cX12_isIn) (maxL := 3) (ret := (some .boolean)) (by decide) rfl ?_
  intro p e s m args below meth c s₁ B hml hv
  obtain ⟨rfl, hsz, hP, hK, hD0, hX⟩ := hv
  have hx := B.exec
  have hb := B.bytes
  have hr := B.returns
  have hT : ∀ w ∈ gT, w.before _ s = true := fun w h => atoms_spec (ws := .code yX12_isIn cX12_isIn 3 (some .boolean) :: gT) B.pre w (List.mem_cons_of_mem _ h)
  have hown : s.vm.findClass RX12 = some m.cls := findClass_of_methodNamed B.named
  have hlocks := B.notSynchronized
  subst hsz
  have hD := hD0
  generalize hAe : va_A [] s.heap.size = A at ⊢
  have hA : ∀ q : Nat, s.heap.size ≤ q → A q := fun q h => by rw [← hAe]; exact Or.inr h
  have hS : va_S A s.heap s.heap [] := va_S.rf
  have hl := lv_entry ([.int p0, .int 0, .int 400]) (n := 3) (Nat.le_of_ble_eq_true rfl)
  rw [lg_entry_eq]
  generalize (lg_sl ([.int p0, .int 0, .int 400]) ++ List.replicate (3 - (lg_sl ([.int p0, .int 0, .int 400])).length) Slot.unset).toArray = ls at hl ⊢
  have hl : lv_has ls 3 [(0, .int p0), (1, .int 0), (2, .int 400)] := hl
  refine p_nH (fun H hH => ?_)
  have hP : va_P g.1 vwCl [] H := by rw [hH]; exact hP
  have hS : va_S A s.heap H [] := by rw [hH]; exact hS
  refine lv_iload_n hx hb dX12_isIn_0 rfl (lv_at hl 0 rfl) ?_
  refine lv_iload_n hx hb dX12_isIn_1 rfl (lv_at hl 1 rfl) ?_
  refine lv_icmp_lt (tgt := 14) hx hb dX12_isIn_2 (by decide) (fun c_1 => ?_) (fun c_1 => ?_)
  · refine lv_iconst (v := 0) hx hb dX12_isIn_14 (by decide) ?_
    have hP9 : va_P g.1 vwCl [] H := hP.sub [] rfl
    have hD9 : va_D A [] := ⟨fun i j p q h => by simp at h, fun k q h => by simp at h⟩
    exact W.zret (v := 0) (ty := .boolean) hx hb hr rfl (fun t ht hW => ⟨⟨0, (), rfl, (Or.inr ⟨rfl, by have e0 : (0 : Int32).toInt = 0 := (by decide); have e1 : (400 : Int32).toInt = 400 := (by decide); simp only [Int32.lt_iff_toInt_lt, Int32.le_iff_toInt_le, ← Int32.toInt_inj, e0, e1] at c_1 ⊢; omega⟩), by rw [ht]; exact hP9, by rw [hAe]; exact hD9⟩, hS.F ht⟩) hS.2.2 dX12_isIn_15
  · refine lv_iload_n hx hb dX12_isIn_5 rfl (lv_at hl 0 rfl) ?_
    refine lv_iload_n hx hb dX12_isIn_6 rfl (lv_at hl 2 rfl) ?_
    refine lv_icmp_gt (tgt := 14) hx hb dX12_isIn_7 (by decide) (fun c_2 => ?_) (fun c_2 => ?_)
    · refine lv_iconst (v := 0) hx hb dX12_isIn_14 (by decide) ?_
      have hP9 : va_P g.1 vwCl [] H := hP.sub [] rfl
      have hD9 : va_D A [] := ⟨fun i j p q h => by simp at h, fun k q h => by simp at h⟩
      exact W.zret (v := 0) (ty := .boolean) hx hb hr rfl (fun t ht hW => ⟨⟨0, (), rfl, (Or.inr ⟨rfl, by have e0 : (0 : Int32).toInt = 0 := (by decide); have e1 : (400 : Int32).toInt = 400 := (by decide); simp only [Int32.lt_iff_toInt_lt, Int32.le_iff_toInt_le, ← Int32.toInt_inj, e0, e1] at c_1 c_2 ⊢; omega⟩), by rw [ht]; exact hP9, by rw [hAe]; exact hD9⟩, hS.F ht⟩) hS.2.2 dX12_isIn_15
    · refine lv_iconst (v := 1) hx hb dX12_isIn_10 (by decide) ?_
      refine lv_goto (tgt := 15) hx hb dX12_isIn_11 (by decide) ?_
      have hP9 : va_P g.1 vwCl [] H := hP.sub [] rfl
      have hD9 : va_D A [] := ⟨fun i j p q h => by simp at h, fun k q h => by simp at h⟩
      exact W.zret (v := 1) (ty := .boolean) hx hb hr rfl (fun t ht hW => ⟨⟨1, (), rfl, (Or.inl ⟨rfl, by have e0 : (0 : Int32).toInt = 0 := (by decide); have e1 : (400 : Int32).toInt = 400 := (by decide); simp only [Int32.lt_iff_toInt_lt, Int32.le_iff_toInt_le, ← Int32.toInt_inj, e0, e1] at c_1 c_2 ⊢; omega, by have e0 : (0 : Int32).toInt = 0 := (by decide); have e1 : (400 : Int32).toInt = 400 := (by decide); simp only [Int32.lt_iff_toInt_lt, Int32.le_iff_toInt_le, ← Int32.toInt_inj, e0, e1] at c_1 c_2 ⊢; omega⟩), by rw [ht]; exact hP9, by rw [hAe]; exact hD9⟩, hS.F ht⟩) hS.2.2 dX12_isIn_15

set_option maxHeartbeats 4000000 in
set_option maxRecDepth 100000 in
theorem c_X12_isIn_1000 (l : Launch) (g : GG) (sz : Nat) (p0 : Int32) : Met l yX12_isIn (.code yX12_isIn cX12_isIn 3 (some .boolean) :: gT) ({ frames := 0, cells := 0, slots := 0, locals := 0 }) (va_Pc [.int p0, .int 0, .int 1000] (Pst g sz [] nX)) (va_Qi (fun (r : Int32) (_ : Unit) => (r = 1 ∧ 0 ≤ p0 ∧ p0 ≤ 1000) ∨ (r = 0 ∧ ¬ (0 ≤ p0 ∧ p0 ≤ 1000))) (Qst g [] sz (fun _ => [])) (va_A [] sz)) 0 0 (va_A [] sz) := by
  refine Met.ofW (cc := cX12_isIn) (maxL := 3) (ret := (some .boolean)) (by decide) rfl ?_
  intro p e s m args below meth c s₁ B hml hv
  obtain ⟨rfl, hsz, hP, hK, hD0, hX⟩ := hv
  have hx := B.exec
  have hb := B.bytes
  have hr := B.returns
  have hT : ∀ w ∈ gT, w.before _ s = true := fun w h => atoms_spec (ws := .code yX12_isIn cX12_isIn 3 (some .boolean) :: gT) B.pre w (List.mem_cons_of_mem _ h)
  have hown : s.vm.findClass RX12 = some m.cls := findClass_of_methodNamed B.named
  have hlocks := B.notSynchronized
  subst hsz
  have hD := hD0
  generalize hAe : va_A [] s.heap.size = A at ⊢
  have hA : ∀ q : Nat, s.heap.size ≤ q → A q := fun q h => by rw [← hAe]; exact Or.inr h
  have hS : va_S A s.heap s.heap [] := va_S.rf
  have hl := lv_entry ([.int p0, .int 0, .int 1000]) (n := 3) (Nat.le_of_ble_eq_true rfl)
  rw [lg_entry_eq]
  generalize (lg_sl ([.int p0, .int 0, .int 1000]) ++ List.replicate (3 - (lg_sl ([.int p0, .int 0, .int 1000])).length) Slot.unset).toArray = ls at hl ⊢
  have hl : lv_has ls 3 [(0, .int p0), (1, .int 0), (2, .int 1000)] := hl
  refine p_nH (fun H hH => ?_)
  have hP : va_P g.1 vwCl [] H := by rw [hH]; exact hP
  have hS : va_S A s.heap H [] := by rw [hH]; exact hS
  refine lv_iload_n hx hb dX12_isIn_0 rfl (lv_at hl 0 rfl) ?_
  refine lv_iload_n hx hb dX12_isIn_1 rfl (lv_at hl 1 rfl) ?_
  refine lv_icmp_lt (tgt := 14) hx hb dX12_isIn_2 (by decide) (fun c_1 => ?_) (fun c_1 => ?_)
  · refine lv_iconst (v := 0) hx hb dX12_isIn_14 (by decide) ?_
    have hP9 : va_P g.1 vwCl [] H := hP.sub [] rfl
    have hD9 : va_D A [] := ⟨fun i j p q h => by simp at h, fun k q h => by simp at h⟩
    exact W.zret (v := 0) (ty := .boolean) hx hb hr rfl (fun t ht hW => ⟨⟨0, (), rfl, (Or.inr ⟨rfl, by have e0 : (0 : Int32).toInt = 0 := (by decide); have e1 : (1000 : Int32).toInt = 1000 := (by decide); simp only [Int32.lt_iff_toInt_lt, Int32.le_iff_toInt_le, ← Int32.toInt_inj, e0, e1] at c_1 ⊢; omega⟩), by rw [ht]; exact hP9, by rw [hAe]; exact hD9⟩, hS.F ht⟩) hS.2.2 dX12_isIn_15
  · refine lv_iload_n hx hb dX12_isIn_5 rfl (lv_at hl 0 rfl) ?_
    refine lv_iload_n hx hb dX12_isIn_6 rfl (lv_at hl 2 rfl) ?_
    refine lv_icmp_gt (tgt := 14) hx hb dX12_isIn_7 (by decide) (fun c_2 => ?_) (fun c_2 => ?_)
    · refine lv_iconst (v := 0) hx hb dX12_isIn_14 (by decide) ?_
      have hP9 : va_P g.1 vwCl [] H := hP.sub [] rfl
      have hD9 : va_D A [] := ⟨fun i j p q h => by simp at h, fun k q h => by simp at h⟩
      exact W.zret (v := 0) (ty := .boolean) hx hb hr rfl (fun t ht hW => ⟨⟨0, (), rfl, (Or.inr ⟨rfl, by have e0 : (0 : Int32).toInt = 0 := (by decide); have e1 : (1000 : Int32).toInt = 1000 := (by decide); simp only [Int32.lt_iff_toInt_lt, Int32.le_iff_toInt_le, ← Int32.toInt_inj, e0, e1] at c_1 c_2 ⊢; omega⟩), by rw [ht]; exact hP9, by rw [hAe]; exact hD9⟩, hS.F ht⟩) hS.2.2 dX12_isIn_15
    · refine lv_iconst (v := 1) hx hb dX12_isIn_10 (by decide) ?_
      refine lv_goto (tgt := 15) hx hb dX12_isIn_11 (by decide) ?_
      have hP9 : va_P g.1 vwCl [] H := hP.sub [] rfl
      have hD9 : va_D A [] := ⟨fun i j p q h => by simp at h, fun k q h => by simp at h⟩
      exact W.zret (v := 1) (ty := .boolean) hx hb hr rfl (fun t ht hW => ⟨⟨1, (), rfl, (Or.inl ⟨rfl, by have e0 : (0 : Int32).toInt = 0 := (by decide); have e1 : (1000 : Int32).toInt = 1000 := (by decide); simp only [Int32.lt_iff_toInt_lt, Int32.le_iff_toInt_le, ← Int32.toInt_inj, e0, e1] at c_1 c_2 ⊢; omega, by have e0 : (0 : Int32).toInt = 0 := (by decide); have e1 : (1000 : Int32).toInt = 1000 := (by decide); simp only [Int32.lt_iff_toInt_lt, Int32.le_iff_toInt_le, ← Int32.toInt_inj, e0, e1] at c_1 c_2 ⊢; omega⟩), by rw [ht]; exact hP9, by rw [hAe]; exact hD9⟩, hS.F ht⟩) hS.2.2 dX12_isIn_15

set_option maxRecDepth 20000 in
theorem inF_X12 : ∀ w ∈ u_ws RX12 TX12 87, w ∈ gT := gT_u [1392, 1394, 1396, 1398, 1400, 1402, 1404, 1406, 1408, 1410, 1412, 1414, 1416, 1418, 1420, 1422, 1424, 1426, 1428, 1430, 1432, 1434, 1436, 1438, 1440, 1442, 1444, 1446, 1448, 1450, 1452, 1454, 1456, 1458, 1460, 1462, 1464, 1466, 1468, 1470, 1472, 1474, 1476, 1478, 1480, 1482, 1484, 1486, 1488, 1490, 1492, 1494, 1496, 1498, 1500, 1502, 1504, 1506, 1508, 1510, 1512, 1514, 1516, 1518, 1520, 1522, 1524, 1526, 1528, 1530, 1532, 1534, 1536, 1538, 1540, 1542, 1544, 1546, 1548, 1550, 1552, 1554, 1556, 1558, 1560, 1562, 1564] (by decide +kernel) (by decide +kernel)
theorem bw_220 : Cond.fieldLink RX12 20 "DuelDelaysModel" "men" "[I" ∈ gT := gT_tb 1316 (by decide +kernel) (by decide +kernel)
theorem bw_221 : Cond.fieldLink RX12 308 "DuelDelaysModel" "bank" "I" ∈ gT := gT_tb 1348 (by decide +kernel) (by decide +kernel)
theorem bw_222 : Cond.methodLink RX12 411 yX12_isIn ∈ gT := gT_tb 1747 (by decide +kernel) (by decide +kernel)
theorem bw_223 : Cond.static yX12_isIn ∈ gT := gT_tb 1748 (by decide +kernel) (by decide +kernel)
theorem bw_224 : Cond.initialized yX12_isIn.cls ∈ gT := gT_tb 19 (by decide +kernel) (by decide +kernel)
theorem bw_225 : Cond.code yX12_isMan cX12_isMan 2 (some .boolean) ∈ gT := gT_tb 1746 (by decide +kernel) (by decide +kernel)
theorem dX12_isMan_0 : decode cX12_isMan 0 = .ok (.iload_n 1, 1) := by decide +kernel
theorem dX12_isMan_1 : decode cX12_isMan 1 = .ok (.iconst 0, 1) := by decide +kernel
theorem dX12_isMan_2 : decode cX12_isMan 2 = .ok (.aload_n 0, 1) := by decide +kernel
theorem dX12_isMan_3 : decode cX12_isMan 3 = .ok (.getfield 20, 3) := by decide +kernel
theorem dX12_isMan_6 : decode cX12_isMan 6 = .ok (.aload_n 0, 1) := by decide +kernel
theorem dX12_isMan_7 : decode cX12_isMan 7 = .ok (.getfield 308, 3) := by decide +kernel
theorem dX12_isMan_10 : decode cX12_isMan 10 = .ok (.iaload, 1) := by decide +kernel
theorem dX12_isMan_11 : decode cX12_isMan 11 = .ok (.iconst 1, 1) := by decide +kernel
theorem dX12_isMan_12 : decode cX12_isMan 12 = .ok (.isub, 1) := by decide +kernel
theorem dX12_isMan_13 : decode cX12_isMan 13 = .ok (.invokestatic 411, 3) := by decide +kernel
theorem dX12_isMan_16 : decode cX12_isMan 16 = .ok (.ireturn, 1) := by decide +kernel
set_option maxHeartbeats 4000000 in
set_option maxRecDepth 100000 in
theorem c_X12_isMan (l : Launch) (g : GG) (sz : Nat) (m_ : Nat) (j0 : Nat) (j1 : Nat) (j11 : Nat) (j12 : Nat) (j13 : Nat) (j14 : Nat) (j15 : Nat) (j16 : Nat) (j17 : Nat) (j18 : Nat) (j19 : Nat) (j20 : Nat) (j21 : Nat) (j22 : Nat) (j23 : Nat) (j24 : Nat) (j25 : Nat) (j26 : Nat) (j27 : Nat) (j28 : Nat) (j29 : Nat) (j30 : Nat) (j31 : Nat) (j32 : Nat) (j33 : Nat) (j34 : Nat) (j35 : Nat) (j36 : Nat) (j37 : Nat) (j38 : Nat) (j39 : Nat) (j40 : Nat) (j41 : Nat) (j42 : Nat) (j52 : Nat) (j53 : Nat) (j56 : Nat) (j57 : Nat) (j58 : Nat) (j59 : Nat) (j60 : Nat) (j61 : Nat) (j62 : Nat) (j63 : Nat) (j64 : Nat) (j65 : Nat) (j78 : Nat) (j79 : Nat) (j80 : Nat) (j81 : Nat) (j82 : Nat) (j85 : Nat) (j86 : Nat) (p0 : Int32) : Met l yX12_isMan (.code yX12_isMan cX12_isMan 2 (some .boolean) :: gT) ({ frames := 1, cells := 0, slots := 0, locals := 22 }) (va_Pc [.ref m_, .int p0] (Pst g sz [(m_, .inr (12, [.ref j0, .ref j1, .int 0, .int 0, .int 0, .int (-1), .int 0, .int 0, .int 0, .int 0, .long 0, .ref j11, .ref j12, .ref j13, .ref j14, .ref j15, .ref j16, .ref j17, .ref j18, .ref j19, .ref j20, .ref j21, .ref j22, .ref j23, .ref j24, .ref j25, .ref j26, .ref j27, .ref j28, .ref j29, .ref j30, .ref j31, .ref j32, .ref j33, .ref j34, .ref j35, .ref j36, .ref j37, .ref j38, .ref j39, .ref j40, .ref j41, .ref j42, .int 0, .int 0, .int 0, .int 0, .int 0, .int 0, .int 0, .int 0, .int 0, .ref j52, .ref j53, .int 0, .int 0, .ref j56, .ref j57, .ref j58, .ref j59, .ref j60, .ref j61, .ref j62, .ref j63, .ref j64, .ref j65, .int 0, .int 0, .int 0, .int 0, .int 0, .int 0, .int 0, .int 0, .int 0, .int 0, .int 0, .int 0, .ref j78, .ref j79, .ref j80, .ref j81, .ref j82, .int 0, .int 0, .ref j85, .ref j86])), (j11, aI g 2 z0)] nX)) (va_Qi (fun (r : Int32) (_ : Unit) => r = 0) (Qst g [] sz (fun _ => [])) (va_A [] sz)) 0 0 (va_A [] sz) := by
  refine Met.ofW (cc := cX12_isMan) (maxL := 2) (ret := (some .boolean)) (by decide) rfl ?_
  intro p e s m args below meth c s₁ B hml hv
  obtain ⟨rfl, hsz, hP, hK, hD0, hX⟩ := hv
  have hx := B.exec
  have hb := B.bytes
  have hr := B.returns
  have hT : ∀ w ∈ gT, w.before _ s = true := fun w h => atoms_spec (ws := .code yX12_isMan cX12_isMan 2 (some .boolean) :: gT) B.pre w (List.mem_cons_of_mem _ h)
  have hown : s.vm.findClass RX12 = some m.cls := findClass_of_methodNamed B.named
  have hlocks := B.notSynchronized
  subst hsz
  have hD := hD0
  generalize hAe : va_A [] s.heap.size = A at ⊢
  have hA : ∀ q : Nat, s.heap.size ≤ q → A q := fun q h => by rw [← hAe]; exact Or.inr h
  have hS : va_S A s.heap s.heap [] := va_S.rf
  have hl := lv_entry ([.ref m_, .int p0]) (n := 2) (Nat.le_of_ble_eq_true rfl)
  rw [lg_entry_eq]
  generalize (lg_sl ([.ref m_, .int p0]) ++ List.replicate (2 - (lg_sl ([.ref m_, .int p0])).length) Slot.unset).toArray = ls at hl ⊢
  have hl : lv_has ls 2 [(0, .ref m_), (1, .int p0)] := hl
  refine p_nH (fun H hH => ?_)
  have hP : va_P g.1 vwCl [(m_, .inr (12, [.ref j0, .ref j1, .int 0, .int 0, .int 0, .int (-1), .int 0, .int 0, .int 0, .int 0, .long 0, .ref j11, .ref j12, .ref j13, .ref j14, .ref j15, .ref j16, .ref j17, .ref j18, .ref j19, .ref j20, .ref j21, .ref j22, .ref j23, .ref j24, .ref j25, .ref j26, .ref j27, .ref j28, .ref j29, .ref j30, .ref j31, .ref j32, .ref j33, .ref j34, .ref j35, .ref j36, .ref j37, .ref j38, .ref j39, .ref j40, .ref j41, .ref j42, .int 0, .int 0, .int 0, .int 0, .int 0, .int 0, .int 0, .int 0, .int 0, .ref j52, .ref j53, .int 0, .int 0, .ref j56, .ref j57, .ref j58, .ref j59, .ref j60, .ref j61, .ref j62, .ref j63, .ref j64, .ref j65, .int 0, .int 0, .int 0, .int 0, .int 0, .int 0, .int 0, .int 0, .int 0, .int 0, .int 0, .int 0, .ref j78, .ref j79, .ref j80, .ref j81, .ref j82, .int 0, .int 0, .ref j85, .ref j86])), (j11, aI g 2 z0)] H := by rw [hH]; exact hP
  have hS : va_S A s.heap H [] := by rw [hH]; exact hS
  refine lv_iload_n hx hb dX12_isMan_0 rfl (lv_at hl 1 rfl) ?_
  refine lv_iconst (v := 0) hx hb dX12_isMan_1 (by decide) ?_
  refine lv_aload_n hx hb dX12_isMan_2 rfl (lv_at hl 0 rfl) ?_
  refine va_get (D := g.1) (ci := 12) (v := .ref j11) (C := RX12) (T := TX12) (N := 87) hx hb hT inF_X12 hown hK.1 hP 0 rfl rfl 11 (by decide) (hT _ bw_220) (fun _ h9 => h9) rfl dX12_isMan_3 ?_
  refine lv_aload_n hx hb dX12_isMan_6 rfl (lv_at hl 0 rfl) ?_
  refine va_get (D := g.1) (ci := 12) (v := .int 0) (C := RX12) (T := TX12) (N := 87) hx hb hT inF_X12 hown hK.1 hP 0 rfl rfl 43 (by decide) (hT _ bw_221) (fun _ h9 => h9) rfl dX12_isMan_7 ?_
  refine va_iald hx hb hK.1 hP 1 1 rfl rfl (i := 0) (by unfold vp_in; decide) dX12_isMan_10 ?_
  refine p_ti (v := 0) (rfl) ?_
  refine lv_iconst (v := 1) hx hb dX12_isMan_11 (by decide) ?_
  refine lv_isub hx hb dX12_isMan_12 ?_
  refine p_ti (v := (-1)) (by decide +kernel) ?_
  refine k_iR (k_S (n := 3) ⟨hx, hb, hml, hown, hT⟩ hK hP hD [] rfl (by decide) (c_X12_isIn_m1 l g H.size p0) (gS bw_222 bw_223 bw_224 bw_219) rfl rfl (by decide +kernel) ⟨by decide, by decide⟩ (fun _ _ _ _ _ => trivial) (fun _ _ _ => trivial) rfl rfl hl.1 (Nat.le_of_ble_eq_true rfl) dX12_isMan_13 ⟨by decide, by decide⟩) hP hS hA (fun r_1 _ H locs hw hP hS => ?_)
  have hw : r_1 = 0 := hw
  subst hw
  have hP9 : va_P g.1 vwCl [] H := hP.sub [] rfl
  have hD9 : va_D A [] := ⟨fun i j p q h => by simp at h, fun k q h => by simp at h⟩
  exact W.zret (v := 0) (ty := .boolean) hx hb hr rfl (fun t ht hW => ⟨⟨0, (), rfl, rfl, by rw [ht]; exact hP9, by rw [hAe]; exact hD9⟩, hS.F ht⟩) hS.2.2 dX12_isMan_16

theorem bw_226 : Cond.fieldLink RX12 27 "DuelDelaysModel" "reasons" "[I" ∈ gT := gT_tb 1318 (by decide +kernel) (by decide +kernel)
theorem bw_227 : Cond.code yX12_isReason cX12_isReason 2 (some .boolean) ∈ gT := gT_tb 1780 (by decide +kernel) (by decide +kernel)
theorem dX12_isReason_0 : decode cX12_isReason 0 = .ok (.iload_n 1, 1) := by decide +kernel
theorem dX12_isReason_1 : decode cX12_isReason 1 = .ok (.iconst 0, 1) := by decide +kernel
theorem dX12_isReason_2 : decode cX12_isReason 2 = .ok (.aload_n 0, 1) := by decide +kernel
theorem dX12_isReason_3 : decode cX12_isReason 3 = .ok (.getfield 27, 3) := by decide +kernel
theorem dX12_isReason_6 : decode cX12_isReason 6 = .ok (.aload_n 0, 1) := by decide +kernel
theorem dX12_isReason_7 : decode cX12_isReason 7 = .ok (.getfield 308, 3) := by decide +kernel
theorem dX12_isReason_10 : decode cX12_isReason 10 = .ok (.iaload, 1) := by decide +kernel
theorem dX12_isReason_11 : decode cX12_isReason 11 = .ok (.iconst 1, 1) := by decide +kernel
theorem dX12_isReason_12 : decode cX12_isReason 12 = .ok (.isub, 1) := by decide +kernel
theorem dX12_isReason_13 : decode cX12_isReason 13 = .ok (.invokestatic 411, 3) := by decide +kernel
theorem dX12_isReason_16 : decode cX12_isReason 16 = .ok (.ireturn, 1) := by decide +kernel
set_option maxHeartbeats 4000000 in
set_option maxRecDepth 100000 in
theorem c_X12_isReason (l : Launch) (g : GG) (sz : Nat) (m_ : Nat) (j0 : Nat) (j1 : Nat) (j11 : Nat) (j12 : Nat) (j13 : Nat) (j14 : Nat) (j15 : Nat) (j16 : Nat) (j17 : Nat) (j18 : Nat) (j19 : Nat) (j20 : Nat) (j21 : Nat) (j22 : Nat) (j23 : Nat) (j24 : Nat) (j25 : Nat) (j26 : Nat) (j27 : Nat) (j28 : Nat) (j29 : Nat) (j30 : Nat) (j31 : Nat) (j32 : Nat) (j33 : Nat) (j34 : Nat) (j35 : Nat) (j36 : Nat) (j37 : Nat) (j38 : Nat) (j39 : Nat) (j40 : Nat) (j41 : Nat) (j42 : Nat) (j52 : Nat) (j53 : Nat) (j56 : Nat) (j57 : Nat) (j58 : Nat) (j59 : Nat) (j60 : Nat) (j61 : Nat) (j62 : Nat) (j63 : Nat) (j64 : Nat) (j65 : Nat) (j78 : Nat) (j79 : Nat) (j80 : Nat) (j81 : Nat) (j82 : Nat) (j85 : Nat) (j86 : Nat) (p0 : Int32) : Met l yX12_isReason (.code yX12_isReason cX12_isReason 2 (some .boolean) :: gT) ({ frames := 1, cells := 0, slots := 0, locals := 22 }) (va_Pc [.ref m_, .int p0] (Pst g sz [(m_, .inr (12, [.ref j0, .ref j1, .int 0, .int 0, .int 0, .int (-1), .int 0, .int 0, .int 0, .int 0, .long 0, .ref j11, .ref j12, .ref j13, .ref j14, .ref j15, .ref j16, .ref j17, .ref j18, .ref j19, .ref j20, .ref j21, .ref j22, .ref j23, .ref j24, .ref j25, .ref j26, .ref j27, .ref j28, .ref j29, .ref j30, .ref j31, .ref j32, .ref j33, .ref j34, .ref j35, .ref j36, .ref j37, .ref j38, .ref j39, .ref j40, .ref j41, .ref j42, .int 0, .int 0, .int 0, .int 0, .int 0, .int 0, .int 0, .int 0, .int 0, .ref j52, .ref j53, .int 0, .int 0, .ref j56, .ref j57, .ref j58, .ref j59, .ref j60, .ref j61, .ref j62, .ref j63, .ref j64, .ref j65, .int 0, .int 0, .int 0, .int 0, .int 0, .int 0, .int 0, .int 0, .int 0, .int 0, .int 0, .int 0, .ref j78, .ref j79, .ref j80, .ref j81, .ref j82, .int 0, .int 0, .ref j85, .ref j86])), (j13, aI g 2 z0)] nX)) (va_Qi (fun (r : Int32) (_ : Unit) => r = 0) (Qst g [] sz (fun _ => [])) (va_A [] sz)) 0 0 (va_A [] sz) := by
  refine Met.ofW (cc := cX12_isReason) (maxL := 2) (ret := (some .boolean)) (by decide) rfl ?_
  intro p e s m args below meth c s₁ B hml hv
  obtain ⟨rfl, hsz, hP, hK, hD0, hX⟩ := hv
  have hx := B.exec
  have hb := B.bytes
  have hr := B.returns
  have hT : ∀ w ∈ gT, w.before _ s = true := fun w h => atoms_spec (ws := .code yX12_isReason cX12_isReason 2 (some .boolean) :: gT) B.pre w (List.mem_cons_of_mem _ h)
  have hown : s.vm.findClass RX12 = some m.cls := findClass_of_methodNamed B.named
  have hlocks := B.notSynchronized
  subst hsz
  have hD := hD0
  generalize hAe : va_A [] s.heap.size = A at ⊢
  have hA : ∀ q : Nat, s.heap.size ≤ q → A q := fun q h => by rw [← hAe]; exact Or.inr h
  have hS : va_S A s.heap s.heap [] := va_S.rf
  have hl := lv_entry ([.ref m_, .int p0]) (n := 2) (Nat.le_of_ble_eq_true rfl)
  rw [lg_entry_eq]
  generalize (lg_sl ([.ref m_, .int p0]) ++ List.replicate (2 - (lg_sl ([.ref m_, .int p0])).length) Slot.unset).toArray = ls at hl ⊢
  have hl : lv_has ls 2 [(0, .ref m_), (1, .int p0)] := hl
  refine p_nH (fun H hH => ?_)
  have hP : va_P g.1 vwCl [(m_, .inr (12, [.ref j0, .ref j1, .int 0, .int 0, .int 0, .int (-1), .int 0, .int 0, .int 0, .int 0, .long 0, .ref j11, .ref j12, .ref j13, .ref j14, .ref j15, .ref j16, .ref j17, .ref j18, .ref j19, .ref j20, .ref j21, .ref j22, .ref j23, .ref j24, .ref j25, .ref j26, .ref j27, .ref j28, .ref j29, .ref j30, .ref j31, .ref j32, .ref j33, .ref j34, .ref j35, .ref j36, .ref j37, .ref j38, .ref j39, .ref j40, .ref j41, .ref j42, .int 0, .int 0, .int 0, .int 0, .int 0, .int 0, .int 0, .int 0, .int 0, .ref j52, .ref j53, .int 0, .int 0, .ref j56, .ref j57, .ref j58, .ref j59, .ref j60, .ref j61, .ref j62, .ref j63, .ref j64, .ref j65, .int 0, .int 0, .int 0, .int 0, .int 0, .int 0, .int 0, .int 0, .int 0, .int 0, .int 0, .int 0, .ref j78, .ref j79, .ref j80, .ref j81, .ref j82, .int 0, .int 0, .ref j85, .ref j86])), (j13, aI g 2 z0)] H := by rw [hH]; exact hP
  have hS : va_S A s.heap H [] := by rw [hH]; exact hS
  refine lv_iload_n hx hb dX12_isReason_0 rfl (lv_at hl 1 rfl) ?_
  refine lv_iconst (v := 0) hx hb dX12_isReason_1 (by decide) ?_
  refine lv_aload_n hx hb dX12_isReason_2 rfl (lv_at hl 0 rfl) ?_
  refine va_get (D := g.1) (ci := 12) (v := .ref j13) (C := RX12) (T := TX12) (N := 87) hx hb hT inF_X12 hown hK.1 hP 0 rfl rfl 13 (by decide) (hT _ bw_226) (fun _ h9 => h9) rfl dX12_isReason_3 ?_
  refine lv_aload_n hx hb dX12_isReason_6 rfl (lv_at hl 0 rfl) ?_
  refine va_get (D := g.1) (ci := 12) (v := .int 0) (C := RX12) (T := TX12) (N := 87) hx hb hT inF_X12 hown hK.1 hP 0 rfl rfl 43 (by decide) (hT _ bw_221) (fun _ h9 => h9) rfl dX12_isReason_7 ?_
  refine va_iald hx hb hK.1 hP 1 1 rfl rfl (i := 0) (by unfold vp_in; decide) dX12_isReason_10 ?_
  refine p_ti (v := 0) (rfl) ?_
  refine lv_iconst (v := 1) hx hb dX12_isReason_11 (by decide) ?_
  refine lv_isub hx hb dX12_isReason_12 ?_
  refine p_ti (v := (-1)) (by decide +kernel) ?_
  refine k_iR (k_S (n := 3) ⟨hx, hb, hml, hown, hT⟩ hK hP hD [] rfl (by decide) (c_X12_isIn_m1 l g H.size p0) (gS bw_222 bw_223 bw_224 bw_219) rfl rfl (by decide +kernel) ⟨by decide, by decide⟩ (fun _ _ _ _ _ => trivial) (fun _ _ _ => trivial) rfl rfl hl.1 (Nat.le_of_ble_eq_true rfl) dX12_isReason_13 ⟨by decide, by decide⟩) hP hS hA (fun r_1 _ H locs hw hP hS => ?_)
  have hw : r_1 = 0 := hw
  subst hw
  have hP9 : va_P g.1 vwCl [] H := hP.sub [] rfl
  have hD9 : va_D A [] := ⟨fun i j p q h => by simp at h, fun k q h => by simp at h⟩
  exact W.zret (v := 0) (ty := .boolean) hx hb hr rfl (fun t ht hW => ⟨⟨0, (), rfl, rfl, by rw [ht]; exact hP9, by rw [hAe]; exact hD9⟩, hS.F ht⟩) hS.2.2 dX12_isReason_16

theorem bw_228 : Cond.fieldLink RX12 119 "DuelDelaysModel" "all" "[I" ∈ gT := gT_tb 1357 (by decide +kernel) (by decide +kernel)
theorem bw_229 : Cond.code yX12_isDuel cX12_isDuel 2 (some .boolean) ∈ gT := gT_tb 1765 (by decide +kernel) (by decide +kernel)
theorem dX12_isDuel_0 : decode cX12_isDuel 0 = .ok (.iload_n 1, 1) := by decide +kernel
theorem dX12_isDuel_1 : decode cX12_isDuel 1 = .ok (.iconst 0, 1) := by decide +kernel
theorem dX12_isDuel_2 : decode cX12_isDuel 2 = .ok (.aload_n 0, 1) := by decide +kernel
theorem dX12_isDuel_3 : decode cX12_isDuel 3 = .ok (.getfield 119, 3) := by decide +kernel
theorem dX12_isDuel_6 : decode cX12_isDuel 6 = .ok (.bipush 70, 2) := by decide +kernel
theorem dX12_isDuel_8 : decode cX12_isDuel 8 = .ok (.iaload, 1) := by decide +kernel
theorem dX12_isDuel_9 : decode cX12_isDuel 9 = .ok (.iconst 1, 1) := by decide +kernel
theorem dX12_isDuel_10 : decode cX12_isDuel 10 = .ok (.isub, 1) := by decide +kernel
theorem dX12_isDuel_11 : decode cX12_isDuel 11 = .ok (.invokestatic 411, 3) := by decide +kernel
theorem dX12_isDuel_14 : decode cX12_isDuel 14 = .ok (.ireturn, 1) := by decide +kernel
set_option maxHeartbeats 4000000 in
set_option maxRecDepth 100000 in
theorem c_X12_isDuel (l : Launch) (g : GG) (sz : Nat) (m_ : Nat) (j0 : Nat) (j1 : Nat) (j11 : Nat) (j12 : Nat) (j13 : Nat) (j14 : Nat) (j15 : Nat) (j16 : Nat) (j17 : Nat) (j18 : Nat) (j19 : Nat) (j20 : Nat) (j21 : Nat) (j22 : Nat) (j23 : Nat) (j24 : Nat) (j25 : Nat) (j26 : Nat) (j27 : Nat) (j28 : Nat) (j29 : Nat) (j30 : Nat) (j31 : Nat) (j32 : Nat) (j33 : Nat) (j34 : Nat) (j35 : Nat) (j36 : Nat) (j37 : Nat) (j38 : Nat) (j39 : Nat) (j40 : Nat) (j41 : Nat) (j42 : Nat) (j52 : Nat) (j53 : Nat) (j56 : Nat) (j57 : Nat) (j58 : Nat) (j59 : Nat) (j60 : Nat) (j61 : Nat) (j62 : Nat) (j63 : Nat) (j64 : Nat) (j65 : Nat) (j78 : Nat) (j79 : Nat) (j80 : Nat) (j81 : Nat) (j82 : Nat) (j85 : Nat) (j86 : Nat) (p0 : Int32) : Met l yX12_isDuel (.code yX12_isDuel cX12_isDuel 2 (some .boolean) :: gT) ({ frames := 1, cells := 0, slots := 0, locals := 22 }) (va_Pc [.ref m_, .int p0] (Pst g sz [(m_, .inr (12, [.ref j0, .ref j1, .int 0, .int 0, .int 0, .int (-1), .int 0, .int 0, .int 0, .int 0, .long 0, .ref j11, .ref j12, .ref j13, .ref j14, .ref j15, .ref j16, .ref j17, .ref j18, .ref j19, .ref j20, .ref j21, .ref j22, .ref j23, .ref j24, .ref j25, .ref j26, .ref j27, .ref j28, .ref j29, .ref j30, .ref j31, .ref j32, .ref j33, .ref j34, .ref j35, .ref j36, .ref j37, .ref j38, .ref j39, .ref j40, .ref j41, .ref j42, .int 0, .int 0, .int 0, .int 0, .int 0, .int 0, .int 0, .int 0, .int 0, .ref j52, .ref j53, .int 0, .int 0, .ref j56, .ref j57, .ref j58, .ref j59, .ref j60, .ref j61, .ref j62, .ref j63, .ref j64, .ref j65, .int 0, .int 0, .int 0, .int 0, .int 0, .int 0, .int 0, .int 0, .int 0, .int 0, .int 0, .int 0, .ref j78, .ref j79, .ref j80, .ref j81, .ref j82, .int 0, .int 0, .ref j85, .ref j86])), (j52, aI g 374 z0)] nX)) (va_Qi (fun (r : Int32) (_ : Unit) => r = 0) (Qst g [] sz (fun _ => [])) (va_A [] sz)) 0 0 (va_A [] sz) := by
  refine Met.ofW (cc := cX12_isDuel) (maxL := 2) (ret := (some .boolean)) (by decide) rfl ?_
  intro p e s m args below meth c s₁ B hml hv
  obtain ⟨rfl, hsz, hP, hK, hD0, hX⟩ := hv
  have hx := B.exec
  have hb := B.bytes
  have hr := B.returns
  have hT : ∀ w ∈ gT, w.before _ s = true := fun w h => atoms_spec (ws := .code yX12_isDuel cX12_isDuel 2 (some .boolean) :: gT) B.pre w (List.mem_cons_of_mem _ h)
  have hown : s.vm.findClass RX12 = some m.cls := findClass_of_methodNamed B.named
  have hlocks := B.notSynchronized
  subst hsz
  have hD := hD0
  generalize hAe : va_A [] s.heap.size = A at ⊢
  have hA : ∀ q : Nat, s.heap.size ≤ q → A q := fun q h => by rw [← hAe]; exact Or.inr h
  have hS : va_S A s.heap s.heap [] := va_S.rf
  have hl := lv_entry ([.ref m_, .int p0]) (n := 2) (Nat.le_of_ble_eq_true rfl)
  rw [lg_entry_eq]
  generalize (lg_sl ([.ref m_, .int p0]) ++ List.replicate (2 - (lg_sl ([.ref m_, .int p0])).length) Slot.unset).toArray = ls at hl ⊢
  have hl : lv_has ls 2 [(0, .ref m_), (1, .int p0)] := hl
  refine p_nH (fun H hH => ?_)
  have hP : va_P g.1 vwCl [(m_, .inr (12, [.ref j0, .ref j1, .int 0, .int 0, .int 0, .int (-1), .int 0, .int 0, .int 0, .int 0, .long 0, .ref j11, .ref j12, .ref j13, .ref j14, .ref j15, .ref j16, .ref j17, .ref j18, .ref j19, .ref j20, .ref j21, .ref j22, .ref j23, .ref j24, .ref j25, .ref j26, .ref j27, .ref j28, .ref j29, .ref j30, .ref j31, .ref j32, .ref j33, .ref j34, .ref j35, .ref j36, .ref j37, .ref j38, .ref j39, .ref j40, .ref j41, .ref j42, .int 0, .int 0, .int 0, .int 0, .int 0, .int 0, .int 0, .int 0, .int 0, .ref j52, .ref j53, .int 0, .int 0, .ref j56, .ref j57, .ref j58, .ref j59, .ref j60, .ref j61, .ref j62, .ref j63, .ref j64, .ref j65, .int 0, .int 0, .int 0, .int 0, .int 0, .int 0, .int 0, .int 0, .int 0, .int 0, .int 0, .int 0, .ref j78, .ref j79, .ref j80, .ref j81, .ref j82, .int 0, .int 0, .ref j85, .ref j86])), (j52, aI g 374 z0)] H := by rw [hH]; exact hP
  have hS : va_S A s.heap H [] := by rw [hH]; exact hS
  refine lv_iload_n hx hb dX12_isDuel_0 rfl (lv_at hl 1 rfl) ?_
  refine lv_iconst (v := 0) hx hb dX12_isDuel_1 (by decide) ?_
  refine lv_aload_n hx hb dX12_isDuel_2 rfl (lv_at hl 0 rfl) ?_
  refine va_get (D := g.1) (ci := 12) (v := .ref j52) (C := RX12) (T := TX12) (N := 87) hx hb hT inF_X12 hown hK.1 hP 0 rfl rfl 52 (by decide) (hT _ bw_228) (fun _ h9 => h9) rfl dX12_isDuel_3 ?_
  refine lv_bipush (v := 70) hx hb dX12_isDuel_6 (by decide) ?_
  refine va_iald hx hb hK.1 hP 1 1 rfl rfl (i := 70) (by unfold vp_in; decide) dX12_isDuel_8 ?_
  refine p_ti (v := 0) (rfl) ?_
  refine lv_iconst (v := 1) hx hb dX12_isDuel_9 (by decide) ?_
  refine lv_isub hx hb dX12_isDuel_10 ?_
  refine p_ti (v := (-1)) (by decide +kernel) ?_
  refine k_iR (k_S (n := 3) ⟨hx, hb, hml, hown, hT⟩ hK hP hD [] rfl (by decide) (c_X12_isIn_m1 l g H.size p0) (gS bw_222 bw_223 bw_224 bw_219) rfl rfl (by decide +kernel) ⟨by decide, by decide⟩ (fun _ _ _ _ _ => trivial) (fun _ _ _ => trivial) rfl rfl hl.1 (Nat.le_of_ble_eq_true rfl) dX12_isDuel_11 ⟨by decide, by decide⟩) hP hS hA (fun r_1 _ H locs hw hP hS => ?_)
  have hw : r_1 = 0 := hw
  subst hw
  have hP9 : va_P g.1 vwCl [] H := hP.sub [] rfl
  have hD9 : va_D A [] := ⟨fun i j p q h => by simp at h, fun k q h => by simp at h⟩
  exact W.zret (v := 0) (ty := .boolean) hx hb hr rfl (fun t ht hW => ⟨⟨0, (), rfl, rfl, by rw [ht]; exact hP9, by rw [hAe]; exact hD9⟩, hS.F ht⟩) hS.2.2 dX12_isDuel_14

theorem bw_230 : Cond.methodLink RX12 415 yX12_isDuel ∈ gT := gT_tb 1762 (by decide +kernel) (by decide +kernel)
theorem bw_231 : Cond.instanceMethod yX12_isDuel ∈ gT := gT_tb 1764 (by decide +kernel) (by decide +kernel)
theorem bw_232 : Cond.selects RX12 yX12_isDuel yX12_isDuel ∈ gT := gT_sl 88 (by decide +kernel) (by decide +kernel)
theorem bw_233 : Cond.initialized RX12 ∈ gT := gT_tb 19 (by decide +kernel) (by decide +kernel)
theorem bw_234 : Cond.code yX12_isOpen cX12_isOpen 2 (some .boolean) ∈ gT := gT_tb 1818 (by decide +kernel) (by decide +kernel)
theorem dX12_isOpen_0 : decode cX12_isOpen 0 = .ok (.aload_n 0, 1) := by decide +kernel
theorem dX12_isOpen_1 : decode cX12_isOpen 1 = .ok (.iload_n 1, 1) := by decide +kernel
theorem dX12_isOpen_2 : decode cX12_isOpen 2 = .ok (.invokevirtual 415, 3) := by decide +kernel
theorem dX12_isOpen_5 : decode cX12_isOpen 5 = .ok (.ifCond .eq 17, 3) := by decide +kernel
theorem dX12_isOpen_22 : decode cX12_isOpen 22 = .ok (.iconst 0, 1) := by decide +kernel
theorem dX12_isOpen_23 : decode cX12_isOpen 23 = .ok (.ireturn, 1) := by decide +kernel
set_option maxHeartbeats 4000000 in
set_option maxRecDepth 100000 in
theorem c_X12_isOpen (l : Launch) (g : GG) (sz : Nat) (m_ : Nat) (j0 : Nat) (j1 : Nat) (j11 : Nat) (j12 : Nat) (j13 : Nat) (j14 : Nat) (j15 : Nat) (j16 : Nat) (j17 : Nat) (j18 : Nat) (j19 : Nat) (j20 : Nat) (j21 : Nat) (j22 : Nat) (j23 : Nat) (j24 : Nat) (j25 : Nat) (j26 : Nat) (j27 : Nat) (j28 : Nat) (j29 : Nat) (j30 : Nat) (j31 : Nat) (j32 : Nat) (j33 : Nat) (j34 : Nat) (j35 : Nat) (j36 : Nat) (j37 : Nat) (j38 : Nat) (j39 : Nat) (j40 : Nat) (j41 : Nat) (j42 : Nat) (j52 : Nat) (j53 : Nat) (j56 : Nat) (j57 : Nat) (j58 : Nat) (j59 : Nat) (j60 : Nat) (j61 : Nat) (j62 : Nat) (j63 : Nat) (j64 : Nat) (j65 : Nat) (j78 : Nat) (j79 : Nat) (j80 : Nat) (j81 : Nat) (j82 : Nat) (j85 : Nat) (j86 : Nat) (p0 : Int32) : Met l yX12_isOpen (.code yX12_isOpen cX12_isOpen 2 (some .boolean) :: gT) ({ frames := 2, cells := 0, slots := 0, locals := 43 }) (va_Pc [.ref m_, .int p0] (Pst g sz [(m_, .inr (12, [.ref j0, .ref j1, .int 0, .int 0, .int 0, .int (-1), .int 0, .int 0, .int 0, .int 0, .long 0, .ref j11, .ref j12, .ref j13, .ref j14, .ref j15, .ref j16, .ref j17, .ref j18, .ref j19, .ref j20, .ref j21, .ref j22, .ref j23, .ref j24, .ref j25, .ref j26, .ref j27, .ref j28, .ref j29, .ref j30, .ref j31, .ref j32, .ref j33, .ref j34, .ref j35, .ref j36, .ref j37, .ref j38, .ref j39, .ref j40, .ref j41, .ref j42, .int 0, .int 0, .int 0, .int 0, .int 0, .int 0, .int 0, .int 0, .int 0, .ref j52, .ref j53, .int 0, .int 0, .ref j56, .ref j57, .ref j58, .ref j59, .ref j60, .ref j61, .ref j62, .ref j63, .ref j64, .ref j65, .int 0, .int 0, .int 0, .int 0, .int 0, .int 0, .int 0, .int 0, .int 0, .int 0, .int 0, .int 0, .ref j78, .ref j79, .ref j80, .ref j81, .ref j82, .int 0, .int 0, .ref j85, .ref j86])), (j52, aI g 374 z0)] nX)) (va_Qi (fun (r : Int32) (_ : Unit) => r = 0) (Qst g [] sz (fun _ => [])) (va_A [] sz)) 0 0 (va_A [] sz) := by
  refine Met.ofW (cc := cX12_isOpen) (maxL := 2) (ret := (some .boolean)) (by decide) rfl ?_
  intro p e s m args below meth c s₁ B hml hv
  obtain ⟨rfl, hsz, hP, hK, hD0, hX⟩ := hv
  have hx := B.exec
  have hb := B.bytes
  have hr := B.returns
  have hT : ∀ w ∈ gT, w.before _ s = true := fun w h => atoms_spec (ws := .code yX12_isOpen cX12_isOpen 2 (some .boolean) :: gT) B.pre w (List.mem_cons_of_mem _ h)
  have hown : s.vm.findClass RX12 = some m.cls := findClass_of_methodNamed B.named
  have hlocks := B.notSynchronized
  subst hsz
  have hD := hD0
  generalize hAe : va_A [] s.heap.size = A at ⊢
  have hA : ∀ q : Nat, s.heap.size ≤ q → A q := fun q h => by rw [← hAe]; exact Or.inr h
  have hS : va_S A s.heap s.heap [] := va_S.rf
  have hl := lv_entry ([.ref m_, .int p0]) (n := 2) (Nat.le_of_ble_eq_true rfl)
  rw [lg_entry_eq]
  generalize (lg_sl ([.ref m_, .int p0]) ++ List.replicate (2 - (lg_sl ([.ref m_, .int p0])).length) Slot.unset).toArray = ls at hl ⊢
  have hl : lv_has ls 2 [(0, .ref m_), (1, .int p0)] := hl
  refine p_nH (fun H hH => ?_)
  have hP : va_P g.1 vwCl [(m_, .inr (12, [.ref j0, .ref j1, .int 0, .int 0, .int 0, .int (-1), .int 0, .int 0, .int 0, .int 0, .long 0, .ref j11, .ref j12, .ref j13, .ref j14, .ref j15, .ref j16, .ref j17, .ref j18, .ref j19, .ref j20, .ref j21, .ref j22, .ref j23, .ref j24, .ref j25, .ref j26, .ref j27, .ref j28, .ref j29, .ref j30, .ref j31, .ref j32, .ref j33, .ref j34, .ref j35, .ref j36, .ref j37, .ref j38, .ref j39, .ref j40, .ref j41, .ref j42, .int 0, .int 0, .int 0, .int 0, .int 0, .int 0, .int 0, .int 0, .int 0, .ref j52, .ref j53, .int 0, .int 0, .ref j56, .ref j57, .ref j58, .ref j59, .ref j60, .ref j61, .ref j62, .ref j63, .ref j64, .ref j65, .int 0, .int 0, .int 0, .int 0, .int 0, .int 0, .int 0, .int 0, .int 0, .int 0, .int 0, .int 0, .ref j78, .ref j79, .ref j80, .ref j81, .ref j82, .int 0, .int 0, .ref j85, .ref j86])), (j52, aI g 374 z0)] H := by rw [hH]; exact hP
  have hS : va_S A s.heap H [] := by rw [hH]; exact hS
  refine lv_aload_n hx hb dX12_isOpen_0 rfl (lv_at hl 0 rfl) ?_
  refine lv_iload_n hx hb dX12_isOpen_1 rfl (lv_at hl 1 rfl) ?_
  refine k_iR (k_V (n := 1) ⟨hx, hb, hml, hown, hT⟩ hK hP hD [0, 1] rfl (by decide) (c_X12_isDuel l g H.size m_ j0 j1 j11 j12 j13 j14 j15 j16 j17 j18 j19 j20 j21 j22 j23 j24 j25 j26 j27 j28 j29 j30 j31 j32 j33 j34 j35 j36 j37 j38 j39 j40 j41 j42 j52 j53 j56 j57 j58 j59 j60 j61 j62 j63 j64 j65 j78 j79 j80 j81 j82 j85 j86 p0) (gV bw_230 bw_231 bw_232 bw_233 bw_229) rfl rfl (by decide +kernel) ⟨by decide, by decide⟩ (ci := 12) (q0 := 0) rfl rfl (fun _ _ _ _ _ => trivial) (fun _ _ _ => trivial) rfl rfl hl.1 (Nat.le_of_ble_eq_true rfl) dX12_isOpen_2 ⟨by decide, by decide⟩) hP hS hA (fun r_1 _ H locs hw hP hS => ?_)
  have hw : r_1 = 0 := hw
  subst hw
  refine lv_if_eq (tgt := 22) hx hb dX12_isOpen_5 (by decide) (fun _ => ?_) (fun c9 => absurd (by decide) c9)
  refine lv_iconst (v := 0) hx hb dX12_isOpen_22 (by decide) ?_
  have hP9 : va_P g.1 vwCl [] H := hP.sub [] rfl
  have hD9 : va_D A [] := ⟨fun i j p q h => by simp at h, fun k q h => by simp at h⟩
  exact W.zret (v := 0) (ty := .boolean) hx hb hr rfl (fun t ht hW => ⟨⟨0, (), rfl, rfl, by rw [ht]; exact hP9, by rw [hAe]; exact hD9⟩, hS.F ht⟩) hS.2.2 dX12_isOpen_23

theorem bw_235 : Cond.code yX12_isSide cX12_isSide 1 (some .boolean) ∈ gT := gT_tb 1810 (by decide +kernel) (by decide +kernel)
theorem dX12_isSide_0 : decode cX12_isSide 0 = .ok (.iload_n 0, 1) := by decide +kernel
theorem dX12_isSide_1 : decode cX12_isSide 1 = .ok (.ifCond .eq 8, 3) := by decide +kernel
theorem dX12_isSide_4 : decode cX12_isSide 4 = .ok (.iload_n 0, 1) := by decide +kernel
theorem dX12_isSide_5 : decode cX12_isSide 5 = .ok (.iconst 1, 1) := by decide +kernel
theorem dX12_isSide_6 : decode cX12_isSide 6 = .ok (.if_icmp .ne 7, 3) := by decide +kernel
theorem dX12_isSide_9 : decode cX12_isSide 9 = .ok (.iconst 1, 1) := by decide +kernel
theorem dX12_isSide_10 : decode cX12_isSide 10 = .ok (.goto 4, 3) := by decide +kernel
theorem dX12_isSide_13 : decode cX12_isSide 13 = .ok (.iconst 0, 1) := by decide +kernel
theorem dX12_isSide_14 : decode cX12_isSide 14 = .ok (.ireturn, 1) := by decide +kernel
set_option maxHeartbeats 4000000 in
set_option maxRecDepth 100000 in
theorem c_X12_isSide (l : Launch) (g : GG) (sz : Nat) (p0 : Int32) : Met l yX12_isSide (.code yX12_isSide cX12_isSide 1 (some .boolean) :: gT) ({ frames := 0, cells := 0, slots := 0, locals := 0 }) (va_Pc [.int p0] (Pst g sz [] nX)) (va_Qi (fun (r : Int32) (_ : Unit) => True) (Qst g [] sz (fun _ => [])) (va_A [] sz)) 0 0 (va_A [] sz) := by
  refine Met.ofW (cc := cX12_isSide) (maxL := 1) (ret := (some .boolean)) (by decide) rfl ?_
  intro p e s m args below meth c s₁ B hml hv
  obtain ⟨rfl, hsz, hP, hK, hD0, hX⟩ := hv
  have hx := B.exec
  have hb := B.bytes
  have hr := B.returns
  have hT : ∀ w ∈ gT, w.before _ s = true := fun w h => atoms_spec (ws := .code yX12_isSide cX12_isSide 1 (some .boolean) :: gT) B.pre w (List.mem_cons_of_mem _ h)
  have hown : s.vm.findClass RX12 = some m.cls := findClass_of_methodNamed B.named
  have hlocks := B.notSynchronized
  subst hsz
  have hD := hD0
  generalize hAe : va_A [] s.heap.size = A at ⊢
  have hA : ∀ q : Nat, s.heap.size ≤ q → A q := fun q h => by rw [← hAe]; exact Or.inr h
  have hS : va_S A s.heap s.heap [] := va_S.rf
  have hl := lv_entry ([.int p0]) (n := 1) (Nat.le_of_ble_eq_true rfl)
  rw [lg_entry_eq]
  generalize (lg_sl ([.int p0]) ++ List.replicate (1 - (lg_sl ([.int p0])).length) Slot.unset).toArray = ls at hl ⊢
  have hl : lv_has ls 1 [(0, .int p0)] := hl
  refine p_nH (fun H hH => ?_)
  have hP : va_P g.1 vwCl [] H := by rw [hH]; exact hP
  have hS : va_S A s.heap H [] := by rw [hH]; exact hS
  refine lv_iload_n hx hb dX12_isSide_0 rfl (lv_at hl 0 rfl) ?_
  refine lv_if_eq (tgt := 9) hx hb dX12_isSide_1 (by decide) (fun c_1 => ?_) (fun c_1 => ?_)
  · refine lv_iconst (v := 1) hx hb dX12_isSide_9 (by decide) ?_
    refine lv_goto (tgt := 14) hx hb dX12_isSide_10 (by decide) ?_
    have hP9 : va_P g.1 vwCl [] H := hP.sub [] rfl
    have hD9 : va_D A [] := ⟨fun i j p q h => by simp at h, fun k q h => by simp at h⟩
    exact W.zret (v := 1) (ty := .boolean) hx hb hr rfl (fun t ht hW => ⟨⟨1, (), rfl, trivial, by rw [ht]; exact hP9, by rw [hAe]; exact hD9⟩, hS.F ht⟩) hS.2.2 dX12_isSide_14
  · refine lv_iload_n hx hb dX12_isSide_4 rfl (lv_at hl 0 rfl) ?_
    refine lv_iconst (v := 1) hx hb dX12_isSide_5 (by decide) ?_
    refine lv_icmp_ne (tgt := 13) hx hb dX12_isSide_6 (by decide) (fun c_2 => ?_) (fun c_2 => ?_)
    · refine lv_iconst (v := 0) hx hb dX12_isSide_13 (by decide) ?_
      have hP9 : va_P g.1 vwCl [] H := hP.sub [] rfl
      have hD9 : va_D A [] := ⟨fun i j p q h => by simp at h, fun k q h => by simp at h⟩
      exact W.zret (v := 0) (ty := .boolean) hx hb hr rfl (fun t ht hW => ⟨⟨0, (), rfl, trivial, by rw [ht]; exact hP9, by rw [hAe]; exact hD9⟩, hS.F ht⟩) hS.2.2 dX12_isSide_14
    · refine lv_iconst (v := 1) hx hb dX12_isSide_9 (by decide) ?_
      refine lv_goto (tgt := 14) hx hb dX12_isSide_10 (by decide) ?_
      have hP9 : va_P g.1 vwCl [] H := hP.sub [] rfl
      have hD9 : va_D A [] := ⟨fun i j p q h => by simp at h, fun k q h => by simp at h⟩
      exact W.zret (v := 1) (ty := .boolean) hx hb hr rfl (fun t ht hW => ⟨⟨1, (), rfl, trivial, by rw [ht]; exact hP9, by rw [hAe]; exact hD9⟩, hS.F ht⟩) hS.2.2 dX12_isSide_14

theorem bw_236 : Cond.code yX12_openMany cX12_openMany 3 (some .int) ∈ gT := gT_tb 2064 (by decide +kernel) (by decide +kernel)
theorem dX12_openMany_0 : decode cX12_openMany 0 = .ok (.iconst 0, 1) := by decide +kernel
theorem dX12_openMany_1 : decode cX12_openMany 1 = .ok (.istore_n 1, 1) := by decide +kernel
theorem dX12_openMany_2 : decode cX12_openMany 2 = .ok (.iconst 0, 1) := by decide +kernel
theorem dX12_openMany_3 : decode cX12_openMany 3 = .ok (.istore_n 2, 1) := by decide +kernel
theorem dX12_openMany_4 : decode cX12_openMany 4 = .ok (.iload_n 2, 1) := by decide +kernel
theorem dX12_openMany_5 : decode cX12_openMany 5 = .ok (.aload_n 0, 1) := by decide +kernel
theorem dX12_openMany_6 : decode cX12_openMany 6 = .ok (.getfield 119, 3) := by decide +kernel
theorem dX12_openMany_9 : decode cX12_openMany 9 = .ok (.bipush 70, 2) := by decide +kernel
theorem dX12_openMany_11 : decode cX12_openMany 11 = .ok (.iaload, 1) := by decide +kernel
theorem dX12_openMany_12 : decode cX12_openMany 12 = .ok (.if_icmp .ge 18, 3) := by decide +kernel
theorem dX12_openMany_30 : decode cX12_openMany 30 = .ok (.iload_n 1, 1) := by decide +kernel
theorem dX12_openMany_31 : decode cX12_openMany 31 = .ok (.ireturn, 1) := by decide +kernel
set_option maxHeartbeats 4000000 in
set_option maxRecDepth 100000 in
theorem c_X12_openMany (l : Launch) (g : GG) (sz : Nat) (m_ : Nat) (j0 : Nat) (j1 : Nat) (j11 : Nat) (j12 : Nat) (j13 : Nat) (j14 : Nat) (j15 : Nat) (j16 : Nat) (j17 : Nat) (j18 : Nat) (j19 : Nat) (j20 : Nat) (j21 : Nat) (j22 : Nat) (j23 : Nat) (j24 : Nat) (j25 : Nat) (j26 : Nat) (j27 : Nat) (j28 : Nat) (j29 : Nat) (j30 : Nat) (j31 : Nat) (j32 : Nat) (j33 : Nat) (j34 : Nat) (j35 : Nat) (j36 : Nat) (j37 : Nat) (j38 : Nat) (j39 : Nat) (j40 : Nat) (j41 : Nat) (j42 : Nat) (j52 : Nat) (j53 : Nat) (j56 : Nat) (j57 : Nat) (j58 : Nat) (j59 : Nat) (j60 : Nat) (j61 : Nat) (j62 : Nat) (j63 : Nat) (j64 : Nat) (j65 : Nat) (j78 : Nat) (j79 : Nat) (j80 : Nat) (j81 : Nat) (j82 : Nat) (j85 : Nat) (j86 : Nat) : Met l yX12_openMany (.code yX12_openMany cX12_openMany 3 (some .int) :: gT) ({ frames := 0, cells := 0, slots := 0, locals := 0 }) (va_Pc [.ref m_] (Pst g sz [(m_, .inr (12, [.ref j0, .ref j1, .int 0, .int 0, .int 0, .int (-1), .int 0, .int 0, .int 0, .int 0, .long 0, .ref j11, .ref j12, .ref j13, .ref j14, .ref j15, .ref j16, .ref j17, .ref j18, .ref j19, .ref j20, .ref j21, .ref j22, .ref j23, .ref j24, .ref j25, .ref j26, .ref j27, .ref j28, .ref j29, .ref j30, .ref j31, .ref j32, .ref j33, .ref j34, .ref j35, .ref j36, .ref j37, .ref j38, .ref j39, .ref j40, .ref j41, .ref j42, .int 0, .int 0, .int 0, .int 0, .int 0, .int 0, .int 0, .int 0, .int 0, .ref j52, .ref j53, .int 0, .int 0, .ref j56, .ref j57, .ref j58, .ref j59, .ref j60, .ref j61, .ref j62, .ref j63, .ref j64, .ref j65, .int 0, .int 0, .int 0, .int 0, .int 0, .int 0, .int 0, .int 0, .int 0, .int 0, .int 0, .int 0, .ref j78, .ref j79, .ref j80, .ref j81, .ref j82, .int 0, .int 0, .ref j85, .ref j86])), (j52, aI g 374 z0)] nX)) (va_Qi (fun (r : Int32) (_ : Unit) => r = 0) (Qst g [] sz (fun _ => [])) (va_A [] sz)) 0 0 (va_A [] sz) := by
  refine Met.ofW (cc := cX12_openMany) (maxL := 3) (ret := (some .int)) (by decide) rfl ?_
  intro p e s m args below meth c s₁ B hml hv
  obtain ⟨rfl, hsz, hP, hK, hD0, hX⟩ := hv
  have hx := B.exec
  have hb := B.bytes
  have hr := B.returns
  have hT : ∀ w ∈ gT, w.before _ s = true := fun w h => atoms_spec (ws := .code yX12_openMany cX12_openMany 3 (some .int) :: gT) B.pre w (List.mem_cons_of_mem _ h)
  have hown : s.vm.findClass RX12 = some m.cls := findClass_of_methodNamed B.named
  have hlocks := B.notSynchronized
  subst hsz
  have hD := hD0
  generalize hAe : va_A [] s.heap.size = A at ⊢
  have hA : ∀ q : Nat, s.heap.size ≤ q → A q := fun q h => by rw [← hAe]; exact Or.inr h
  have hS : va_S A s.heap s.heap [] := va_S.rf
  have hl := lv_entry ([.ref m_]) (n := 3) (Nat.le_of_ble_eq_true rfl)
  rw [lg_entry_eq]
  generalize (lg_sl ([.ref m_]) ++ List.replicate (3 - (lg_sl ([.ref m_])).length) Slot.unset).toArray = ls at hl ⊢
  have hl : lv_has ls 3 [(0, .ref m_)] := hl
  refine p_nH (fun H hH => ?_)
  have hP : va_P g.1 vwCl [(m_, .inr (12, [.ref j0, .ref j1, .int 0, .int 0, .int 0, .int (-1), .int 0, .int 0, .int 0, .int 0, .long 0, .ref j11, .ref j12, .ref j13, .ref j14, .ref j15, .ref j16, .ref j17, .ref j18, .ref j19, .ref j20, .ref j21, .ref j22, .ref j23, .ref j24, .ref j25, .ref j26, .ref j27, .ref j28, .ref j29, .ref j30, .ref j31, .ref j32, .ref j33, .ref j34, .ref j35, .ref j36, .ref j37, .ref j38, .ref j39, .ref j40, .ref j41, .ref j42, .int 0, .int 0, .int 0, .int 0, .int 0, .int 0, .int 0, .int 0, .int 0, .ref j52, .ref j53, .int 0, .int 0, .ref j56, .ref j57, .ref j58, .ref j59, .ref j60, .ref j61, .ref j62, .ref j63, .ref j64, .ref j65, .int 0, .int 0, .int 0, .int 0, .int 0, .int 0, .int 0, .int 0, .int 0, .int 0, .int 0, .int 0, .ref j78, .ref j79, .ref j80, .ref j81, .ref j82, .int 0, .int 0, .ref j85, .ref j86])), (j52, aI g 374 z0)] H := by rw [hH]; exact hP
  have hS : va_S A s.heap H [] := by rw [hH]; exact hS
  refine lv_iconst (v := 0) hx hb dX12_openMany_0 (by decide) ?_
  refine lv_istore_n (lv' := [(1, .int 0), (0, .ref m_)]) hx hb dX12_openMany_1 rfl hl (by decide) rfl (fun ls hl => ?_)
  refine lv_iconst (v := 0) hx hb dX12_openMany_2 (by decide) ?_
  refine lv_istore_n (lv' := [(2, .int 0), (1, .int 0), (0, .ref m_)]) hx hb dX12_openMany_3 rfl hl (by decide) rfl (fun ls hl => ?_)
  refine lv_iload_n hx hb dX12_openMany_4 rfl (lv_at hl 0 rfl) ?_
  refine lv_aload_n hx hb dX12_openMany_5 rfl (lv_at hl 2 rfl) ?_
  refine va_get (D := g.1) (ci := 12) (v := .ref j52) (C := RX12) (T := TX12) (N := 87) hx hb hT inF_X12 hown hK.1 hP 0 rfl rfl 52 (by decide) (hT _ bw_228) (fun _ h9 => h9) rfl dX12_openMany_6 ?_
  refine lv_bipush (v := 70) hx hb dX12_openMany_9 (by decide) ?_
  refine va_iald hx hb hK.1 hP 1 1 rfl rfl (i := 70) (by unfold vp_in; decide) dX12_openMany_11 ?_
  refine p_ti (v := 0) (rfl) ?_
  refine lv_icmp_ge (tgt := 30) hx hb dX12_openMany_12 (by decide) (fun _ => ?_) (fun c9 => absurd (by decide) c9)
  refine lv_iload_n hx hb dX12_openMany_30 rfl (lv_at hl 1 rfl) ?_
  have hP9 : va_P g.1 vwCl [] H := hP.sub [] rfl
  have hD9 : va_D A [] := ⟨fun i j p q h => by simp at h, fun k q h => by simp at h⟩
  exact W.iret (v := 0) hx hb hr (fun t ht hW => ⟨⟨0, (), rfl, rfl, by rw [ht]; exact hP9, by rw [hAe]; exact hD9⟩, hS.F ht⟩) hS.2.2 dX12_openMany_31

theorem bw_237 : Cond.fieldLink RX12 185 "DuelDelaysModel" "faultKind" "I" ∈ gT := gT_tb 1309 (by decide +kernel) (by decide +kernel)
theorem bw_238 : Cond.code yX12_isGood cX12_isGood 1 (some .boolean) ∈ gT := gT_tb 1618 (by decide +kernel) (by decide +kernel)
theorem dX12_isGood_0 : decode cX12_isGood 0 = .ok (.aload_n 0, 1) := by decide +kernel
theorem dX12_isGood_1 : decode cX12_isGood 1 = .ok (.getfield 185, 3) := by decide +kernel
theorem dX12_isGood_4 : decode cX12_isGood 4 = .ok (.ifCond .ne 7, 3) := by decide +kernel
theorem dX12_isGood_7 : decode cX12_isGood 7 = .ok (.iconst 1, 1) := by decide +kernel
theorem dX12_isGood_8 : decode cX12_isGood 8 = .ok (.goto 4, 3) := by decide +kernel
theorem dX12_isGood_12 : decode cX12_isGood 12 = .ok (.ireturn, 1) := by decide +kernel
set_option maxHeartbeats 4000000 in
set_option maxRecDepth 100000 in
theorem c_X12_isGood (l : Launch) (g : GG) (sz : Nat) (m_ : Nat) (j0 : Nat) (j1 : Nat) (j11 : Nat) (j12 : Nat) (j13 : Nat) (j14 : Nat) (j15 : Nat) (j16 : Nat) (j17 : Nat) (j18 : Nat) (j19 : Nat) (j20 : Nat) (j21 : Nat) (j22 : Nat) (j23 : Nat) (j24 : Nat) (j25 : Nat) (j26 : Nat) (j27 : Nat) (j28 : Nat) (j29 : Nat) (j30 : Nat) (j31 : Nat) (j32 : Nat) (j33 : Nat) (j34 : Nat) (j35 : Nat) (j36 : Nat) (j37 : Nat) (j38 : Nat) (j39 : Nat) (j40 : Nat) (j41 : Nat) (j42 : Nat) (j52 : Nat) (j53 : Nat) (j56 : Nat) (j57 : Nat) (j58 : Nat) (j59 : Nat) (j60 : Nat) (j61 : Nat) (j62 : Nat) (j63 : Nat) (j64 : Nat) (j65 : Nat) (j78 : Nat) (j79 : Nat) (j80 : Nat) (j81 : Nat) (j82 : Nat) (j85 : Nat) (j86 : Nat) : Met l yX12_isGood (.code yX12_isGood cX12_isGood 1 (some .boolean) :: gT) ({ frames := 0, cells := 0, slots := 0, locals := 0 }) (va_Pc [.ref m_] (Pst g sz [(m_, .inr (12, [.ref j0, .ref j1, .int 0, .int 0, .int 0, .int (-1), .int 0, .int 0, .int 0, .int 0, .long 0, .ref j11, .ref j12, .ref j13, .ref j14, .ref j15, .ref j16, .ref j17, .ref j18, .ref j19, .ref j20, .ref j21, .ref j22, .ref j23, .ref j24, .ref j25, .ref j26, .ref j27, .ref j28, .ref j29, .ref j30, .ref j31, .ref j32, .ref j33, .ref j34, .ref j35, .ref j36, .ref j37, .ref j38, .ref j39, .ref j40, .ref j41, .ref j42, .int 0, .int 0, .int 0, .int 0, .int 0, .int 0, .int 0, .int 0, .int 0, .ref j52, .ref j53, .int 0, .int 0, .ref j56, .ref j57, .ref j58, .ref j59, .ref j60, .ref j61, .ref j62, .ref j63, .ref j64, .ref j65, .int 0, .int 0, .int 0, .int 0, .int 0, .int 0, .int 0, .int 0, .int 0, .int 0, .int 0, .int 0, .ref j78, .ref j79, .ref j80, .ref j81, .ref j82, .int 0, .int 0, .ref j85, .ref j86]))] nX)) (va_Qi (fun (r : Int32) (_ : Unit) => r = 1) (Qst g [] sz (fun _ => [])) (va_A [] sz)) 0 0 (va_A [] sz) := by
  refine Met.ofW (cc := cX12_isGood) (maxL := 1) (ret := (some .boolean)) (by decide) rfl ?_
  intro p e s m args below meth c s₁ B hml hv
  obtain ⟨rfl, hsz, hP, hK, hD0, hX⟩ := hv
  have hx := B.exec
  have hb := B.bytes
  have hr := B.returns
  have hT : ∀ w ∈ gT, w.before _ s = true := fun w h => atoms_spec (ws := .code yX12_isGood cX12_isGood 1 (some .boolean) :: gT) B.pre w (List.mem_cons_of_mem _ h)
  have hown : s.vm.findClass RX12 = some m.cls := findClass_of_methodNamed B.named
  have hlocks := B.notSynchronized
  subst hsz
  have hD := hD0
  generalize hAe : va_A [] s.heap.size = A at ⊢
  have hA : ∀ q : Nat, s.heap.size ≤ q → A q := fun q h => by rw [← hAe]; exact Or.inr h
  have hS : va_S A s.heap s.heap [] := va_S.rf
  have hl := lv_entry ([.ref m_]) (n := 1) (Nat.le_of_ble_eq_true rfl)
  rw [lg_entry_eq]
  generalize (lg_sl ([.ref m_]) ++ List.replicate (1 - (lg_sl ([.ref m_])).length) Slot.unset).toArray = ls at hl ⊢
  have hl : lv_has ls 1 [(0, .ref m_)] := hl
  refine p_nH (fun H hH => ?_)
  have hP : va_P g.1 vwCl [(m_, .inr (12, [.ref j0, .ref j1, .int 0, .int 0, .int 0, .int (-1), .int 0, .int 0, .int 0, .int 0, .long 0, .ref j11, .ref j12, .ref j13, .ref j14, .ref j15, .ref j16, .ref j17, .ref j18, .ref j19, .ref j20, .ref j21, .ref j22, .ref j23, .ref j24, .ref j25, .ref j26, .ref j27, .ref j28, .ref j29, .ref j30, .ref j31, .ref j32, .ref j33, .ref j34, .ref j35, .ref j36, .ref j37, .ref j38, .ref j39, .ref j40, .ref j41, .ref j42, .int 0, .int 0, .int 0, .int 0, .int 0, .int 0, .int 0, .int 0, .int 0, .ref j52, .ref j53, .int 0, .int 0, .ref j56, .ref j57, .ref j58, .ref j59, .ref j60, .ref j61, .ref j62, .ref j63, .ref j64, .ref j65, .int 0, .int 0, .int 0, .int 0, .int 0, .int 0, .int 0, .int 0, .int 0, .int 0, .int 0, .int 0, .ref j78, .ref j79, .ref j80, .ref j81, .ref j82, .int 0, .int 0, .ref j85, .ref j86]))] H := by rw [hH]; exact hP
  have hS : va_S A s.heap H [] := by rw [hH]; exact hS
  refine lv_aload_n hx hb dX12_isGood_0 rfl (lv_at hl 0 rfl) ?_
  refine va_get (D := g.1) (ci := 12) (v := .int 0) (C := RX12) (T := TX12) (N := 87) hx hb hT inF_X12 hown hK.1 hP 0 rfl rfl 4 (by decide) (hT _ bw_237) (fun _ h9 => h9) rfl dX12_isGood_1 ?_
  refine lv_if_ne (tgt := 11) hx hb dX12_isGood_4 (by decide) (fun c9 => absurd (by decide) c9) (fun _ => ?_)
  refine lv_iconst (v := 1) hx hb dX12_isGood_7 (by decide) ?_
  refine lv_goto (tgt := 12) hx hb dX12_isGood_8 (by decide) ?_
  have hP9 : va_P g.1 vwCl [] H := hP.sub [] rfl
  have hD9 : va_D A [] := ⟨fun i j p q h => by simp at h, fun k q h => by simp at h⟩
  exact W.zret (v := 1) (ty := .boolean) hx hb hr rfl (fun t ht hW => ⟨⟨1, (), rfl, rfl, by rw [ht]; exact hP9, by rw [hAe]; exact hD9⟩, hS.F ht⟩) hS.2.2 dX12_isGood_12
