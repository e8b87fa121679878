theorem bw_239 : Cond.methodLink RX12 437 yX12_isMan ∈ gT := gT_tb 1743 (by decide +kernel) (by decide +kernel)
theorem bw_240 : Cond.instanceMethod yX12_isMan ∈ gT := gT_tb 1745 (by decide +kernel) (by decide +kernel)
theorem bw_241 : Cond.selects RX12 yX12_isMan yX12_isMan ∈ gT := gT_sl 85 (by decide +kernel) (by decide +kernel)
theorem bw_242 : Cond.code yX12_man cX12_man 3 (some .int) ∈ gT := gT_tb 1742 (by decide +kernel) (by decide +kernel)
theorem dX12_man_0 : decode cX12_man 0 = .ok (.aload_n 0, 1) := by decide +kernel
theorem dX12_man_1 : decode cX12_man 1 = .ok (.iload_n 1, 1) := by decide +kernel
theorem dX12_man_2 : decode cX12_man 2 = .ok (.invokevirtual 437, 3) := by decide +kernel
theorem dX12_man_5 : decode cX12_man 5 = .ok (.ifCond .ne 6, 3) := by decide +kernel
theorem dX12_man_8 : decode cX12_man 8 = .ok (.bipush (-2), 2) := by decide +kernel
theorem dX12_man_10 : decode cX12_man 10 = .ok (.ireturn, 1) := by decide +kernel
set_option maxHeartbeats 4000000 in
set_option maxRecDepth 100000 in
theorem c_X12_man (l : Launch) (g : GG) (sz : Nat) (m_ : Nat) (j0 : Nat) (j1 : Nat) (j11 : Nat) (j12 : Nat) (j13 : Nat) (j14 : Nat) (j15 : Nat) (j16 : Nat) (j17 : Nat) (j18 : Nat) (j19 : Nat) (j20 : Nat) (j21 : Nat) (j22 : Nat) (j23 : Nat) (j24 : Nat) (j25 : Nat) (j26 : Nat) (j27 : Nat) (j28 : Nat) (j29 : Nat) (j30 : Nat) (j31 : Nat) (j32 : Nat) (j33 : Nat) (j34 : Nat) (j35 : Nat) (j36 : Nat) (j37 : Nat) (j38 : Nat) (j39 : Nat) (j40 : Nat) (j41 : Nat) (j42 : Nat) (j52 : Nat) (j53 : Nat) (j56 : Nat) (j57 : Nat) (j58 : Nat) (j59 : Nat) (j60 : Nat) (j61 : Nat) (j62 : Nat) (j63 : Nat) (j64 : Nat) (j65 : Nat) (j78 : Nat) (j79 : Nat) (j80 : Nat) (j81 : Nat) (j82 : Nat) (j85 : Nat) (j86 : Nat) (p0 : Int32) (p1 : Int32) : Met l yX12_man (.code yX12_man cX12_man 3 (some .int) :: gT) ({ frames := 2, cells := 0, slots := 0, locals := 43 }) (va_Pc [.ref m_, .int p0, .int p1] (Pst g sz [(m_, .inr (12, [.ref j0, .ref j1, .int 0, .int 0, .int 0, .int (-1), .int 0, .int 0, .int 0, .int 0, .long 0, .ref j11, .ref j12, .ref j13, .ref j14, .ref j15, .ref j16, .ref j17, .ref j18, .ref j19, .ref j20, .ref j21, .ref j22, .ref j23, .ref j24, .ref j25, .ref j26, .ref j27, .ref j28, .ref j29, .ref j30, .ref j31, .ref j32, .ref j33, .ref j34, .ref j35, .ref j36, .ref j37, .ref j38, .ref j39, .ref j40, .ref j41, .ref j42, .int 0, .int 0, .int 0, .int 0, .int 0, .int 0, .int 0, .int 0, .int 0, .ref j52, .ref j53, .int 0, .int 0, .ref j56, .ref j57, .ref j58, .ref j59, .ref j60, .ref j61, .ref j62, .ref j63, .ref j64, .ref j65, .int 0, .int 0, .int 0, .int 0, .int 0, .int 0, .int 0, .int 0, .int 0, .int 0, .int 0, .int 0, .ref j78, .ref j79, .ref j80, .ref j81, .ref j82, .int 0, .int 0, .ref j85, .ref j86])), (j11, aI g 2 z0)] nX)) (va_Qi (fun (r : Int32) (_ : Unit) => r = (-2)) (Qst g [] sz (fun _ => [])) (va_A [] sz)) 0 0 (va_A [] sz) := by
  refine Met.ofW (cc := cX12_man) (maxL := 3) (ret := (some .int)) (by decide) rfl ?_
  intro p e s m args below meth c s₁ B hml hv
  obtain ⟨rfl, hsz, hP, hK, hD0, hX⟩ := hv
  have hx := B.exec
  have hb := B.bytes
  have hr := B.returns
  have hT : ∀ w ∈ gT, w.before _ s = true := fun w h => atoms_spec (ws := .code yX12_man cX12_man 3 (some .int) :: gT) B.pre w (List.mem_cons_of_mem _ h)
  have hown : s.vm.findClass RX12 = some m.cls := findClass_of_methodNamed B.named
  have hlocks := B.notSynchronized
  subst hsz
  have hD := hD0
  generalize hAe : va_A [] s.heap.size = A at ⊢
  have hA : ∀ q : Nat, s.heap.size ≤ q → A q := fun q h => by rw [← hAe]; exact Or.inr h
  have hS : va_S A s.heap s.heap [] := va_S.rf
  have hl := lv_entry ([.ref m_, .int p0, .int p1]) (n := 3) (Nat.le_of_ble_eq_true rfl)
  rw [lg_entry_eq]
  generalize (lg_sl ([.ref m_, .int p0, .int p1]) ++ List.replicate (3 - (lg_sl ([.ref m_, .int p0, .int p1])).length) Slot.unset).toArray = ls at hl ⊢
  have hl : lv_has ls 3 [(0, .ref m_), (1, .int p0), (2, .int p1)] := hl
  refine p_nH (fun H hH => ?_)
  have hP : va_P g.1 vwCl [(m_, .inr (12, [.ref j0, .ref j1, .int 0, .int 0, .int 0, .int (-1), .int 0, .int 0, .int 0, .int 0, .long 0, .ref j11, .ref j12, .ref j13, .ref j14, .ref j15, .ref j16, .ref j17, .ref j18, .ref j19, .ref j20, .ref j21, .ref j22, .ref j23, .ref j24, .ref j25, .ref j26, .ref j27, .ref j28, .ref j29, .ref j30, .ref j31, .ref j32, .ref j33, .ref j34, .ref j35, .ref j36, .ref j37, .ref j38, .ref j39, .ref j40, .ref j41, .ref j42, .int 0, .int 0, .int 0, .int 0, .int 0, .int 0, .int 0, .int 0, .int 0, .ref j52, .ref j53, .int 0, .int 0, .ref j56, .ref j57, .ref j58, .ref j59, .ref j60, .ref j61, .ref j62, .ref j63, .ref j64, .ref j65, .int 0, .int 0, .int 0, .int 0, .int 0, .int 0, .int 0, .int 0, .int 0, .int 0, .int 0, .int 0, .ref j78, .ref j79, .ref j80, .ref j81, .ref j82, .int 0, .int 0, .ref j85, .ref j86])), (j11, aI g 2 z0)] H := by rw [hH]; exact hP
  have hS : va_S A s.heap H [] := by rw [hH]; exact hS
  refine lv_aload_n hx hb dX12_man_0 rfl (lv_at hl 0 rfl) ?_
  refine lv_iload_n hx hb dX12_man_1 rfl (lv_at hl 1 rfl) ?_
  refine k_iR (k_V (n := 1) ⟨hx, hb, hml, hown, hT⟩ hK hP hD [0, 1] rfl (by decide) (c_X12_isMan l g H.size m_ j0 j1 j11 j12 j13 j14 j15 j16 j17 j18 j19 j20 j21 j22 j23 j24 j25 j26 j27 j28 j29 j30 j31 j32 j33 j34 j35 j36 j37 j38 j39 j40 j41 j42 j52 j53 j56 j57 j58 j59 j60 j61 j62 j63 j64 j65 j78 j79 j80 j81 j82 j85 j86 p0) (gV bw_239 bw_240 bw_241 bw_233 bw_225) rfl rfl (by decide +kernel) ⟨by decide, by decide⟩ (ci := 12) (q0 := 0) rfl rfl (fun _ _ _ _ _ => trivial) (fun _ _ _ => trivial) rfl rfl hl.1 (Nat.le_of_ble_eq_true rfl) dX12_man_2 ⟨by decide, by decide⟩) hP hS hA (fun r_1 _ H locs hw hP hS => ?_)
  have hw : r_1 = 0 := hw
  subst hw
  refine lv_if_ne (tgt := 11) hx hb dX12_man_5 (by decide) (fun c9 => absurd (by decide) c9) (fun _ => ?_)
  refine lv_bipush (v := (-2)) hx hb dX12_man_8 (by decide) ?_
  have hP9 : va_P g.1 vwCl [] H := hP.sub [] rfl
  have hD9 : va_D A [] := ⟨fun i j p q h => by simp at h, fun k q h => by simp at h⟩
  exact W.iret (v := (-2)) hx hb hr (fun t ht hW => ⟨⟨(-2), (), rfl, rfl, by rw [ht]; exact hP9, by rw [hAe]; exact hD9⟩, hS.F ht⟩) hS.2.2 dX12_man_10

theorem bw_243 : Cond.code yX12_duel cX12_duel 3 (some .int) ∈ gT := gT_tb 1761 (by decide +kernel) (by decide +kernel)
theorem dX12_duel_0 : decode cX12_duel 0 = .ok (.aload_n 0, 1) := by decide +kernel
theorem dX12_duel_1 : decode cX12_duel 1 = .ok (.iload_n 1, 1) := by decide +kernel
theorem dX12_duel_2 : decode cX12_duel 2 = .ok (.invokevirtual 415, 3) := by decide +kernel
theorem dX12_duel_5 : decode cX12_duel 5 = .ok (.ifCond .eq 12, 3) := by decide +kernel
theorem dX12_duel_17 : decode cX12_duel 17 = .ok (.bipush (-2), 2) := by decide +kernel
theorem dX12_duel_19 : decode cX12_duel 19 = .ok (.ireturn, 1) := by decide +kernel
set_option maxHeartbeats 4000000 in
set_option maxRecDepth 100000 in
theorem c_X12_duel (l : Launch) (g : GG) (sz : Nat) (m_ : Nat) (j0 : Nat) (j1 : Nat) (j11 : Nat) (j12 : Nat) (j13 : Nat) (j14 : Nat) (j15 : Nat) (j16 : Nat) (j17 : Nat) (j18 : Nat) (j19 : Nat) (j20 : Nat) (j21 : Nat) (j22 : Nat) (j23 : Nat) (j24 : Nat) (j25 : Nat) (j26 : Nat) (j27 : Nat) (j28 : Nat) (j29 : Nat) (j30 : Nat) (j31 : Nat) (j32 : Nat) (j33 : Nat) (j34 : Nat) (j35 : Nat) (j36 : Nat) (j37 : Nat) (j38 : Nat) (j39 : Nat) (j40 : Nat) (j41 : Nat) (j42 : Nat) (j52 : Nat) (j53 : Nat) (j56 : Nat) (j57 : Nat) (j58 : Nat) (j59 : Nat) (j60 : Nat) (j61 : Nat) (j62 : Nat) (j63 : Nat) (j64 : Nat) (j65 : Nat) (j78 : Nat) (j79 : Nat) (j80 : Nat) (j81 : Nat) (j82 : Nat) (j85 : Nat) (j86 : Nat) (p0 : Int32) (p1 : Int32) : Met l yX12_duel (.code yX12_duel cX12_duel 3 (some .int) :: gT) ({ frames := 2, cells := 0, slots := 0, locals := 43 }) (va_Pc [.ref m_, .int p0, .int p1] (Pst g sz [(m_, .inr (12, [.ref j0, .ref j1, .int 0, .int 0, .int 0, .int (-1), .int 0, .int 0, .int 0, .int 0, .long 0, .ref j11, .ref j12, .ref j13, .ref j14, .ref j15, .ref j16, .ref j17, .ref j18, .ref j19, .ref j20, .ref j21, .ref j22, .ref j23, .ref j24, .ref j25, .ref j26, .ref j27, .ref j28, .ref j29, .ref j30, .ref j31, .ref j32, .ref j33, .ref j34, .ref j35, .ref j36, .ref j37, .ref j38, .ref j39, .ref j40, .ref j41, .ref j42, .int 0, .int 0, .int 0, .int 0, .int 0, .int 0, .int 0, .int 0, .int 0, .ref j52, .ref j53, .int 0, .int 0, .ref j56, .ref j57, .ref j58, .ref j59, .ref j60, .ref j61, .ref j62, .ref j63, .ref j64, .ref j65, .int 0, .int 0, .int 0, .int 0, .int 0, .int 0, .int 0, .int 0, .int 0, .int 0, .int 0, .int 0, .ref j78, .ref j79, .ref j80, .ref j81, .ref j82, .int 0, .int 0, .ref j85, .ref j86])), (j52, aI g 374 z0)] nX)) (va_Qi (fun (r : Int32) (_ : Unit) => r = (-2)) (Qst g [] sz (fun _ => [])) (va_A [] sz)) 0 0 (va_A [] sz) := by
  refine Met.ofW (cc := cX12_duel) (maxL := 3) (ret := (some .int)) (by decide) rfl ?_
  intro p e s m args below meth c s₁ B hml hv
  obtain ⟨rfl, hsz, hP, hK, hD0, hX⟩ := hv
  have hx := B.exec
  have hb := B.bytes
  have hr := B.returns
  have hT : ∀ w ∈ gT, w.before _ s = true := fun w h => atoms_spec (ws := .code yX12_duel cX12_duel 3 (some .int) :: gT) B.pre w (List.mem_cons_of_mem _ h)
  have hown : s.vm.findClass RX12 = some m.cls := findClass_of_methodNamed B.named
  have hlocks := B.notSynchronized
  subst hsz
  have hD := hD0
  generalize hAe : va_A [] s.heap.size = A at ⊢
  have hA : ∀ q : Nat, s.heap.size ≤ q → A q := fun q h => by rw [← hAe]; exact Or.inr h
  have hS : va_S A s.heap s.heap [] := va_S.rf
  have hl := lv_entry ([.ref m_, .int p0, .int p1]) (n := 3) (Nat.le_of_ble_eq_true rfl)
  rw [lg_entry_eq]
  generalize (lg_sl ([.ref m_, .int p0, .int p1]) ++ List.replicate (3 - (lg_sl ([.ref m_, .int p0, .int p1])).length) Slot.unset).toArray = ls at hl ⊢
  have hl : lv_has ls 3 [(0, .ref m_), (1, .int p0), (2, .int p1)] := hl
  refine p_nH (fun H hH => ?_)
  have hP : va_P g.1 vwCl [(m_, .inr (12, [.ref j0, .ref j1, .int 0, .int 0, .int 0, .int (-1), .int 0, .int 0, .int 0, .int 0, .long 0, .ref j11, .ref j12, .ref j13, .ref j14, .ref j15, .ref j16, .ref j17, .ref j18, .ref j19, .ref j20, .ref j21, .ref j22, .ref j23, .ref j24, .ref j25, .ref j26, .ref j27, .ref j28, .ref j29, .ref j30, .ref j31, .ref j32, .ref j33, .ref j34, .ref j35, .ref j36, .ref j37, .ref j38, .ref j39, .ref j40, .ref j41, .ref j42, .int 0, .int 0, .int 0, .int 0, .int 0, .int 0, .int 0, .int 0, .int 0, .ref j52, .ref j53, .int 0, .int 0, .ref j56, .ref j57, .ref j58, .ref j59, .ref j60, .ref j61, .ref j62, .ref j63, .ref j64, .ref j65, .int 0, .int 0, .int 0, .int 0, .int 0, .int 0, .int 0, .int 0, .int 0, .int 0, .int 0, .int 0, .ref j78, .ref j79, .ref j80, .ref j81, .ref j82, .int 0, .int 0, .ref j85, .ref j86])), (j52, aI g 374 z0)] H := by rw [hH]; exact hP
  have hS : va_S A s.heap H [] := by rw [hH]; exact hS
  refine lv_aload_n hx hb dX12_duel_0 rfl (lv_at hl 0 rfl) ?_
  refine lv_iload_n hx hb dX12_duel_1 rfl (lv_at hl 1 rfl) ?_
  refine k_iR (k_V (n := 1) ⟨hx, hb, hml, hown, hT⟩ hK hP hD [0, 1] rfl (by decide) (c_X12_isDuel l g H.size m_ j0 j1 j11 j12 j13 j14 j15 j16 j17 j18 j19 j20 j21 j22 j23 j24 j25 j26 j27 j28 j29 j30 j31 j32 j33 j34 j35 j36 j37 j38 j39 j40 j41 j42 j52 j53 j56 j57 j58 j59 j60 j61 j62 j63 j64 j65 j78 j79 j80 j81 j82 j85 j86 p0) (gV bw_230 bw_231 bw_232 bw_233 bw_229) rfl rfl (by decide +kernel) ⟨by decide, by decide⟩ (ci := 12) (q0 := 0) rfl rfl (fun _ _ _ _ _ => trivial) (fun _ _ _ => trivial) rfl rfl hl.1 (Nat.le_of_ble_eq_true rfl) dX12_duel_2 ⟨by decide, by decide⟩) hP hS hA (fun r_1 _ H locs hw hP hS => ?_)
  have hw : r_1 = 0 := hw
  subst hw
  refine lv_if_eq (tgt := 17) hx hb dX12_duel_5 (by decide) (fun _ => ?_) (fun c9 => absurd (by decide) c9)
  refine lv_bipush (v := (-2)) hx hb dX12_duel_17 (by decide) ?_
  have hP9 : va_P g.1 vwCl [] H := hP.sub [] rfl
  have hD9 : va_D A [] := ⟨fun i j p q h => by simp at h, fun k q h => by simp at h⟩
  exact W.iret (v := (-2)) hx hb hr (fun t ht hW => ⟨⟨(-2), (), rfl, rfl, by rw [ht]; exact hP9, by rw [hAe]; exact hD9⟩, hS.F ht⟩) hS.2.2 dX12_duel_19

theorem bw_244 : Cond.methodLink RX12 449 yX12_isReason ∈ gT := gT_tb 1777 (by decide +kernel) (by decide +kernel)
theorem bw_245 : Cond.instanceMethod yX12_isReason ∈ gT := gT_tb 1779 (by decide +kernel) (by decide +kernel)
theorem bw_246 : Cond.selects RX12 yX12_isReason yX12_isReason ∈ gT := gT_sl 90 (by decide +kernel) (by decide +kernel)
theorem bw_247 : Cond.code yX12_reason cX12_reason 6 (some .int) ∈ gT := gT_tb 1776 (by decide +kernel) (by decide +kernel)
theorem dX12_reason_0 : decode cX12_reason 0 = .ok (.aload_n 0, 1) := by decide +kernel
theorem dX12_reason_1 : decode cX12_reason 1 = .ok (.iload_n 1, 1) := by decide +kernel
theorem dX12_reason_2 : decode cX12_reason 2 = .ok (.invokevirtual 449, 3) := by decide +kernel
theorem dX12_reason_5 : decode cX12_reason 5 = .ok (.ifCond .ne 6, 3) := by decide +kernel
theorem dX12_reason_8 : decode cX12_reason 8 = .ok (.bipush (-2), 2) := by decide +kernel
theorem dX12_reason_10 : decode cX12_reason 10 = .ok (.ireturn, 1) := by decide +kernel
set_option maxHeartbeats 4000000 in
set_option maxRecDepth 100000 in
theorem c_X12_reason (l : Launch) (g : GG) (sz : Nat) (m_ : Nat) (j0 : Nat) (j1 : Nat) (j11 : Nat) (j12 : Nat) (j13 : Nat) (j14 : Nat) (j15 : Nat) (j16 : Nat) (j17 : Nat) (j18 : Nat) (j19 : Nat) (j20 : Nat) (j21 : Nat) (j22 : Nat) (j23 : Nat) (j24 : Nat) (j25 : Nat) (j26 : Nat) (j27 : Nat) (j28 : Nat) (j29 : Nat) (j30 : Nat) (j31 : Nat) (j32 : Nat) (j33 : Nat) (j34 : Nat) (j35 : Nat) (j36 : Nat) (j37 : Nat) (j38 : Nat) (j39 : Nat) (j40 : Nat) (j41 : Nat) (j42 : Nat) (j52 : Nat) (j53 : Nat) (j56 : Nat) (j57 : Nat) (j58 : Nat) (j59 : Nat) (j60 : Nat) (j61 : Nat) (j62 : Nat) (j63 : Nat) (j64 : Nat) (j65 : Nat) (j78 : Nat) (j79 : Nat) (j80 : Nat) (j81 : Nat) (j82 : Nat) (j85 : Nat) (j86 : Nat) (p0 : Int32) (p1 : Int32) : Met l yX12_reason (.code yX12_reason cX12_reason 6 (some .int) :: gT) ({ frames := 2, cells := 0, slots := 0, locals := 43 }) (va_Pc [.ref m_, .int p0, .int p1] (Pst g sz [(m_, .inr (12, [.ref j0, .ref j1, .int 0, .int 0, .int 0, .int (-1), .int 0, .int 0, .int 0, .int 0, .long 0, .ref j11, .ref j12, .ref j13, .ref j14, .ref j15, .ref j16, .ref j17, .ref j18, .ref j19, .ref j20, .ref j21, .ref j22, .ref j23, .ref j24, .ref j25, .ref j26, .ref j27, .ref j28, .ref j29, .ref j30, .ref j31, .ref j32, .ref j33, .ref j34, .ref j35, .ref j36, .ref j37, .ref j38, .ref j39, .ref j40, .ref j41, .ref j42, .int 0, .int 0, .int 0, .int 0, .int 0, .int 0, .int 0, .int 0, .int 0, .ref j52, .ref j53, .int 0, .int 0, .ref j56, .ref j57, .ref j58, .ref j59, .ref j60, .ref j61, .ref j62, .ref j63, .ref j64, .ref j65, .int 0, .int 0, .int 0, .int 0, .int 0, .int 0, .int 0, .int 0, .int 0, .int 0, .int 0, .int 0, .ref j78, .ref j79, .ref j80, .ref j81, .ref j82, .int 0, .int 0, .ref j85, .ref j86])), (j13, aI g 2 z0)] nX)) (va_Qi (fun (r : Int32) (_ : Unit) => r = (-2)) (Qst g [] sz (fun _ => [])) (va_A [] sz)) 0 0 (va_A [] sz) := by
  refine Met.ofW (cc := cX12_reason) (maxL := 6) (ret := (some .int)) (by decide) rfl ?_
  intro p e s m args below meth c s₁ B hml hv
  obtain ⟨rfl, hsz, hP, hK, hD0, hX⟩ := hv
  have hx := B.exec
  have hb := B.bytes
  have hr := B.returns
  have hT : ∀ w ∈ gT, w.before _ s = true := fun w h => atoms_spec (ws := .code yX12_reason cX12_reason 6 (some .int) :: gT) B.pre w (List.mem_cons_of_mem _ h)
  have hown : s.vm.findClass RX12 = some m.cls := findClass_of_methodNamed B.named
  have hlocks := B.notSynchronized
  subst hsz
  have hD := hD0
  generalize hAe : va_A [] s.heap.size = A at ⊢
  have hA : ∀ q : Nat, s.heap.size ≤ q → A q := fun q h => by rw [← hAe]; exact Or.inr h
  have hS : va_S A s.heap s.heap [] := va_S.rf
  have hl := lv_entry ([.ref m_, .int p0, .int p1]) (n := 6) (Nat.le_of_ble_eq_true rfl)
  rw [lg_entry_eq]
  generalize (lg_sl ([.ref m_, .int p0, .int p1]) ++ List.replicate (6 - (lg_sl ([.ref m_, .int p0, .int p1])).length) Slot.unset).toArray = ls at hl ⊢
  have hl : lv_has ls 6 [(0, .ref m_), (1, .int p0), (2, .int p1)] := hl
  refine p_nH (fun H hH => ?_)
  have hP : va_P g.1 vwCl [(m_, .inr (12, [.ref j0, .ref j1, .int 0, .int 0, .int 0, .int (-1), .int 0, .int 0, .int 0, .int 0, .long 0, .ref j11, .ref j12, .ref j13, .ref j14, .ref j15, .ref j16, .ref j17, .ref j18, .ref j19, .ref j20, .ref j21, .ref j22, .ref j23, .ref j24, .ref j25, .ref j26, .ref j27, .ref j28, .ref j29, .ref j30, .ref j31, .ref j32, .ref j33, .ref j34, .ref j35, .ref j36, .ref j37, .ref j38, .ref j39, .ref j40, .ref j41, .ref j42, .int 0, .int 0, .int 0, .int 0, .int 0, .int 0, .int 0, .int 0, .int 0, .ref j52, .ref j53, .int 0, .int 0, .ref j56, .ref j57, .ref j58, .ref j59, .ref j60, .ref j61, .ref j62, .ref j63, .ref j64, .ref j65, .int 0, .int 0, .int 0, .int 0, .int 0, .int 0, .int 0, .int 0, .int 0, .int 0, .int 0, .int 0, .ref j78, .ref j79, .ref j80, .ref j81, .ref j82, .int 0, .int 0, .ref j85, .ref j86])), (j13, aI g 2 z0)] H := by rw [hH]; exact hP
  have hS : va_S A s.heap H [] := by rw [hH]; exact hS
  refine lv_aload_n hx hb dX12_reason_0 rfl (lv_at hl 0 rfl) ?_
  refine lv_iload_n hx hb dX12_reason_1 rfl (lv_at hl 1 rfl) ?_
  refine k_iR (k_V (n := 1) ⟨hx, hb, hml, hown, hT⟩ hK hP hD [0, 1] rfl (by decide) (c_X12_isReason l g H.size m_ j0 j1 j11 j12 j13 j14 j15 j16 j17 j18 j19 j20 j21 j22 j23 j24 j25 j26 j27 j28 j29 j30 j31 j32 j33 j34 j35 j36 j37 j38 j39 j40 j41 j42 j52 j53 j56 j57 j58 j59 j60 j61 j62 j63 j64 j65 j78 j79 j80 j81 j82 j85 j86 p0) (gV bw_244 bw_245 bw_246 bw_233 bw_227) rfl rfl (by decide +kernel) ⟨by decide, by decide⟩ (ci := 12) (q0 := 0) rfl rfl (fun _ _ _ _ _ => trivial) (fun _ _ _ => trivial) rfl rfl hl.1 (Nat.le_of_ble_eq_true rfl) dX12_reason_2 ⟨by decide, by decide⟩) hP hS hA (fun r_1 _ H locs hw hP hS => ?_)
  have hw : r_1 = 0 := hw
  subst hw
  refine lv_if_ne (tgt := 11) hx hb dX12_reason_5 (by decide) (fun c9 => absurd (by decide) c9) (fun _ => ?_)
  refine lv_bipush (v := (-2)) hx hb dX12_reason_8 (by decide) ?_
  have hP9 : va_P g.1 vwCl [] H := hP.sub [] rfl
  have hD9 : va_D A [] := ⟨fun i j p q h => by simp at h, fun k q h => by simp at h⟩
  exact W.iret (v := (-2)) hx hb hr (fun t ht hW => ⟨⟨(-2), (), rfl, rfl, by rw [ht]; exact hP9, by rw [hAe]; exact hD9⟩, hS.F ht⟩) hS.2.2 dX12_reason_10

theorem bw_248 : Cond.code yX12_worth cX12_worth 4 (some .int) ∈ gT := gT_tb 1788 (by decide +kernel) (by decide +kernel)
theorem dX12_worth_0 : decode cX12_worth 0 = .ok (.aload_n 0, 1) := by decide +kernel
theorem dX12_worth_1 : decode cX12_worth 1 = .ok (.iload_n 1, 1) := by decide +kernel
theorem dX12_worth_2 : decode cX12_worth 2 = .ok (.invokevirtual 415, 3) := by decide +kernel
theorem dX12_worth_5 : decode cX12_worth 5 = .ok (.ifCond .eq 44, 3) := by decide +kernel
theorem dX12_worth_49 : decode cX12_worth 49 = .ok (.iconst (-1), 1) := by decide +kernel
theorem dX12_worth_50 : decode cX12_worth 50 = .ok (.ireturn, 1) := by decide +kernel
set_option maxHeartbeats 4000000 in
set_option maxRecDepth 100000 in
theorem c_X12_worth (l : Launch) (g : GG) (sz : Nat) (m_ : Nat) (j0 : Nat) (j1 : Nat) (j11 : Nat) (j12 : Nat) (j13 : Nat) (j14 : Nat) (j15 : Nat) (j16 : Nat) (j17 : Nat) (j18 : Nat) (j19 : Nat) (j20 : Nat) (j21 : Nat) (j22 : Nat) (j23 : Nat) (j24 : Nat) (j25 : Nat) (j26 : Nat) (j27 : Nat) (j28 : Nat) (j29 : Nat) (j30 : Nat) (j31 : Nat) (j32 : Nat) (j33 : Nat) (j34 : Nat) (j35 : Nat) (j36 : Nat) (j37 : Nat) (j38 : Nat) (j39 : Nat) (j40 : Nat) (j41 : Nat) (j42 : Nat) (j52 : Nat) (j53 : Nat) (j56 : Nat) (j57 : Nat) (j58 : Nat) (j59 : Nat) (j60 : Nat) (j61 : Nat) (j62 : Nat) (j63 : Nat) (j64 : Nat) (j65 : Nat) (j78 : Nat) (j79 : Nat) (j80 : Nat) (j81 : Nat) (j82 : Nat) (j85 : Nat) (j86 : Nat) (p0 : Int32) (p1 : Int32) (p2 : Int32) : Met l yX12_worth (.code yX12_worth cX12_worth 4 (some .int) :: gT) ({ frames := 2, cells := 0, slots := 0, locals := 43 }) (va_Pc [.ref m_, .int p0, .int p1, .int p2] (Pst g sz [(m_, .inr (12, [.ref j0, .ref j1, .int 0, .int 0, .int 0, .int (-1), .int 0, .int 0, .int 0, .int 0, .long 0, .ref j11, .ref j12, .ref j13, .ref j14, .ref j15, .ref j16, .ref j17, .ref j18, .ref j19, .ref j20, .ref j21, .ref j22, .ref j23, .ref j24, .ref j25, .ref j26, .ref j27, .ref j28, .ref j29, .ref j30, .ref j31, .ref j32, .ref j33, .ref j34, .ref j35, .ref j36, .ref j37, .ref j38, .ref j39, .ref j40, .ref j41, .ref j42, .int 0, .int 0, .int 0, .int 0, .int 0, .int 0, .int 0, .int 0, .int 0, .ref j52, .ref j53, .int 0, .int 0, .ref j56, .ref j57, .ref j58, .ref j59, .ref j60, .ref j61, .ref j62, .ref j63, .ref j64, .ref j65, .int 0, .int 0, .int 0, .int 0, .int 0, .int 0, .int 0, .int 0, .int 0, .int 0, .int 0, .int 0, .ref j78, .ref j79, .ref j80, .ref j81, .ref j82, .int 0, .int 0, .ref j85, .ref j86])), (j52, aI g 374 z0)] nX)) (va_Qi (fun (r : Int32) (_ : Unit) => r = (-1)) (Qst g [] sz (fun _ => [])) (va_A [] sz)) 0 0 (va_A [] sz) := by
  refine Met.ofW (cc := cX12_worth) (maxL := 4) (ret := (some .int)) (by decide) rfl ?_
  intro p e s m args below meth c s₁ B hml hv
  obtain ⟨rfl, hsz, hP, hK, hD0, hX⟩ := hv
  have hx := B.exec
  have hb := B.bytes
  have hr := B.returns
  have hT : ∀ w ∈ gT, w.before _ s = true := fun w h => atoms_spec (ws := .code yX12_worth cX12_worth 4 (some .int) :: gT) B.pre w (List.mem_cons_of_mem _ h)
  have hown : s.vm.findClass RX12 = some m.cls := findClass_of_methodNamed B.named
  have hlocks := B.notSynchronized
  subst hsz
  have hD := hD0
  generalize hAe : va_A [] s.heap.size = A at ⊢
  have hA : ∀ q : Nat, s.heap.size ≤ q → A q := fun q h => by rw [← hAe]; exact Or.inr h
  have hS : va_S A s.heap s.heap [] := va_S.rf
  have hl := lv_entry ([.ref m_, .int p0, .int p1, .int p2]) (n := 4) (Nat.le_of_ble_eq_true rfl)
  rw [lg_entry_eq]
  generalize (lg_sl ([.ref m_, .int p0, .int p1, .int p2]) ++ List.replicate (4 - (lg_sl ([.ref m_, .int p0, .int p1, .int p2])).length) Slot.unset).toArray = ls at hl ⊢
  have hl : lv_has ls 4 [(0, .ref m_), (1, .int p0), (2, .int p1), (3, .int p2)] := hl
  refine p_nH (fun H hH => ?_)
  have hP : va_P g.1 vwCl [(m_, .inr (12, [.ref j0, .ref j1, .int 0, .int 0, .int 0, .int (-1), .int 0, .int 0, .int 0, .int 0, .long 0, .ref j11, .ref j12, .ref j13, .ref j14, .ref j15, .ref j16, .ref j17, .ref j18, .ref j19, .ref j20, .ref j21, .ref j22, .ref j23, .ref j24, .ref j25, .ref j26, .ref j27, .ref j28, .ref j29, .ref j30, .ref j31, .ref j32, .ref j33, .ref j34, .ref j35, .ref j36, .ref j37, .ref j38, .ref j39, .ref j40, .ref j41, .ref j42, .int 0, .int 0, .int 0, .int 0, .int 0, .int 0, .int 0, .int 0, .int 0, .ref j52, .ref j53, .int 0, .int 0, .ref j56, .ref j57, .ref j58, .ref j59, .ref j60, .ref j61, .ref j62, .ref j63, .ref j64, .ref j65, .int 0, .int 0, .int 0, .int 0, .int 0, .int 0, .int 0, .int 0, .int 0, .int 0, .int 0, .int 0, .ref j78, .ref j79, .ref j80, .ref j81, .ref j82, .int 0, .int 0, .ref j85, .ref j86])), (j52, aI g 374 z0)] H := by rw [hH]; exact hP
  have hS : va_S A s.heap H [] := by rw [hH]; exact hS
  refine lv_aload_n hx hb dX12_worth_0 rfl (lv_at hl 0 rfl) ?_
  refine lv_iload_n hx hb dX12_worth_1 rfl (lv_at hl 1 rfl) ?_
  refine k_iR (k_V (n := 1) ⟨hx, hb, hml, hown, hT⟩ hK hP hD [0, 1] rfl (by decide) (c_X12_isDuel l g H.size m_ j0 j1 j11 j12 j13 j14 j15 j16 j17 j18 j19 j20 j21 j22 j23 j24 j25 j26 j27 j28 j29 j30 j31 j32 j33 j34 j35 j36 j37 j38 j39 j40 j41 j42 j52 j53 j56 j57 j58 j59 j60 j61 j62 j63 j64 j65 j78 j79 j80 j81 j82 j85 j86 p0) (gV bw_230 bw_231 bw_232 bw_233 bw_229) rfl rfl (by decide +kernel) ⟨by decide, by decide⟩ (ci := 12) (q0 := 0) rfl rfl (fun _ _ _ _ _ => trivial) (fun _ _ _ => trivial) rfl rfl hl.1 (Nat.le_of_ble_eq_true rfl) dX12_worth_2 ⟨by decide, by decide⟩) hP hS hA (fun r_1 _ H locs hw hP hS => ?_)
  have hw : r_1 = 0 := hw
  subst hw
  refine lv_if_eq (tgt := 49) hx hb dX12_worth_5 (by decide) (fun _ => ?_) (fun c9 => absurd (by decide) c9)
  refine lv_iconst (v := (-1)) hx hb dX12_worth_49 (by decide) ?_
  have hP9 : va_P g.1 vwCl [] H := hP.sub [] rfl
  have hD9 : va_D A [] := ⟨fun i j p q h => by simp at h, fun k q h => by simp at h⟩
  exact W.iret (v := (-1)) hx hb hr (fun t ht hW => ⟨⟨(-1), (), rfl, rfl, by rw [ht]; exact hP9, by rw [hAe]; exact hD9⟩, hS.F ht⟩) hS.2.2 dX12_worth_50

theorem bw_249 : Cond.code yX12_may cX12_may 5 (some .int) ∈ gT := gT_tb 1807 (by decide +kernel) (by decide +kernel)
theorem dX12_may_0 : decode cX12_may 0 = .ok (.aload_n 0, 1) := by decide +kernel
theorem dX12_may_1 : decode cX12_may 1 = .ok (.iload_n 1, 1) := by decide +kernel
theorem dX12_may_2 : decode cX12_may 2 = .ok (.invokevirtual 415, 3) := by decide +kernel
theorem dX12_may_5 : decode cX12_may 5 = .ok (.ifCond .eq 10, 3) := by decide +kernel
theorem dX12_may_15 : decode cX12_may 15 = .ok (.iconst (-1), 1) := by decide +kernel
theorem dX12_may_16 : decode cX12_may 16 = .ok (.ireturn, 1) := by decide +kernel
set_option maxHeartbeats 4000000 in
set_option maxRecDepth 100000 in
theorem c_X12_may (l : Launch) (g : GG) (sz : Nat) (m_ : Nat) (j0 : Nat) (j1 : Nat) (j11 : Nat) (j12 : Nat) (j13 : Nat) (j14 : Nat) (j15 : Nat) (j16 : Nat) (j17 : Nat) (j18 : Nat) (j19 : Nat) (j20 : Nat) (j21 : Nat) (j22 : Nat) (j23 : Nat) (j24 : Nat) (j25 : Nat) (j26 : Nat) (j27 : Nat) (j28 : Nat) (j29 : Nat) (j30 : Nat) (j31 : Nat) (j32 : Nat) (j33 : Nat) (j34 : Nat) (j35 : Nat) (j36 : Nat) (j37 : Nat) (j38 : Nat) (j39 : Nat) (j40 : Nat) (j41 : Nat) (j42 : Nat) (j52 : Nat) (j53 : Nat) (j56 : Nat) (j57 : Nat) (j58 : Nat) (j59 : Nat) (j60 : Nat) (j61 : Nat) (j62 : Nat) (j63 : Nat) (j64 : Nat) (j65 : Nat) (j78 : Nat) (j79 : Nat) (j80 : Nat) (j81 : Nat) (j82 : Nat) (j85 : Nat) (j86 : Nat) (p0 : Int32) (p1 : Int32) : Met l yX12_may (.code yX12_may cX12_may 5 (some .int) :: gT) ({ frames := 2, cells := 0, slots := 0, locals := 43 }) (va_Pc [.ref m_, .int p0, .int p1] (Pst g sz [(m_, .inr (12, [.ref j0, .ref j1, .int 0, .int 0, .int 0, .int (-1), .int 0, .int 0, .int 0, .int 0, .long 0, .ref j11, .ref j12, .ref j13, .ref j14, .ref j15, .ref j16, .ref j17, .ref j18, .ref j19, .ref j20, .ref j21, .ref j22, .ref j23, .ref j24, .ref j25, .ref j26, .ref j27, .ref j28, .ref j29, .ref j30, .ref j31, .ref j32, .ref j33, .ref j34, .ref j35, .ref j36, .ref j37, .ref j38, .ref j39, .ref j40, .ref j41, .ref j42, .int 0, .int 0, .int 0, .int 0, .int 0, .int 0, .int 0, .int 0, .int 0, .ref j52, .ref j53, .int 0, .int 0, .ref j56, .ref j57, .ref j58, .ref j59, .ref j60, .ref j61, .ref j62, .ref j63, .ref j64, .ref j65, .int 0, .int 0, .int 0, .int 0, .int 0, .int 0, .int 0, .int 0, .int 0, .int 0, .int 0, .int 0, .ref j78, .ref j79, .ref j80, .ref j81, .ref j82, .int 0, .int 0, .ref j85, .ref j86])), (j52, aI g 374 z0)] nX)) (va_Qi (fun (r : Int32) (_ : Unit) => r = (-1)) (Qst g [] sz (fun _ => [])) (va_A [] sz)) 0 0 (va_A [] sz) := by
  refine Met.ofW (cc := cX12_may) (maxL := 5) (ret := (some .int)) (by decide) rfl ?_
  intro p e s m args below meth c s₁ B hml hv
  obtain ⟨rfl, hsz, hP, hK, hD0, hX⟩ := hv
  have hx := B.exec
  have hb := B.bytes
  have hr := B.returns
  have hT : ∀ w ∈ gT, w.before _ s = true := fun w h => atoms_spec (ws := .code yX12_may cX12_may 5 (some .int) :: gT) B.pre w (List.mem_cons_of_mem _ h)
  have hown : s.vm.findClass RX12 = some m.cls := findClass_of_methodNamed B.named
  have hlocks := B.notSynchronized
  subst hsz
  have hD := hD0
  generalize hAe : va_A [] s.heap.size = A at ⊢
  have hA : ∀ q : Nat, s.heap.size ≤ q → A q := fun q h => by rw [← hAe]; exact Or.inr h
  have hS : va_S A s.heap s.heap [] := va_S.rf
  have hl := lv_entry ([.ref m_, .int p0, .int p1]) (n := 5) (Nat.le_of_ble_eq_true rfl)
  rw [lg_entry_eq]
  generalize (lg_sl ([.ref m_, .int p0, .int p1]) ++ List.replicate (5 - (lg_sl ([.ref m_, .int p0, .int p1])).length) Slot.unset).toArray = ls at hl ⊢
  have hl : lv_has ls 5 [(0, .ref m_), (1, .int p0), (2, .int p1)] := hl
  refine p_nH (fun H hH => ?_)
  have hP : va_P g.1 vwCl [(m_, .inr (12, [.ref j0, .ref j1, .int 0, .int 0, .int 0, .int (-1), .int 0, .int 0, .int 0, .int 0, .long 0, .ref j11, .ref j12, .ref j13, .ref j14, .ref j15, .ref j16, .ref j17, .ref j18, .ref j19, .ref j20, .ref j21, .ref j22, .ref j23, .ref j24, .ref j25, .ref j26, .ref j27, .ref j28, .ref j29, .ref j30, .ref j31, .ref j32, .ref j33, .ref j34, .ref j35, .ref j36, .ref j37, .ref j38, .ref j39, .ref j40, .ref j41, .ref j42, .int 0, .int 0, .int 0, .int 0, .int 0, .int 0, .int 0, .int 0, .int 0, .ref j52, .ref j53, .int 0, .int 0, .ref j56, .ref j57, .ref j58, .ref j59, .ref j60, .ref j61, .ref j62, .ref j63, .ref j64, .ref j65, .int 0, .int 0, .int 0, .int 0, .int 0, .int 0, .int 0, .int 0, .int 0, .int 0, .int 0, .int 0, .ref j78, .ref j79, .ref j80, .ref j81, .ref j82, .int 0, .int 0, .ref j85, .ref j86])), (j52, aI g 374 z0)] H := by rw [hH]; exact hP
  have hS : va_S A s.heap H [] := by rw [hH]; exact hS
  refine lv_aload_n hx hb dX12_may_0 rfl (lv_at hl 0 rfl) ?_
  refine lv_iload_n hx hb dX12_may_1 rfl (lv_at hl 1 rfl) ?_
  refine k_iR (k_V (n := 1) ⟨hx, hb, hml, hown, hT⟩ hK hP hD [0, 1] rfl (by decide) (c_X12_isDuel l g H.size m_ j0 j1 j11 j12 j13 j14 j15 j16 j17 j18 j19 j20 j21 j22 j23 j24 j25 j26 j27 j28 j29 j30 j31 j32 j33 j34 j35 j36 j37 j38 j39 j40 j41 j42 j52 j53 j56 j57 j58 j59 j60 j61 j62 j63 j64 j65 j78 j79 j80 j81 j82 j85 j86 p0) (gV bw_230 bw_231 bw_232 bw_233 bw_229) rfl rfl (by decide +kernel) ⟨by decide, by decide⟩ (ci := 12) (q0 := 0) rfl rfl (fun _ _ _ _ _ => trivial) (fun _ _ _ => trivial) rfl rfl hl.1 (Nat.le_of_ble_eq_true rfl) dX12_may_2 ⟨by decide, by decide⟩) hP hS hA (fun r_1 _ H locs hw hP hS => ?_)
  have hw : r_1 = 0 := hw
  subst hw
  refine lv_if_eq (tgt := 15) hx hb dX12_may_5 (by decide) (fun _ => ?_) (fun c9 => absurd (by decide) c9)
  refine lv_iconst (v := (-1)) hx hb dX12_may_15 (by decide) ?_
  have hP9 : va_P g.1 vwCl [] H := hP.sub [] rfl
  have hD9 : va_D A [] := ⟨fun i j p q h => by simp at h, fun k q h => by simp at h⟩
  exact W.iret (v := (-1)) hx hb hr (fun t ht hW => ⟨⟨(-1), (), rfl, rfl, by rw [ht]; exact hP9, by rw [hAe]; exact hD9⟩, hS.F ht⟩) hS.2.2 dX12_may_16

theorem bw_250 : Cond.code yX12_next cX12_next 4 (some .int) ∈ gT := gT_tb 2006 (by decide +kernel) (by decide +kernel)
theorem dX12_next_0 : decode cX12_next 0 = .ok (.iload_n 1, 1) := by decide +kernel
theorem dX12_next_1 : decode cX12_next 1 = .ok (.iconst 0, 1) := by decide +kernel
theorem dX12_next_2 : decode cX12_next 2 = .ok (.iconst 1, 1) := by decide +kernel
theorem dX12_next_3 : decode cX12_next 3 = .ok (.invokestatic 411, 3) := by decide +kernel
theorem dX12_next_6 : decode cX12_next 6 = .ok (.ifCond .ne 5, 3) := by decide +kernel
theorem dX12_next_9 : decode cX12_next 9 = .ok (.iconst (-1), 1) := by decide +kernel
theorem dX12_next_10 : decode cX12_next 10 = .ok (.ireturn, 1) := by decide +kernel
theorem dX12_next_11 : decode cX12_next 11 = .ok (.iconst (-1), 1) := by decide +kernel
theorem dX12_next_12 : decode cX12_next 12 = .ok (.istore_n 2, 1) := by decide +kernel
theorem dX12_next_13 : decode cX12_next 13 = .ok (.iconst 0, 1) := by decide +kernel
theorem dX12_next_14 : decode cX12_next 14 = .ok (.istore_n 3, 1) := by decide +kernel
theorem dX12_next_15 : decode cX12_next 15 = .ok (.iload_n 3, 1) := by decide +kernel
theorem dX12_next_16 : decode cX12_next 16 = .ok (.aload_n 0, 1) := by decide +kernel
theorem dX12_next_17 : decode cX12_next 17 = .ok (.getfield 119, 3) := by decide +kernel
theorem dX12_next_20 : decode cX12_next 20 = .ok (.bipush 70, 2) := by decide +kernel
theorem dX12_next_22 : decode cX12_next 22 = .ok (.iaload, 1) := by decide +kernel
theorem dX12_next_23 : decode cX12_next 23 = .ok (.if_icmp .ge 38, 3) := by decide +kernel
theorem dX12_next_61 : decode cX12_next 61 = .ok (.iload_n 2, 1) := by decide +kernel
theorem dX12_next_62 : decode cX12_next 62 = .ok (.ifCond .ge 7, 3) := by decide +kernel
theorem dX12_next_65 : decode cX12_next 65 = .ok (.iconst (-1), 1) := by decide +kernel
theorem dX12_next_66 : decode cX12_next 66 = .ok (.goto 17, 3) := by decide +kernel
theorem dX12_next_83 : decode cX12_next 83 = .ok (.ireturn, 1) := by decide +kernel
set_option maxHeartbeats 4000000 in
set_option maxRecDepth 100000 in
theorem c_X12_next (l : Launch) (g : GG) (sz : Nat) (m_ : Nat) (j0 : Nat) (j1 : Nat) (j11 : Nat) (j12 : Nat) (j13 : Nat) (j14 : Nat) (j15 : Nat) (j16 : Nat) (j17 : Nat) (j18 : Nat) (j19 : Nat) (j20 : Nat) (j21 : Nat) (j22 : Nat) (j23 : Nat) (j24 : Nat) (j25 : Nat) (j26 : Nat) (j27 : Nat) (j28 : Nat) (j29 : Nat) (j30 : Nat) (j31 : Nat) (j32 : Nat) (j33 : Nat) (j34 : Nat) (j35 : Nat) (j36 : Nat) (j37 : Nat) (j38 : Nat) (j39 : Nat) (j40 : Nat) (j41 : Nat) (j42 : Nat) (j52 : Nat) (j53 : Nat) (j56 : Nat) (j57 : Nat) (j58 : Nat) (j59 : Nat) (j60 : Nat) (j61 : Nat) (j62 : Nat) (j63 : Nat) (j64 : Nat) (j65 : Nat) (j78 : Nat) (j79 : Nat) (j80 : Nat) (j81 : Nat) (j82 : Nat) (j85 : Nat) (j86 : Nat) (p0 : Int32) : Met l yX12_next (.code yX12_next cX12_next 4 (some .int) :: gT) ({ frames := 1, cells := 0, slots := 0, locals := 22 }) (va_Pc [.ref m_, .int p0] (Pst g sz [(m_, .inr (12, [.ref j0, .ref j1, .int 0, .int 0, .int 0, .int (-1), .int 0, .int 0, .int 0, .int 0, .long 0, .ref j11, .ref j12, .ref j13, .ref j14, .ref j15, .ref j16, .ref j17, .ref j18, .ref j19, .ref j20, .ref j21, .ref j22, .ref j23, .ref j24, .ref j25, .ref j26, .ref j27, .ref j28, .ref j29, .ref j30, .ref j31, .ref j32, .ref j33, .ref j34, .ref j35, .ref j36, .ref j37, .ref j38, .ref j39, .ref j40, .ref j41, .ref j42, .int 0, .int 0, .int 0, .int 0, .int 0, .int 0, .int 0, .int 0, .int 0, .ref j52, .ref j53, .int 0, .int 0, .ref j56, .ref j57, .ref j58, .ref j59, .ref j60, .ref j61, .ref j62, .ref j63, .ref j64, .ref j65, .int 0, .int 0, .int 0, .int 0, .int 0, .int 0, .int 0, .int 0, .int 0, .int 0, .int 0, .int 0, .ref j78, .ref j79, .ref j80, .ref j81, .ref j82, .int 0, .int 0, .ref j85, .ref j86])), (j52, aI g 374 z0)] nX)) (va_Qi (fun (r : Int32) (_ : Unit) => r = (-1)) (Qst g [] sz (fun _ => [])) (va_A [] sz)) 0 0 (va_A [] sz) := by
  refine Met.ofW (cc := cX12_next) (maxL := 4) (ret := (some .int)) (by decide) rfl ?_
  intro p e s m args below meth c s₁ B hml hv
  obtain ⟨rfl, hsz, hP, hK, hD0, hX⟩ := hv
  have hx := B.exec
  have hb := B.bytes
  have hr := B.returns
  have hT : ∀ w ∈ gT, w.before _ s = true := fun w h => atoms_spec (ws := .code yX12_next cX12_next 4 (some .int) :: gT) B.pre w (List.mem_cons_of_mem _ h)
  have hown : s.vm.findClass RX12 = some m.cls := findClass_of_methodNamed B.named
  have hlocks := B.notSynchronized
  subst hsz
  have hD := hD0
  generalize hAe : va_A [] s.heap.size = A at ⊢
  have hA : ∀ q : Nat, s.heap.size ≤ q → A q := fun q h => by rw [← hAe]; exact Or.inr h
  have hS : va_S A s.heap s.heap [] := va_S.rf
  have hl := lv_entry ([.ref m_, .int p0]) (n := 4) (Nat.le_of_ble_eq_true rfl)
  rw [lg_entry_eq]
  generalize (lg_sl ([.ref m_, .int p0]) ++ List.replicate (4 - (lg_sl ([.ref m_, .int p0])).length) Slot.unset).toArray = ls at hl ⊢
  have hl : lv_has ls 4 [(0, .ref m_), (1, .int p0)] := hl
  refine p_nH (fun H hH => ?_)
  have hP : va_P g.1 vwCl [(m_, .inr (12, [.ref j0, .ref j1, .int 0, .int 0, .int 0, .int (-1), .int 0, .int 0, .int 0, .int 0, .long 0, .ref j11, .ref j12, .ref j13, .ref j14, .ref j15, .ref j16, .ref j17, .ref j18, .ref j19, .ref j20, .ref j21, .ref j22, .ref j23, .ref j24, .ref j25, .ref j26, .ref j27, .ref j28, .ref j29, .ref j30, .ref j31, .ref j32, .ref j33, .ref j34, .ref j35, .ref j36, .ref j37, .ref j38, .ref j39, .ref j40, .ref j41, .ref j42, .int 0, .int 0, .int 0, .int 0, .int 0, .int 0, .int 0, .int 0, .int 0, .ref j52, .ref j53, .int 0, .int 0, .ref j56, .ref j57, .ref j58, .ref j59, .ref j60, .ref j61, .ref j62, .ref j63, .ref j64, .ref j65, .int 0, .int 0, .int 0, .int 0, .int 0, .int 0, .int 0, .int 0, .int 0, .int 0, .int 0, .int 0, .ref j78, .ref j79, .ref j80, .ref j81, .ref j82, .int 0, .int 0, .ref j85, .ref j86])), (j52, aI g 374 z0)] H := by rw [hH]; exact hP
  have hS : va_S A s.heap H [] := by rw [hH]; exact hS
  refine lv_iload_n hx hb dX12_next_0 rfl (lv_at hl 1 rfl) ?_
  refine lv_iconst (v := 0) hx hb dX12_next_1 (by decide) ?_
  refine lv_iconst (v := 1) hx hb dX12_next_2 (by decide) ?_
  refine k_iR (k_S (n := 3) ⟨hx, hb, hml, hown, hT⟩ hK hP hD [] rfl (by decide) (c_X12_isIn_1 l g H.size p0) (gS bw_222 bw_223 bw_224 bw_219) rfl rfl (by decide +kernel) ⟨by decide, by decide⟩ (fun _ _ _ _ _ => trivial) (fun _ _ _ => trivial) rfl rfl hl.1 (Nat.le_of_ble_eq_true rfl) dX12_next_3 ⟨by decide, by decide⟩) hP hS hA (fun r_1 _ H locs hw hP hS => ?_)
  rcases hw with ⟨rfl, f_2, f_3⟩ | ⟨rfl, f_4⟩
  · refine lv_if_ne (tgt := 11) hx hb dX12_next_6 (by decide) (fun _ => ?_) (fun c9 => absurd c9 (by decide))
    refine lv_iconst (v := (-1)) hx hb dX12_next_11 (by decide) ?_
    refine lv_istore_n (lv' := [(2, .int (-1)), (0, .ref m_), (1, .int p0)]) hx hb dX12_next_12 rfl hl (by decide) rfl (fun ls hl => ?_)
    refine lv_iconst (v := 0) hx hb dX12_next_13 (by decide) ?_
    refine lv_istore_n (lv' := [(3, .int 0), (2, .int (-1)), (0, .ref m_), (1, .int p0)]) hx hb dX12_next_14 rfl hl (by decide) rfl (fun ls hl => ?_)
    refine lv_iload_n hx hb dX12_next_15 rfl (lv_at hl 0 rfl) ?_
    refine lv_aload_n hx hb dX12_next_16 rfl (lv_at hl 2 rfl) ?_
    refine va_get (D := g.1) (ci := 12) (v := .ref j52) (C := RX12) (T := TX12) (N := 87) hx hb hT inF_X12 hown hK.1 hP 0 rfl rfl 52 (by decide) (hT _ bw_228) (fun _ h9 => h9) rfl dX12_next_17 ?_
    refine lv_bipush (v := 70) hx hb dX12_next_20 (by decide) ?_
    refine va_iald hx hb hK.1 hP 1 1 rfl rfl (i := 70) (by unfold vp_in; decide) dX12_next_22 ?_
    refine p_ti (v := 0) (rfl) ?_
    refine lv_icmp_ge (tgt := 61) hx hb dX12_next_23 (by decide) (fun _ => ?_) (fun c9 => absurd (by decide) c9)
    refine lv_iload_n hx hb dX12_next_61 rfl (lv_at hl 1 rfl) ?_
    refine lv_if_ge (tgt := 69) hx hb dX12_next_62 (by decide) (fun c9 => absurd c9 (by decide)) (fun _ => ?_)
    refine lv_iconst (v := (-1)) hx hb dX12_next_65 (by decide) ?_
    refine lv_goto (tgt := 83) hx hb dX12_next_66 (by decide) ?_
    have hP9 : va_P g.1 vwCl [] H := hP.sub [] rfl
    have hD9 : va_D A [] := ⟨fun i j p q h => by simp at h, fun k q h => by simp at h⟩
    exact W.iret (v := (-1)) hx hb hr (fun t ht hW => ⟨⟨(-1), (), rfl, rfl, by rw [ht]; exact hP9, by rw [hAe]; exact hD9⟩, hS.F ht⟩) hS.2.2 dX12_next_83
  · refine lv_if_ne (tgt := 11) hx hb dX12_next_6 (by decide) (fun c9 => absurd (by decide) c9) (fun _ => ?_)
    refine lv_iconst (v := (-1)) hx hb dX12_next_9 (by decide) ?_
    have hP9 : va_P g.1 vwCl [] H := hP.sub [] rfl
    have hD9 : va_D A [] := ⟨fun i j p q h => by simp at h, fun k q h => by simp at h⟩
    exact W.iret (v := (-1)) hx hb hr (fun t ht hW => ⟨⟨(-1), (), rfl, rfl, by rw [ht]; exact hP9, by rw [hAe]; exact hD9⟩, hS.F ht⟩) hS.2.2 dX12_next_10

theorem bw_251 : Cond.code yX12_heir cX12_heir 2 (some .int) ∈ gT := gT_tb 2010 (by decide +kernel) (by decide +kernel)
theorem dX12_heir_0 : decode cX12_heir 0 = .ok (.aload_n 0, 1) := by decide +kernel
theorem dX12_heir_1 : decode cX12_heir 1 = .ok (.iload_n 1, 1) := by decide +kernel
theorem dX12_heir_2 : decode cX12_heir 2 = .ok (.invokevirtual 437, 3) := by decide +kernel
theorem dX12_heir_5 : decode cX12_heir 5 = .ok (.ifCond .eq 11, 3) := by decide +kernel
theorem dX12_heir_16 : decode cX12_heir 16 = .ok (.iconst (-1), 1) := by decide +kernel
theorem dX12_heir_17 : decode cX12_heir 17 = .ok (.ireturn, 1) := by decide +kernel
set_option maxHeartbeats 4000000 in
set_option maxRecDepth 100000 in
theorem c_X12_heir (l : Launch) (g : GG) (sz : Nat) (m_ : Nat) (j0 : Nat) (j1 : Nat) (j11 : Nat) (j12 : Nat) (j13 : Nat) (j14 : Nat) (j15 : Nat) (j16 : Nat) (j17 : Nat) (j18 : Nat) (j19 : Nat) (j20 : Nat) (j21 : Nat) (j22 : Nat) (j23 : Nat) (j24 : Nat) (j25 : Nat) (j26 : Nat) (j27 : Nat) (j28 : Nat) (j29 : Nat) (j30 : Nat) (j31 : Nat) (j32 : Nat) (j33 : Nat) (j34 : Nat) (j35 : Nat) (j36 : Nat) (j37 : Nat) (j38 : Nat) (j39 : Nat) (j40 : Nat) (j41 : Nat) (j42 : Nat) (j52 : Nat) (j53 : Nat) (j56 : Nat) (j57 : Nat) (j58 : Nat) (j59 : Nat) (j60 : Nat) (j61 : Nat) (j62 : Nat) (j63 : Nat) (j64 : Nat) (j65 : Nat) (j78 : Nat) (j79 : Nat) (j80 : Nat) (j81 : Nat) (j82 : Nat) (j85 : Nat) (j86 : Nat) (p0 : Int32) : Met l yX12_heir (.code yX12_heir cX12_heir 2 (some .int) :: gT) ({ frames := 2, cells := 0, slots := 0, locals := 43 }) (va_Pc [.ref m_, .int p0] (Pst g sz [(m_, .inr (12, [.ref j0, .ref j1, .int 0, .int 0, .int 0, .int (-1), .int 0, .int 0, .int 0, .int 0, .long 0, .ref j11, .ref j12, .ref j13, .ref j14, .ref j15, .ref j16, .ref j17, .ref j18, .ref j19, .ref j20, .ref j21, .ref j22, .ref j23, .ref j24, .ref j25, .ref j26, .ref j27, .ref j28, .ref j29, .ref j30, .ref j31, .ref j32, .ref j33, .ref j34, .ref j35, .ref j36, .ref j37, .ref j38, .ref j39, .ref j40, .ref j41, .ref j42, .int 0, .int 0, .int 0, .int 0, .int 0, .int 0, .int 0, .int 0, .int 0, .ref j52, .ref j53, .int 0, .int 0, .ref j56, .ref j57, .ref j58, .ref j59, .ref j60, .ref j61, .ref j62, .ref j63, .ref j64, .ref j65, .int 0, .int 0, .int 0, .int 0, .int 0, .int 0, .int 0, .int 0, .int 0, .int 0, .int 0, .int 0, .ref j78, .ref j79, .ref j80, .ref j81, .ref j82, .int 0, .int 0, .ref j85, .ref j86])), (j11, aI g 2 z0)] nX)) (va_Qi (fun (r : Int32) (_ : Unit) => r = (-1)) (Qst g [] sz (fun _ => [])) (va_A [] sz)) 0 0 (va_A [] sz) := by
  refine Met.ofW (cc := cX12_heir) (maxL := 2) (ret := (some .int)) (by decide) rfl ?_
  intro p e s m args below meth c s₁ B hml hv
  obtain ⟨rfl, hsz, hP, hK, hD0, hX⟩ := hv
  have hx := B.exec
  have hb := B.bytes
  have hr := B.returns
  have hT : ∀ w ∈ gT, w.before _ s = true := fun w h => atoms_spec (ws := .code yX12_heir cX12_heir 2 (some .int) :: gT) B.pre w (List.mem_cons_of_mem _ h)
  have hown : s.vm.findClass RX12 = some m.cls := findClass_of_methodNamed B.named
  have hlocks := B.notSynchronized
  subst hsz
  have hD := hD0
  generalize hAe : va_A [] s.heap.size = A at ⊢
  have hA : ∀ q : Nat, s.heap.size ≤ q → A q := fun q h => by rw [← hAe]; exact Or.inr h
  have hS : va_S A s.heap s.heap [] := va_S.rf
  have hl := lv_entry ([.ref m_, .int p0]) (n := 2) (Nat.le_of_ble_eq_true rfl)
  rw [lg_entry_eq]
  generalize (lg_sl ([.ref m_, .int p0]) ++ List.replicate (2 - (lg_sl ([.ref m_, .int p0])).length) Slot.unset).toArray = ls at hl ⊢
  have hl : lv_has ls 2 [(0, .ref m_), (1, .int p0)] := hl
  refine p_nH (fun H hH => ?_)
  have hP : va_P g.1 vwCl [(m_, .inr (12, [.ref j0, .ref j1, .int 0, .int 0, .int 0, .int (-1), .int 0, .int 0, .int 0, .int 0, .long 0, .ref j11, .ref j12, .ref j13, .ref j14, .ref j15, .ref j16, .ref j17, .ref j18, .ref j19, .ref j20, .ref j21, .ref j22, .ref j23, .ref j24, .ref j25, .ref j26, .ref j27, .ref j28, .ref j29, .ref j30, .ref j31, .ref j32, .ref j33, .ref j34, .ref j35, .ref j36, .ref j37, .ref j38, .ref j39, .ref j40, .ref j41, .ref j42, .int 0, .int 0, .int 0, .int 0, .int 0, .int 0, .int 0, .int 0, .int 0, .ref j52, .ref j53, .int 0, .int 0, .ref j56, .ref j57, .ref j58, .ref j59, .ref j60, .ref j61, .ref j62, .ref j63, .ref j64, .ref j65, .int 0, .int 0, .int 0, .int 0, .int 0, .int 0, .int 0, .int 0, .int 0, .int 0, .int 0, .int 0, .ref j78, .ref j79, .ref j80, .ref j81, .ref j82, .int 0, .int 0, .ref j85, .ref j86])), (j11, aI g 2 z0)] H := by rw [hH]; exact hP
  have hS : va_S A s.heap H [] := by rw [hH]; exact hS
  refine lv_aload_n hx hb dX12_heir_0 rfl (lv_at hl 0 rfl) ?_
  refine lv_iload_n hx hb dX12_heir_1 rfl (lv_at hl 1 rfl) ?_
  refine k_iR (k_V (n := 1) ⟨hx, hb, hml, hown, hT⟩ hK hP hD [0, 1] rfl (by decide) (c_X12_isMan l g H.size m_ j0 j1 j11 j12 j13 j14 j15 j16 j17 j18 j19 j20 j21 j22 j23 j24 j25 j26 j27 j28 j29 j30 j31 j32 j33 j34 j35 j36 j37 j38 j39 j40 j41 j42 j52 j53 j56 j57 j58 j59 j60 j61 j62 j63 j64 j65 j78 j79 j80 j81 j82 j85 j86 p0) (gV bw_239 bw_240 bw_241 bw_233 bw_225) rfl rfl (by decide +kernel) ⟨by decide, by decide⟩ (ci := 12) (q0 := 0) rfl rfl (fun _ _ _ _ _ => trivial) (fun _ _ _ => trivial) rfl rfl hl.1 (Nat.le_of_ble_eq_true rfl) dX12_heir_2 ⟨by decide, by decide⟩) hP hS hA (fun r_1 _ H locs hw hP hS => ?_)
  have hw : r_1 = 0 := hw
  subst hw
  refine lv_if_eq (tgt := 16) hx hb dX12_heir_5 (by decide) (fun _ => ?_) (fun c9 => absurd (by decide) c9)
  refine lv_iconst (v := (-1)) hx hb dX12_heir_16 (by decide) ?_
  have hP9 : va_P g.1 vwCl [] H := hP.sub [] rfl
  have hD9 : va_D A [] := ⟨fun i j p q h => by simp at h, fun k q h => by simp at h⟩
  exact W.iret (v := (-1)) hx hb hr (fun t ht hW => ⟨⟨(-1), (), rfl, rfl, by rw [ht]; exact hP9, by rw [hAe]; exact hD9⟩, hS.F ht⟩) hS.2.2 dX12_heir_17

theorem bw_252 : Cond.code yX12_his cX12_his 4 (some .int) ∈ gT := gT_tb 2014 (by decide +kernel) (by decide +kernel)
theorem dX12_his_0 : decode cX12_his 0 = .ok (.aload_n 0, 1) := by decide +kernel
theorem dX12_his_1 : decode cX12_his 1 = .ok (.iload_n 1, 1) := by decide +kernel
theorem dX12_his_2 : decode cX12_his 2 = .ok (.invokevirtual 437, 3) := by decide +kernel
theorem dX12_his_5 : decode cX12_his 5 = .ok (.ifCond .ne 5, 3) := by decide +kernel
theorem dX12_his_8 : decode cX12_his 8 = .ok (.iconst (-1), 1) := by decide +kernel
theorem dX12_his_9 : decode cX12_his 9 = .ok (.ireturn, 1) := by decide +kernel
set_option maxHeartbeats 4000000 in
set_option maxRecDepth 100000 in
theorem c_X12_his (l : Launch) (g : GG) (sz : Nat) (m_ : Nat) (j0 : Nat) (j1 : Nat) (j11 : Nat) (j12 : Nat) (j13 : Nat) (j14 : Nat) (j15 : Nat) (j16 : Nat) (j17 : Nat) (j18 : Nat) (j19 : Nat) (j20 : Nat) (j21 : Nat) (j22 : Nat) (j23 : Nat) (j24 : Nat) (j25 : Nat) (j26 : Nat) (j27 : Nat) (j28 : Nat) (j29 : Nat) (j30 : Nat) (j31 : Nat) (j32 : Nat) (j33 : Nat) (j34 : Nat) (j35 : Nat) (j36 : Nat) (j37 : Nat) (j38 : Nat) (j39 : Nat) (j40 : Nat) (j41 : Nat) (j42 : Nat) (j52 : Nat) (j53 : Nat) (j56 : Nat) (j57 : Nat) (j58 : Nat) (j59 : Nat) (j60 : Nat) (j61 : Nat) (j62 : Nat) (j63 : Nat) (j64 : Nat) (j65 : Nat) (j78 : Nat) (j79 : Nat) (j80 : Nat) (j81 : Nat) (j82 : Nat) (j85 : Nat) (j86 : Nat) (p0 : Int32) : Met l yX12_his (.code yX12_his cX12_his 4 (some .int) :: gT) ({ frames := 2, cells := 0, slots := 0, locals := 43 }) (va_Pc [.ref m_, .int p0] (Pst g sz [(m_, .inr (12, [.ref j0, .ref j1, .int 0, .int 0, .int 0, .int (-1), .int 0, .int 0, .int 0, .int 0, .long 0, .ref j11, .ref j12, .ref j13, .ref j14, .ref j15, .ref j16, .ref j17, .ref j18, .ref j19, .ref j20, .ref j21, .ref j22, .ref j23, .ref j24, .ref j25, .ref j26, .ref j27, .ref j28, .ref j29, .ref j30, .ref j31, .ref j32, .ref j33, .ref j34, .ref j35, .ref j36, .ref j37, .ref j38, .ref j39, .ref j40, .ref j41, .ref j42, .int 0, .int 0, .int 0, .int 0, .int 0, .int 0, .int 0, .int 0, .int 0, .ref j52, .ref j53, .int 0, .int 0, .ref j56, .ref j57, .ref j58, .ref j59, .ref j60, .ref j61, .ref j62, .ref j63, .ref j64, .ref j65, .int 0, .int 0, .int 0, .int 0, .int 0, .int 0, .int 0, .int 0, .int 0, .int 0, .int 0, .int 0, .ref j78, .ref j79, .ref j80, .ref j81, .ref j82, .int 0, .int 0, .ref j85, .ref j86])), (j11, aI g 2 z0)] nX)) (va_Qi (fun (r : Int32) (_ : Unit) => r = (-1)) (Qst g [] sz (fun _ => [])) (va_A [] sz)) 0 0 (va_A [] sz) := by
  refine Met.ofW (cc := cX12_his) (maxL := 4) (ret := (some .int)) (by decide) rfl ?_
  intro p e s m args below meth c s₁ B hml hv
  obtain ⟨rfl, hsz, hP, hK, hD0, hX⟩ := hv
  have hx := B.exec
  have hb := B.bytes
  have hr := B.returns
  have hT : ∀ w ∈ gT, w.before _ s = true := fun w h => atoms_spec (ws := .code yX12_his cX12_his 4 (some .int) :: gT) B.pre w (List.mem_cons_of_mem _ h)
  have hown : s.vm.findClass RX12 = some m.cls := findClass_of_methodNamed B.named
  have hlocks := B.notSynchronized
  subst hsz
  have hD := hD0
  generalize hAe : va_A [] s.heap.size = A at ⊢
  have hA : ∀ q : Nat, s.heap.size ≤ q → A q := fun q h => by rw [← hAe]; exact Or.inr h
  have hS : va_S A s.heap s.heap [] := va_S.rf
  have hl := lv_entry ([.ref m_, .int p0]) (n := 4) (Nat.le_of_ble_eq_true rfl)
  rw [lg_entry_eq]
  generalize (lg_sl ([.ref m_, .int p0]) ++ List.replicate (4 - (lg_sl ([.ref m_, .int p0])).length) Slot.unset).toArray = ls at hl ⊢
  have hl : lv_has ls 4 [(0, .ref m_), (1, .int p0)] := hl
  refine p_nH (fun H hH => ?_)
  have hP : va_P g.1 vwCl [(m_, .inr (12, [.ref j0, .ref j1, .int 0, .int 0, .int 0, .int (-1), .int 0, .int 0, .int 0, .int 0, .long 0, .ref j11, .ref j12, .ref j13, .ref j14, .ref j15, .ref j16, .ref j17, .ref j18, .ref j19, .ref j20, .ref j21, .ref j22, .ref j23, .ref j24, .ref j25, .ref j26, .ref j27, .ref j28, .ref j29, .ref j30, .ref j31, .ref j32, .ref j33, .ref j34, .ref j35, .ref j36, .ref j37, .ref j38, .ref j39, .ref j40, .ref j41, .ref j42, .int 0, .int 0, .int 0, .int 0, .int 0, .int 0, .int 0, .int 0, .int 0, .ref j52, .ref j53, .int 0, .int 0, .ref j56, .ref j57, .ref j58, .ref j59, .ref j60, .ref j61, .ref j62, .ref j63, .ref j64, .ref j65, .int 0, .int 0, .int 0, .int 0, .int 0, .int 0, .int 0, .int 0, .int 0, .int 0, .int 0, .int 0, .ref j78, .ref j79, .ref j80, .ref j81, .ref j82, .int 0, .int 0, .ref j85, .ref j86])), (j11, aI g 2 z0)] H := by rw [hH]; exact hP
  have hS : va_S A s.heap H [] := by rw [hH]; exact hS
  refine lv_aload_n hx hb dX12_his_0 rfl (lv_at hl 0 rfl) ?_
  refine lv_iload_n hx hb dX12_his_1 rfl (lv_at hl 1 rfl) ?_
  refine k_iR (k_V (n := 1) ⟨hx, hb, hml, hown, hT⟩ hK hP hD [0, 1] rfl (by decide) (c_X12_isMan l g H.size m_ j0 j1 j11 j12 j13 j14 j15 j16 j17 j18 j19 j20 j21 j22 j23 j24 j25 j26 j27 j28 j29 j30 j31 j32 j33 j34 j35 j36 j37 j38 j39 j40 j41 j42 j52 j53 j56 j57 j58 j59 j60 j61 j62 j63 j64 j65 j78 j79 j80 j81 j82 j85 j86 p0) (gV bw_239 bw_240 bw_241 bw_233 bw_225) rfl rfl (by decide +kernel) ⟨by decide, by decide⟩ (ci := 12) (q0 := 0) rfl rfl (fun _ _ _ _ _ => trivial) (fun _ _ _ => trivial) rfl rfl hl.1 (Nat.le_of_ble_eq_true rfl) dX12_his_2 ⟨by decide, by decide⟩) hP hS hA (fun r_1 _ H locs hw hP hS => ?_)
  have hw : r_1 = 0 := hw
  subst hw
  refine lv_if_ne (tgt := 10) hx hb dX12_his_5 (by decide) (fun c9 => absurd (by decide) c9) (fun _ => ?_)
  refine lv_iconst (v := (-1)) hx hb dX12_his_8 (by decide) ?_
  have hP9 : va_P g.1 vwCl [] H := hP.sub [] rfl
  have hD9 : va_D A [] := ⟨fun i j p q h => by simp at h, fun k q h => by simp at h⟩
  exact W.iret (v := (-1)) hx hb hr (fun t ht hW => ⟨⟨(-1), (), rfl, rfl, by rw [ht]; exact hP9, by rw [hAe]; exact hD9⟩, hS.F ht⟩) hS.2.2 dX12_his_9

theorem bw_253 : Cond.code yX12_comes cX12_comes 5 (some .int) ∈ gT := gT_tb 2019 (by decide +kernel) (by decide +kernel)
theorem dX12_comes_0 : decode cX12_comes 0 = .ok (.aload_n 0, 1) := by decide +kernel
theorem dX12_comes_1 : decode cX12_comes 1 = .ok (.iload_n 1, 1) := by decide +kernel
theorem dX12_comes_2 : decode cX12_comes 2 = .ok (.invokevirtual 437, 3) := by decide +kernel
theorem dX12_comes_5 : decode cX12_comes 5 = .ok (.ifCond .eq 11, 3) := by decide +kernel
theorem dX12_comes_16 : decode cX12_comes 16 = .ok (.iconst (-1), 1) := by decide +kernel
theorem dX12_comes_17 : decode cX12_comes 17 = .ok (.ireturn, 1) := by decide +kernel
set_option maxHeartbeats 4000000 in
set_option maxRecDepth 100000 in
theorem c_X12_comes (l : Launch) (g : GG) (sz : Nat) (m_ : Nat) (j0 : Nat) (j1 : Nat) (j11 : Nat) (j12 : Nat) (j13 : Nat) (j14 : Nat) (j15 : Nat) (j16 : Nat) (j17 : Nat) (j18 : Nat) (j19 : Nat) (j20 : Nat) (j21 : Nat) (j22 : Nat) (j23 : Nat) (j24 : Nat) (j25 : Nat) (j26 : Nat) (j27 : Nat) (j28 : Nat) (j29 : Nat) (j30 : Nat) (j31 : Nat) (j32 : Nat) (j33 : Nat) (j34 : Nat) (j35 : Nat) (j36 : Nat) (j37 : Nat) (j38 : Nat) (j39 : Nat) (j40 : Nat) (j41 : Nat) (j42 : Nat) (j52 : Nat) (j53 : Nat) (j56 : Nat) (j57 : Nat) (j58 : Nat) (j59 : Nat) (j60 : Nat) (j61 : Nat) (j62 : Nat) (j63 : Nat) (j64 : Nat) (j65 : Nat) (j78 : Nat) (j79 : Nat) (j80 : Nat) (j81 : Nat) (j82 : Nat) (j85 : Nat) (j86 : Nat) (p0 : Int32) (p1 : Int32) : Met l yX12_comes (.code yX12_comes cX12_comes 5 (some .int) :: gT) ({ frames := 2, cells := 0, slots := 0, locals := 43 }) (va_Pc [.ref m_, .int p0, .int p1] (Pst g sz [(m_, .inr (12, [.ref j0, .ref j1, .int 0, .int 0, .int 0, .int (-1), .int 0, .int 0, .int 0, .int 0, .long 0, .ref j11, .ref j12, .ref j13, .ref j14, .ref j15, .ref j16, .ref j17, .ref j18, .ref j19, .ref j20, .ref j21, .ref j22, .ref j23, .ref j24, .ref j25, .ref j26, .ref j27, .ref j28, .ref j29, .ref j30, .ref j31, .ref j32, .ref j33, .ref j34, .ref j35, .ref j36, .ref j37, .ref j38, .ref j39, .ref j40, .ref j41, .ref j42, .int 0, .int 0, .int 0, .int 0, .int 0, .int 0, .int 0, .int 0, .int 0, .ref j52, .ref j53, .int 0, .int 0, .ref j56, .ref j57, .ref j58, .ref j59, .ref j60, .ref j61, .ref j62, .ref j63, .ref j64, .ref j65, .int 0, .int 0, .int 0, .int 0, .int 0, .int 0, .int 0, .int 0, .int 0, .int 0, .int 0, .int 0, .ref j78, .ref j79, .ref j80, .ref j81, .ref j82, .int 0, .int 0, .ref j85, .ref j86])), (j11, aI g 2 z0)] nX)) (va_Qi (fun (r : Int32) (_ : Unit) => r = (-1)) (Qst g [] sz (fun _ => [])) (va_A [] sz)) 0 0 (va_A [] sz) := by
  refine Met.ofW (cc := cX12_comes) (maxL := 5) (ret := (some .int)) (by decide) rfl ?_
  intro p e s m args below meth c s₁ B hml hv
  obtain ⟨rfl, hsz, hP, hK, hD0, hX⟩ := hv
  have hx := B.exec
  have hb := B.bytes
  have hr := B.returns
  have hT : ∀ w ∈ gT, w.before _ s = true := fun w h => atoms_spec (ws := .code yX12_comes cX12_comes 5 (some .int) :: gT) B.pre w (List.mem_cons_of_mem _ h)
  have hown : s.vm.findClass RX12 = some m.cls := findClass_of_methodNamed B.named
  have hlocks := B.notSynchronized
  subst hsz
  have hD := hD0
  generalize hAe : va_A [] s.heap.size = A at ⊢
  have hA : ∀ q : Nat, s.heap.size ≤ q → A q := fun q h => by rw [← hAe]; exact Or.inr h
  have hS : va_S A s.heap s.heap [] := va_S.rf
  have hl := lv_entry ([.ref m_, .int p0, .int p1]) (n := 5) (Nat.le_of_ble_eq_true rfl)
  rw [lg_entry_eq]
  generalize (lg_sl ([.ref m_, .int p0, .int p1]) ++ List.replicate (5 - (lg_sl ([.ref m_, .int p0, .int p1])).length) Slot.unset).toArray = ls at hl ⊢
  have hl : lv_has ls 5 [(0, .ref m_), (1, .int p0), (2, .int p1)] := hl
  refine p_nH (fun H hH => ?_)
  have hP : va_P g.1 vwCl [(m_, .inr (12, [.ref j0, .ref j1, .int 0, .int 0, .int 0, .int (-1), .int 0, .int 0, .int 0, .int 0, .long 0, .ref j11, .ref j12, .ref j13, .ref j14, .ref j15, .ref j16, .ref j17, .ref j18, .ref j19, .ref j20, .ref j21, .ref j22, .ref j23, .ref j24, .ref j25, .ref j26, .ref j27, .ref j28, .ref j29, .ref j30, .ref j31, .ref j32, .ref j33, .ref j34, .ref j35, .ref j36, .ref j37, .ref j38, .ref j39, .ref j40, .ref j41, .ref j42, .int 0, .int 0, .int 0, .int 0, .int 0, .int 0, .int 0, .int 0, .int 0, .ref j52, .ref j53, .int 0, .int 0, .ref j56, .ref j57, .ref j58, .ref j59, .ref j60, .ref j61, .ref j62, .ref j63, .ref j64, .ref j65, .int 0, .int 0, .int 0, .int 0, .int 0, .int 0, .int 0, .int 0, .int 0, .int 0, .int 0, .int 0, .ref j78, .ref j79, .ref j80, .ref j81, .ref j82, .int 0, .int 0, .ref j85, .ref j86])), (j11, aI g 2 z0)] H := by rw [hH]; exact hP
  have hS : va_S A s.heap H [] := by rw [hH]; exact hS
  refine lv_aload_n hx hb dX12_comes_0 rfl (lv_at hl 0 rfl) ?_
  refine lv_iload_n hx hb dX12_comes_1 rfl (lv_at hl 1 rfl) ?_
  refine k_iR (k_V (n := 1) ⟨hx, hb, hml, hown, hT⟩ hK hP hD [0, 1] rfl (by decide) (c_X12_isMan l g H.size m_ j0 j1 j11 j12 j13 j14 j15 j16 j17 j18 j19 j20 j21 j22 j23 j24 j25 j26 j27 j28 j29 j30 j31 j32 j33 j34 j35 j36 j37 j38 j39 j40 j41 j42 j52 j53 j56 j57 j58 j59 j60 j61 j62 j63 j64 j65 j78 j79 j80 j81 j82 j85 j86 p0) (gV bw_239 bw_240 bw_241 bw_233 bw_225) rfl rfl (by decide +kernel) ⟨by decide, by decide⟩ (ci := 12) (q0 := 0) rfl rfl (fun _ _ _ _ _ => trivial) (fun _ _ _ => trivial) rfl rfl hl.1 (Nat.le_of_ble_eq_true rfl) dX12_comes_2 ⟨by decide, by decide⟩) hP hS hA (fun r_1 _ H locs hw hP hS => ?_)
  have hw : r_1 = 0 := hw
  subst hw
  refine lv_if_eq (tgt := 16) hx hb dX12_comes_5 (by decide) (fun _ => ?_) (fun c9 => absurd (by decide) c9)
  refine lv_iconst (v := (-1)) hx hb dX12_comes_16 (by decide) ?_
  have hP9 : va_P g.1 vwCl [] H := hP.sub [] rfl
  have hD9 : va_D A [] := ⟨fun i j p q h => by simp at h, fun k q h => by simp at h⟩
  exact W.iret (v := (-1)) hx hb hr (fun t ht hW => ⟨⟨(-1), (), rfl, rfl, by rw [ht]; exact hP9, by rw [hAe]; exact hD9⟩, hS.F ht⟩) hS.2.2 dX12_comes_17

theorem bw_254 : Cond.code yX12_put cX12_put 7 (some .int) ∈ gT := gT_tb 1842 (by decide +kernel) (by decide +kernel)
theorem dX12_put_0 : decode cX12_put 0 = .ok (.aload_n 0, 1) := by decide +kernel
theorem dX12_put_1 : decode cX12_put 1 = .ok (.iload_n 1, 1) := by decide +kernel
theorem dX12_put_2 : decode cX12_put 2 = .ok (.invokevirtual 415, 3) := by decide +kernel
theorem dX12_put_5 : decode cX12_put 5 = .ok (.ifCond .eq 28, 3) := by decide +kernel
theorem dX12_put_33 : decode cX12_put 33 = .ok (.iconst (-1), 1) := by decide +kernel
theorem dX12_put_34 : decode cX12_put 34 = .ok (.ireturn, 1) := by decide +kernel
set_option maxHeartbeats 4000000 in
set_option maxRecDepth 100000 in
theorem c_X12_put (l : Launch) (g : GG) (sz : Nat) (m_ : Nat) (j0 : Nat) (j1 : Nat) (j11 : Nat) (j12 : Nat) (j13 : Nat) (j14 : Nat) (j15 : Nat) (j16 : Nat) (j17 : Nat) (j18 : Nat) (j19 : Nat) (j20 : Nat) (j21 : Nat) (j22 : Nat) (j23 : Nat) (j24 : Nat) (j25 : Nat) (j26 : Nat) (j27 : Nat) (j28 : Nat) (j29 : Nat) (j30 : Nat) (j31 : Nat) (j32 : Nat) (j33 : Nat) (j34 : Nat) (j35 : Nat) (j36 : Nat) (j37 : Nat) (j38 : Nat) (j39 : Nat) (j40 : Nat) (j41 : Nat) (j42 : Nat) (j52 : Nat) (j53 : Nat) (j56 : Nat) (j57 : Nat) (j58 : Nat) (j59 : Nat) (j60 : Nat) (j61 : Nat) (j62 : Nat) (j63 : Nat) (j64 : Nat) (j65 : Nat) (j78 : Nat) (j79 : Nat) (j80 : Nat) (j81 : Nat) (j82 : Nat) (j85 : Nat) (j86 : Nat) (p0 : Int32) (p1 : Int32) (p2 : Int32) : Met l yX12_put (.code yX12_put cX12_put 7 (some .int) :: gT) ({ frames := 2, cells := 0, slots := 0, locals := 43 }) (va_Pc [.ref m_, .int p0, .int p1, .int p2] (Pst g sz [(m_, .inr (12, [.ref j0, .ref j1, .int 0, .int 0, .int 0, .int (-1), .int 0, .int 0, .int 0, .int 0, .long 0, .ref j11, .ref j12, .ref j13, .ref j14, .ref j15, .ref j16, .ref j17, .ref j18, .ref j19, .ref j20, .ref j21, .ref j22, .ref j23, .ref j24, .ref j25, .ref j26, .ref j27, .ref j28, .ref j29, .ref j30, .ref j31, .ref j32, .ref j33, .ref j34, .ref j35, .ref j36, .ref j37, .ref j38, .ref j39, .ref j40, .ref j41, .ref j42, .int 0, .int 0, .int 0, .int 0, .int 0, .int 0, .int 0, .int 0, .int 0, .ref j52, .ref j53, .int 0, .int 0, .ref j56, .ref j57, .ref j58, .ref j59, .ref j60, .ref j61, .ref j62, .ref j63, .ref j64, .ref j65, .int 0, .int 0, .int 0, .int 0, .int 0, .int 0, .int 0, .int 0, .int 0, .int 0, .int 0, .int 0, .ref j78, .ref j79, .ref j80, .ref j81, .ref j82, .int 0, .int 0, .ref j85, .ref j86])), (j52, aI g 374 z0)] nX)) (va_Qi (fun (r : Int32) (_ : Unit) => r = (-1)) (Qst g [] sz (fun _ => [])) (va_A [] sz)) 0 0 (va_A [] sz) := by
  refine Met.ofW (cc := cX12_put) (maxL := 7) (ret := (some .int)) (by decide) rfl ?_
  intro p e s m args below meth c s₁ B hml hv
  obtain ⟨rfl, hsz, hP, hK, hD0, hX⟩ := hv
  have hx := B.exec
  have hb := B.bytes
  have hr := B.returns
  have hT : ∀ w ∈ gT, w.before _ s = true := fun w h => atoms_spec (ws := .code yX12_put cX12_put 7 (some .int) :: gT) B.pre w (List.mem_cons_of_mem _ h)
  have hown : s.vm.findClass RX12 = some m.cls := findClass_of_methodNamed B.named
  have hlocks := B.notSynchronized
  subst hsz
  have hD := hD0
  generalize hAe : va_A [] s.heap.size = A at ⊢
  have hA : ∀ q : Nat, s.heap.size ≤ q → A q := fun q h => by rw [← hAe]; exact Or.inr h
  have hS : va_S A s.heap s.heap [] := va_S.rf
  have hl := lv_entry ([.ref m_, .int p0, .int p1, .int p2]) (n := 7) (Nat.le_of_ble_eq_true rfl)
  rw [lg_entry_eq]
  generalize (lg_sl ([.ref m_, .int p0, .int p1, .int p2]) ++ List.replicate (7 - (lg_sl ([.ref m_, .int p0, .int p1, .int p2])).length) Slot.unset).toArray = ls at hl ⊢
  have hl : lv_has ls 7 [(0, .ref m_), (1, .int p0), (2, .int p1), (3, .int p2)] := hl
  refine p_nH (fun H hH => ?_)
  have hP : va_P g.1 vwCl [(m_, .inr (12, [.ref j0, .ref j1, .int 0, .int 0, .int 0, .int (-1), .int 0, .int 0, .int 0, .int 0, .long 0, .ref j11, .ref j12, .ref j13, .ref j14, .ref j15, .ref j16, .ref j17, .ref j18, .ref j19, .ref j20, .ref j21, .ref j22, .ref j23, .ref j24, .ref j25, .ref j26, .ref j27, .ref j28, .ref j29, .ref j30, .ref j31, .ref j32, .ref j33, .ref j34, .ref j35, .ref j36, .ref j37, .ref j38, .ref j39, .ref j40, .ref j41, .ref j42, .int 0, .int 0, .int 0, .int 0, .int 0, .int 0, .int 0, .int 0, .int 0, .ref j52, .ref j53, .int 0, .int 0, .ref j56, .ref j57, .ref j58, .ref j59, .ref j60, .ref j61, .ref j62, .ref j63, .ref j64, .ref j65, .int 0, .int 0, .int 0, .int 0, .int 0, .int 0, .int 0, .int 0, .int 0, .int 0, .int 0, .int 0, .ref j78, .ref j79, .ref j80, .ref j81, .ref j82, .int 0, .int 0, .ref j85, .ref j86])), (j52, aI g 374 z0)] H := by rw [hH]; exact hP
  have hS : va_S A s.heap H [] := by rw [hH]; exact hS
  refine lv_aload_n hx hb dX12_put_0 rfl (lv_at hl 0 rfl) ?_
  refine lv_iload_n hx hb dX12_put_1 rfl (lv_at hl 1 rfl) ?_
  refine k_iR (k_V (n := 1) ⟨hx, hb, hml, hown, hT⟩ hK hP hD [0, 1] rfl (by decide) (c_X12_isDuel l g H.size m_ j0 j1 j11 j12 j13 j14 j15 j16 j17 j18 j19 j20 j21 j22 j23 j24 j25 j26 j27 j28 j29 j30 j31 j32 j33 j34 j35 j36 j37 j38 j39 j40 j41 j42 j52 j53 j56 j57 j58 j59 j60 j61 j62 j63 j64 j65 j78 j79 j80 j81 j82 j85 j86 p0) (gV bw_230 bw_231 bw_232 bw_233 bw_229) rfl rfl (by decide +kernel) ⟨by decide, by decide⟩ (ci := 12) (q0 := 0) rfl rfl (fun _ _ _ _ _ => trivial) (fun _ _ _ => trivial) rfl rfl hl.1 (Nat.le_of_ble_eq_true rfl) dX12_put_2 ⟨by decide, by decide⟩) hP hS hA (fun r_1 _ H locs hw hP hS => ?_)
  have hw : r_1 = 0 := hw
  subst hw
  refine lv_if_eq (tgt := 33) hx hb dX12_put_5 (by decide) (fun _ => ?_) (fun c9 => absurd (by decide) c9)
  refine lv_iconst (v := (-1)) hx hb dX12_put_33 (by decide) ?_
  have hP9 : va_P g.1 vwCl [] H := hP.sub [] rfl
  have hD9 : va_D A [] := ⟨fun i j p q h => by simp at h, fun k q h => by simp at h⟩
  exact W.iret (v := (-1)) hx hb hr (fun t ht hW => ⟨⟨(-1), (), rfl, rfl, by rw [ht]; exact hP9, by rw [hAe]; exact hD9⟩, hS.F ht⟩) hS.2.2 dX12_put_34

theorem bw_255 : Cond.code yX12_rent cX12_rent 5 (some .int) ∈ gT := gT_tb 1853 (by decide +kernel) (by decide +kernel)
theorem dX12_rent_0 : decode cX12_rent 0 = .ok (.aload_n 0, 1) := by decide +kernel
theorem dX12_rent_1 : decode cX12_rent 1 = .ok (.iload_n 1, 1) := by decide +kernel
theorem dX12_rent_2 : decode cX12_rent 2 = .ok (.invokevirtual 437, 3) := by decide +kernel
theorem dX12_rent_5 : decode cX12_rent 5 = .ok (.ifCond .eq 19, 3) := by decide +kernel
theorem dX12_rent_24 : decode cX12_rent 24 = .ok (.iconst (-1), 1) := by decide +kernel
theorem dX12_rent_25 : decode cX12_rent 25 = .ok (.ireturn, 1) := by decide +kernel
set_option maxHeartbeats 4000000 in
set_option maxRecDepth 100000 in
theorem c_X12_rent (l : Launch) (g : GG) (sz : Nat) (m_ : Nat) (j0 : Nat) (j1 : Nat) (j11 : Nat) (j12 : Nat) (j13 : Nat) (j14 : Nat) (j15 : Nat) (j16 : Nat) (j17 : Nat) (j18 : Nat) (j19 : Nat) (j20 : Nat) (j21 : Nat) (j22 : Nat) (j23 : Nat) (j24 : Nat) (j25 : Nat) (j26 : Nat) (j27 : Nat) (j28 : Nat) (j29 : Nat) (j30 : Nat) (j31 : Nat) (j32 : Nat) (j33 : Nat) (j34 : Nat) (j35 : Nat) (j36 : Nat) (j37 : Nat) (j38 : Nat) (j39 : Nat) (j40 : Nat) (j41 : Nat) (j42 : Nat) (j52 : Nat) (j53 : Nat) (j56 : Nat) (j57 : Nat) (j58 : Nat) (j59 : Nat) (j60 : Nat) (j61 : Nat) (j62 : Nat) (j63 : Nat) (j64 : Nat) (j65 : Nat) (j78 : Nat) (j79 : Nat) (j80 : Nat) (j81 : Nat) (j82 : Nat) (j85 : Nat) (j86 : Nat) (p0 : Int32) (p1 : Int32) : Met l yX12_rent (.code yX12_rent cX12_rent 5 (some .int) :: gT) ({ frames := 2, cells := 0, slots := 0, locals := 43 }) (va_Pc [.ref m_, .int p0, .int p1] (Pst g sz [(m_, .inr (12, [.ref j0, .ref j1, .int 0, .int 0, .int 0, .int (-1), .int 0, .int 0, .int 0, .int 0, .long 0, .ref j11, .ref j12, .ref j13, .ref j14, .ref j15, .ref j16, .ref j17, .ref j18, .ref j19, .ref j20, .ref j21, .ref j22, .ref j23, .ref j24, .ref j25, .ref j26, .ref j27, .ref j28, .ref j29, .ref j30, .ref j31, .ref j32, .ref j33, .ref j34, .ref j35, .ref j36, .ref j37, .ref j38, .ref j39, .ref j40, .ref j41, .ref j42, .int 0, .int 0, .int 0, .int 0, .int 0, .int 0, .int 0, .int 0, .int 0, .ref j52, .ref j53, .int 0, .int 0, .ref j56, .ref j57, .ref j58, .ref j59, .ref j60, .ref j61, .ref j62, .ref j63, .ref j64, .ref j65, .int 0, .int 0, .int 0, .int 0, .int 0, .int 0, .int 0, .int 0, .int 0, .int 0, .int 0, .int 0, .ref j78, .ref j79, .ref j80, .ref j81, .ref j82, .int 0, .int 0, .ref j85, .ref j86])), (j11, aI g 2 z0)] nX)) (va_Qi (fun (r : Int32) (_ : Unit) => r = (-1)) (Qst g [] sz (fun _ => [])) (va_A [] sz)) 0 0 (va_A [] sz) := by
  refine Met.ofW (cc := cX12_rent) (maxL := 5) (ret := (some .int)) (by decide) rfl ?_
  intro p e s m args below meth c s₁ B hml hv
  obtain ⟨rfl, hsz, hP, hK, hD0, hX⟩ := hv
  have hx := B.exec
  have hb := B.bytes
  have hr := B.returns
  have hT : ∀ w ∈ gT, w.before _ s = true := fun w h => atoms_spec (ws := .code yX12_rent cX12_rent 5 (some .int) :: gT) B.pre w (List.mem_cons_of_mem _ h)
  have hown : s.vm.findClass RX12 = some m.cls := findClass_of_methodNamed B.named
  have hlocks := B.notSynchronized
  subst hsz
  have hD := hD0
  generalize hAe : va_A [] s.heap.size = A at ⊢
  have hA : ∀ q : Nat, s.heap.size ≤ q → A q := fun q h => by rw [← hAe]; exact Or.inr h
  have hS : va_S A s.heap s.heap [] := va_S.rf
  have hl := lv_entry ([.ref m_, .int p0, .int p1]) (n := 5) (Nat.le_of_ble_eq_true rfl)
  rw [lg_entry_eq]
  generalize (lg_sl ([.ref m_, .int p0, .int p1]) ++ List.replicate (5 - (lg_sl ([.ref m_, .int p0, .int p1])).length) Slot.unset).toArray = ls at hl ⊢
  have hl : lv_has ls 5 [(0, .ref m_), (1, .int p0), (2, .int p1)] := hl
  refine p_nH (fun H hH => ?_)
  have hP : va_P g.1 vwCl [(m_, .inr (12, [.ref j0, .ref j1, .int 0, .int 0, .int 0, .int (-1), .int 0, .int 0, .int 0, .int 0, .long 0, .ref j11, .ref j12, .ref j13, .ref j14, .ref j15, .ref j16, .ref j17, .ref j18, .ref j19, .ref j20, .ref j21, .ref j22, .ref j23, .ref j24, .ref j25, .ref j26, .ref j27, .ref j28, .ref j29, .ref j30, .ref j31, .ref j32, .ref j33, .ref j34, .ref j35, .ref j36, .ref j37, .ref j38, .ref j39, .ref j40, .ref j41, .ref j42, .int 0, .int 0, .int 0, .int 0, .int 0, .int 0, .int 0, .int 0, .int 0, .ref j52, .ref j53, .int 0, .int 0, .ref j56, .ref j57, .ref j58, .ref j59, .ref j60, .ref j61, .ref j62, .ref j63, .ref j64, .ref j65, .int 0, .int 0, .int 0, .int 0, .int 0, .int 0, .int 0, .int 0, .int 0, .int 0, .int 0, .int 0, .ref j78, .ref j79, .ref j80, .ref j81, .ref j82, .int 0, .int 0, .ref j85, .ref j86])), (j11, aI g 2 z0)] H := by rw [hH]; exact hP
  have hS : va_S A s.heap H [] := by rw [hH]; exact hS
  refine lv_aload_n hx hb dX12_rent_0 rfl (lv_at hl 0 rfl) ?_
  refine lv_iload_n hx hb dX12_rent_1 rfl (lv_at hl 1 rfl) ?_
  refine k_iR (k_V (n := 1) ⟨hx, hb, hml, hown, hT⟩ hK hP hD [0, 1] rfl (by decide) (c_X12_isMan l g H.size m_ j0 j1 j11 j12 j13 j14 j15 j16 j17 j18 j19 j20 j21 j22 j23 j24 j25 j26 j27 j28 j29 j30 j31 j32 j33 j34 j35 j36 j37 j38 j39 j40 j41 j42 j52 j53 j56 j57 j58 j59 j60 j61 j62 j63 j64 j65 j78 j79 j80 j81 j82 j85 j86 p0) (gV bw_239 bw_240 bw_241 bw_233 bw_225) rfl rfl (by decide +kernel) ⟨by decide, by decide⟩ (ci := 12) (q0 := 0) rfl rfl (fun _ _ _ _ _ => trivial) (fun _ _ _ => trivial) rfl rfl hl.1 (Nat.le_of_ble_eq_true rfl) dX12_rent_2 ⟨by decide, by decide⟩) hP hS hA (fun r_1 _ H locs hw hP hS => ?_)
  have hw : r_1 = 0 := hw
  subst hw
  refine lv_if_eq (tgt := 24) hx hb dX12_rent_5 (by decide) (fun _ => ?_) (fun c9 => absurd (by decide) c9)
  refine lv_iconst (v := (-1)) hx hb dX12_rent_24 (by decide) ?_
  have hP9 : va_P g.1 vwCl [] H := hP.sub [] rfl
  have hD9 : va_D A [] := ⟨fun i j p q h => by simp at h, fun k q h => by simp at h⟩
  exact W.iret (v := (-1)) hx hb hr (fun t ht hW => ⟨⟨(-1), (), rfl, rfl, by rw [ht]; exact hP9, by rw [hAe]; exact hD9⟩, hS.F ht⟩) hS.2.2 dX12_rent_25

theorem bw_256 : Cond.code yX12_strike cX12_strike 2 (some .boolean) ∈ gT := gT_tb 1857 (by decide +kernel) (by decide +kernel)
theorem dX12_strike_0 : decode cX12_strike 0 = .ok (.aload_n 0, 1) := by decide +kernel
theorem dX12_strike_1 : decode cX12_strike 1 = .ok (.iload_n 1, 1) := by decide +kernel
theorem dX12_strike_2 : decode cX12_strike 2 = .ok (.invokevirtual 449, 3) := by decide +kernel
theorem dX12_strike_5 : decode cX12_strike 5 = .ok (.ifCond .eq 11, 3) := by decide +kernel
theorem dX12_strike_16 : decode cX12_strike 16 = .ok (.iconst 0, 1) := by decide +kernel
theorem dX12_strike_17 : decode cX12_strike 17 = .ok (.ireturn, 1) := by decide +kernel
set_option maxHeartbeats 4000000 in
set_option maxRecDepth 100000 in
theorem c_X12_strike (l : Launch) (g : GG) (sz : Nat) (m_ : Nat) (j0 : Nat) (j1 : Nat) (j11 : Nat) (j12 : Nat) (j13 : Nat) (j14 : Nat) (j15 : Nat) (j16 : Nat) (j17 : Nat) (j18 : Nat) (j19 : Nat) (j20 : Nat) (j21 : Nat) (j22 : Nat) (j23 : Nat) (j24 : Nat) (j25 : Nat) (j26 : Nat) (j27 : Nat) (j28 : Nat) (j29 : Nat) (j30 : Nat) (j31 : Nat) (j32 : Nat) (j33 : Nat) (j34 : Nat) (j35 : Nat) (j36 : Nat) (j37 : Nat) (j38 : Nat) (j39 : Nat) (j40 : Nat) (j41 : Nat) (j42 : Nat) (j52 : Nat) (j53 : Nat) (j56 : Nat) (j57 : Nat) (j58 : Nat) (j59 : Nat) (j60 : Nat) (j61 : Nat) (j62 : Nat) (j63 : Nat) (j64 : Nat) (j65 : Nat) (j78 : Nat) (j79 : Nat) (j80 : Nat) (j81 : Nat) (j82 : Nat) (j85 : Nat) (j86 : Nat) (p0 : Int32) : Met l yX12_strike (.code yX12_strike cX12_strike 2 (some .boolean) :: gT) ({ frames := 2, cells := 0, slots := 0, locals := 43 }) (va_Pc [.ref m_, .int p0] (Pst g sz [(m_, .inr (12, [.ref j0, .ref j1, .int 0, .int 0, .int 0, .int (-1), .int 0, .int 0, .int 0, .int 0, .long 0, .ref j11, .ref j12, .ref j13, .ref j14, .ref j15, .ref j16, .ref j17, .ref j18, .ref j19, .ref j20, .ref j21, .ref j22, .ref j23, .ref j24, .ref j25, .ref j26, .ref j27, .ref j28, .ref j29, .ref j30, .ref j31, .ref j32, .ref j33, .ref j34, .ref j35, .ref j36, .ref j37, .ref j38, .ref j39, .ref j40, .ref j41, .ref j42, .int 0, .int 0, .int 0, .int 0, .int 0, .int 0, .int 0, .int 0, .int 0, .ref j52, .ref j53, .int 0, .int 0, .ref j56, .ref j57, .ref j58, .ref j59, .ref j60, .ref j61, .ref j62, .ref j63, .ref j64, .ref j65, .int 0, .int 0, .int 0, .int 0, .int 0, .int 0, .int 0, .int 0, .int 0, .int 0, .int 0, .int 0, .ref j78, .ref j79, .ref j80, .ref j81, .ref j82, .int 0, .int 0, .ref j85, .ref j86])), (j13, aI g 2 z0)] nX)) (va_Qi (fun (r : Int32) (_ : Unit) => r = 0) (Qst g [] sz (fun _ => [])) (va_A [] sz)) 0 0 (va_A [] sz) := by
  refine Met.ofW (cc := cX12_strike) (maxL := 2) (ret := (some .boolean)) (by decide) rfl ?_
  intro p e s m args below meth c s₁ B hml hv
  obtain ⟨rfl, hsz, hP, hK, hD0, hX⟩ := hv
  have hx := B.exec
  have hb := B.bytes
  have hr := B.returns
  have hT : ∀ w ∈ gT, w.before _ s = true := fun w h => atoms_spec (ws := .code yX12_strike cX12_strike 2 (some .boolean) :: gT) B.pre w (List.mem_cons_of_mem _ h)
  have hown : s.vm.findClass RX12 = some m.cls := findClass_of_methodNamed B.named
  have hlocks := B.notSynchronized
  subst hsz
  have hD := hD0
  generalize hAe : va_A [] s.heap.size = A at ⊢
  have hA : ∀ q : Nat, s.heap.size ≤ q → A q := fun q h => by rw [← hAe]; exact Or.inr h
  have hS : va_S A s.heap s.heap [] := va_S.rf
  have hl := lv_entry ([.ref m_, .int p0]) (n := 2) (Nat.le_of_ble_eq_true rfl)
  rw [lg_entry_eq]
  generalize (lg_sl ([.ref m_, .int p0]) ++ List.replicate (2 - (lg_sl ([.ref m_, .int p0])).length) Slot.unset).toArray = ls at hl ⊢
  have hl : lv_has ls 2 [(0, .ref m_), (1, .int p0)] := hl
  refine p_nH (fun H hH => ?_)
  have hP : va_P g.1 vwCl [(m_, .inr (12, [.ref j0, .ref j1, .int 0, .int 0, .int 0, .int (-1), .int 0, .int 0, .int 0, .int 0, .long 0, .ref j11, .ref j12, .ref j13, .ref j14, .ref j15, .ref j16, .ref j17, .ref j18, .ref j19, .ref j20, .ref j21, .ref j22, .ref j23, .ref j24, .ref j25, .ref j26, .ref j27, .ref j28, .ref j29, .ref j30, .ref j31, .ref j32, .ref j33, .ref j34, .ref j35, .ref j36, .ref j37, .ref j38, .ref j39, .ref j40, .ref j41, .ref j42, .int 0, .int 0, .int 0, .int 0, .int 0, .int 0, .int 0, .int 0, .int 0, .ref j52, .ref j53, .int 0, .int 0, .ref j56, .ref j57, .ref j58, .ref j59, .ref j60, .ref j61, .ref j62, .ref j63, .ref j64, .ref j65, .int 0, .int 0, .int 0, .int 0, .int 0, .int 0, .int 0, .int 0, .int 0, .int 0, .int 0, .int 0, .ref j78, .ref j79, .ref j80, .ref j81, .ref j82, .int 0, .int 0, .ref j85, .ref j86])), (j13, aI g 2 z0)] H := by rw [hH]; exact hP
  have hS : va_S A s.heap H [] := by rw [hH]; exact hS
  refine lv_aload_n hx hb dX12_strike_0 rfl (lv_at hl 0 rfl) ?_
  refine lv_iload_n hx hb dX12_strike_1 rfl (lv_at hl 1 rfl) ?_
  refine k_iR (k_V (n := 1) ⟨hx, hb, hml, hown, hT⟩ hK hP hD [0, 1] rfl (by decide) (c_X12_isReason l g H.size m_ j0 j1 j11 j12 j13 j14 j15 j16 j17 j18 j19 j20 j21 j22 j23 j24 j25 j26 j27 j28 j29 j30 j31 j32 j33 j34 j35 j36 j37 j38 j39 j40 j41 j42 j52 j53 j56 j57 j58 j59 j60 j61 j62 j63 j64 j65 j78 j79 j80 j81 j82 j85 j86 p0) (gV bw_244 bw_245 bw_246 bw_233 bw_227) rfl rfl (by decide +kernel) ⟨by decide, by decide⟩ (ci := 12) (q0 := 0) rfl rfl (fun _ _ _ _ _ => trivial) (fun _ _ _ => trivial) rfl rfl hl.1 (Nat.le_of_ble_eq_true rfl) dX12_strike_2 ⟨by decide, by decide⟩) hP hS hA (fun r_1 _ H locs hw hP hS => ?_)
  have hw : r_1 = 0 := hw
  subst hw
  refine lv_if_eq (tgt := 16) hx hb dX12_strike_5 (by decide) (fun _ => ?_) (fun c9 => absurd (by decide) c9)
  refine lv_iconst (v := 0) hx hb dX12_strike_16 (by decide) ?_
  have hP9 : va_P g.1 vwCl [] H := hP.sub [] rfl
  have hD9 : va_D A [] := ⟨fun i j p q h => by simp at h, fun k q h => by simp at h⟩
  exact W.zret (v := 0) (ty := .boolean) hx hb hr rfl (fun t ht hW => ⟨⟨0, (), rfl, rfl, by rw [ht]; exact hP9, by rw [hAe]; exact hD9⟩, hS.F ht⟩) hS.2.2 dX12_strike_17

theorem bw_257 : Cond.code yX12_insult cX12_insult 3 (some .int) ∈ gT := gT_tb 1861 (by decide +kernel) (by decide +kernel)
theorem dX12_insult_0 : decode cX12_insult 0 = .ok (.aload_n 0, 1) := by decide +kernel
theorem dX12_insult_1 : decode cX12_insult 1 = .ok (.iload_n 1, 1) := by decide +kernel
theorem dX12_insult_2 : decode cX12_insult 2 = .ok (.invokevirtual 437, 3) := by decide +kernel
theorem dX12_insult_5 : decode cX12_insult 5 = .ok (.ifCond .eq 53, 3) := by decide +kernel
theorem dX12_insult_58 : decode cX12_insult 58 = .ok (.iconst (-1), 1) := by decide +kernel
theorem dX12_insult_59 : decode cX12_insult 59 = .ok (.ireturn, 1) := by decide +kernel
set_option maxHeartbeats 4000000 in
set_option maxRecDepth 100000 in
theorem c_X12_insult (l : Launch) (g : GG) (sz : Nat) (m_ : Nat) (j0 : Nat) (j1 : Nat) (j11 : Nat) (j12 : Nat) (j13 : Nat) (j14 : Nat) (j15 : Nat) (j16 : Nat) (j17 : Nat) (j18 : Nat) (j19 : Nat) (j20 : Nat) (j21 : Nat) (j22 : Nat) (j23 : Nat) (j24 : Nat) (j25 : Nat) (j26 : Nat) (j27 : Nat) (j28 : Nat) (j29 : Nat) (j30 : Nat) (j31 : Nat) (j32 : Nat) (j33 : Nat) (j34 : Nat) (j35 : Nat) (j36 : Nat) (j37 : Nat) (j38 : Nat) (j39 : Nat) (j40 : Nat) (j41 : Nat) (j42 : Nat) (j52 : Nat) (j53 : Nat) (j56 : Nat) (j57 : Nat) (j58 : Nat) (j59 : Nat) (j60 : Nat) (j61 : Nat) (j62 : Nat) (j63 : Nat) (j64 : Nat) (j65 : Nat) (j78 : Nat) (j79 : Nat) (j80 : Nat) (j81 : Nat) (j82 : Nat) (j85 : Nat) (j86 : Nat) (p0 : Int32) (p1 : Int32) : Met l yX12_insult (.code yX12_insult cX12_insult 3 (some .int) :: gT) ({ frames := 2, cells := 0, slots := 0, locals := 43 }) (va_Pc [.ref m_, .int p0, .int p1] (Pst g sz [(m_, .inr (12, [.ref j0, .ref j1, .int 0, .int 0, .int 0, .int (-1), .int 0, .int 0, .int 0, .int 0, .long 0, .ref j11, .ref j12, .ref j13, .ref j14, .ref j15, .ref j16, .ref j17, .ref j18, .ref j19, .ref j20, .ref j21, .ref j22, .ref j23, .ref j24, .ref j25, .ref j26, .ref j27, .ref j28, .ref j29, .ref j30, .ref j31, .ref j32, .ref j33, .ref j34, .ref j35, .ref j36, .ref j37, .ref j38, .ref j39, .ref j40, .ref j41, .ref j42, .int 0, .int 0, .int 0, .int 0, .int 0, .int 0, .int 0, .int 0, .int 0, .ref j52, .ref j53, .int 0, .int 0, .ref j56, .ref j57, .ref j58, .ref j59, .ref j60, .ref j61, .ref j62, .ref j63, .ref j64, .ref j65, .int 0, .int 0, .int 0, .int 0, .int 0, .int 0, .int 0, .int 0, .int 0, .int 0, .int 0, .int 0, .ref j78, .ref j79, .ref j80, .ref j81, .ref j82, .int 0, .int 0, .ref j85, .ref j86])), (j11, aI g 2 z0)] nX)) (va_Qi (fun (r : Int32) (_ : Unit) => r = (-1)) (Qst g [] sz (fun _ => [])) (va_A [] sz)) 0 0 (va_A [] sz) := by
  refine Met.ofW (cc := cX12_insult) (maxL := 3) (ret := (some .int)) (by decide) rfl ?_
  intro p e s m args below meth c s₁ B hml hv
  obtain ⟨rfl, hsz, hP, hK, hD0, hX⟩ := hv
  have hx := B.exec
  have hb := B.bytes
  have hr := B.returns
  have hT : ∀ w ∈ gT, w.before _ s = true := fun w h => atoms_spec (ws := .code yX12_insult cX12_insult 3 (some .int) :: gT) B.pre w (List.mem_cons_of_mem _ h)
  have hown : s.vm.findClass RX12 = some m.cls := findClass_of_methodNamed B.named
  have hlocks := B.notSynchronized
  subst hsz
  have hD := hD0
  generalize hAe : va_A [] s.heap.size = A at ⊢
  have hA : ∀ q : Nat, s.heap.size ≤ q → A q := fun q h => by rw [← hAe]; exact Or.inr h
  have hS : va_S A s.heap s.heap [] := va_S.rf
  have hl := lv_entry ([.ref m_, .int p0, .int p1]) (n := 3) (Nat.le_of_ble_eq_true rfl)
  rw [lg_entry_eq]
  generalize (lg_sl ([.ref m_, .int p0, .int p1]) ++ List.replicate (3 - (lg_sl ([.ref m_, .int p0, .int p1])).length) Slot.unset).toArray = ls at hl ⊢
  have hl : lv_has ls 3 [(0, .ref m_), (1, .int p0), (2, .int p1)] := hl
  refine p_nH (fun H hH => ?_)
  have hP : va_P g.1 vwCl [(m_, .inr (12, [.ref j0, .ref j1, .int 0, .int 0, .int 0, .int (-1), .int 0, .int 0, .int 0, .int 0, .long 0, .ref j11, .ref j12, .ref j13, .ref j14, .ref j15, .ref j16, .ref j17, .ref j18, .ref j19, .ref j20, .ref j21, .ref j22, .ref j23, .ref j24, .ref j25, .ref j26, .ref j27, .ref j28, .ref j29, .ref j30, .ref j31, .ref j32, .ref j33, .ref j34, .ref j35, .ref j36, .ref j37, .ref j38, .ref j39, .ref j40, .ref j41, .ref j42, .int 0, .int 0, .int 0, .int 0, .int 0, .int 0, .int 0, .int 0, .int 0, .ref j52, .ref j53, .int 0, .int 0, .ref j56, .ref j57, .ref j58, .ref j59, .ref j60, .ref j61, .ref j62, .ref j63, .ref j64, .ref j65, .int 0, .int 0, .int 0, .int 0, .int 0, .int 0, .int 0, .int 0, .int 0, .int 0, .int 0, .int 0, .ref j78, .ref j79, .ref j80, .ref j81, .ref j82, .int 0, .int 0, .ref j85, .ref j86])), (j11, aI g 2 z0)] H := by rw [hH]; exact hP
  have hS : va_S A s.heap H [] := by rw [hH]; exact hS
  refine lv_aload_n hx hb dX12_insult_0 rfl (lv_at hl 0 rfl) ?_
  refine lv_iload_n hx hb dX12_insult_1 rfl (lv_at hl 1 rfl) ?_
  refine k_iR (k_V (n := 1) ⟨hx, hb, hml, hown, hT⟩ hK hP hD [0, 1] rfl (by decide) (c_X12_isMan l g H.size m_ j0 j1 j11 j12 j13 j14 j15 j16 j17 j18 j19 j20 j21 j22 j23 j24 j25 j26 j27 j28 j29 j30 j31 j32 j33 j34 j35 j36 j37 j38 j39 j40 j41 j42 j52 j53 j56 j57 j58 j59 j60 j61 j62 j63 j64 j65 j78 j79 j80 j81 j82 j85 j86 p0) (gV bw_239 bw_240 bw_241 bw_233 bw_225) rfl rfl (by decide +kernel) ⟨by decide, by decide⟩ (ci := 12) (q0 := 0) rfl rfl (fun _ _ _ _ _ => trivial) (fun _ _ _ => trivial) rfl rfl hl.1 (Nat.le_of_ble_eq_true rfl) dX12_insult_2 ⟨by decide, by decide⟩) hP hS hA (fun r_1 _ H locs hw hP hS => ?_)
  have hw : r_1 = 0 := hw
  subst hw
  refine lv_if_eq (tgt := 58) hx hb dX12_insult_5 (by decide) (fun _ => ?_) (fun c9 => absurd (by decide) c9)
  refine lv_iconst (v := (-1)) hx hb dX12_insult_58 (by decide) ?_
  have hP9 : va_P g.1 vwCl [] H := hP.sub [] rfl
  have hD9 : va_D A [] := ⟨fun i j p q h => by simp at h, fun k q h => by simp at h⟩
  exact W.iret (v := (-1)) hx hb hr (fun t ht hW => ⟨⟨(-1), (), rfl, rfl, by rw [ht]; exact hP9, by rw [hAe]; exact hD9⟩, hS.F ht⟩) hS.2.2 dX12_insult_59

theorem bw_258 : Cond.fieldLink RX12 425 "DuelDelaysModel" "acts" "I" ∈ gT := gT_tb 1359 (by decide +kernel) (by decide +kernel)
theorem bw_259 : Cond.code yX12_undo cX12_undo 1 (some .boolean) ∈ gT := gT_tb 1893 (by decide +kernel) (by decide +kernel)
theorem dX12_undo_0 : decode cX12_undo 0 = .ok (.aload_n 0, 1) := by decide +kernel
theorem dX12_undo_1 : decode cX12_undo 1 = .ok (.getfield 425, 3) := by decide +kernel
theorem dX12_undo_4 : decode cX12_undo 4 = .ok (.ifCond .ne 5, 3) := by decide +kernel
theorem dX12_undo_7 : decode cX12_undo 7 = .ok (.iconst 0, 1) := by decide +kernel
theorem dX12_undo_8 : decode cX12_undo 8 = .ok (.ireturn, 1) := by decide +kernel
set_option maxHeartbeats 4000000 in
set_option maxRecDepth 100000 in
theorem c_X12_undo (l : Launch) (g : GG) (sz : Nat) (m_ : Nat) (j0 : Nat) (j1 : Nat) (j11 : Nat) (j12 : Nat) (j13 : Nat) (j14 : Nat) (j15 : Nat) (j16 : Nat) (j17 : Nat) (j18 : Nat) (j19 : Nat) (j20 : Nat) (j21 : Nat) (j22 : Nat) (j23 : Nat) (j24 : Nat) (j25 : Nat) (j26 : Nat) (j27 : Nat) (j28 : Nat) (j29 : Nat) (j30 : Nat) (j31 : Nat) (j32 : Nat) (j33 : Nat) (j34 : Nat) (j35 : Nat) (j36 : Nat) (j37 : Nat) (j38 : Nat) (j39 : Nat) (j40 : Nat) (j41 : Nat) (j42 : Nat) (j52 : Nat) (j53 : Nat) (j56 : Nat) (j57 : Nat) (j58 : Nat) (j59 : Nat) (j60 : Nat) (j61 : Nat) (j62 : Nat) (j63 : Nat) (j64 : Nat) (j65 : Nat) (j78 : Nat) (j79 : Nat) (j80 : Nat) (j81 : Nat) (j82 : Nat) (j85 : Nat) (j86 : Nat) : Met l yX12_undo (.code yX12_undo cX12_undo 1 (some .boolean) :: gT) ({ frames := 0, cells := 0, slots := 0, locals := 0 }) (va_Pc [.ref m_] (Pst g sz [(m_, .inr (12, [.ref j0, .ref j1, .int 0, .int 0, .int 0, .int (-1), .int 0, .int 0, .int 0, .int 0, .long 0, .ref j11, .ref j12, .ref j13, .ref j14, .ref j15, .ref j16, .ref j17, .ref j18, .ref j19, .ref j20, .ref j21, .ref j22, .ref j23, .ref j24, .ref j25, .ref j26, .ref j27, .ref j28, .ref j29, .ref j30, .ref j31, .ref j32, .ref j33, .ref j34, .ref j35, .ref j36, .ref j37, .ref j38, .ref j39, .ref j40, .ref j41, .ref j42, .int 0, .int 0, .int 0, .int 0, .int 0, .int 0, .int 0, .int 0, .int 0, .ref j52, .ref j53, .int 0, .int 0, .ref j56, .ref j57, .ref j58, .ref j59, .ref j60, .ref j61, .ref j62, .ref j63, .ref j64, .ref j65, .int 0, .int 0, .int 0, .int 0, .int 0, .int 0, .int 0, .int 0, .int 0, .int 0, .int 0, .int 0, .ref j78, .ref j79, .ref j80, .ref j81, .ref j82, .int 0, .int 0, .ref j85, .ref j86]))] nX)) (va_Qi (fun (r : Int32) (_ : Unit) => r = 0) (Qst g [] sz (fun _ => [])) (va_A [] sz)) 0 0 (va_A [] sz) := by
  refine Met.ofW (cc := cX12_undo) (maxL := 1) (ret := (some .boolean)) (by decide) rfl ?_
  intro p e s m args below meth c s₁ B hml hv
  obtain ⟨rfl, hsz, hP, hK, hD0, hX⟩ := hv
  have hx := B.exec
  have hb := B.bytes
  have hr := B.returns
  have hT : ∀ w ∈ gT, w.before _ s = true := fun w h => atoms_spec (ws := .code yX12_undo cX12_undo 1 (some .boolean) :: gT) B.pre w (List.mem_cons_of_mem _ h)
  have hown : s.vm.findClass RX12 = some m.cls := findClass_of_methodNamed B.named
  have hlocks := B.notSynchronized
  subst hsz
  have hD := hD0
  generalize hAe : va_A [] s.heap.size = A at ⊢
  have hA : ∀ q : Nat, s.heap.size ≤ q → A q := fun q h => by rw [← hAe]; exact Or.inr h
  have hS : va_S A s.heap s.heap [] := va_S.rf
  have hl := lv_entry ([.ref m_]) (n := 1) (Nat.le_of_ble_eq_true rfl)
  rw [lg_entry_eq]
  generalize (lg_sl ([.ref m_]) ++ List.replicate (1 - (lg_sl ([.ref m_])).length) Slot.unset).toArray = ls at hl ⊢
  have hl : lv_has ls 1 [(0, .ref m_)] := hl
  refine p_nH (fun H hH => ?_)
  have hP : va_P g.1 vwCl [(m_, .inr (12, [.ref j0, .ref j1, .int 0, .int 0, .int 0, .int (-1), .int 0, .int 0, .int 0, .int 0, .long 0, .ref j11, .ref j12, .ref j13, .ref j14, .ref j15, .ref j16, .ref j17, .ref j18, .ref j19, .ref j20, .ref j21, .ref j22, .ref j23, .ref j24, .ref j25, .ref j26, .ref j27, .ref j28, .ref j29, .ref j30, .ref j31, .ref j32, .ref j33, .ref j34, .ref j35, .ref j36, .ref j37, .ref j38, .ref j39, .ref j40, .ref j41, .ref j42, .int 0, .int 0, .int 0, .int 0, .int 0, .int 0, .int 0, .int 0, .int 0, .ref j52, .ref j53, .int 0, .int 0, .ref j56, .ref j57, .ref j58, .ref j59, .ref j60, .ref j61, .ref j62, .ref j63, .ref j64, .ref j65, .int 0, .int 0, .int 0, .int 0, .int 0, .int 0, .int 0, .int 0, .int 0, .int 0, .int 0, .int 0, .ref j78, .ref j79, .ref j80, .ref j81, .ref j82, .int 0, .int 0, .ref j85, .ref j86]))] H := by rw [hH]; exact hP
  have hS : va_S A s.heap H [] := by rw [hH]; exact hS
  refine lv_aload_n hx hb dX12_undo_0 rfl (lv_at hl 0 rfl) ?_
  refine va_get (D := g.1) (ci := 12) (v := .int 0) (C := RX12) (T := TX12) (N := 87) hx hb hT inF_X12 hown hK.1 hP 0 rfl rfl 54 (by decide) (hT _ bw_258) (fun _ h9 => h9) rfl dX12_undo_1 ?_
  refine lv_if_ne (tgt := 9) hx hb dX12_undo_4 (by decide) (fun c9 => absurd (by decide) c9) (fun _ => ?_)
  refine lv_iconst (v := 0) hx hb dX12_undo_7 (by decide) ?_
  have hP9 : va_P g.1 vwCl [] H := hP.sub [] rfl
  have hD9 : va_D A [] := ⟨fun i j p q h => by simp at h, fun k q h => by simp at h⟩
  exact W.zret (v := 0) (ty := .boolean) hx hb hr rfl (fun t ht hW => ⟨⟨0, (), rfl, rfl, by rw [ht]; exact hP9, by rw [hAe]; exact hD9⟩, hS.F ht⟩) hS.2.2 dX12_undo_8

theorem bw_260 : Cond.fieldLink RX12 428 "DuelDelaysModel" "undone" "I" ∈ gT := gT_tb 1360 (by decide +kernel) (by decide +kernel)
theorem bw_261 : Cond.code yX12_redo cX12_redo 1 (some .boolean) ∈ gT := gT_tb 1901 (by decide +kernel) (by decide +kernel)
theorem dX12_redo_0 : decode cX12_redo 0 = .ok (.aload_n 0, 1) := by decide +kernel
theorem dX12_redo_1 : decode cX12_redo 1 = .ok (.getfield 428, 3) := by decide +kernel
theorem dX12_redo_4 : decode cX12_redo 4 = .ok (.ifCond .ne 5, 3) := by decide +kernel
theorem dX12_redo_7 : decode cX12_redo 7 = .ok (.iconst 0, 1) := by decide +kernel
theorem dX12_redo_8 : decode cX12_redo 8 = .ok (.ireturn, 1) := by decide +kernel
set_option maxHeartbeats 4000000 in
set_option maxRecDepth 100000 in
theorem c_X12_redo (l : Launch) (g : GG) (sz : Nat) (m_ : Nat) (j0 : Nat) (j1 : Nat) (j11 : Nat) (j12 : Nat) (j13 : Nat) (j14 : Nat) (j15 : Nat) (j16 : Nat) (j17 : Nat) (j18 : Nat) (j19 : Nat) (j20 : Nat) (j21 : Nat) (j22 : Nat) (j23 : Nat) (j24 : Nat) (j25 : Nat) (j26 : Nat) (j27 : Nat) (j28 : Nat) (j29 : Nat) (j30 : Nat) (j31 : Nat) (j32 : Nat) (j33 : Nat) (j34 : Nat) (j35 : Nat) (j36 : Nat) (j37 : Nat) (j38 : Nat) (j39 : Nat) (j40 : Nat) (j41 : Nat) (j42 : Nat) (j52 : Nat) (j53 : Nat) (j56 : Nat) (j57 : Nat) (j58 : Nat) (j59 : Nat) (j60 : Nat) (j61 : Nat) (j62 : Nat) (j63 : Nat) (j64 : Nat) (j65 : Nat) (j78 : Nat) (j79 : Nat) (j80 : Nat) (j81 : Nat) (j82 : Nat) (j85 : Nat) (j86 : Nat) : Met l yX12_redo (.code yX12_redo cX12_redo 1 (some .boolean) :: gT) ({ frames := 0, cells := 0, slots := 0, locals := 0 }) (va_Pc [.ref m_] (Pst g sz [(m_, .inr (12, [.ref j0, .ref j1, .int 0, .int 0, .int 0, .int (-1), .int 0, .int 0, .int 0, .int 0, .long 0, .ref j11, .ref j12, .ref j13, .ref j14, .ref j15, .ref j16, .ref j17, .ref j18, .ref j19, .ref j20, .ref j21, .ref j22, .ref j23, .ref j24, .ref j25, .ref j26, .ref j27, .ref j28, .ref j29, .ref j30, .ref j31, .ref j32, .ref j33, .ref j34, .ref j35, .ref j36, .ref j37, .ref j38, .ref j39, .ref j40, .ref j41, .ref j42, .int 0, .int 0, .int 0, .int 0, .int 0, .int 0, .int 0, .int 0, .int 0, .ref j52, .ref j53, .int 0, .int 0, .ref j56, .ref j57, .ref j58, .ref j59, .ref j60, .ref j61, .ref j62, .ref j63, .ref j64, .ref j65, .int 0, .int 0, .int 0, .int 0, .int 0, .int 0, .int 0, .int 0, .int 0, .int 0, .int 0, .int 0, .ref j78, .ref j79, .ref j80, .ref j81, .ref j82, .int 0, .int 0, .ref j85, .ref j86]))] nX)) (va_Qi (fun (r : Int32) (_ : Unit) => r = 0) (Qst g [] sz (fun _ => [])) (va_A [] sz)) 0 0 (va_A [] sz) := by
  refine Met.ofW (cc := cX12_redo) (maxL := 1) (ret := (some .boolean)) (by decide) rfl ?_
  intro p e s m args below meth c s₁ B hml hv
  obtain ⟨rfl, hsz, hP, hK, hD0, hX⟩ := hv
  have hx := B.exec
  have hb := B.bytes
  have hr := B.returns
  have hT : ∀ w ∈ gT, w.before _ s = true := fun w h => atoms_spec (ws := .code yX12_redo cX12_redo 1 (some .boolean) :: gT) B.pre w (List.mem_cons_of_mem _ h)
  have hown : s.vm.findClass RX12 = some m.cls := findClass_of_methodNamed B.named
  have hlocks := B.notSynchronized
  subst hsz
  have hD := hD0
  generalize hAe : va_A [] s.heap.size = A at ⊢
  have hA : ∀ q : Nat, s.heap.size ≤ q → A q := fun q h => by rw [← hAe]; exact Or.inr h
  have hS : va_S A s.heap s.heap [] := va_S.rf
  have hl := lv_entry ([.ref m_]) (n := 1) (Nat.le_of_ble_eq_true rfl)
  rw [lg_entry_eq]
  generalize (lg_sl ([.ref m_]) ++ List.replicate (1 - (lg_sl ([.ref m_])).length) Slot.unset).toArray = ls at hl ⊢
  have hl : lv_has ls 1 [(0, .ref m_)] := hl
  refine p_nH (fun H hH => ?_)
  have hP : va_P g.1 vwCl [(m_, .inr (12, [.ref j0, .ref j1, .int 0, .int 0, .int 0, .int (-1), .int 0, .int 0, .int 0, .int 0, .long 0, .ref j11, .ref j12, .ref j13, .ref j14, .ref j15, .ref j16, .ref j17, .ref j18, .ref j19, .ref j20, .ref j21, .ref j22, .ref j23, .ref j24, .ref j25, .ref j26, .ref j27, .ref j28, .ref j29, .ref j30, .ref j31, .ref j32, .ref j33, .ref j34, .ref j35, .ref j36, .ref j37, .ref j38, .ref j39, .ref j40, .ref j41, .ref j42, .int 0, .int 0, .int 0, .int 0, .int 0, .int 0, .int 0, .int 0, .int 0, .ref j52, .ref j53, .int 0, .int 0, .ref j56, .ref j57, .ref j58, .ref j59, .ref j60, .ref j61, .ref j62, .ref j63, .ref j64, .ref j65, .int 0, .int 0, .int 0, .int 0, .int 0, .int 0, .int 0, .int 0, .int 0, .int 0, .int 0, .int 0, .ref j78, .ref j79, .ref j80, .ref j81, .ref j82, .int 0, .int 0, .ref j85, .ref j86]))] H := by rw [hH]; exact hP
  have hS : va_S A s.heap H [] := by rw [hH]; exact hS
  refine lv_aload_n hx hb dX12_redo_0 rfl (lv_at hl 0 rfl) ?_
  refine va_get (D := g.1) (ci := 12) (v := .int 0) (C := RX12) (T := TX12) (N := 87) hx hb hT inF_X12 hown hK.1 hP 0 rfl rfl 55 (by decide) (hT _ bw_260) (fun _ h9 => h9) rfl dX12_redo_1 ?_
  refine lv_if_ne (tgt := 9) hx hb dX12_redo_4 (by decide) (fun c9 => absurd (by decide) c9) (fun _ => ?_)
  refine lv_iconst (v := 0) hx hb dX12_redo_7 (by decide) ?_
  have hP9 : va_P g.1 vwCl [] H := hP.sub [] rfl
  have hD9 : va_D A [] := ⟨fun i j p q h => by simp at h, fun k q h => by simp at h⟩
  exact W.zret (v := 0) (ty := .boolean) hx hb hr rfl (fun t ht hW => ⟨⟨0, (), rfl, rfl, by rw [ht]; exact hP9, by rw [hAe]; exact hD9⟩, hS.F ht⟩) hS.2.2 dX12_redo_8

theorem bw_262 : Cond.methodLink RX12 461 yX12_isOpen ∈ gT := gT_tb 1815 (by decide +kernel) (by decide +kernel)
theorem bw_263 : Cond.instanceMethod yX12_isOpen ∈ gT := gT_tb 1817 (by decide +kernel) (by decide +kernel)
theorem bw_264 : Cond.selects RX12 yX12_isOpen yX12_isOpen ∈ gT := gT_sl 96 (by decide +kernel) (by decide +kernel)
theorem bw_265 : Cond.code yX12_late cX12_late 6 (some .int) ∈ gT := gT_tb 1949 (by decide +kernel) (by decide +kernel)
theorem dX12_late_0 : decode cX12_late 0 = .ok (.aload_n 0, 1) := by decide +kernel
theorem dX12_late_1 : decode cX12_late 1 = .ok (.iload_n 1, 1) := by decide +kernel
theorem dX12_late_2 : decode cX12_late 2 = .ok (.invokevirtual 461, 3) := by decide +kernel
theorem dX12_late_5 : decode cX12_late 5 = .ok (.ifCond .eq 13, 3) := by decide +kernel
theorem dX12_late_18 : decode cX12_late 18 = .ok (.iconst (-1), 1) := by decide +kernel
theorem dX12_late_19 : decode cX12_late 19 = .ok (.ireturn, 1) := by decide +kernel
set_option maxHeartbeats 4000000 in
set_option maxRecDepth 100000 in
theorem c_X12_late (l : Launch) (g : GG) (sz : Nat) (m_ : Nat) (j0 : Nat) (j1 : Nat) (j11 : Nat) (j12 : Nat) (j13 : Nat) (j14 : Nat) (j15 : Nat) (j16 : Nat) (j17 : Nat) (j18 : Nat) (j19 : Nat) (j20 : Nat) (j21 : Nat) (j22 : Nat) (j23 : Nat) (j24 : Nat) (j25 : Nat) (j26 : Nat) (j27 : Nat) (j28 : Nat) (j29 : Nat) (j30 : Nat) (j31 : Nat) (j32 : Nat) (j33 : Nat) (j34 : Nat) (j35 : Nat) (j36 : Nat) (j37 : Nat) (j38 : Nat) (j39 : Nat) (j40 : Nat) (j41 : Nat) (j42 : Nat) (j52 : Nat) (j53 : Nat) (j56 : Nat) (j57 : Nat) (j58 : Nat) (j59 : Nat) (j60 : Nat) (j61 : Nat) (j62 : Nat) (j63 : Nat) (j64 : Nat) (j65 : Nat) (j78 : Nat) (j79 : Nat) (j80 : Nat) (j81 : Nat) (j82 : Nat) (j85 : Nat) (j86 : Nat) (p0 : Int32) (p1 : Int32) : Met l yX12_late (.code yX12_late cX12_late 6 (some .int) :: gT) ({ frames := 3, cells := 0, slots := 0, locals := 64 }) (va_Pc [.ref m_, .int p0, .int p1] (Pst g sz [(m_, .inr (12, [.ref j0, .ref j1, .int 0, .int 0, .int 0, .int (-1), .int 0, .int 0, .int 0, .int 0, .long 0, .ref j11, .ref j12, .ref j13, .ref j14, .ref j15, .ref j16, .ref j17, .ref j18, .ref j19, .ref j20, .ref j21, .ref j22, .ref j23, .ref j24, .ref j25, .ref j26, .ref j27, .ref j28, .ref j29, .ref j30, .ref j31, .ref j32, .ref j33, .ref j34, .ref j35, .ref j36, .ref j37, .ref j38, .ref j39, .ref j40, .ref j41, .ref j42, .int 0, .int 0, .int 0, .int 0, .int 0, .int 0, .int 0, .int 0, .int 0, .ref j52, .ref j53, .int 0, .int 0, .ref j56, .ref j57, .ref j58, .ref j59, .ref j60, .ref j61, .ref j62, .ref j63, .ref j64, .ref j65, .int 0, .int 0, .int 0, .int 0, .int 0, .int 0, .int 0, .int 0, .int 0, .int 0, .int 0, .int 0, .ref j78, .ref j79, .ref j80, .ref j81, .ref j82, .int 0, .int 0, .ref j85, .ref j86])), (j52, aI g 374 z0)] nX)) (va_Qi (fun (r : Int32) (_ : Unit) => r = (-1)) (Qst g [] sz (fun _ => [])) (va_A [] sz)) 0 0 (va_A [] sz) := by
  refine Met.ofW (cc := cX12_late) (maxL := 6) (ret := (some .int)) (by decide) rfl ?_
  intro p e s m args below meth c s₁ B hml hv
  obtain ⟨rfl, hsz, hP, hK, hD0, hX⟩ := hv
  have hx := B.exec
  have hb := B.bytes
  have hr := B.returns
  have hT : ∀ w ∈ gT, w.before _ s = true := fun w h => atoms_spec (ws := .code yX12_late cX12_late 6 (some .int) :: gT) B.pre w (List.mem_cons_of_mem _ h)
  have hown : s.vm.findClass RX12 = some m.cls := findClass_of_methodNamed B.named
  have hlocks := B.notSynchronized
  subst hsz
  have hD := hD0
  generalize hAe : va_A [] s.heap.size = A at ⊢
  have hA : ∀ q : Nat, s.heap.size ≤ q → A q := fun q h => by rw [← hAe]; exact Or.inr h
  have hS : va_S A s.heap s.heap [] := va_S.rf
  have hl := lv_entry ([.ref m_, .int p0, .int p1]) (n := 6) (Nat.le_of_ble_eq_true rfl)
  rw [lg_entry_eq]
  generalize (lg_sl ([.ref m_, .int p0, .int p1]) ++ List.replicate (6 - (lg_sl ([.ref m_, .int p0, .int p1])).length) Slot.unset).toArray = ls at hl ⊢
  have hl : lv_has ls 6 [(0, .ref m_), (1, .int p0), (2, .int p1)] := hl
  refine p_nH (fun H hH => ?_)
  have hP : va_P g.1 vwCl [(m_, .inr (12, [.ref j0, .ref j1, .int 0, .int 0, .int 0, .int (-1), .int 0, .int 0, .int 0, .int 0, .long 0, .ref j11, .ref j12, .ref j13, .ref j14, .ref j15, .ref j16, .ref j17, .ref j18, .ref j19, .ref j20, .ref j21, .ref j22, .ref j23, .ref j24, .ref j25, .ref j26, .ref j27, .ref j28, .ref j29, .ref j30, .ref j31, .ref j32, .ref j33, .ref j34, .ref j35, .ref j36, .ref j37, .ref j38, .ref j39, .ref j40, .ref j41, .ref j42, .int 0, .int 0, .int 0, .int 0, .int 0, .int 0, .int 0, .int 0, .int 0, .ref j52, .ref j53, .int 0, .int 0, .ref j56, .ref j57, .ref j58, .ref j59, .ref j60, .ref j61, .ref j62, .ref j63, .ref j64, .ref j65, .int 0, .int 0, .int 0, .int 0, .int 0, .int 0, .int 0, .int 0, .int 0, .int 0, .int 0, .int 0, .ref j78, .ref j79, .ref j80, .ref j81, .ref j82, .int 0, .int 0, .ref j85, .ref j86])), (j52, aI g 374 z0)] H := by rw [hH]; exact hP
  have hS : va_S A s.heap H [] := by rw [hH]; exact hS
  refine lv_aload_n hx hb dX12_late_0 rfl (lv_at hl 0 rfl) ?_
  refine lv_iload_n hx hb dX12_late_1 rfl (lv_at hl 1 rfl) ?_
  refine k_iR (k_V (n := 1) ⟨hx, hb, hml, hown, hT⟩ hK hP hD [0, 1] rfl (by decide) (c_X12_isOpen l g H.size m_ j0 j1 j11 j12 j13 j14 j15 j16 j17 j18 j19 j20 j21 j22 j23 j24 j25 j26 j27 j28 j29 j30 j31 j32 j33 j34 j35 j36 j37 j38 j39 j40 j41 j42 j52 j53 j56 j57 j58 j59 j60 j61 j62 j63 j64 j65 j78 j79 j80 j81 j82 j85 j86 p0) (gV bw_262 bw_263 bw_264 bw_233 bw_234) rfl rfl (by decide +kernel) ⟨by decide, by decide⟩ (ci := 12) (q0 := 0) rfl rfl (fun _ _ _ _ _ => trivial) (fun _ _ _ => trivial) rfl rfl hl.1 (Nat.le_of_ble_eq_true rfl) dX12_late_2 ⟨by decide, by decide⟩) hP hS hA (fun r_1 _ H locs hw hP hS => ?_)
  have hw : r_1 = 0 := hw
  subst hw
  refine lv_if_eq (tgt := 18) hx hb dX12_late_5 (by decide) (fun _ => ?_) (fun c9 => absurd (by decide) c9)
  refine lv_iconst (v := (-1)) hx hb dX12_late_18 (by decide) ?_
  have hP9 : va_P g.1 vwCl [] H := hP.sub [] rfl
  have hD9 : va_D A [] := ⟨fun i j p q h => by simp at h, fun k q h => by simp at h⟩
  exact W.iret (v := (-1)) hx hb hr (fun t ht hW => ⟨⟨(-1), (), rfl, rfl, by rw [ht]; exact hP9, by rw [hAe]; exact hD9⟩, hS.F ht⟩) hS.2.2 dX12_late_19

theorem bw_266 : Cond.code yX12_last cX12_last 7 (some .int) ∈ gT := gT_tb 1953 (by decide +kernel) (by decide +kernel)
theorem dX12_last_0 : decode cX12_last 0 = .ok (.aload_n 0, 1) := by decide +kernel
theorem dX12_last_1 : decode cX12_last 1 = .ok (.iload_n 1, 1) := by decide +kernel
theorem dX12_last_2 : decode cX12_last 2 = .ok (.invokevirtual 461, 3) := by decide +kernel
theorem dX12_last_5 : decode cX12_last 5 = .ok (.ifCond .eq 10, 3) := by decide +kernel
theorem dX12_last_15 : decode cX12_last 15 = .ok (.iconst (-1), 1) := by decide +kernel
theorem dX12_last_16 : decode cX12_last 16 = .ok (.ireturn, 1) := by decide +kernel
set_option maxHeartbeats 4000000 in
set_option maxRecDepth 100000 in
theorem c_X12_last (l : Launch) (g : GG) (sz : Nat) (m_ : Nat) (j0 : Nat) (j1 : Nat) (j11 : Nat) (j12 : Nat) (j13 : Nat) (j14 : Nat) (j15 : Nat) (j16 : Nat) (j17 : Nat) (j18 : Nat) (j19 : Nat) (j20 : Nat) (j21 : Nat) (j22 : Nat) (j23 : Nat) (j24 : Nat) (j25 : Nat) (j26 : Nat) (j27 : Nat) (j28 : Nat) (j29 : Nat) (j30 : Nat) (j31 : Nat) (j32 : Nat) (j33 : Nat) (j34 : Nat) (j35 : Nat) (j36 : Nat) (j37 : Nat) (j38 : Nat) (j39 : Nat) (j40 : Nat) (j41 : Nat) (j42 : Nat) (j52 : Nat) (j53 : Nat) (j56 : Nat) (j57 : Nat) (j58 : Nat) (j59 : Nat) (j60 : Nat) (j61 : Nat) (j62 : Nat) (j63 : Nat) (j64 : Nat) (j65 : Nat) (j78 : Nat) (j79 : Nat) (j80 : Nat) (j81 : Nat) (j82 : Nat) (j85 : Nat) (j86 : Nat) (p0 : Int32) (p1 : Int32) : Met l yX12_last (.code yX12_last cX12_last 7 (some .int) :: gT) ({ frames := 3, cells := 0, slots := 0, locals := 64 }) (va_Pc [.ref m_, .int p0, .int p1] (Pst g sz [(m_, .inr (12, [.ref j0, .ref j1, .int 0, .int 0, .int 0, .int (-1), .int 0, .int 0, .int 0, .int 0, .long 0, .ref j11, .ref j12, .ref j13, .ref j14, .ref j15, .ref j16, .ref j17, .ref j18, .ref j19, .ref j20, .ref j21, .ref j22, .ref j23, .ref j24, .ref j25, .ref j26, .ref j27, .ref j28, .ref j29, .ref j30, .ref j31, .ref j32, .ref j33, .ref j34, .ref j35, .ref j36, .ref j37, .ref j38, .ref j39, .ref j40, .ref j41, .ref j42, .int 0, .int 0, .int 0, .int 0, .int 0, .int 0, .int 0, .int 0, .int 0, .ref j52, .ref j53, .int 0, .int 0, .ref j56, .ref j57, .ref j58, .ref j59, .ref j60, .ref j61, .ref j62, .ref j63, .ref j64, .ref j65, .int 0, .int 0, .int 0, .int 0, .int 0, .int 0, .int 0, .int 0, .int 0, .int 0, .int 0, .int 0, .ref j78, .ref j79, .ref j80, .ref j81, .ref j82, .int 0, .int 0, .ref j85, .ref j86])), (j52, aI g 374 z0)] nX)) (va_Qi (fun (r : Int32) (_ : Unit) => r = (-1)) (Qst g [] sz (fun _ => [])) (va_A [] sz)) 0 0 (va_A [] sz) := by
  refine Met.ofW (cc := cX12_last) (maxL := 7) (ret := (some .int)) (by decide) rfl ?_
  intro p e s m args below meth c s₁ B hml hv
  obtain ⟨rfl, hsz, hP, hK, hD0, hX⟩ := hv
  have hx := B.exec
  have hb := B.bytes
  have hr := B.returns
  have hT : ∀ w ∈ gT, w.before _ s = true := fun w h => atoms_spec (ws := .code yX12_last cX12_last 7 (some .int) :: gT) B.pre w (List.mem_cons_of_mem _ h)
  have hown : s.vm.findClass RX12 = some m.cls := findClass_of_methodNamed B.named
  have hlocks := B.notSynchronized
  subst hsz
  have hD := hD0
  generalize hAe : va_A [] s.heap.size = A at ⊢
  have hA : ∀ q : Nat, s.heap.size ≤ q → A q := fun q h => by rw [← hAe]; exact Or.inr h
  have hS : va_S A s.heap s.heap [] := va_S.rf
  have hl := lv_entry ([.ref m_, .int p0, .int p1]) (n := 7) (Nat.le_of_ble_eq_true rfl)
  rw [lg_entry_eq]
  generalize (lg_sl ([.ref m_, .int p0, .int p1]) ++ List.replicate (7 - (lg_sl ([.ref m_, .int p0, .int p1])).length) Slot.unset).toArray = ls at hl ⊢
  have hl : lv_has ls 7 [(0, .ref m_), (1, .int p0), (2, .int p1)] := hl
  refine p_nH (fun H hH => ?_)
  have hP : va_P g.1 vwCl [(m_, .inr (12, [.ref j0, .ref j1, .int 0, .int 0, .int 0, .int (-1), .int 0, .int 0, .int 0, .int 0, .long 0, .ref j11, .ref j12, .ref j13, .ref j14, .ref j15, .ref j16, .ref j17, .ref j18, .ref j19, .ref j20, .ref j21, .ref j22, .ref j23, .ref j24, .ref j25, .ref j26, .ref j27, .ref j28, .ref j29, .ref j30, .ref j31, .ref j32, .ref j33, .ref j34, .ref j35, .ref j36, .ref j37, .ref j38, .ref j39, .ref j40, .ref j41, .ref j42, .int 0, .int 0, .int 0, .int 0, .int 0, .int 0, .int 0, .int 0, .int 0, .ref j52, .ref j53, .int 0, .int 0, .ref j56, .ref j57, .ref j58, .ref j59, .ref j60, .ref j61, .ref j62, .ref j63, .ref j64, .ref j65, .int 0, .int 0, .int 0, .int 0, .int 0, .int 0, .int 0, .int 0, .int 0, .int 0, .int 0, .int 0, .ref j78, .ref j79, .ref j80, .ref j81, .ref j82, .int 0, .int 0, .ref j85, .ref j86])), (j52, aI g 374 z0)] H := by rw [hH]; exact hP
  have hS : va_S A s.heap H [] := by rw [hH]; exact hS
  refine lv_aload_n hx hb dX12_last_0 rfl (lv_at hl 0 rfl) ?_
  refine lv_iload_n hx hb dX12_last_1 rfl (lv_at hl 1 rfl) ?_
  refine k_iR (k_V (n := 1) ⟨hx, hb, hml, hown, hT⟩ hK hP hD [0, 1] rfl (by decide) (c_X12_isOpen l g H.size m_ j0 j1 j11 j12 j13 j14 j15 j16 j17 j18 j19 j20 j21 j22 j23 j24 j25 j26 j27 j28 j29 j30 j31 j32 j33 j34 j35 j36 j37 j38 j39 j40 j41 j42 j52 j53 j56 j57 j58 j59 j60 j61 j62 j63 j64 j65 j78 j79 j80 j81 j82 j85 j86 p0) (gV bw_262 bw_263 bw_264 bw_233 bw_234) rfl rfl (by decide +kernel) ⟨by decide, by decide⟩ (ci := 12) (q0 := 0) rfl rfl (fun _ _ _ _ _ => trivial) (fun _ _ _ => trivial) rfl rfl hl.1 (Nat.le_of_ble_eq_true rfl) dX12_last_2 ⟨by decide, by decide⟩) hP hS hA (fun r_1 _ H locs hw hP hS => ?_)
  have hw : r_1 = 0 := hw
  subst hw
  refine lv_if_eq (tgt := 15) hx hb dX12_last_5 (by decide) (fun _ => ?_) (fun c9 => absurd (by decide) c9)
  refine lv_iconst (v := (-1)) hx hb dX12_last_15 (by decide) ?_
  have hP9 : va_P g.1 vwCl [] H := hP.sub [] rfl
  have hD9 : va_D A [] := ⟨fun i j p q h => by simp at h, fun k q h => by simp at h⟩
  exact W.iret (v := (-1)) hx hb hr (fun t ht hW => ⟨⟨(-1), (), rfl, rfl, by rw [ht]; exact hP9, by rw [hAe]; exact hD9⟩, hS.F ht⟩) hS.2.2 dX12_last_16

theorem bw_267 : Cond.code yX12_shun cX12_shun 5 (some .int) ∈ gT := gT_tb 1961 (by decide +kernel) (by decide +kernel)
theorem dX12_shun_0 : decode cX12_shun 0 = .ok (.aload_n 0, 1) := by decide +kernel
theorem dX12_shun_1 : decode cX12_shun 1 = .ok (.iload_n 1, 1) := by decide +kernel
theorem dX12_shun_2 : decode cX12_shun 2 = .ok (.invokevirtual 437, 3) := by decide +kernel
theorem dX12_shun_5 : decode cX12_shun 5 = .ok (.ifCond .eq 23, 3) := by decide +kernel
theorem dX12_shun_28 : decode cX12_shun 28 = .ok (.iconst (-1), 1) := by decide +kernel
theorem dX12_shun_29 : decode cX12_shun 29 = .ok (.ireturn, 1) := by decide +kernel
set_option maxHeartbeats 4000000 in
set_option maxRecDepth 100000 in
theorem c_X12_shun (l : Launch) (g : GG) (sz : Nat) (m_ : Nat) (j0 : Nat) (j1 : Nat) (j11 : Nat) (j12 : Nat) (j13 : Nat) (j14 : Nat) (j15 : Nat) (j16 : Nat) (j17 : Nat) (j18 : Nat) (j19 : Nat) (j20 : Nat) (j21 : Nat) (j22 : Nat) (j23 : Nat) (j24 : Nat) (j25 : Nat) (j26 : Nat) (j27 : Nat) (j28 : Nat) (j29 : Nat) (j30 : Nat) (j31 : Nat) (j32 : Nat) (j33 : Nat) (j34 : Nat) (j35 : Nat) (j36 : Nat) (j37 : Nat) (j38 : Nat) (j39 : Nat) (j40 : Nat) (j41 : Nat) (j42 : Nat) (j52 : Nat) (j53 : Nat) (j56 : Nat) (j57 : Nat) (j58 : Nat) (j59 : Nat) (j60 : Nat) (j61 : Nat) (j62 : Nat) (j63 : Nat) (j64 : Nat) (j65 : Nat) (j78 : Nat) (j79 : Nat) (j80 : Nat) (j81 : Nat) (j82 : Nat) (j85 : Nat) (j86 : Nat) (p0 : Int32) : Met l yX12_shun (.code yX12_shun cX12_shun 5 (some .int) :: gT) ({ frames := 2, cells := 0, slots := 0, locals := 43 }) (va_Pc [.ref m_, .int p0] (Pst g sz [(m_, .inr (12, [.ref j0, .ref j1, .int 0, .int 0, .int 0, .int (-1), .int 0, .int 0, .int 0, .int 0, .long 0, .ref j11, .ref j12, .ref j13, .ref j14, .ref j15, .ref j16, .ref j17, .ref j18, .ref j19, .ref j20, .ref j21, .ref j22, .ref j23, .ref j24, .ref j25, .ref j26, .ref j27, .ref j28, .ref j29, .ref j30, .ref j31, .ref j32, .ref j33, .ref j34, .ref j35, .ref j36, .ref j37, .ref j38, .ref j39, .ref j40, .ref j41, .ref j42, .int 0, .int 0, .int 0, .int 0, .int 0, .int 0, .int 0, .int 0, .int 0, .ref j52, .ref j53, .int 0, .int 0, .ref j56, .ref j57, .ref j58, .ref j59, .ref j60, .ref j61, .ref j62, .ref j63, .ref j64, .ref j65, .int 0, .int 0, .int 0, .int 0, .int 0, .int 0, .int 0, .int 0, .int 0, .int 0, .int 0, .int 0, .ref j78, .ref j79, .ref j80, .ref j81, .ref j82, .int 0, .int 0, .ref j85, .ref j86])), (j11, aI g 2 z0)] nX)) (va_Qi (fun (r : Int32) (_ : Unit) => r = (-1)) (Qst g [] sz (fun _ => [])) (va_A [] sz)) 0 0 (va_A [] sz) := by
  refine Met.ofW (cc := cX12_shun) (maxL := 5) (ret := (some .int)) (by decide) rfl ?_
  intro p e s m args below meth c s₁ B hml hv
  obtain ⟨rfl, hsz, hP, hK, hD0, hX⟩ := hv
  have hx := B.exec
  have hb := B.bytes
  have hr := B.returns
  have hT : ∀ w ∈ gT, w.before _ s = true := fun w h => atoms_spec (ws := .code yX12_shun cX12_shun 5 (some .int) :: gT) B.pre w (List.mem_cons_of_mem _ h)
  have hown : s.vm.findClass RX12 = some m.cls := findClass_of_methodNamed B.named
  have hlocks := B.notSynchronized
  subst hsz
  have hD := hD0
  generalize hAe : va_A [] s.heap.size = A at ⊢
  have hA : ∀ q : Nat, s.heap.size ≤ q → A q := fun q h => by rw [← hAe]; exact Or.inr h
  have hS : va_S A s.heap s.heap [] := va_S.rf
  have hl := lv_entry ([.ref m_, .int p0]) (n := 5) (Nat.le_of_ble_eq_true rfl)
  rw [lg_entry_eq]
  generalize (lg_sl ([.ref m_, .int p0]) ++ List.replicate (5 - (lg_sl ([.ref m_, .int p0])).length) Slot.unset).toArray = ls at hl ⊢
  have hl : lv_has ls 5 [(0, .ref m_), (1, .int p0)] := hl
  refine p_nH (fun H hH => ?_)
  have hP : va_P g.1 vwCl [(m_, .inr (12, [.ref j0, .ref j1, .int 0, .int 0, .int 0, .int (-1), .int 0, .int 0, .int 0, .int 0, .long 0, .ref j11, .ref j12, .ref j13, .ref j14, .ref j15, .ref j16, .ref j17, .ref j18, .ref j19, .ref j20, .ref j21, .ref j22, .ref j23, .ref j24, .ref j25, .ref j26, .ref j27, .ref j28, .ref j29, .ref j30, .ref j31, .ref j32, .ref j33, .ref j34, .ref j35, .ref j36, .ref j37, .ref j38, .ref j39, .ref j40, .ref j41, .ref j42, .int 0, .int 0, .int 0, .int 0, .int 0, .int 0, .int 0, .int 0, .int 0, .ref j52, .ref j53, .int 0, .int 0, .ref j56, .ref j57, .ref j58, .ref j59, .ref j60, .ref j61, .ref j62, .ref j63, .ref j64, .ref j65, .int 0, .int 0, .int 0, .int 0, .int 0, .int 0, .int 0, .int 0, .int 0, .int 0, .int 0, .int 0, .ref j78, .ref j79, .ref j80, .ref j81, .ref j82, .int 0, .int 0, .ref j85, .ref j86])), (j11, aI g 2 z0)] H := by rw [hH]; exact hP
  have hS : va_S A s.heap H [] := by rw [hH]; exact hS
  refine lv_aload_n hx hb dX12_shun_0 rfl (lv_at hl 0 rfl) ?_
  refine lv_iload_n hx hb dX12_shun_1 rfl (lv_at hl 1 rfl) ?_
  refine k_iR (k_V (n := 1) ⟨hx, hb, hml, hown, hT⟩ hK hP hD [0, 1] rfl (by decide) (c_X12_isMan l g H.size m_ j0 j1 j11 j12 j13 j14 j15 j16 j17 j18 j19 j20 j21 j22 j23 j24 j25 j26 j27 j28 j29 j30 j31 j32 j33 j34 j35 j36 j37 j38 j39 j40 j41 j42 j52 j53 j56 j57 j58 j59 j60 j61 j62 j63 j64 j65 j78 j79 j80 j81 j82 j85 j86 p0) (gV bw_239 bw_240 bw_241 bw_233 bw_225) rfl rfl (by decide +kernel) ⟨by decide, by decide⟩ (ci := 12) (q0 := 0) rfl rfl (fun _ _ _ _ _ => trivial) (fun _ _ _ => trivial) rfl rfl hl.1 (Nat.le_of_ble_eq_true rfl) dX12_shun_2 ⟨by decide, by decide⟩) hP hS hA (fun r_1 _ H locs hw hP hS => ?_)
  have hw : r_1 = 0 := hw
  subst hw
  refine lv_if_eq (tgt := 28) hx hb dX12_shun_5 (by decide) (fun _ => ?_) (fun c9 => absurd (by decide) c9)
  refine lv_iconst (v := (-1)) hx hb dX12_shun_28 (by decide) ?_
  have hP9 : va_P g.1 vwCl [] H := hP.sub [] rfl
  have hD9 : va_D A [] := ⟨fun i j p q h => by simp at h, fun k q h => by simp at h⟩
  exact W.iret (v := (-1)) hx hb hr (fun t ht hW => ⟨⟨(-1), (), rfl, rfl, by rw [ht]; exact hP9, by rw [hAe]; exact hD9⟩, hS.F ht⟩) hS.2.2 dX12_shun_29

theorem bw_268 : Cond.code yX12_clash cX12_clash 7 (some .int) ∈ gT := gT_tb 1977 (by decide +kernel) (by decide +kernel)
theorem dX12_clash_0 : decode cX12_clash 0 = .ok (.aload_n 0, 1) := by decide +kernel
theorem dX12_clash_1 : decode cX12_clash 1 = .ok (.iload_n 1, 1) := by decide +kernel
theorem dX12_clash_2 : decode cX12_clash 2 = .ok (.invokevirtual 437, 3) := by decide +kernel
theorem dX12_clash_5 : decode cX12_clash 5 = .ok (.ifCond .ne 5, 3) := by decide +kernel
theorem dX12_clash_8 : decode cX12_clash 8 = .ok (.iconst (-1), 1) := by decide +kernel
theorem dX12_clash_9 : decode cX12_clash 9 = .ok (.ireturn, 1) := by decide +kernel
set_option maxHeartbeats 4000000 in
set_option maxRecDepth 100000 in
theorem c_X12_clash (l : Launch) (g : GG) (sz : Nat) (m_ : Nat) (j0 : Nat) (j1 : Nat) (j11 : Nat) (j12 : Nat) (j13 : Nat) (j14 : Nat) (j15 : Nat) (j16 : Nat) (j17 : Nat) (j18 : Nat) (j19 : Nat) (j20 : Nat) (j21 : Nat) (j22 : Nat) (j23 : Nat) (j24 : Nat) (j25 : Nat) (j26 : Nat) (j27 : Nat) (j28 : Nat) (j29 : Nat) (j30 : Nat) (j31 : Nat) (j32 : Nat) (j33 : Nat) (j34 : Nat) (j35 : Nat) (j36 : Nat) (j37 : Nat) (j38 : Nat) (j39 : Nat) (j40 : Nat) (j41 : Nat) (j42 : Nat) (j52 : Nat) (j53 : Nat) (j56 : Nat) (j57 : Nat) (j58 : Nat) (j59 : Nat) (j60 : Nat) (j61 : Nat) (j62 : Nat) (j63 : Nat) (j64 : Nat) (j65 : Nat) (j78 : Nat) (j79 : Nat) (j80 : Nat) (j81 : Nat) (j82 : Nat) (j85 : Nat) (j86 : Nat) (p0 : Int32) : Met l yX12_clash (.code yX12_clash cX12_clash 7 (some .int) :: gT) ({ frames := 2, cells := 0, slots := 0, locals := 43 }) (va_Pc [.ref m_, .int p0] (Pst g sz [(m_, .inr (12, [.ref j0, .ref j1, .int 0, .int 0, .int 0, .int (-1), .int 0, .int 0, .int 0, .int 0, .long 0, .ref j11, .ref j12, .ref j13, .ref j14, .ref j15, .ref j16, .ref j17, .ref j18, .ref j19, .ref j20, .ref j21, .ref j22, .ref j23, .ref j24, .ref j25, .ref j26, .ref j27, .ref j28, .ref j29, .ref j30, .ref j31, .ref j32, .ref j33, .ref j34, .ref j35, .ref j36, .ref j37, .ref j38, .ref j39, .ref j40, .ref j41, .ref j42, .int 0, .int 0, .int 0, .int 0, .int 0, .int 0, .int 0, .int 0, .int 0, .ref j52, .ref j53, .int 0, .int 0, .ref j56, .ref j57, .ref j58, .ref j59, .ref j60, .ref j61, .ref j62, .ref j63, .ref j64, .ref j65, .int 0, .int 0, .int 0, .int 0, .int 0, .int 0, .int 0, .int 0, .int 0, .int 0, .int 0, .int 0, .ref j78, .ref j79, .ref j80, .ref j81, .ref j82, .int 0, .int 0, .ref j85, .ref j86])), (j11, aI g 2 z0)] nX)) (va_Qi (fun (r : Int32) (_ : Unit) => r = (-1)) (Qst g [] sz (fun _ => [])) (va_A [] sz)) 0 0 (va_A [] sz) := by
  refine Met.ofW (cc := cX12_clash) (maxL := 7) (ret := (some .int)) (by decide) rfl ?_
  intro p e s m args below meth c s₁ B hml hv
  obtain ⟨rfl, hsz, hP, hK, hD0, hX⟩ := hv
  have hx := B.exec
  have hb := B.bytes
  have hr := B.returns
  have hT : ∀ w ∈ gT, w.before _ s = true := fun w h => atoms_spec (ws := .code yX12_clash cX12_clash 7 (some .int) :: gT) B.pre w (List.mem_cons_of_mem _ h)
  have hown : s.vm.findClass RX12 = some m.cls := findClass_of_methodNamed B.named
  have hlocks := B.notSynchronized
  subst hsz
  have hD := hD0
  generalize hAe : va_A [] s.heap.size = A at ⊢
  have hA : ∀ q : Nat, s.heap.size ≤ q → A q := fun q h => by rw [← hAe]; exact Or.inr h
  have hS : va_S A s.heap s.heap [] := va_S.rf
  have hl := lv_entry ([.ref m_, .int p0]) (n := 7) (Nat.le_of_ble_eq_true rfl)
  rw [lg_entry_eq]
  generalize (lg_sl ([.ref m_, .int p0]) ++ List.replicate (7 - (lg_sl ([.ref m_, .int p0])).length) Slot.unset).toArray = ls at hl ⊢
  have hl : lv_has ls 7 [(0, .ref m_), (1, .int p0)] := hl
  refine p_nH (fun H hH => ?_)
  have hP : va_P g.1 vwCl [(m_, .inr (12, [.ref j0, .ref j1, .int 0, .int 0, .int 0, .int (-1), .int 0, .int 0, .int 0, .int 0, .long 0, .ref j11, .ref j12, .ref j13, .ref j14, .ref j15, .ref j16, .ref j17, .ref j18, .ref j19, .ref j20, .ref j21, .ref j22, .ref j23, .ref j24, .ref j25, .ref j26, .ref j27, .ref j28, .ref j29, .ref j30, .ref j31, .ref j32, .ref j33, .ref j34, .ref j35, .ref j36, .ref j37, .ref j38, .ref j39, .ref j40, .ref j41, .ref j42, .int 0, .int 0, .int 0, .int 0, .int 0, .int 0, .int 0, .int 0, .int 0, .ref j52, .ref j53, .int 0, .int 0, .ref j56, .ref j57, .ref j58, .ref j59, .ref j60, .ref j61, .ref j62, .ref j63, .ref j64, .ref j65, .int 0, .int 0, .int 0, .int 0, .int 0, .int 0, .int 0, .int 0, .int 0, .int 0, .int 0, .int 0, .ref j78, .ref j79, .ref j80, .ref j81, .ref j82, .int 0, .int 0, .ref j85, .ref j86])), (j11, aI g 2 z0)] H := by rw [hH]; exact hP
  have hS : va_S A s.heap H [] := by rw [hH]; exact hS
  refine lv_aload_n hx hb dX12_clash_0 rfl (lv_at hl 0 rfl) ?_
  refine lv_iload_n hx hb dX12_clash_1 rfl (lv_at hl 1 rfl) ?_
  refine k_iR (k_V (n := 1) ⟨hx, hb, hml, hown, hT⟩ hK hP hD [0, 1] rfl (by decide) (c_X12_isMan l g H.size m_ j0 j1 j11 j12 j13 j14 j15 j16 j17 j18 j19 j20 j21 j22 j23 j24 j25 j26 j27 j28 j29 j30 j31 j32 j33 j34 j35 j36 j37 j38 j39 j40 j41 j42 j52 j53 j56 j57 j58 j59 j60 j61 j62 j63 j64 j65 j78 j79 j80 j81 j82 j85 j86 p0) (gV bw_239 bw_240 bw_241 bw_233 bw_225) rfl rfl (by decide +kernel) ⟨by decide, by decide⟩ (ci := 12) (q0 := 0) rfl rfl (fun _ _ _ _ _ => trivial) (fun _ _ _ => trivial) rfl rfl hl.1 (Nat.le_of_ble_eq_true rfl) dX12_clash_2 ⟨by decide, by decide⟩) hP hS hA (fun r_1 _ H locs hw hP hS => ?_)
  have hw : r_1 = 0 := hw
  subst hw
  refine lv_if_ne (tgt := 10) hx hb dX12_clash_5 (by decide) (fun c9 => absurd (by decide) c9) (fun _ => ?_)
  refine lv_iconst (v := (-1)) hx hb dX12_clash_8 (by decide) ?_
  have hP9 : va_P g.1 vwCl [] H := hP.sub [] rfl
  have hD9 : va_D A [] := ⟨fun i j p q h => by simp at h, fun k q h => by simp at h⟩
  exact W.iret (v := (-1)) hx hb hr (fun t ht hW => ⟨⟨(-1), (), rfl, rfl, by rw [ht]; exact hP9, by rw [hAe]; exact hD9⟩, hS.F ht⟩) hS.2.2 dX12_clash_9

theorem bw_269 : Cond.fieldLink RX12 434 "DuelDelaysModel" "laid" "I" ∈ gT := gT_tb 1382 (by decide +kernel) (by decide +kernel)
theorem bw_270 : Cond.code yX12_lies cX12_lies 2 (some .int) ∈ gT := gT_tb 1905 (by decide +kernel) (by decide +kernel)
theorem dX12_lies_0 : decode cX12_lies 0 = .ok (.iload_n 1, 1) := by decide +kernel
theorem dX12_lies_1 : decode cX12_lies 1 = .ok (.iconst 0, 1) := by decide +kernel
theorem dX12_lies_2 : decode cX12_lies 2 = .ok (.aload_n 0, 1) := by decide +kernel
theorem dX12_lies_3 : decode cX12_lies 3 = .ok (.getfield 434, 3) := by decide +kernel
theorem dX12_lies_6 : decode cX12_lies 6 = .ok (.iconst 1, 1) := by decide +kernel
theorem dX12_lies_7 : decode cX12_lies 7 = .ok (.isub, 1) := by decide +kernel
theorem dX12_lies_8 : decode cX12_lies 8 = .ok (.invokestatic 411, 3) := by decide +kernel
theorem dX12_lies_11 : decode cX12_lies 11 = .ok (.ifCond .eq 12, 3) := by decide +kernel
theorem dX12_lies_23 : decode cX12_lies 23 = .ok (.iconst (-1), 1) := by decide +kernel
theorem dX12_lies_24 : decode cX12_lies 24 = .ok (.ireturn, 1) := by decide +kernel
set_option maxHeartbeats 4000000 in
set_option maxRecDepth 100000 in
theorem c_X12_lies (l : Launch) (g : GG) (sz : Nat) (m_ : Nat) (j0 : Nat) (j1 : Nat) (j11 : Nat) (j12 : Nat) (j13 : Nat) (j14 : Nat) (j15 : Nat) (j16 : Nat) (j17 : Nat) (j18 : Nat) (j19 : Nat) (j20 : Nat) (j21 : Nat) (j22 : Nat) (j23 : Nat) (j24 : Nat) (j25 : Nat) (j26 : Nat) (j27 : Nat) (j28 : Nat) (j29 : Nat) (j30 : Nat) (j31 : Nat) (j32 : Nat) (j33 : Nat) (j34 : Nat) (j35 : Nat) (j36 : Nat) (j37 : Nat) (j38 : Nat) (j39 : Nat) (j40 : Nat) (j41 : Nat) (j42 : Nat) (j52 : Nat) (j53 : Nat) (j56 : Nat) (j57 : Nat) (j58 : Nat) (j59 : Nat) (j60 : Nat) (j61 : Nat) (j62 : Nat) (j63 : Nat) (j64 : Nat) (j65 : Nat) (j78 : Nat) (j79 : Nat) (j80 : Nat) (j81 : Nat) (j82 : Nat) (j85 : Nat) (j86 : Nat) (p0 : Int32) : Met l yX12_lies (.code yX12_lies cX12_lies 2 (some .int) :: gT) ({ frames := 1, cells := 0, slots := 0, locals := 22 }) (va_Pc [.ref m_, .int p0] (Pst g sz [(m_, .inr (12, [.ref j0, .ref j1, .int 0, .int 0, .int 0, .int (-1), .int 0, .int 0, .int 0, .int 0, .long 0, .ref j11, .ref j12, .ref j13, .ref j14, .ref j15, .ref j16, .ref j17, .ref j18, .ref j19, .ref j20, .ref j21, .ref j22, .ref j23, .ref j24, .ref j25, .ref j26, .ref j27, .ref j28, .ref j29, .ref j30, .ref j31, .ref j32, .ref j33, .ref j34, .ref j35, .ref j36, .ref j37, .ref j38, .ref j39, .ref j40, .ref j41, .ref j42, .int 0, .int 0, .int 0, .int 0, .int 0, .int 0, .int 0, .int 0, .int 0, .ref j52, .ref j53, .int 0, .int 0, .ref j56, .ref j57, .ref j58, .ref j59, .ref j60, .ref j61, .ref j62, .ref j63, .ref j64, .ref j65, .int 0, .int 0, .int 0, .int 0, .int 0, .int 0, .int 0, .int 0, .int 0, .int 0, .int 0, .int 0, .ref j78, .ref j79, .ref j80, .ref j81, .ref j82, .int 0, .int 0, .ref j85, .ref j86]))] nX)) (va_Qi (fun (r : Int32) (_ : Unit) => r = (-1)) (Qst g [] sz (fun _ => [])) (va_A [] sz)) 0 0 (va_A [] sz) := by
  refine Met.ofW (cc := cX12_lies) (maxL := 2) (ret := (some .int)) (by decide) rfl ?_
  intro p e s m args below meth c s₁ B hml hv
  obtain ⟨rfl, hsz, hP, hK, hD0, hX⟩ := hv
  have hx := B.exec
  have hb := B.bytes
  have hr := B.returns
  have hT : ∀ w ∈ gT, w.before _ s = true := fun w h => atoms_spec (ws := .code yX12_lies cX12_lies 2 (some .int) :: gT) B.pre w (List.mem_cons_of_mem _ h)
  have hown : s.vm.findClass RX12 = some m.cls := findClass_of_methodNamed B.named
  have hlocks := B.notSynchronized
  subst hsz
  have hD := hD0
  generalize hAe : va_A [] s.heap.size = A at ⊢
  have hA : ∀ q : Nat, s.heap.size ≤ q → A q := fun q h => by rw [← hAe]; exact Or.inr h
  have hS : va_S A s.heap s.heap [] := va_S.rf
  have hl := lv_entry ([.ref m_, .int p0]) (n := 2) (Nat.le_of_ble_eq_true rfl)
  rw [lg_entry_eq]
  generalize (lg_sl ([.ref m_, .int p0]) ++ List.replicate (2 - (lg_sl ([.ref m_, .int p0])).length) Slot.unset).toArray = ls at hl ⊢
  have hl : lv_has ls 2 [(0, .ref m_), (1, .int p0)] := hl
  refine p_nH (fun H hH => ?_)
  have hP : va_P g.1 vwCl [(m_, .inr (12, [.ref j0, .ref j1, .int 0, .int 0, .int 0, .int (-1), .int 0, .int 0, .int 0, .int 0, .long 0, .ref j11, .ref j12, .ref j13, .ref j14, .ref j15, .ref j16, .ref j17, .ref j18, .ref j19, .ref j20, .ref j21, .ref j22, .ref j23, .ref j24, .ref j25, .ref j26, .ref j27, .ref j28, .ref j29, .ref j30, .ref j31, .ref j32, .ref j33, .ref j34, .ref j35, .ref j36, .ref j37, .ref j38, .ref j39, .ref j40, .ref j41, .ref j42, .int 0, .int 0, .int 0, .int 0, .int 0, .int 0, .int 0, .int 0, .int 0, .ref j52, .ref j53, .int 0, .int 0, .ref j56, .ref j57, .ref j58, .ref j59, .ref j60, .ref j61, .ref j62, .ref j63, .ref j64, .ref j65, .int 0, .int 0, .int 0, .int 0, .int 0, .int 0, .int 0, .int 0, .int 0, .int 0, .int 0, .int 0, .ref j78, .ref j79, .ref j80, .ref j81, .ref j82, .int 0, .int 0, .ref j85, .ref j86]))] H := by rw [hH]; exact hP
  have hS : va_S A s.heap H [] := by rw [hH]; exact hS
  refine lv_iload_n hx hb dX12_lies_0 rfl (lv_at hl 1 rfl) ?_
  refine lv_iconst (v := 0) hx hb dX12_lies_1 (by decide) ?_
  refine lv_aload_n hx hb dX12_lies_2 rfl (lv_at hl 0 rfl) ?_
  refine va_get (D := g.1) (ci := 12) (v := .int 0) (C := RX12) (T := TX12) (N := 87) hx hb hT inF_X12 hown hK.1 hP 0 rfl rfl 77 (by decide) (hT _ bw_269) (fun _ h9 => h9) rfl dX12_lies_3 ?_
  refine lv_iconst (v := 1) hx hb dX12_lies_6 (by decide) ?_
  refine lv_isub hx hb dX12_lies_7 ?_
  refine p_ti (v := (-1)) (by decide +kernel) ?_
  refine k_iR (k_S (n := 3) ⟨hx, hb, hml, hown, hT⟩ hK hP hD [] rfl (by decide) (c_X12_isIn_m1 l g H.size p0) (gS bw_222 bw_223 bw_224 bw_219) rfl rfl (by decide +kernel) ⟨by decide, by decide⟩ (fun _ _ _ _ _ => trivial) (fun _ _ _ => trivial) rfl rfl hl.1 (Nat.le_of_ble_eq_true rfl) dX12_lies_8 ⟨by decide, by decide⟩) hP hS hA (fun r_1 _ H locs hw hP hS => ?_)
  have hw : r_1 = 0 := hw
  subst hw
  refine lv_if_eq (tgt := 23) hx hb dX12_lies_11 (by decide) (fun _ => ?_) (fun c9 => absurd (by decide) c9)
  refine lv_iconst (v := (-1)) hx hb dX12_lies_23 (by decide) ?_
  have hP9 : va_P g.1 vwCl [] H := hP.sub [] rfl
  have hD9 : va_D A [] := ⟨fun i j p q h => by simp at h, fun k q h => by simp at h⟩
  exact W.iret (v := (-1)) hx hb hr (fun t ht hW => ⟨⟨(-1), (), rfl, rfl, by rw [ht]; exact hP9, by rw [hAe]; exact hD9⟩, hS.F ht⟩) hS.2.2 dX12_lies_24

theorem bw_271 : Cond.code yX12_log cX12_log 3 (some .int) ∈ gT := gT_tb 2023 (by decide +kernel) (by decide +kernel)
theorem dX12_log_0 : decode cX12_log 0 = .ok (.iload_n 1, 1) := by decide +kernel
theorem dX12_log_1 : decode cX12_log 1 = .ok (.iconst 0, 1) := by decide +kernel
theorem dX12_log_2 : decode cX12_log 2 = .ok (.aload_n 0, 1) := by decide +kernel
theorem dX12_log_3 : decode cX12_log 3 = .ok (.getfield 119, 3) := by decide +kernel
theorem dX12_log_6 : decode cX12_log 6 = .ok (.bipush 71, 2) := by decide +kernel
theorem dX12_log_8 : decode cX12_log 8 = .ok (.iaload, 1) := by decide +kernel
theorem dX12_log_9 : decode cX12_log 9 = .ok (.iconst 1, 1) := by decide +kernel
theorem dX12_log_10 : decode cX12_log 10 = .ok (.isub, 1) := by decide +kernel
theorem dX12_log_11 : decode cX12_log 11 = .ok (.invokestatic 411, 3) := by decide +kernel
theorem dX12_log_14 : decode cX12_log 14 = .ok (.ifCond .eq 28, 3) := by decide +kernel
theorem dX12_log_42 : decode cX12_log 42 = .ok (.iconst (-1), 1) := by decide +kernel
theorem dX12_log_43 : decode cX12_log 43 = .ok (.ireturn, 1) := by decide +kernel
set_option maxHeartbeats 4000000 in
set_option maxRecDepth 100000 in
theorem c_X12_log (l : Launch) (g : GG) (sz : Nat) (m_ : Nat) (j0 : Nat) (j1 : Nat) (j11 : Nat) (j12 : Nat) (j13 : Nat) (j14 : Nat) (j15 : Nat) (j16 : Nat) (j17 : Nat) (j18 : Nat) (j19 : Nat) (j20 : Nat) (j21 : Nat) (j22 : Nat) (j23 : Nat) (j24 : Nat) (j25 : Nat) (j26 : Nat) (j27 : Nat) (j28 : Nat) (j29 : Nat) (j30 : Nat) (j31 : Nat) (j32 : Nat) (j33 : Nat) (j34 : Nat) (j35 : Nat) (j36 : Nat) (j37 : Nat) (j38 : Nat) (j39 : Nat) (j40 : Nat) (j41 : Nat) (j42 : Nat) (j52 : Nat) (j53 : Nat) (j56 : Nat) (j57 : Nat) (j58 : Nat) (j59 : Nat) (j60 : Nat) (j61 : Nat) (j62 : Nat) (j63 : Nat) (j64 : Nat) (j65 : Nat) (j78 : Nat) (j79 : Nat) (j80 : Nat) (j81 : Nat) (j82 : Nat) (j85 : Nat) (j86 : Nat) (p0 : Int32) (p1 : Int32) : Met l yX12_log (.code yX12_log cX12_log 3 (some .int) :: gT) ({ frames := 1, cells := 0, slots := 0, locals := 22 }) (va_Pc [.ref m_, .int p0, .int p1] (Pst g sz [(m_, .inr (12, [.ref j0, .ref j1, .int 0, .int 0, .int 0, .int (-1), .int 0, .int 0, .int 0, .int 0, .long 0, .ref j11, .ref j12, .ref j13, .ref j14, .ref j15, .ref j16, .ref j17, .ref j18, .ref j19, .ref j20, .ref j21, .ref j22, .ref j23, .ref j24, .ref j25, .ref j26, .ref j27, .ref j28, .ref j29, .ref j30, .ref j31, .ref j32, .ref j33, .ref j34, .ref j35, .ref j36, .ref j37, .ref j38, .ref j39, .ref j40, .ref j41, .ref j42, .int 0, .int 0, .int 0, .int 0, .int 0, .int 0, .int 0, .int 0, .int 0, .ref j52, .ref j53, .int 0, .int 0, .ref j56, .ref j57, .ref j58, .ref j59, .ref j60, .ref j61, .ref j62, .ref j63, .ref j64, .ref j65, .int 0, .int 0, .int 0, .int 0, .int 0, .int 0, .int 0, .int 0, .int 0, .int 0, .int 0, .int 0, .ref j78, .ref j79, .ref j80, .ref j81, .ref j82, .int 0, .int 0, .ref j85, .ref j86])), (j52, aI g 374 z0)] nX)) (va_Qi (fun (r : Int32) (_ : Unit) => r = (-1)) (Qst g [] sz (fun _ => [])) (va_A [] sz)) 0 0 (va_A [] sz) := by
  refine Met.ofW (cc := cX12_log) (maxL := 3) (ret := (some .int)) (by decide) rfl ?_
  intro p e s m args below meth c s₁ B hml hv
  obtain ⟨rfl, hsz, hP, hK, hD0, hX⟩ := hv
  have hx := B.exec
  have hb := B.bytes
  have hr := B.returns
  have hT : ∀ w ∈ gT, w.before _ s = true := fun w h => atoms_spec (ws := .code yX12_log cX12_log 3 (some .int) :: gT) B.pre w (List.mem_cons_of_mem _ h)
  have hown : s.vm.findClass RX12 = some m.cls := findClass_of_methodNamed B.named
  have hlocks := B.notSynchronized
  subst hsz
  have hD := hD0
  generalize hAe : va_A [] s.heap.size = A at ⊢
  have hA : ∀ q : Nat, s.heap.size ≤ q → A q := fun q h => by rw [← hAe]; exact Or.inr h
  have hS : va_S A s.heap s.heap [] := va_S.rf
  have hl := lv_entry ([.ref m_, .int p0, .int p1]) (n := 3) (Nat.le_of_ble_eq_true rfl)
  rw [lg_entry_eq]
  generalize (lg_sl ([.ref m_, .int p0, .int p1]) ++ List.replicate (3 - (lg_sl ([.ref m_, .int p0, .int p1])).length) Slot.unset).toArray = ls at hl ⊢
  have hl : lv_has ls 3 [(0, .ref m_), (1, .int p0), (2, .int p1)] := hl
  refine p_nH (fun H hH => ?_)
  have hP : va_P g.1 vwCl [(m_, .inr (12, [.ref j0, .ref j1, .int 0, .int 0, .int 0, .int (-1), .int 0, .int 0, .int 0, .int 0, .long 0, .ref j11, .ref j12, .ref j13, .ref j14, .ref j15, .ref j16, .ref j17, .ref j18, .ref j19, .ref j20, .ref j21, .ref j22, .ref j23, .ref j24, .ref j25, .ref j26, .ref j27, .ref j28, .ref j29, .ref j30, .ref j31, .ref j32, .ref j33, .ref j34, .ref j35, .ref j36, .ref j37, .ref j38, .ref j39, .ref j40, .ref j41, .ref j42, .int 0, .int 0, .int 0, .int 0, .int 0, .int 0, .int 0, .int 0, .int 0, .ref j52, .ref j53, .int 0, .int 0, .ref j56, .ref j57, .ref j58, .ref j59, .ref j60, .ref j61, .ref j62, .ref j63, .ref j64, .ref j65, .int 0, .int 0, .int 0, .int 0, .int 0, .int 0, .int 0, .int 0, .int 0, .int 0, .int 0, .int 0, .ref j78, .ref j79, .ref j80, .ref j81, .ref j82, .int 0, .int 0, .ref j85, .ref j86])), (j52, aI g 374 z0)] H := by rw [hH]; exact hP
  have hS : va_S A s.heap H [] := by rw [hH]; exact hS
  refine lv_iload_n hx hb dX12_log_0 rfl (lv_at hl 1 rfl) ?_
  refine lv_iconst (v := 0) hx hb dX12_log_1 (by decide) ?_
  refine lv_aload_n hx hb dX12_log_2 rfl (lv_at hl 0 rfl) ?_
  refine va_get (D := g.1) (ci := 12) (v := .ref j52) (C := RX12) (T := TX12) (N := 87) hx hb hT inF_X12 hown hK.1 hP 0 rfl rfl 52 (by decide) (hT _ bw_228) (fun _ h9 => h9) rfl dX12_log_3 ?_
  refine lv_bipush (v := 71) hx hb dX12_log_6 (by decide) ?_
  refine va_iald hx hb hK.1 hP 1 1 rfl rfl (i := 71) (by unfold vp_in; decide) dX12_log_8 ?_
  refine p_ti (v := 0) (rfl) ?_
  refine lv_iconst (v := 1) hx hb dX12_log_9 (by decide) ?_
  refine lv_isub hx hb dX12_log_10 ?_
  refine p_ti (v := (-1)) (by decide +kernel) ?_
  refine k_iR (k_S (n := 3) ⟨hx, hb, hml, hown, hT⟩ hK hP hD [] rfl (by decide) (c_X12_isIn_m1 l g H.size p0) (gS bw_222 bw_223 bw_224 bw_219) rfl rfl (by decide +kernel) ⟨by decide, by decide⟩ (fun _ _ _ _ _ => trivial) (fun _ _ _ => trivial) rfl rfl hl.1 (Nat.le_of_ble_eq_true rfl) dX12_log_11 ⟨by decide, by decide⟩) hP hS hA (fun r_1 _ H locs hw hP hS => ?_)
  have hw : r_1 = 0 := hw
  subst hw
  refine lv_if_eq (tgt := 42) hx hb dX12_log_14 (by decide) (fun _ => ?_) (fun c9 => absurd (by decide) c9)
  refine lv_iconst (v := (-1)) hx hb dX12_log_42 (by decide) ?_
  have hP9 : va_P g.1 vwCl [] H := hP.sub [] rfl
  have hD9 : va_D A [] := ⟨fun i j p q h => by simp at h, fun k q h => by simp at h⟩
  exact W.iret (v := (-1)) hx hb hr (fun t ht hW => ⟨⟨(-1), (), rfl, rfl, by rw [ht]; exact hP9, by rw [hAe]; exact hD9⟩, hS.F ht⟩) hS.2.2 dX12_log_43

theorem bw_272 : Cond.code yX12_began cX12_began 3 (some .int) ∈ gT := gT_tb 2027 (by decide +kernel) (by decide +kernel)
theorem dX12_began_0 : decode cX12_began 0 = .ok (.aload_n 0, 1) := by decide +kernel
theorem dX12_began_1 : decode cX12_began 1 = .ok (.iload_n 1, 1) := by decide +kernel
theorem dX12_began_2 : decode cX12_began 2 = .ok (.invokevirtual 415, 3) := by decide +kernel
theorem dX12_began_5 : decode cX12_began 5 = .ok (.ifCond .ne 6, 3) := by decide +kernel
theorem dX12_began_8 : decode cX12_began 8 = .ok (.bipush (-2), 2) := by decide +kernel
theorem dX12_began_10 : decode cX12_began 10 = .ok (.ireturn, 1) := by decide +kernel
set_option maxHeartbeats 4000000 in
set_option maxRecDepth 100000 in
theorem c_X12_began (l : Launch) (g : GG) (sz : Nat) (m_ : Nat) (j0 : Nat) (j1 : Nat) (j11 : Nat) (j12 : Nat) (j13 : Nat) (j14 : Nat) (j15 : Nat) (j16 : Nat) (j17 : Nat) (j18 : Nat) (j19 : Nat) (j20 : Nat) (j21 : Nat) (j22 : Nat) (j23 : Nat) (j24 : Nat) (j25 : Nat) (j26 : Nat) (j27 : Nat) (j28 : Nat) (j29 : Nat) (j30 : Nat) (j31 : Nat) (j32 : Nat) (j33 : Nat) (j34 : Nat) (j35 : Nat) (j36 : Nat) (j37 : Nat) (j38 : Nat) (j39 : Nat) (j40 : Nat) (j41 : Nat) (j42 : Nat) (j52 : Nat) (j53 : Nat) (j56 : Nat) (j57 : Nat) (j58 : Nat) (j59 : Nat) (j60 : Nat) (j61 : Nat) (j62 : Nat) (j63 : Nat) (j64 : Nat) (j65 : Nat) (j78 : Nat) (j79 : Nat) (j80 : Nat) (j81 : Nat) (j82 : Nat) (j85 : Nat) (j86 : Nat) (p0 : Int32) : Met l yX12_began (.code yX12_began cX12_began 3 (some .int) :: gT) ({ frames := 2, cells := 0, slots := 0, locals := 43 }) (va_Pc [.ref m_, .int p0] (Pst g sz [(m_, .inr (12, [.ref j0, .ref j1, .int 0, .int 0, .int 0, .int (-1), .int 0, .int 0, .int 0, .int 0, .long 0, .ref j11, .ref j12, .ref j13, .ref j14, .ref j15, .ref j16, .ref j17, .ref j18, .ref j19, .ref j20, .ref j21, .ref j22, .ref j23, .ref j24, .ref j25, .ref j26, .ref j27, .ref j28, .ref j29, .ref j30, .ref j31, .ref j32, .ref j33, .ref j34, .ref j35, .ref j36, .ref j37, .ref j38, .ref j39, .ref j40, .ref j41, .ref j42, .int 0, .int 0, .int 0, .int 0, .int 0, .int 0, .int 0, .int 0, .int 0, .ref j52, .ref j53, .int 0, .int 0, .ref j56, .ref j57, .ref j58, .ref j59, .ref j60, .ref j61, .ref j62, .ref j63, .ref j64, .ref j65, .int 0, .int 0, .int 0, .int 0, .int 0, .int 0, .int 0, .int 0, .int 0, .int 0, .int 0, .int 0, .ref j78, .ref j79, .ref j80, .ref j81, .ref j82, .int 0, .int 0, .ref j85, .ref j86])), (j52, aI g 374 z0)] nX)) (va_Qi (fun (r : Int32) (_ : Unit) => r = (-2)) (Qst g [] sz (fun _ => [])) (va_A [] sz)) 0 0 (va_A [] sz) := by
  refine Met.ofW (cc := cX12_began) (maxL := 3) (ret := (some .int)) (by decide) rfl ?_
  intro p e s m args below meth c s₁ B hml hv
  obtain ⟨rfl, hsz, hP, hK, hD0, hX⟩ := hv
  have hx := B.exec
  have hb := B.bytes
  have hr := B.returns
  have hT : ∀ w ∈ gT, w.before _ s = true := fun w h => atoms_spec (ws := .code yX12_began cX12_began 3 (some .int) :: gT) B.pre w (List.mem_cons_of_mem _ h)
  have hown : s.vm.findClass RX12 = some m.cls := findClass_of_methodNamed B.named
  have hlocks := B.notSynchronized
  subst hsz
  have hD := hD0
  generalize hAe : va_A [] s.heap.size = A at ⊢
  have hA : ∀ q : Nat, s.heap.size ≤ q → A q := fun q h => by rw [← hAe]; exact Or.inr h
  have hS : va_S A s.heap s.heap [] := va_S.rf
  have hl := lv_entry ([.ref m_, .int p0]) (n := 3) (Nat.le_of_ble_eq_true rfl)
  rw [lg_entry_eq]
  generalize (lg_sl ([.ref m_, .int p0]) ++ List.replicate (3 - (lg_sl ([.ref m_, .int p0])).length) Slot.unset).toArray = ls at hl ⊢
  have hl : lv_has ls 3 [(0, .ref m_), (1, .int p0)] := hl
  refine p_nH (fun H hH => ?_)
  have hP : va_P g.1 vwCl [(m_, .inr (12, [.ref j0, .ref j1, .int 0, .int 0, .int 0, .int (-1), .int 0, .int 0, .int 0, .int 0, .long 0, .ref j11, .ref j12, .ref j13, .ref j14, .ref j15, .ref j16, .ref j17, .ref j18, .ref j19, .ref j20, .ref j21, .ref j22, .ref j23, .ref j24, .ref j25, .ref j26, .ref j27, .ref j28, .ref j29, .ref j30, .ref j31, .ref j32, .ref j33, .ref j34, .ref j35, .ref j36, .ref j37, .ref j38, .ref j39, .ref j40, .ref j41, .ref j42, .int 0, .int 0, .int 0, .int 0, .int 0, .int 0, .int 0, .int 0, .int 0, .ref j52, .ref j53, .int 0, .int 0, .ref j56, .ref j57, .ref j58, .ref j59, .ref j60, .ref j61, .ref j62, .ref j63, .ref j64, .ref j65, .int 0, .int 0, .int 0, .int 0, .int 0, .int 0, .int 0, .int 0, .int 0, .int 0, .int 0, .int 0, .ref j78, .ref j79, .ref j80, .ref j81, .ref j82, .int 0, .int 0, .ref j85, .ref j86])), (j52, aI g 374 z0)] H := by rw [hH]; exact hP
  have hS : va_S A s.heap H [] := by rw [hH]; exact hS
  refine lv_aload_n hx hb dX12_began_0 rfl (lv_at hl 0 rfl) ?_
  refine lv_iload_n hx hb dX12_began_1 rfl (lv_at hl 1 rfl) ?_
  refine k_iR (k_V (n := 1) ⟨hx, hb, hml, hown, hT⟩ hK hP hD [0, 1] rfl (by decide) (c_X12_isDuel l g H.size m_ j0 j1 j11 j12 j13 j14 j15 j16 j17 j18 j19 j20 j21 j22 j23 j24 j25 j26 j27 j28 j29 j30 j31 j32 j33 j34 j35 j36 j37 j38 j39 j40 j41 j42 j52 j53 j56 j57 j58 j59 j60 j61 j62 j63 j64 j65 j78 j79 j80 j81 j82 j85 j86 p0) (gV bw_230 bw_231 bw_232 bw_233 bw_229) rfl rfl (by decide +kernel) ⟨by decide, by decide⟩ (ci := 12) (q0 := 0) rfl rfl (fun _ _ _ _ _ => trivial) (fun _ _ _ => trivial) rfl rfl hl.1 (Nat.le_of_ble_eq_true rfl) dX12_began_2 ⟨by decide, by decide⟩) hP hS hA (fun r_1 _ H locs hw hP hS => ?_)
  have hw : r_1 = 0 := hw
  subst hw
  refine lv_if_ne (tgt := 11) hx hb dX12_began_5 (by decide) (fun c9 => absurd (by decide) c9) (fun _ => ?_)
  refine lv_bipush (v := (-2)) hx hb dX12_began_8 (by decide) ?_
  have hP9 : va_P g.1 vwCl [] H := hP.sub [] rfl
  have hD9 : va_D A [] := ⟨fun i j p q h => by simp at h, fun k q h => by simp at h⟩
  exact W.iret (v := (-2)) hx hb hr (fun t ht hW => ⟨⟨(-2), (), rfl, rfl, by rw [ht]; exact hP9, by rw [hAe]; exact hD9⟩, hS.F ht⟩) hS.2.2 dX12_began_10

theorem bw_273 : Cond.code yX12_sight cX12_sight 3 (some .int) ∈ gT := gT_tb 2031 (by decide +kernel) (by decide +kernel)
theorem dX12_sight_0 : decode cX12_sight 0 = .ok (.aload_n 0, 1) := by decide +kernel
theorem dX12_sight_1 : decode cX12_sight 1 = .ok (.iload_n 1, 1) := by decide +kernel
theorem dX12_sight_2 : decode cX12_sight 2 = .ok (.invokevirtual 449, 3) := by decide +kernel
theorem dX12_sight_5 : decode cX12_sight 5 = .ok (.ifCond .eq 23, 3) := by decide +kernel
theorem dX12_sight_28 : decode cX12_sight 28 = .ok (.iconst (-1), 1) := by decide +kernel
theorem dX12_sight_29 : decode cX12_sight 29 = .ok (.ireturn, 1) := by decide +kernel
set_option maxHeartbeats 4000000 in
set_option maxRecDepth 100000 in
theorem c_X12_sight (l : Launch) (g : GG) (sz : Nat) (m_ : Nat) (j0 : Nat) (j1 : Nat) (j11 : Nat) (j12 : Nat) (j13 : Nat) (j14 : Nat) (j15 : Nat) (j16 : Nat) (j17 : Nat) (j18 : Nat) (j19 : Nat) (j20 : Nat) (j21 : Nat) (j22 : Nat) (j23 : Nat) (j24 : Nat) (j25 : Nat) (j26 : Nat) (j27 : Nat) (j28 : Nat) (j29 : Nat) (j30 : Nat) (j31 : Nat) (j32 : Nat) (j33 : Nat) (j34 : Nat) (j35 : Nat) (j36 : Nat) (j37 : Nat) (j38 : Nat) (j39 : Nat) (j40 : Nat) (j41 : Nat) (j42 : Nat) (j52 : Nat) (j53 : Nat) (j56 : Nat) (j57 : Nat) (j58 : Nat) (j59 : Nat) (j60 : Nat) (j61 : Nat) (j62 : Nat) (j63 : Nat) (j64 : Nat) (j65 : Nat) (j78 : Nat) (j79 : Nat) (j80 : Nat) (j81 : Nat) (j82 : Nat) (j85 : Nat) (j86 : Nat) (p0 : Int32) (p1 : Int32) : Met l yX12_sight (.code yX12_sight cX12_sight 3 (some .int) :: gT) ({ frames := 2, cells := 0, slots := 0, locals := 43 }) (va_Pc [.ref m_, .int p0, .int p1] (Pst g sz [(m_, .inr (12, [.ref j0, .ref j1, .int 0, .int 0, .int 0, .int (-1), .int 0, .int 0, .int 0, .int 0, .long 0, .ref j11, .ref j12, .ref j13, .ref j14, .ref j15, .ref j16, .ref j17, .ref j18, .ref j19, .ref j20, .ref j21, .ref j22, .ref j23, .ref j24, .ref j25, .ref j26, .ref j27, .ref j28, .ref j29, .ref j30, .ref j31, .ref j32, .ref j33, .ref j34, .ref j35, .ref j36, .ref j37, .ref j38, .ref j39, .ref j40, .ref j41, .ref j42, .int 0, .int 0, .int 0, .int 0, .int 0, .int 0, .int 0, .int 0, .int 0, .ref j52, .ref j53, .int 0, .int 0, .ref j56, .ref j57, .ref j58, .ref j59, .ref j60, .ref j61, .ref j62, .ref j63, .ref j64, .ref j65, .int 0, .int 0, .int 0, .int 0, .int 0, .int 0, .int 0, .int 0, .int 0, .int 0, .int 0, .int 0, .ref j78, .ref j79, .ref j80, .ref j81, .ref j82, .int 0, .int 0, .ref j85, .ref j86])), (j13, aI g 2 z0)] nX)) (va_Qi (fun (r : Int32) (_ : Unit) => r = (-1)) (Qst g [] sz (fun _ => [])) (va_A [] sz)) 0 0 (va_A [] sz) := by
  refine Met.ofW (cc := cX12_sight) (maxL := 3) (ret := (some .int)) (by decide) rfl ?_
  intro p e s m args below meth c s₁ B hml hv
  obtain ⟨rfl, hsz, hP, hK, hD0, hX⟩ := hv
  have hx := B.exec
  have hb := B.bytes
  have hr := B.returns
  have hT : ∀ w ∈ gT, w.before _ s = true := fun w h => atoms_spec (ws := .code yX12_sight cX12_sight 3 (some .int) :: gT) B.pre w (List.mem_cons_of_mem _ h)
  have hown : s.vm.findClass RX12 = some m.cls := findClass_of_methodNamed B.named
  have hlocks := B.notSynchronized
  subst hsz
  have hD := hD0
  generalize hAe : va_A [] s.heap.size = A at ⊢
  have hA : ∀ q : Nat, s.heap.size ≤ q → A q := fun q h => by rw [← hAe]; exact Or.inr h
  have hS : va_S A s.heap s.heap [] := va_S.rf
  have hl := lv_entry ([.ref m_, .int p0, .int p1]) (n := 3) (Nat.le_of_ble_eq_true rfl)
  rw [lg_entry_eq]
  generalize (lg_sl ([.ref m_, .int p0, .int p1]) ++ List.replicate (3 - (lg_sl ([.ref m_, .int p0, .int p1])).length) Slot.unset).toArray = ls at hl ⊢
  have hl : lv_has ls 3 [(0, .ref m_), (1, .int p0), (2, .int p1)] := hl
  refine p_nH (fun H hH => ?_)
  have hP : va_P g.1 vwCl [(m_, .inr (12, [.ref j0, .ref j1, .int 0, .int 0, .int 0, .int (-1), .int 0, .int 0, .int 0, .int 0, .long 0, .ref j11, .ref j12, .ref j13, .ref j14, .ref j15, .ref j16, .ref j17, .ref j18, .ref j19, .ref j20, .ref j21, .ref j22, .ref j23, .ref j24, .ref j25, .ref j26, .ref j27, .ref j28, .ref j29, .ref j30, .ref j31, .ref j32, .ref j33, .ref j34, .ref j35, .ref j36, .ref j37, .ref j38, .ref j39, .ref j40, .ref j41, .ref j42, .int 0, .int 0, .int 0, .int 0, .int 0, .int 0, .int 0, .int 0, .int 0, .ref j52, .ref j53, .int 0, .int 0, .ref j56, .ref j57, .ref j58, .ref j59, .ref j60, .ref j61, .ref j62, .ref j63, .ref j64, .ref j65, .int 0, .int 0, .int 0, .int 0, .int 0, .int 0, .int 0, .int 0, .int 0, .int 0, .int 0, .int 0, .ref j78, .ref j79, .ref j80, .ref j81, .ref j82, .int 0, .int 0, .ref j85, .ref j86])), (j13, aI g 2 z0)] H := by rw [hH]; exact hP
  have hS : va_S A s.heap H [] := by rw [hH]; exact hS
  refine lv_aload_n hx hb dX12_sight_0 rfl (lv_at hl 0 rfl) ?_
  refine lv_iload_n hx hb dX12_sight_1 rfl (lv_at hl 1 rfl) ?_
  refine k_iR (k_V (n := 1) ⟨hx, hb, hml, hown, hT⟩ hK hP hD [0, 1] rfl (by decide) (c_X12_isReason l g H.size m_ j0 j1 j11 j12 j13 j14 j15 j16 j17 j18 j19 j20 j21 j22 j23 j24 j25 j26 j27 j28 j29 j30 j31 j32 j33 j34 j35 j36 j37 j38 j39 j40 j41 j42 j52 j53 j56 j57 j58 j59 j60 j61 j62 j63 j64 j65 j78 j79 j80 j81 j82 j85 j86 p0) (gV bw_244 bw_245 bw_246 bw_233 bw_227) rfl rfl (by decide +kernel) ⟨by decide, by decide⟩ (ci := 12) (q0 := 0) rfl rfl (fun _ _ _ _ _ => trivial) (fun _ _ _ => trivial) rfl rfl hl.1 (Nat.le_of_ble_eq_true rfl) dX12_sight_2 ⟨by decide, by decide⟩) hP hS hA (fun r_1 _ H locs hw hP hS => ?_)
  have hw : r_1 = 0 := hw
  subst hw
  refine lv_if_eq (tgt := 28) hx hb dX12_sight_5 (by decide) (fun _ => ?_) (fun c9 => absurd (by decide) c9)
  refine lv_iconst (v := (-1)) hx hb dX12_sight_28 (by decide) ?_
  have hP9 : va_P g.1 vwCl [] H := hP.sub [] rfl
  have hD9 : va_D A [] := ⟨fun i j p q h => by simp at h, fun k q h => by simp at h⟩
  exact W.iret (v := (-1)) hx hb hr (fun t ht hW => ⟨⟨(-1), (), rfl, rfl, by rw [ht]; exact hP9, by rw [hAe]; exact hD9⟩, hS.F ht⟩) hS.2.2 dX12_sight_29

theorem bw_274 : Cond.fieldLink RX12 431 "DuelDelaysModel" "sights" "I" ∈ gT := gT_tb 1388 (by decide +kernel) (by decide +kernel)
theorem bw_275 : Cond.code yX12_untell cX12_untell 2 (some .boolean) ∈ gT := gT_tb 2035 (by decide +kernel) (by decide +kernel)
theorem dX12_untell_0 : decode cX12_untell 0 = .ok (.iload_n 1, 1) := by decide +kernel
theorem dX12_untell_1 : decode cX12_untell 1 = .ok (.iconst 0, 1) := by decide +kernel
theorem dX12_untell_2 : decode cX12_untell 2 = .ok (.aload_n 0, 1) := by decide +kernel
theorem dX12_untell_3 : decode cX12_untell 3 = .ok (.getfield 431, 3) := by decide +kernel
theorem dX12_untell_6 : decode cX12_untell 6 = .ok (.iconst 1, 1) := by decide +kernel
theorem dX12_untell_7 : decode cX12_untell 7 = .ok (.isub, 1) := by decide +kernel
theorem dX12_untell_8 : decode cX12_untell 8 = .ok (.invokestatic 411, 3) := by decide +kernel
theorem dX12_untell_11 : decode cX12_untell 11 = .ok (.ifCond .eq 12, 3) := by decide +kernel
theorem dX12_untell_23 : decode cX12_untell 23 = .ok (.iconst 0, 1) := by decide +kernel
theorem dX12_untell_24 : decode cX12_untell 24 = .ok (.ireturn, 1) := by decide +kernel
set_option maxHeartbeats 4000000 in
set_option maxRecDepth 100000 in
theorem c_X12_untell (l : Launch) (g : GG) (sz : Nat) (m_ : Nat) (j0 : Nat) (j1 : Nat) (j11 : Nat) (j12 : Nat) (j13 : Nat) (j14 : Nat) (j15 : Nat) (j16 : Nat) (j17 : Nat) (j18 : Nat) (j19 : Nat) (j20 : Nat) (j21 : Nat) (j22 : Nat) (j23 : Nat) (j24 : Nat) (j25 : Nat) (j26 : Nat) (j27 : Nat) (j28 : Nat) (j29 : Nat) (j30 : Nat) (j31 : Nat) (j32 : Nat) (j33 : Nat) (j34 : Nat) (j35 : Nat) (j36 : Nat) (j37 : Nat) (j38 : Nat) (j39 : Nat) (j40 : Nat) (j41 : Nat) (j42 : Nat) (j52 : Nat) (j53 : Nat) (j56 : Nat) (j57 : Nat) (j58 : Nat) (j59 : Nat) (j60 : Nat) (j61 : Nat) (j62 : Nat) (j63 : Nat) (j64 : Nat) (j65 : Nat) (j78 : Nat) (j79 : Nat) (j80 : Nat) (j81 : Nat) (j82 : Nat) (j85 : Nat) (j86 : Nat) (p0 : Int32) : Met l yX12_untell (.code yX12_untell cX12_untell 2 (some .boolean) :: gT) ({ frames := 1, cells := 0, slots := 0, locals := 22 }) (va_Pc [.ref m_, .int p0] (Pst g sz [(m_, .inr (12, [.ref j0, .ref j1, .int 0, .int 0, .int 0, .int (-1), .int 0, .int 0, .int 0, .int 0, .long 0, .ref j11, .ref j12, .ref j13, .ref j14, .ref j15, .ref j16, .ref j17, .ref j18, .ref j19, .ref j20, .ref j21, .ref j22, .ref j23, .ref j24, .ref j25, .ref j26, .ref j27, .ref j28, .ref j29, .ref j30, .ref j31, .ref j32, .ref j33, .ref j34, .ref j35, .ref j36, .ref j37, .ref j38, .ref j39, .ref j40, .ref j41, .ref j42, .int 0, .int 0, .int 0, .int 0, .int 0, .int 0, .int 0, .int 0, .int 0, .ref j52, .ref j53, .int 0, .int 0, .ref j56, .ref j57, .ref j58, .ref j59, .ref j60, .ref j61, .ref j62, .ref j63, .ref j64, .ref j65, .int 0, .int 0, .int 0, .int 0, .int 0, .int 0, .int 0, .int 0, .int 0, .int 0, .int 0, .int 0, .ref j78, .ref j79, .ref j80, .ref j81, .ref j82, .int 0, .int 0, .ref j85, .ref j86]))] nX)) (va_Qi (fun (r : Int32) (_ : Unit) => r = 0) (Qst g [] sz (fun _ => [])) (va_A [] sz)) 0 0 (va_A [] sz) := by
  refine Met.ofW (cc := cX12_untell) (maxL := 2) (ret := (some .boolean)) (by decide) rfl ?_
  intro p e s m args below meth c s₁ B hml hv
  obtain ⟨rfl, hsz, hP, hK, hD0, hX⟩ := hv
  have hx := B.exec
  have hb := B.bytes
  have hr := B.returns
  have hT : ∀ w ∈ gT, w.before _ s = true := fun w h => atoms_spec (ws := .code yX12_untell cX12_untell 2 (some .boolean) :: gT) B.pre w (List.mem_cons_of_mem _ h)
  have hown : s.vm.findClass RX12 = some m.cls := findClass_of_methodNamed B.named
  have hlocks := B.notSynchronized
  subst hsz
  have hD := hD0
  generalize hAe : va_A [] s.heap.size = A at ⊢
  have hA : ∀ q : Nat, s.heap.size ≤ q → A q := fun q h => by rw [← hAe]; exact Or.inr h
  have hS : va_S A s.heap s.heap [] := va_S.rf
  have hl := lv_entry ([.ref m_, .int p0]) (n := 2) (Nat.le_of_ble_eq_true rfl)
  rw [lg_entry_eq]
  generalize (lg_sl ([.ref m_, .int p0]) ++ List.replicate (2 - (lg_sl ([.ref m_, .int p0])).length) Slot.unset).toArray = ls at hl ⊢
  have hl : lv_has ls 2 [(0, .ref m_), (1, .int p0)] := hl
  refine p_nH (fun H hH => ?_)
  have hP : va_P g.1 vwCl [(m_, .inr (12, [.ref j0, .ref j1, .int 0, .int 0, .int 0, .int (-1), .int 0, .int 0, .int 0, .int 0, .long 0, .ref j11, .ref j12, .ref j13, .ref j14, .ref j15, .ref j16, .ref j17, .ref j18, .ref j19, .ref j20, .ref j21, .ref j22, .ref j23, .ref j24, .ref j25, .ref j26, .ref j27, .ref j28, .ref j29, .ref j30, .ref j31, .ref j32, .ref j33, .ref j34, .ref j35, .ref j36, .ref j37, .ref j38, .ref j39, .ref j40, .ref j41, .ref j42, .int 0, .int 0, .int 0, .int 0, .int 0, .int 0, .int 0, .int 0, .int 0, .ref j52, .ref j53, .int 0, .int 0, .ref j56, .ref j57, .ref j58, .ref j59, .ref j60, .ref j61, .ref j62, .ref j63, .ref j64, .ref j65, .int 0, .int 0, .int 0, .int 0, .int 0, .int 0, .int 0, .int 0, .int 0, .int 0, .int 0, .int 0, .ref j78, .ref j79, .ref j80, .ref j81, .ref j82, .int 0, .int 0, .ref j85, .ref j86]))] H := by rw [hH]; exact hP
  have hS : va_S A s.heap H [] := by rw [hH]; exact hS
  refine lv_iload_n hx hb dX12_untell_0 rfl (lv_at hl 1 rfl) ?_
  refine lv_iconst (v := 0) hx hb dX12_untell_1 (by decide) ?_
  refine lv_aload_n hx hb dX12_untell_2 rfl (lv_at hl 0 rfl) ?_
  refine va_get (D := g.1) (ci := 12) (v := .int 0) (C := RX12) (T := TX12) (N := 87) hx hb hT inF_X12 hown hK.1 hP 0 rfl rfl 83 (by decide) (hT _ bw_274) (fun _ h9 => h9) rfl dX12_untell_3 ?_
  refine lv_iconst (v := 1) hx hb dX12_untell_6 (by decide) ?_
  refine lv_isub hx hb dX12_untell_7 ?_
  refine p_ti (v := (-1)) (by decide +kernel) ?_
  refine k_iR (k_S (n := 3) ⟨hx, hb, hml, hown, hT⟩ hK hP hD [] rfl (by decide) (c_X12_isIn_m1 l g H.size p0) (gS bw_222 bw_223 bw_224 bw_219) rfl rfl (by decide +kernel) ⟨by decide, by decide⟩ (fun _ _ _ _ _ => trivial) (fun _ _ _ => trivial) rfl rfl hl.1 (Nat.le_of_ble_eq_true rfl) dX12_untell_8 ⟨by decide, by decide⟩) hP hS hA (fun r_1 _ H locs hw hP hS => ?_)
  have hw : r_1 = 0 := hw
  subst hw
  refine lv_if_eq (tgt := 23) hx hb dX12_untell_11 (by decide) (fun _ => ?_) (fun c9 => absurd (by decide) c9)
  refine lv_iconst (v := 0) hx hb dX12_untell_23 (by decide) ?_
  have hP9 : va_P g.1 vwCl [] H := hP.sub [] rfl
  have hD9 : va_D A [] := ⟨fun i j p q h => by simp at h, fun k q h => by simp at h⟩
  exact W.zret (v := 0) (ty := .boolean) hx hb hr rfl (fun t ht hW => ⟨⟨0, (), rfl, rfl, by rw [ht]; exact hP9, by rw [hAe]; exact hD9⟩, hS.F ht⟩) hS.2.2 dX12_untell_24

theorem bw_276 : Cond.fieldLink RX12 173 "DuelDelaysModel" "isBoxed" "[Z" ∈ gT := gT_tb 1391 (by decide +kernel) (by decide +kernel)
theorem bw_277 : Cond.code yX12_back cX12_back 3 (some .int) ∈ gT := gT_tb 2056 (by decide +kernel) (by decide +kernel)
theorem dX12_back_0 : decode cX12_back 0 = .ok (.iload_n 1, 1) := by decide +kernel
theorem dX12_back_1 : decode cX12_back 1 = .ok (.iconst 0, 1) := by decide +kernel
theorem dX12_back_2 : decode cX12_back 2 = .ok (.iconst 2, 1) := by decide +kernel
theorem dX12_back_3 : decode cX12_back 3 = .ok (.invokestatic 411, 3) := by decide +kernel
theorem dX12_back_6 : decode cX12_back 6 = .ok (.ifCond .eq 12, 3) := by decide +kernel
theorem dX12_back_9 : decode cX12_back 9 = .ok (.aload_n 0, 1) := by decide +kernel
theorem dX12_back_10 : decode cX12_back 10 = .ok (.getfield 173, 3) := by decide +kernel
theorem dX12_back_13 : decode cX12_back 13 = .ok (.iload_n 1, 1) := by decide +kernel
theorem dX12_back_14 : decode cX12_back 14 = .ok (.baload, 1) := by decide +kernel
theorem dX12_back_15 : decode cX12_back 15 = .ok (.ifCond .ne 5, 3) := by decide +kernel
theorem dX12_back_18 : decode cX12_back 18 = .ok (.iconst (-1), 1) := by decide +kernel
theorem dX12_back_19 : decode cX12_back 19 = .ok (.ireturn, 1) := by decide +kernel
set_option maxHeartbeats 4000000 in
set_option maxRecDepth 100000 in
theorem c_X12_back (l : Launch) (g : GG) (sz : Nat) (m_ : Nat) (j0 : Nat) (j1 : Nat) (j11 : Nat) (j12 : Nat) (j13 : Nat) (j14 : Nat) (j15 : Nat) (j16 : Nat) (j17 : Nat) (j18 : Nat) (j19 : Nat) (j20 : Nat) (j21 : Nat) (j22 : Nat) (j23 : Nat) (j24 : Nat) (j25 : Nat) (j26 : Nat) (j27 : Nat) (j28 : Nat) (j29 : Nat) (j30 : Nat) (j31 : Nat) (j32 : Nat) (j33 : Nat) (j34 : Nat) (j35 : Nat) (j36 : Nat) (j37 : Nat) (j38 : Nat) (j39 : Nat) (j40 : Nat) (j41 : Nat) (j42 : Nat) (j52 : Nat) (j53 : Nat) (j56 : Nat) (j57 : Nat) (j58 : Nat) (j59 : Nat) (j60 : Nat) (j61 : Nat) (j62 : Nat) (j63 : Nat) (j64 : Nat) (j65 : Nat) (j78 : Nat) (j79 : Nat) (j80 : Nat) (j81 : Nat) (j82 : Nat) (j85 : Nat) (j86 : Nat) (p0 : Int32) : Met l yX12_back (.code yX12_back cX12_back 3 (some .int) :: gT) ({ frames := 1, cells := 0, slots := 0, locals := 22 }) (va_Pc [.ref m_, .int p0] (Pst g sz [(m_, .inr (12, [.ref j0, .ref j1, .int 0, .int 0, .int 0, .int (-1), .int 0, .int 0, .int 0, .int 0, .long 0, .ref j11, .ref j12, .ref j13, .ref j14, .ref j15, .ref j16, .ref j17, .ref j18, .ref j19, .ref j20, .ref j21, .ref j22, .ref j23, .ref j24, .ref j25, .ref j26, .ref j27, .ref j28, .ref j29, .ref j30, .ref j31, .ref j32, .ref j33, .ref j34, .ref j35, .ref j36, .ref j37, .ref j38, .ref j39, .ref j40, .ref j41, .ref j42, .int 0, .int 0, .int 0, .int 0, .int 0, .int 0, .int 0, .int 0, .int 0, .ref j52, .ref j53, .int 0, .int 0, .ref j56, .ref j57, .ref j58, .ref j59, .ref j60, .ref j61, .ref j62, .ref j63, .ref j64, .ref j65, .int 0, .int 0, .int 0, .int 0, .int 0, .int 0, .int 0, .int 0, .int 0, .int 0, .int 0, .int 0, .ref j78, .ref j79, .ref j80, .ref j81, .ref j82, .int 0, .int 0, .ref j85, .ref j86])), (j86, aZ g 3 z0)] nX)) (va_Qi (fun (r : Int32) (_ : Unit) => r = (-1)) (Qst g [] sz (fun _ => [])) (va_A [] sz)) 0 0 (va_A [] sz) := by
  refine Met.ofW (cc := cX12_back) (maxL := 3) (ret := (some .int)) (by decide) rfl ?_
  intro p e s m args below meth c s₁ B hml hv
  obtain ⟨rfl, hsz, hP, hK, hD0, hX⟩ := hv
  have hx := B.exec
  have hb := B.bytes
  have hr := B.returns
  have hT : ∀ w ∈ gT, w.before _ s = true := fun w h => atoms_spec (ws := .code yX12_back cX12_back 3 (some .int) :: gT) B.pre w (List.mem_cons_of_mem _ h)
  have hown : s.vm.findClass RX12 = some m.cls := findClass_of_methodNamed B.named
  have hlocks := B.notSynchronized
  subst hsz
  have hD := hD0
  generalize hAe : va_A [] s.heap.size = A at ⊢
  have hA : ∀ q : Nat, s.heap.size ≤ q → A q := fun q h => by rw [← hAe]; exact Or.inr h
  have hS : va_S A s.heap s.heap [] := va_S.rf
  have hl := lv_entry ([.ref m_, .int p0]) (n := 3) (Nat.le_of_ble_eq_true rfl)
  rw [lg_entry_eq]
  generalize (lg_sl ([.ref m_, .int p0]) ++ List.replicate (3 - (lg_sl ([.ref m_, .int p0])).length) Slot.unset).toArray = ls at hl ⊢
  have hl : lv_has ls 3 [(0, .ref m_), (1, .int p0)] := hl
  refine p_nH (fun H hH => ?_)
  have hP : va_P g.1 vwCl [(m_, .inr (12, [.ref j0, .ref j1, .int 0, .int 0, .int 0, .int (-1), .int 0, .int 0, .int 0, .int 0, .long 0, .ref j11, .ref j12, .ref j13, .ref j14, .ref j15, .ref j16, .ref j17, .ref j18, .ref j19, .ref j20, .ref j21, .ref j22, .ref j23, .ref j24, .ref j25, .ref j26, .ref j27, .ref j28, .ref j29, .ref j30, .ref j31, .ref j32, .ref j33, .ref j34, .ref j35, .ref j36, .ref j37, .ref j38, .ref j39, .ref j40, .ref j41, .ref j42, .int 0, .int 0, .int 0, .int 0, .int 0, .int 0, .int 0, .int 0, .int 0, .ref j52, .ref j53, .int 0, .int 0, .ref j56, .ref j57, .ref j58, .ref j59, .ref j60, .ref j61, .ref j62, .ref j63, .ref j64, .ref j65, .int 0, .int 0, .int 0, .int 0, .int 0, .int 0, .int 0, .int 0, .int 0, .int 0, .int 0, .int 0, .ref j78, .ref j79, .ref j80, .ref j81, .ref j82, .int 0, .int 0, .ref j85, .ref j86])), (j86, aZ g 3 z0)] H := by rw [hH]; exact hP
  have hS : va_S A s.heap H [] := by rw [hH]; exact hS
  refine lv_iload_n hx hb dX12_back_0 rfl (lv_at hl 1 rfl) ?_
  refine lv_iconst (v := 0) hx hb dX12_back_1 (by decide) ?_
  refine lv_iconst (v := 2) hx hb dX12_back_2 (by decide) ?_
  refine k_iR (k_S (n := 3) ⟨hx, hb, hml, hown, hT⟩ hK hP hD [] rfl (by decide) (c_X12_isIn_2 l g H.size p0) (gS bw_222 bw_223 bw_224 bw_219) rfl rfl (by decide +kernel) ⟨by decide, by decide⟩ (fun _ _ _ _ _ => trivial) (fun _ _ _ => trivial) rfl rfl hl.1 (Nat.le_of_ble_eq_true rfl) dX12_back_3 ⟨by decide, by decide⟩) hP hS hA (fun r_1 _ H locs hw hP hS => ?_)
  rcases hw with ⟨rfl, f_2, f_3⟩ | ⟨rfl, f_4⟩
  · refine lv_if_eq (tgt := 18) hx hb dX12_back_6 (by decide) (fun c9 => absurd c9 (by decide)) (fun _ => ?_)
    refine lv_aload_n hx hb dX12_back_9 rfl (lv_at hl 0 rfl) ?_
    refine va_get (D := g.1) (ci := 12) (v := .ref j86) (C := RX12) (T := TX12) (N := 87) hx hb hT inF_X12 hown hK.1 hP 0 rfl rfl 86 (by decide) (hT _ bw_276) (fun _ h9 => h9) rfl dX12_back_10 ?_
    refine lv_iload_n hx hb dX12_back_13 rfl (lv_at hl 1 rfl) ?_
    refine va_zald hx hb hK.1 hP 1 3 rfl rfl (i := p0) (vp_in_iff.mpr (by have e0 : (0 : Int32).toInt = 0 := (by decide); have e1 : (2 : Int32).toInt = 2 := (by decide); simp only [Int32.lt_iff_toInt_lt, Int32.le_iff_toInt_le, ← Int32.toInt_inj, e0, e1] at f_2 f_3 ⊢; omega)) dX12_back_14 ?_
    refine p_ti (v := 0) rfl ?_
    refine lv_if_ne (tgt := 20) hx hb dX12_back_15 (by decide) (fun c9 => absurd (by decide) c9) (fun _ => ?_)
    refine lv_iconst (v := (-1)) hx hb dX12_back_18 (by decide) ?_
    have hP9 : va_P g.1 vwCl [] H := hP.sub [] rfl
    have hD9 : va_D A [] := ⟨fun i j p q h => by simp at h, fun k q h => by simp at h⟩
    exact W.iret (v := (-1)) hx hb hr (fun t ht hW => ⟨⟨(-1), (), rfl, rfl, by rw [ht]; exact hP9, by rw [hAe]; exact hD9⟩, hS.F ht⟩) hS.2.2 dX12_back_19
  · refine lv_if_eq (tgt := 18) hx hb dX12_back_6 (by decide) (fun _ => ?_) (fun c9 => absurd (by decide) c9)
    refine lv_iconst (v := (-1)) hx hb dX12_back_18 (by decide) ?_
    have hP9 : va_P g.1 vwCl [] H := hP.sub [] rfl
    have hD9 : va_D A [] := ⟨fun i j p q h => by simp at h, fun k q h => by simp at h⟩
    exact W.iret (v := (-1)) hx hb hr (fun t ht hW => ⟨⟨(-1), (), rfl, rfl, by rw [ht]; exact hP9, by rw [hAe]; exact hD9⟩, hS.F ht⟩) hS.2.2 dX12_back_19

theorem bw_278 : Cond.code yX12_life cX12_life 5 (some .int) ∈ gT := gT_tb 1909 (by decide +kernel) (by decide +kernel)
theorem dX12_life_0 : decode cX12_life 0 = .ok (.aload_n 0, 1) := by decide +kernel
theorem dX12_life_1 : decode cX12_life 1 = .ok (.iconst 0, 1) := by decide +kernel
theorem dX12_life_2 : decode cX12_life 2 = .ok (.putfield 434, 3) := by decide +kernel
theorem dX12_life_5 : decode cX12_life 5 = .ok (.aload_n 0, 1) := by decide +kernel
theorem dX12_life_6 : decode cX12_life 6 = .ok (.iload_n 1, 1) := by decide +kernel
theorem dX12_life_7 : decode cX12_life 7 = .ok (.invokevirtual 461, 3) := by decide +kernel
theorem dX12_life_10 : decode cX12_life 10 = .ok (.ifCond .ne 5, 3) := by decide +kernel
theorem dX12_life_13 : decode cX12_life 13 = .ok (.iconst (-1), 1) := by decide +kernel
theorem dX12_life_14 : decode cX12_life 14 = .ok (.ireturn, 1) := by decide +kernel
set_option maxHeartbeats 4000000 in
set_option maxRecDepth 100000 in
theorem c_X12_life (l : Launch) (g : GG) (sz : Nat) (m_ : Nat) (j0 : Nat) (j1 : Nat) (j11 : Nat) (j12 : Nat) (j13 : Nat) (j14 : Nat) (j15 : Nat) (j16 : Nat) (j17 : Nat) (j18 : Nat) (j19 : Nat) (j20 : Nat) (j21 : Nat) (j22 : Nat) (j23 : Nat) (j24 : Nat) (j25 : Nat) (j26 : Nat) (j27 : Nat) (j28 : Nat) (j29 : Nat) (j30 : Nat) (j31 : Nat) (j32 : Nat) (j33 : Nat) (j34 : Nat) (j35 : Nat) (j36 : Nat) (j37 : Nat) (j38 : Nat) (j39 : Nat) (j40 : Nat) (j41 : Nat) (j42 : Nat) (j52 : Nat) (j53 : Nat) (j56 : Nat) (j57 : Nat) (j58 : Nat) (j59 : Nat) (j60 : Nat) (j61 : Nat) (j62 : Nat) (j63 : Nat) (j64 : Nat) (j65 : Nat) (j78 : Nat) (j79 : Nat) (j80 : Nat) (j81 : Nat) (j82 : Nat) (j85 : Nat) (j86 : Nat) (p0 : Int32) : Met l yX12_life (.code yX12_life cX12_life 5 (some .int) :: gT) ({ frames := 3, cells := 0, slots := 0, locals := 64 }) (va_Pc [.ref m_, .int p0] (Pst g sz [(m_, .inr (12, [.ref j0, .ref j1, .int 0, .int 0, .int 0, .int (-1), .int 0, .int 0, .int 0, .int 0, .long 0, .ref j11, .ref j12, .ref j13, .ref j14, .ref j15, .ref j16, .ref j17, .ref j18, .ref j19, .ref j20, .ref j21, .ref j22, .ref j23, .ref j24, .ref j25, .ref j26, .ref j27, .ref j28, .ref j29, .ref j30, .ref j31, .ref j32, .ref j33, .ref j34, .ref j35, .ref j36, .ref j37, .ref j38, .ref j39, .ref j40, .ref j41, .ref j42, .int 0, .int 0, .int 0, .int 0, .int 0, .int 0, .int 0, .int 0, .int 0, .ref j52, .ref j53, .int 0, .int 0, .ref j56, .ref j57, .ref j58, .ref j59, .ref j60, .ref j61, .ref j62, .ref j63, .ref j64, .ref j65, .int 0, .int 0, .int 0, .int 0, .int 0, .int 0, .int 0, .int 0, .int 0, .int 0, .int 0, .int 0, .ref j78, .ref j79, .ref j80, .ref j81, .ref j82, .int 0, .int 0, .ref j85, .ref j86])), (j52, aI g 374 z0)] nX)) (va_Qi (fun (r : Int32) (_ : Unit) => r = (-1)) (Qst g [(m_, .inr (12, [.ref j0, .ref j1, .int 0, .int 0, .int 0, .int (-1), .int 0, .int 0, .int 0, .int 0, .long 0, .ref j11, .ref j12, .ref j13, .ref j14, .ref j15, .ref j16, .ref j17, .ref j18, .ref j19, .ref j20, .ref j21, .ref j22, .ref j23, .ref j24, .ref j25, .ref j26, .ref j27, .ref j28, .ref j29, .ref j30, .ref j31, .ref j32, .ref j33, .ref j34, .ref j35, .ref j36, .ref j37, .ref j38, .ref j39, .ref j40, .ref j41, .ref j42, .int 0, .int 0, .int 0, .int 0, .int 0, .int 0, .int 0, .int 0, .int 0, .ref j52, .ref j53, .int 0, .int 0, .ref j56, .ref j57, .ref j58, .ref j59, .ref j60, .ref j61, .ref j62, .ref j63, .ref j64, .ref j65, .int 0, .int 0, .int 0, .int 0, .int 0, .int 0, .int 0, .int 0, .int 0, .int 0, .int 0, .int 0, .ref j78, .ref j79, .ref j80, .ref j81, .ref j82, .int 0, .int 0, .ref j85, .ref j86])), (j52, aI g 374 z0)] sz (fun _ => [])) (va_A [(m_, .inr (12, [.ref j0, .ref j1, .int 0, .int 0, .int 0, .int (-1), .int 0, .int 0, .int 0, .int 0, .long 0, .ref j11, .ref j12, .ref j13, .ref j14, .ref j15, .ref j16, .ref j17, .ref j18, .ref j19, .ref j20, .ref j21, .ref j22, .ref j23, .ref j24, .ref j25, .ref j26, .ref j27, .ref j28, .ref j29, .ref j30, .ref j31, .ref j32, .ref j33, .ref j34, .ref j35, .ref j36, .ref j37, .ref j38, .ref j39, .ref j40, .ref j41, .ref j42, .int 0, .int 0, .int 0, .int 0, .int 0, .int 0, .int 0, .int 0, .int 0, .ref j52, .ref j53, .int 0, .int 0, .ref j56, .ref j57, .ref j58, .ref j59, .ref j60, .ref j61, .ref j62, .ref j63, .ref j64, .ref j65, .int 0, .int 0, .int 0, .int 0, .int 0, .int 0, .int 0, .int 0, .int 0, .int 0, .int 0, .int 0, .ref j78, .ref j79, .ref j80, .ref j81, .ref j82, .int 0, .int 0, .ref j85, .ref j86])), (j52, aI g 374 z0)] sz)) 0 0 (va_A [(m_, .inr (12, [.ref j0, .ref j1, .int 0, .int 0, .int 0, .int (-1), .int 0, .int 0, .int 0, .int 0, .long 0, .ref j11, .ref j12, .ref j13, .ref j14, .ref j15, .ref j16, .ref j17, .ref j18, .ref j19, .ref j20, .ref j21, .ref j22, .ref j23, .ref j24, .ref j25, .ref j26, .ref j27, .ref j28, .ref j29, .ref j30, .ref j31, .ref j32, .ref j33, .ref j34, .ref j35, .ref j36, .ref j37, .ref j38, .ref j39, .ref j40, .ref j41, .ref j42, .int 0, .int 0, .int 0, .int 0, .int 0, .int 0, .int 0, .int 0, .int 0, .ref j52, .ref j53, .int 0, .int 0, .ref j56, .ref j57, .ref j58, .ref j59, .ref j60, .ref j61, .ref j62, .ref j63, .ref j64, .ref j65, .int 0, .int 0, .int 0, .int 0, .int 0, .int 0, .int 0, .int 0, .int 0, .int 0, .int 0, .int 0, .ref j78, .ref j79, .ref j80, .ref j81, .ref j82, .int 0, .int 0, .ref j85, .ref j86])), (j52, aI g 374 z0)] sz) := by
  refine Met.ofW (cc := cX12_life) (maxL := 5) (ret := (some .int)) (by decide) rfl ?_
  intro p e s m args below meth c s₁ B hml hv
  obtain ⟨rfl, hsz, hP, hK, hD0, hX⟩ := hv
  have hx := B.exec
  have hb := B.bytes
  have hr := B.returns
  have hT : ∀ w ∈ gT, w.before _ s = true := fun w h => atoms_spec (ws := .code yX12_life cX12_life 5 (some .int) :: gT) B.pre w (List.mem_cons_of_mem _ h)
  have hown : s.vm.findClass RX12 = some m.cls := findClass_of_methodNamed B.named
  have hlocks := B.notSynchronized
  subst hsz
  have hD := hD0.self (sz := s.heap.size)
  generalize hAe : va_A [(m_, .inr (12, [.ref j0, .ref j1, .int 0, .int 0, .int 0, .int (-1), .int 0, .int 0, .int 0, .int 0, .long 0, .ref j11, .ref j12, .ref j13, .ref j14, .ref j15, .ref j16, .ref j17, .ref j18, .ref j19, .ref j20, .ref j21, .ref j22, .ref j23, .ref j24, .ref j25, .ref j26, .ref j27, .ref j28, .ref j29, .ref j30, .ref j31, .ref j32, .ref j33, .ref j34, .ref j35, .ref j36, .ref j37, .ref j38, .ref j39, .ref j40, .ref j41, .ref j42, .int 0, .int 0, .int 0, .int 0, .int 0, .int 0, .int 0, .int 0, .int 0, .ref j52, .ref j53, .int 0, .int 0, .ref j56, .ref j57, .ref j58, .ref j59, .ref j60, .ref j61, .ref j62, .ref j63, .ref j64, .ref j65, .int 0, .int 0, .int 0, .int 0, .int 0, .int 0, .int 0, .int 0, .int 0, .int 0, .int 0, .int 0, .ref j78, .ref j79, .ref j80, .ref j81, .ref j82, .int 0, .int 0, .ref j85, .ref j86])), (j52, aI g 374 z0)] s.heap.size = A at hD ⊢
  have hA : ∀ q : Nat, s.heap.size ≤ q → A q := fun q h => by rw [← hAe]; exact Or.inr h
  have hS : va_S A s.heap s.heap [] := va_S.rf
  have hl := lv_entry ([.ref m_, .int p0]) (n := 5) (Nat.le_of_ble_eq_true rfl)
  rw [lg_entry_eq]
  generalize (lg_sl ([.ref m_, .int p0]) ++ List.replicate (5 - (lg_sl ([.ref m_, .int p0])).length) Slot.unset).toArray = ls at hl ⊢
  have hl : lv_has ls 5 [(0, .ref m_), (1, .int p0)] := hl
  refine p_nH (fun H hH => ?_)
  have hP : va_P g.1 vwCl [(m_, .inr (12, [.ref j0, .ref j1, .int 0, .int 0, .int 0, .int (-1), .int 0, .int 0, .int 0, .int 0, .long 0, .ref j11, .ref j12, .ref j13, .ref j14, .ref j15, .ref j16, .ref j17, .ref j18, .ref j19, .ref j20, .ref j21, .ref j22, .ref j23, .ref j24, .ref j25, .ref j26, .ref j27, .ref j28, .ref j29, .ref j30, .ref j31, .ref j32, .ref j33, .ref j34, .ref j35, .ref j36, .ref j37, .ref j38, .ref j39, .ref j40, .ref j41, .ref j42, .int 0, .int 0, .int 0, .int 0, .int 0, .int 0, .int 0, .int 0, .int 0, .ref j52, .ref j53, .int 0, .int 0, .ref j56, .ref j57, .ref j58, .ref j59, .ref j60, .ref j61, .ref j62, .ref j63, .ref j64, .ref j65, .int 0, .int 0, .int 0, .int 0, .int 0, .int 0, .int 0, .int 0, .int 0, .int 0, .int 0, .int 0, .ref j78, .ref j79, .ref j80, .ref j81, .ref j82, .int 0, .int 0, .ref j85, .ref j86])), (j52, aI g 374 z0)] H := by rw [hH]; exact hP
  have hS : va_S A s.heap H [] := by rw [hH]; exact hS
  refine lv_aload_n hx hb dX12_life_0 rfl (lv_at hl 0 rfl) ?_
  refine lv_iconst (v := 0) hx hb dX12_life_1 (by decide) ?_
  refine va_put (D := g.1) (ci := 12) (v := .int 0) (ty := .int) (C := RX12) (T := TX12) (N := 87) hx hb hT inF_X12 tyX12 tyX12_ok nmX12 hown hK.1 hP hD hS 0 rfl rfl 77 (by decide) (hT _ bw_269) (fun _ h9 => h9) rfl (by decide +kernel) rfl rfl (Nat.le_of_ble_eq_true rfl) dX12_life_2 (fun H locs hP hD hS => ?_)
  have hP : va_P g.1 vwCl [(m_, .inr (12, [.ref j0, .ref j1, .int 0, .int 0, .int 0, .int (-1), .int 0, .int 0, .int 0, .int 0, .long 0, .ref j11, .ref j12, .ref j13, .ref j14, .ref j15, .ref j16, .ref j17, .ref j18, .ref j19, .ref j20, .ref j21, .ref j22, .ref j23, .ref j24, .ref j25, .ref j26, .ref j27, .ref j28, .ref j29, .ref j30, .ref j31, .ref j32, .ref j33, .ref j34, .ref j35, .ref j36, .ref j37, .ref j38, .ref j39, .ref j40, .ref j41, .ref j42, .int 0, .int 0, .int 0, .int 0, .int 0, .int 0, .int 0, .int 0, .int 0, .ref j52, .ref j53, .int 0, .int 0, .ref j56, .ref j57, .ref j58, .ref j59, .ref j60, .ref j61, .ref j62, .ref j63, .ref j64, .ref j65, .int 0, .int 0, .int 0, .int 0, .int 0, .int 0, .int 0, .int 0, .int 0, .int 0, .int 0, .int 0, .ref j78, .ref j79, .ref j80, .ref j81, .ref j82, .int 0, .int 0, .ref j85, .ref j86])), (j52, aI g 374 z0)] H := hP
  have hD : va_D A [(m_, .inr (12, [.ref j0, .ref j1, .int 0, .int 0, .int 0, .int (-1), .int 0, .int 0, .int 0, .int 0, .long 0, .ref j11, .ref j12, .ref j13, .ref j14, .ref j15, .ref j16, .ref j17, .ref j18, .ref j19, .ref j20, .ref j21, .ref j22, .ref j23, .ref j24, .ref j25, .ref j26, .ref j27, .ref j28, .ref j29, .ref j30, .ref j31, .ref j32, .ref j33, .ref j34, .ref j35, .ref j36, .ref j37, .ref j38, .ref j39, .ref j40, .ref j41, .ref j42, .int 0, .int 0, .int 0, .int 0, .int 0, .int 0, .int 0, .int 0, .int 0, .ref j52, .ref j53, .int 0, .int 0, .ref j56, .ref j57, .ref j58, .ref j59, .ref j60, .ref j61, .ref j62, .ref j63, .ref j64, .ref j65, .int 0, .int 0, .int 0, .int 0, .int 0, .int 0, .int 0, .int 0, .int 0, .int 0, .int 0, .int 0, .ref j78, .ref j79, .ref j80, .ref j81, .ref j82, .int 0, .int 0, .ref j85, .ref j86])), (j52, aI g 374 z0)] := hD
  refine lv_aload_n hx hb dX12_life_5 rfl (lv_at hl 0 rfl) ?_
  refine lv_iload_n hx hb dX12_life_6 rfl (lv_at hl 1 rfl) ?_
  refine k_iR (k_V (n := 1) ⟨hx, hb, hml, hown, hT⟩ hK hP hD [0, 1] rfl (by decide) (c_X12_isOpen l g H.size m_ j0 j1 j11 j12 j13 j14 j15 j16 j17 j18 j19 j20 j21 j22 j23 j24 j25 j26 j27 j28 j29 j30 j31 j32 j33 j34 j35 j36 j37 j38 j39 j40 j41 j42 j52 j53 j56 j57 j58 j59 j60 j61 j62 j63 j64 j65 j78 j79 j80 j81 j82 j85 j86 p0) (gV bw_262 bw_263 bw_264 bw_233 bw_234) rfl rfl (by decide +kernel) ⟨by decide, by decide⟩ (ci := 12) (q0 := 0) rfl rfl (fun _ _ _ _ _ => trivial) (fun _ _ _ => trivial) rfl rfl hl.1 (Nat.le_of_ble_eq_true rfl) dX12_life_7 ⟨by decide, by decide⟩) hP hS hA (fun r_1 _ H locs hw hP hS => ?_)
  have hw : r_1 = 0 := hw
  subst hw
  refine lv_if_ne (tgt := 15) hx hb dX12_life_10 (by decide) (fun c9 => absurd (by decide) c9) (fun _ => ?_)
  refine lv_iconst (v := (-1)) hx hb dX12_life_13 (by decide) ?_
  have hP9 : va_P g.1 vwCl [] H := hP.sub [] rfl
  have hD9 : va_D A [] := ⟨fun i j p q h => by simp at h, fun k q h => by simp at h⟩
  exact W.iret (v := (-1)) hx hb hr (fun t ht hW => ⟨⟨(-1), (), rfl, rfl, by rw [ht]; exact hP9, by rw [hAe]; exact hD9⟩, hS.F ht⟩) hS.2.2 dX12_life_14

theorem bw_279 : Cond.code yX12_hire cX12_hire 7 (some .int) ∈ gT := gT_tb 1965 (by decide +kernel) (by decide +kernel)
theorem dX12_hire_0 : decode cX12_hire 0 = .ok (.aload_n 0, 1) := by decide +kernel
theorem dX12_hire_1 : decode cX12_hire 1 = .ok (.iconst 0, 1) := by decide +kernel
theorem dX12_hire_2 : decode cX12_hire 2 = .ok (.putfield 434, 3) := by decide +kernel
theorem dX12_hire_5 : decode cX12_hire 5 = .ok (.aload_n 0, 1) := by decide +kernel
theorem dX12_hire_6 : decode cX12_hire 6 = .ok (.iload_n 1, 1) := by decide +kernel
theorem dX12_hire_7 : decode cX12_hire 7 = .ok (.invokevirtual 461, 3) := by decide +kernel
theorem dX12_hire_10 : decode cX12_hire 10 = .ok (.ifCond .eq 10, 3) := by decide +kernel
theorem dX12_hire_20 : decode cX12_hire 20 = .ok (.iconst (-1), 1) := by decide +kernel
theorem dX12_hire_21 : decode cX12_hire 21 = .ok (.ireturn, 1) := by decide +kernel
set_option maxHeartbeats 4000000 in
set_option maxRecDepth 100000 in
theorem c_X12_hire (l : Launch) (g : GG) (sz : Nat) (m_ : Nat) (j0 : Nat) (j1 : Nat) (j11 : Nat) (j12 : Nat) (j13 : Nat) (j14 : Nat) (j15 : Nat) (j16 : Nat) (j17 : Nat) (j18 : Nat) (j19 : Nat) (j20 : Nat) (j21 : Nat) (j22 : Nat) (j23 : Nat) (j24 : Nat) (j25 : Nat) (j26 : Nat) (j27 : Nat) (j28 : Nat) (j29 : Nat) (j30 : Nat) (j31 : Nat) (j32 : Nat) (j33 : Nat) (j34 : Nat) (j35 : Nat) (j36 : Nat) (j37 : Nat) (j38 : Nat) (j39 : Nat) (j40 : Nat) (j41 : Nat) (j42 : Nat) (j52 : Nat) (j53 : Nat) (j56 : Nat) (j57 : Nat) (j58 : Nat) (j59 : Nat) (j60 : Nat) (j61 : Nat) (j62 : Nat) (j63 : Nat) (j64 : Nat) (j65 : Nat) (j78 : Nat) (j79 : Nat) (j80 : Nat) (j81 : Nat) (j82 : Nat) (j85 : Nat) (j86 : Nat) (p0 : Int32) (p1 : Int32) : Met l yX12_hire (.code yX12_hire cX12_hire 7 (some .int) :: gT) ({ frames := 3, cells := 0, slots := 0, locals := 64 }) (va_Pc [.ref m_, .int p0, .int p1] (Pst g sz [(m_, .inr (12, [.ref j0, .ref j1, .int 0, .int 0, .int 0, .int (-1), .int 0, .int 0, .int 0, .int 0, .long 0, .ref j11, .ref j12, .ref j13, .ref j14, .ref j15, .ref j16, .ref j17, .ref j18, .ref j19, .ref j20, .ref j21, .ref j22, .ref j23, .ref j24, .ref j25, .ref j26, .ref j27, .ref j28, .ref j29, .ref j30, .ref j31, .ref j32, .ref j33, .ref j34, .ref j35, .ref j36, .ref j37, .ref j38, .ref j39, .ref j40, .ref j41, .ref j42, .int 0, .int 0, .int 0, .int 0, .int 0, .int 0, .int 0, .int 0, .int 0, .ref j52, .ref j53, .int 0, .int 0, .ref j56, .ref j57, .ref j58, .ref j59, .ref j60, .ref j61, .ref j62, .ref j63, .ref j64, .ref j65, .int 0, .int 0, .int 0, .int 0, .int 0, .int 0, .int 0, .int 0, .int 0, .int 0, .int 0, .int 0, .ref j78, .ref j79, .ref j80, .ref j81, .ref j82, .int 0, .int 0, .ref j85, .ref j86])), (j52, aI g 374 z0)] nX)) (va_Qi (fun (r : Int32) (_ : Unit) => r = (-1)) (Qst g [(m_, .inr (12, [.ref j0, .ref j1, .int 0, .int 0, .int 0, .int (-1), .int 0, .int 0, .int 0, .int 0, .long 0, .ref j11, .ref j12, .ref j13, .ref j14, .ref j15, .ref j16, .ref j17, .ref j18, .ref j19, .ref j20, .ref j21, .ref j22, .ref j23, .ref j24, .ref j25, .ref j26, .ref j27, .ref j28, .ref j29, .ref j30, .ref j31, .ref j32, .ref j33, .ref j34, .ref j35, .ref j36, .ref j37, .ref j38, .ref j39, .ref j40, .ref j41, .ref j42, .int 0, .int 0, .int 0, .int 0, .int 0, .int 0, .int 0, .int 0, .int 0, .ref j52, .ref j53, .int 0, .int 0, .ref j56, .ref j57, .ref j58, .ref j59, .ref j60, .ref j61, .ref j62, .ref j63, .ref j64, .ref j65, .int 0, .int 0, .int 0, .int 0, .int 0, .int 0, .int 0, .int 0, .int 0, .int 0, .int 0, .int 0, .ref j78, .ref j79, .ref j80, .ref j81, .ref j82, .int 0, .int 0, .ref j85, .ref j86])), (j52, aI g 374 z0)] sz (fun _ => [])) (va_A [(m_, .inr (12, [.ref j0, .ref j1, .int 0, .int 0, .int 0, .int (-1), .int 0, .int 0, .int 0, .int 0, .long 0, .ref j11, .ref j12, .ref j13, .ref j14, .ref j15, .ref j16, .ref j17, .ref j18, .ref j19, .ref j20, .ref j21, .ref j22, .ref j23, .ref j24, .ref j25, .ref j26, .ref j27, .ref j28, .ref j29, .ref j30, .ref j31, .ref j32, .ref j33, .ref j34, .ref j35, .ref j36, .ref j37, .ref j38, .ref j39, .ref j40, .ref j41, .ref j42, .int 0, .int 0, .int 0, .int 0, .int 0, .int 0, .int 0, .int 0, .int 0, .ref j52, .ref j53, .int 0, .int 0, .ref j56, .ref j57, .ref j58, .ref j59, .ref j60, .ref j61, .ref j62, .ref j63, .ref j64, .ref j65, .int 0, .int 0, .int 0, .int 0, .int 0, .int 0, .int 0, .int 0, .int 0, .int 0, .int 0, .int 0, .ref j78, .ref j79, .ref j80, .ref j81, .ref j82, .int 0, .int 0, .ref j85, .ref j86])), (j52, aI g 374 z0)] sz)) 0 0 (va_A [(m_, .inr (12, [.ref j0, .ref j1, .int 0, .int 0, .int 0, .int (-1), .int 0, .int 0, .int 0, .int 0, .long 0, .ref j11, .ref j12, .ref j13, .ref j14, .ref j15, .ref j16, .ref j17, .ref j18, .ref j19, .ref j20, .ref j21, .ref j22, .ref j23, .ref j24, .ref j25, .ref j26, .ref j27, .ref j28, .ref j29, .ref j30, .ref j31, .ref j32, .ref j33, .ref j34, .ref j35, .ref j36, .ref j37, .ref j38, .ref j39, .ref j40, .ref j41, .ref j42, .int 0, .int 0, .int 0, .int 0, .int 0, .int 0, .int 0, .int 0, .int 0, .ref j52, .ref j53, .int 0, .int 0, .ref j56, .ref j57, .ref j58, .ref j59, .ref j60, .ref j61, .ref j62, .ref j63, .ref j64, .ref j65, .int 0, .int 0, .int 0, .int 0, .int 0, .int 0, .int 0, .int 0, .int 0, .int 0, .int 0, .int 0, .ref j78, .ref j79, .ref j80, .ref j81, .ref j82, .int 0, .int 0, .ref j85, .ref j86])), (j52, aI g 374 z0)] sz) := by
  refine Met.ofW (cc := cX12_hire) (maxL := 7) (ret := (some .int)) (by decide) rfl ?_
  intro p e s m args below meth c s₁ B hml hv
  obtain ⟨rfl, hsz, hP, hK, hD0, hX⟩ := hv
  have hx := B.exec
  have hb := B.bytes
  have hr := B.returns
  have hT : ∀ w ∈ gT, w.before _ s = true := fun w h => atoms_spec (ws := .code yX12_hire cX12_hire 7 (some .int) :: gT) B.pre w (List.mem_cons_of_mem _ h)
  have hown : s.vm.findClass RX12 = some m.cls := findClass_of_methodNamed B.named
  have hlocks := B.notSynchronized
  subst hsz
  have hD := hD0.self (sz := s.heap.size)
  generalize hAe : va_A [(m_, .inr (12, [.ref j0, .ref j1, .int 0, .int 0, .int 0, .int (-1), .int 0, .int 0, .int 0, .int 0, .long 0, .ref j11, .ref j12, .ref j13, .ref j14, .ref j15, .ref j16, .ref j17, .ref j18, .ref j19, .ref j20, .ref j21, .ref j22, .ref j23, .ref j24, .ref j25, .ref j26, .ref j27, .ref j28, .ref j29, .ref j30, .ref j31, .ref j32, .ref j33, .ref j34, .ref j35, .ref j36, .ref j37, .ref j38, .ref j39, .ref j40, .ref j41, .ref j42, .int 0, .int 0, .int 0, .int 0, .int 0, .int 0, .int 0, .int 0, .int 0, .ref j52, .ref j53, .int 0, .int 0, .ref j56, .ref j57, .ref j58, .ref j59, .ref j60, .ref j61, .ref j62, .ref j63, .ref j64, .ref j65, .int 0, .int 0, .int 0, .int 0, .int 0, .int 0, .int 0, .int 0, .int 0, .int 0, .int 0, .int 0, .ref j78, .ref j79, .ref j80, .ref j81, .ref j82, .int 0, .int 0, .ref j85, .ref j86])), (j52, aI g 374 z0)] s.heap.size = A at hD ⊢
  have hA : ∀ q : Nat, s.heap.size ≤ q → A q := fun q h => by rw [← hAe]; exact Or.inr h
  have hS : va_S A s.heap s.heap [] := va_S.rf
  have hl := lv_entry ([.ref m_, .int p0, .int p1]) (n := 7) (Nat.le_of_ble_eq_true rfl)
  rw [lg_entry_eq]
  generalize (lg_sl ([.ref m_, .int p0, .int p1]) ++ List.replicate (7 - (lg_sl ([.ref m_, .int p0, .int p1])).length) Slot.unset).toArray = ls at hl ⊢
  have hl : lv_has ls 7 [(0, .ref m_), (1, .int p0), (2, .int p1)] := hl
  refine p_nH (fun H hH => ?_)
  have hP : va_P g.1 vwCl [(m_, .inr (12, [.ref j0, .ref j1, .int 0, .int 0, .int 0, .int (-1), .int 0, .int 0, .int 0, .int 0, .long 0, .ref j11, .ref j12, .ref j13, .ref j14, .ref j15, .ref j16, .ref j17, .ref j18, .ref j19, .ref j20, .ref j21, .ref j22, .ref j23, .ref j24, .ref j25, .ref j26, .ref j27, .ref j28, .ref j29, .ref j30, .ref j31, .ref j32, .ref j33, .ref j34, .ref j35, .ref j36, .ref j37, .ref j38, .ref j39, .ref j40, .ref j41, .ref j42, .int 0, .int 0, .int 0, .int 0, .int 0, .int 0, .int 0, .int 0, .int 0, .ref j52, .ref j53, .int 0, .int 0, .ref j56, .ref j57, .ref j58, .ref j59, .ref j60, .ref j61, .ref j62, .ref j63, .ref j64, .ref j65, .int 0, .int 0, .int 0, .int 0, .int 0, .int 0, .int 0, .int 0, .int 0, .int 0, .int 0, .int 0, .ref j78, .ref j79, .ref j80, .ref j81, .ref j82, .int 0, .int 0, .ref j85, .ref j86])), (j52, aI g 374 z0)] H := by rw [hH]; exact hP
  have hS : va_S A s.heap H [] := by rw [hH]; exact hS
  refine lv_aload_n hx hb dX12_hire_0 rfl (lv_at hl 0 rfl) ?_
  refine lv_iconst (v := 0) hx hb dX12_hire_1 (by decide) ?_
  refine va_put (D := g.1) (ci := 12) (v := .int 0) (ty := .int) (C := RX12) (T := TX12) (N := 87) hx hb hT inF_X12 tyX12 tyX12_ok nmX12 hown hK.1 hP hD hS 0 rfl rfl 77 (by decide) (hT _ bw_269) (fun _ h9 => h9) rfl (by decide +kernel) rfl rfl (Nat.le_of_ble_eq_true rfl) dX12_hire_2 (fun H locs hP hD hS => ?_)
  have hP : va_P g.1 vwCl [(m_, .inr (12, [.ref j0, .ref j1, .int 0, .int 0, .int 0, .int (-1), .int 0, .int 0, .int 0, .int 0, .long 0, .ref j11, .ref j12, .ref j13, .ref j14, .ref j15, .ref j16, .ref j17, .ref j18, .ref j19, .ref j20, .ref j21, .ref j22, .ref j23, .ref j24, .ref j25, .ref j26, .ref j27, .ref j28, .ref j29, .ref j30, .ref j31, .ref j32, .ref j33, .ref j34, .ref j35, .ref j36, .ref j37, .ref j38, .ref j39, .ref j40, .ref j41, .ref j42, .int 0, .int 0, .int 0, .int 0, .int 0, .int 0, .int 0, .int 0, .int 0, .ref j52, .ref j53, .int 0, .int 0, .ref j56, .ref j57, .ref j58, .ref j59, .ref j60, .ref j61, .ref j62, .ref j63, .ref j64, .ref j65, .int 0, .int 0, .int 0, .int 0, .int 0, .int 0, .int 0, .int 0, .int 0, .int 0, .int 0, .int 0, .ref j78, .ref j79, .ref j80, .ref j81, .ref j82, .int 0, .int 0, .ref j85, .ref j86])), (j52, aI g 374 z0)] H := hP
  have hD : va_D A [(m_, .inr (12, [.ref j0, .ref j1, .int 0, .int 0, .int 0, .int (-1), .int 0, .int 0, .int 0, .int 0, .long 0, .ref j11, .ref j12, .ref j13, .ref j14, .ref j15, .ref j16, .ref j17, .ref j18, .ref j19, .ref j20, .ref j21, .ref j22, .ref j23, .ref j24, .ref j25, .ref j26, .ref j27, .ref j28, .ref j29, .ref j30, .ref j31, .ref j32, .ref j33, .ref j34, .ref j35, .ref j36, .ref j37, .ref j38, .ref j39, .ref j40, .ref j41, .ref j42, .int 0, .int 0, .int 0, .int 0, .int 0, .int 0, .int 0, .int 0, .int 0, .ref j52, .ref j53, .int 0, .int 0, .ref j56, .ref j57, .ref j58, .ref j59, .ref j60, .ref j61, .ref j62, .ref j63, .ref j64, .ref j65, .int 0, .int 0, .int 0, .int 0, .int 0, .int 0, .int 0, .int 0, .int 0, .int 0, .int 0, .int 0, .ref j78, .ref j79, .ref j80, .ref j81, .ref j82, .int 0, .int 0, .ref j85, .ref j86])), (j52, aI g 374 z0)] := hD
  refine lv_aload_n hx hb dX12_hire_5 rfl (lv_at hl 0 rfl) ?_
  refine lv_iload_n hx hb dX12_hire_6 rfl (lv_at hl 1 rfl) ?_
  refine k_iR (k_V (n := 1) ⟨hx, hb, hml, hown, hT⟩ hK hP hD [0, 1] rfl (by decide) (c_X12_isOpen l g H.size m_ j0 j1 j11 j12 j13 j14 j15 j16 j17 j18 j19 j20 j21 j22 j23 j24 j25 j26 j27 j28 j29 j30 j31 j32 j33 j34 j35 j36 j37 j38 j39 j40 j41 j42 j52 j53 j56 j57 j58 j59 j60 j61 j62 j63 j64 j65 j78 j79 j80 j81 j82 j85 j86 p0) (gV bw_262 bw_263 bw_264 bw_233 bw_234) rfl rfl (by decide +kernel) ⟨by decide, by decide⟩ (ci := 12) (q0 := 0) rfl rfl (fun _ _ _ _ _ => trivial) (fun _ _ _ => trivial) rfl rfl hl.1 (Nat.le_of_ble_eq_true rfl) dX12_hire_7 ⟨by decide, by decide⟩) hP hS hA (fun r_1 _ H locs hw hP hS => ?_)
  have hw : r_1 = 0 := hw
  subst hw
  refine lv_if_eq (tgt := 20) hx hb dX12_hire_10 (by decide) (fun _ => ?_) (fun c9 => absurd (by decide) c9)
  refine lv_iconst (v := (-1)) hx hb dX12_hire_20 (by decide) ?_
  have hP9 : va_P g.1 vwCl [] H := hP.sub [] rfl
  have hD9 : va_D A [] := ⟨fun i j p q h => by simp at h, fun k q h => by simp at h⟩
  exact W.iret (v := (-1)) hx hb hr (fun t ht hW => ⟨⟨(-1), (), rfl, rfl, by rw [ht]; exact hP9, by rw [hAe]; exact hD9⟩, hS.F ht⟩) hS.2.2 dX12_hire_21

theorem bw_280 : Cond.code yX12_part cX12_part 3 (some .int) ∈ gT := gT_tb 1985 (by decide +kernel) (by decide +kernel)
theorem dX12_part_0 : decode cX12_part 0 = .ok (.aload_n 0, 1) := by decide +kernel
theorem dX12_part_1 : decode cX12_part 1 = .ok (.iconst 0, 1) := by decide +kernel
theorem dX12_part_2 : decode cX12_part 2 = .ok (.putfield 434, 3) := by decide +kernel
theorem dX12_part_5 : decode cX12_part 5 = .ok (.aload_n 0, 1) := by decide +kernel
theorem dX12_part_6 : decode cX12_part 6 = .ok (.iload_n 1, 1) := by decide +kernel
theorem dX12_part_7 : decode cX12_part 7 = .ok (.invokevirtual 437, 3) := by decide +kernel
theorem dX12_part_10 : decode cX12_part 10 = .ok (.ifCond .ne 5, 3) := by decide +kernel
theorem dX12_part_13 : decode cX12_part 13 = .ok (.iconst (-1), 1) := by decide +kernel
theorem dX12_part_14 : decode cX12_part 14 = .ok (.ireturn, 1) := by decide +kernel
set_option maxHeartbeats 4000000 in
set_option maxRecDepth 100000 in
theorem c_X12_part (l : Launch) (g : GG) (sz : Nat) (m_ : Nat) (j0 : Nat) (j1 : Nat) (j11 : Nat) (j12 : Nat) (j13 : Nat) (j14 : Nat) (j15 : Nat) (j16 : Nat) (j17 : Nat) (j18 : Nat) (j19 : Nat) (j20 : Nat) (j21 : Nat) (j22 : Nat) (j23 : Nat) (j24 : Nat) (j25 : Nat) (j26 : Nat) (j27 : Nat) (j28 : Nat) (j29 : Nat) (j30 : Nat) (j31 : Nat) (j32 : Nat) (j33 : Nat) (j34 : Nat) (j35 : Nat) (j36 : Nat) (j37 : Nat) (j38 : Nat) (j39 : Nat) (j40 : Nat) (j41 : Nat) (j42 : Nat) (j52 : Nat) (j53 : Nat) (j56 : Nat) (j57 : Nat) (j58 : Nat) (j59 : Nat) (j60 : Nat) (j61 : Nat) (j62 : Nat) (j63 : Nat) (j64 : Nat) (j65 : Nat) (j78 : Nat) (j79 : Nat) (j80 : Nat) (j81 : Nat) (j82 : Nat) (j85 : Nat) (j86 : Nat) (p0 : Int32) : Met l yX12_part (.code yX12_part cX12_part 3 (some .int) :: gT) ({ frames := 2, cells := 0, slots := 0, locals := 43 }) (va_Pc [.ref m_, .int p0] (Pst g sz [(m_, .inr (12, [.ref j0, .ref j1, .int 0, .int 0, .int 0, .int (-1), .int 0, .int 0, .int 0, .int 0, .long 0, .ref j11, .ref j12, .ref j13, .ref j14, .ref j15, .ref j16, .ref j17, .ref j18, .ref j19, .ref j20, .ref j21, .ref j22, .ref j23, .ref j24, .ref j25, .ref j26, .ref j27, .ref j28, .ref j29, .ref j30, .ref j31, .ref j32, .ref j33, .ref j34, .ref j35, .ref j36, .ref j37, .ref j38, .ref j39, .ref j40, .ref j41, .ref j42, .int 0, .int 0, .int 0, .int 0, .int 0, .int 0, .int 0, .int 0, .int 0, .ref j52, .ref j53, .int 0, .int 0, .ref j56, .ref j57, .ref j58, .ref j59, .ref j60, .ref j61, .ref j62, .ref j63, .ref j64, .ref j65, .int 0, .int 0, .int 0, .int 0, .int 0, .int 0, .int 0, .int 0, .int 0, .int 0, .int 0, .int 0, .ref j78, .ref j79, .ref j80, .ref j81, .ref j82, .int 0, .int 0, .ref j85, .ref j86])), (j11, aI g 2 z0)] nX)) (va_Qi (fun (r : Int32) (_ : Unit) => r = (-1)) (Qst g [(m_, .inr (12, [.ref j0, .ref j1, .int 0, .int 0, .int 0, .int (-1), .int 0, .int 0, .int 0, .int 0, .long 0, .ref j11, .ref j12, .ref j13, .ref j14, .ref j15, .ref j16, .ref j17, .ref j18, .ref j19, .ref j20, .ref j21, .ref j22, .ref j23, .ref j24, .ref j25, .ref j26, .ref j27, .ref j28, .ref j29, .ref j30, .ref j31, .ref j32, .ref j33, .ref j34, .ref j35, .ref j36, .ref j37, .ref j38, .ref j39, .ref j40, .ref j41, .ref j42, .int 0, .int 0, .int 0, .int 0, .int 0, .int 0, .int 0, .int 0, .int 0, .ref j52, .ref j53, .int 0, .int 0, .ref j56, .ref j57, .ref j58, .ref j59, .ref j60, .ref j61, .ref j62, .ref j63, .ref j64, .ref j65, .int 0, .int 0, .int 0, .int 0, .int 0, .int 0, .int 0, .int 0, .int 0, .int 0, .int 0, .int 0, .ref j78, .ref j79, .ref j80, .ref j81, .ref j82, .int 0, .int 0, .ref j85, .ref j86])), (j11, aI g 2 z0)] sz (fun _ => [])) (va_A [(m_, .inr (12, [.ref j0, .ref j1, .int 0, .int 0, .int 0, .int (-1), .int 0, .int 0, .int 0, .int 0, .long 0, .ref j11, .ref j12, .ref j13, .ref j14, .ref j15, .ref j16, .ref j17, .ref j18, .ref j19, .ref j20, .ref j21, .ref j22, .ref j23, .ref j24, .ref j25, .ref j26, .ref j27, .ref j28, .ref j29, .ref j30, .ref j31, .ref j32, .ref j33, .ref j34, .ref j35, .ref j36, .ref j37, .ref j38, .ref j39, .ref j40, .ref j41, .ref j42, .int 0, .int 0, .int 0, .int 0, .int 0, .int 0, .int 0, .int 0, .int 0, .ref j52, .ref j53, .int 0, .int 0, .ref j56, .ref j57, .ref j58, .ref j59, .ref j60, .ref j61, .ref j62, .ref j63, .ref j64, .ref j65, .int 0, .int 0, .int 0, .int 0, .int 0, .int 0, .int 0, .int 0, .int 0, .int 0, .int 0, .int 0, .ref j78, .ref j79, .ref j80, .ref j81, .ref j82, .int 0, .int 0, .ref j85, .ref j86])), (j11, aI g 2 z0)] sz)) 0 0 (va_A [(m_, .inr (12, [.ref j0, .ref j1, .int 0, .int 0, .int 0, .int (-1), .int 0, .int 0, .int 0, .int 0, .long 0, .ref j11, .ref j12, .ref j13, .ref j14, .ref j15, .ref j16, .ref j17, .ref j18, .ref j19, .ref j20, .ref j21, .ref j22, .ref j23, .ref j24, .ref j25, .ref j26, .ref j27, .ref j28, .ref j29, .ref j30, .ref j31, .ref j32, .ref j33, .ref j34, .ref j35, .ref j36, .ref j37, .ref j38, .ref j39, .ref j40, .ref j41, .ref j42, .int 0, .int 0, .int 0, .int 0, .int 0, .int 0, .int 0, .int 0, .int 0, .ref j52, .ref j53, .int 0, .int 0, .ref j56, .ref j57, .ref j58, .ref j59, .ref j60, .ref j61, .ref j62, .ref j63, .ref j64, .ref j65, .int 0, .int 0, .int 0, .int 0, .int 0, .int 0, .int 0, .int 0, .int 0, .int 0, .int 0, .int 0, .ref j78, .ref j79, .ref j80, .ref j81, .ref j82, .int 0, .int 0, .ref j85, .ref j86])), (j11, aI g 2 z0)] sz) := by
  refine Met.ofW (cc := cX12_part) (maxL := 3) (ret := (some .int)) (by decide) rfl ?_
  intro p e s m args below meth c s₁ B hml hv
  obtain ⟨rfl, hsz, hP, hK, hD0, hX⟩ := hv
  have hx := B.exec
  have hb := B.bytes
  have hr := B.returns
  have hT : ∀ w ∈ gT, w.before _ s = true := fun w h => atoms_spec (ws := .code yX12_part cX12_part 3 (some .int) :: gT) B.pre w (List.mem_cons_of_mem _ h)
  have hown : s.vm.findClass RX12 = some m.cls := findClass_of_methodNamed B.named
  have hlocks := B.notSynchronized
  subst hsz
  have hD := hD0.self (sz := s.heap.size)
  generalize hAe : va_A [(m_, .inr (12, [.ref j0, .ref j1, .int 0, .int 0, .int 0, .int (-1), .int 0, .int 0, .int 0, .int 0, .long 0, .ref j11, .ref j12, .ref j13, .ref j14, .ref j15, .ref j16, .ref j17, .ref j18, .ref j19, .ref j20, .ref j21, .ref j22, .ref j23, .ref j24, .ref j25, .ref j26, .ref j27, .ref j28, .ref j29, .ref j30, .ref j31, .ref j32, .ref j33, .ref j34, .ref j35, .ref j36, .ref j37, .ref j38, .ref j39, .ref j40, .ref j41, .ref j42, .int 0, .int 0, .int 0, .int 0, .int 0, .int 0, .int 0, .int 0, .int 0, .ref j52, .ref j53, .int 0, .int 0, .ref j56, .ref j57, .ref j58, .ref j59, .ref j60, .ref j61, .ref j62, .ref j63, .ref j64, .ref j65, .int 0, .int 0, .int 0, .int 0, .int 0, .int 0, .int 0, .int 0, .int 0, .int 0, .int 0, .int 0, .ref j78, .ref j79, .ref j80, .ref j81, .ref j82, .int 0, .int 0, .ref j85, .ref j86])), (j11, aI g 2 z0)] s.heap.size = A at hD ⊢
  have hA : ∀ q : Nat, s.heap.size ≤ q → A q := fun q h => by rw [← hAe]; exact Or.inr h
  have hS : va_S A s.heap s.heap [] := va_S.rf
  have hl := lv_entry ([.ref m_, .int p0]) (n := 3) (Nat.le_of_ble_eq_true rfl)
  rw [lg_entry_eq]
  generalize (lg_sl ([.ref m_, .int p0]) ++ List.replicate (3 - (lg_sl ([.ref m_, .int p0])).length) Slot.unset).toArray = ls at hl ⊢
  have hl : lv_has ls 3 [(0, .ref m_), (1, .int p0)] := hl
  refine p_nH (fun H hH => ?_)
  have hP : va_P g.1 vwCl [(m_, .inr (12, [.ref j0, .ref j1, .int 0, .int 0, .int 0, .int (-1), .int 0, .int 0, .int 0, .int 0, .long 0, .ref j11, .ref j12, .ref j13, .ref j14, .ref j15, .ref j16, .ref j17, .ref j18, .ref j19, .ref j20, .ref j21, .ref j22, .ref j23, .ref j24, .ref j25, .ref j26, .ref j27, .ref j28, .ref j29, .ref j30, .ref j31, .ref j32, .ref j33, .ref j34, .ref j35, .ref j36, .ref j37, .ref j38, .ref j39, .ref j40, .ref j41, .ref j42, .int 0, .int 0, .int 0, .int 0, .int 0, .int 0, .int 0, .int 0, .int 0, .ref j52, .ref j53, .int 0, .int 0, .ref j56, .ref j57, .ref j58, .ref j59, .ref j60, .ref j61, .ref j62, .ref j63, .ref j64, .ref j65, .int 0, .int 0, .int 0, .int 0, .int 0, .int 0, .int 0, .int 0, .int 0, .int 0, .int 0, .int 0, .ref j78, .ref j79, .ref j80, .ref j81, .ref j82, .int 0, .int 0, .ref j85, .ref j86])), (j11, aI g 2 z0)] H := by rw [hH]; exact hP
  have hS : va_S A s.heap H [] := by rw [hH]; exact hS
  refine lv_aload_n hx hb dX12_part_0 rfl (lv_at hl 0 rfl) ?_
  refine lv_iconst (v := 0) hx hb dX12_part_1 (by decide) ?_
  refine va_put (D := g.1) (ci := 12) (v := .int 0) (ty := .int) (C := RX12) (T := TX12) (N := 87) hx hb hT inF_X12 tyX12 tyX12_ok nmX12 hown hK.1 hP hD hS 0 rfl rfl 77 (by decide) (hT _ bw_269) (fun _ h9 => h9) rfl (by decide +kernel) rfl rfl (Nat.le_of_ble_eq_true rfl) dX12_part_2 (fun H locs hP hD hS => ?_)
  have hP : va_P g.1 vwCl [(m_, .inr (12, [.ref j0, .ref j1, .int 0, .int 0, .int 0, .int (-1), .int 0, .int 0, .int 0, .int 0, .long 0, .ref j11, .ref j12, .ref j13, .ref j14, .ref j15, .ref j16, .ref j17, .ref j18, .ref j19, .ref j20, .ref j21, .ref j22, .ref j23, .ref j24, .ref j25, .ref j26, .ref j27, .ref j28, .ref j29, .ref j30, .ref j31, .ref j32, .ref j33, .ref j34, .ref j35, .ref j36, .ref j37, .ref j38, .ref j39, .ref j40, .ref j41, .ref j42, .int 0, .int 0, .int 0, .int 0, .int 0, .int 0, .int 0, .int 0, .int 0, .ref j52, .ref j53, .int 0, .int 0, .ref j56, .ref j57, .ref j58, .ref j59, .ref j60, .ref j61, .ref j62, .ref j63, .ref j64, .ref j65, .int 0, .int 0, .int 0, .int 0, .int 0, .int 0, .int 0, .int 0, .int 0, .int 0, .int 0, .int 0, .ref j78, .ref j79, .ref j80, .ref j81, .ref j82, .int 0, .int 0, .ref j85, .ref j86])), (j11, aI g 2 z0)] H := hP
  have hD : va_D A [(m_, .inr (12, [.ref j0, .ref j1, .int 0, .int 0, .int 0, .int (-1), .int 0, .int 0, .int 0, .int 0, .long 0, .ref j11, .ref j12, .ref j13, .ref j14, .ref j15, .ref j16, .ref j17, .ref j18, .ref j19, .ref j20, .ref j21, .ref j22, .ref j23, .ref j24, .ref j25, .ref j26, .ref j27, .ref j28, .ref j29, .ref j30, .ref j31, .ref j32, .ref j33, .ref j34, .ref j35, .ref j36, .ref j37, .ref j38, .ref j39, .ref j40, .ref j41, .ref j42, .int 0, .int 0, .int 0, .int 0, .int 0, .int 0, .int 0, .int 0, .int 0, .ref j52, .ref j53, .int 0, .int 0, .ref j56, .ref j57, .ref j58, .ref j59, .ref j60, .ref j61, .ref j62, .ref j63, .ref j64, .ref j65, .int 0, .int 0, .int 0, .int 0, .int 0, .int 0, .int 0, .int 0, .int 0, .int 0, .int 0, .int 0, .ref j78, .ref j79, .ref j80, .ref j81, .ref j82, .int 0, .int 0, .ref j85, .ref j86])), (j11, aI g 2 z0)] := hD
  refine lv_aload_n hx hb dX12_part_5 rfl (lv_at hl 0 rfl) ?_
  refine lv_iload_n hx hb dX12_part_6 rfl (lv_at hl 1 rfl) ?_
  refine k_iR (k_V (n := 1) ⟨hx, hb, hml, hown, hT⟩ hK hP hD [0, 1] rfl (by decide) (c_X12_isMan l g H.size m_ j0 j1 j11 j12 j13 j14 j15 j16 j17 j18 j19 j20 j21 j22 j23 j24 j25 j26 j27 j28 j29 j30 j31 j32 j33 j34 j35 j36 j37 j38 j39 j40 j41 j42 j52 j53 j56 j57 j58 j59 j60 j61 j62 j63 j64 j65 j78 j79 j80 j81 j82 j85 j86 p0) (gV bw_239 bw_240 bw_241 bw_233 bw_225) rfl rfl (by decide +kernel) ⟨by decide, by decide⟩ (ci := 12) (q0 := 0) rfl rfl (fun _ _ _ _ _ => trivial) (fun _ _ _ => trivial) rfl rfl hl.1 (Nat.le_of_ble_eq_true rfl) dX12_part_7 ⟨by decide, by decide⟩) hP hS hA (fun r_1 _ H locs hw hP hS => ?_)
  have hw : r_1 = 0 := hw
  subst hw
  refine lv_if_ne (tgt := 15) hx hb dX12_part_10 (by decide) (fun c9 => absurd (by decide) c9) (fun _ => ?_)
  refine lv_iconst (v := (-1)) hx hb dX12_part_13 (by decide) ?_
  have hP9 : va_P g.1 vwCl [] H := hP.sub [] rfl
  have hD9 : va_D A [] := ⟨fun i j p q h => by simp at h, fun k q h => by simp at h⟩
  exact W.iret (v := (-1)) hx hb hr (fun t ht hW => ⟨⟨(-1), (), rfl, rfl, by rw [ht]; exact hP9, by rw [hAe]; exact hD9⟩, hS.F ht⟩) hS.2.2 dX12_part_14

theorem bw_281 : Cond.code yX12_falses cX12_falses 4 (some .int) ∈ gT := gT_tb 2044 (by decide +kernel) (by decide +kernel)
theorem dX12_falses_0 : decode cX12_falses 0 = .ok (.aload_n 0, 1) := by decide +kernel
theorem dX12_falses_1 : decode cX12_falses 1 = .ok (.iconst 0, 1) := by decide +kernel
theorem dX12_falses_2 : decode cX12_falses 2 = .ok (.putfield 434, 3) := by decide +kernel
theorem dX12_falses_5 : decode cX12_falses 5 = .ok (.iconst 0, 1) := by decide +kernel
theorem dX12_falses_6 : decode cX12_falses 6 = .ok (.istore_n 2, 1) := by decide +kernel
theorem dX12_falses_7 : decode cX12_falses 7 = .ok (.iconst 0, 1) := by decide +kernel
theorem dX12_falses_8 : decode cX12_falses 8 = .ok (.istore_n 3, 1) := by decide +kernel
theorem dX12_falses_9 : decode cX12_falses 9 = .ok (.iload_n 3, 1) := by decide +kernel
theorem dX12_falses_10 : decode cX12_falses 10 = .ok (.aload_n 0, 1) := by decide +kernel
theorem dX12_falses_11 : decode cX12_falses 11 = .ok (.getfield 119, 3) := by decide +kernel
theorem dX12_falses_14 : decode cX12_falses 14 = .ok (.bipush 71, 2) := by decide +kernel
theorem dX12_falses_16 : decode cX12_falses 16 = .ok (.iaload, 1) := by decide +kernel
theorem dX12_falses_17 : decode cX12_falses 17 = .ok (.if_icmp .ge 56, 3) := by decide +kernel
theorem dX12_falses_73 : decode cX12_falses 73 = .ok (.iload_n 2, 1) := by decide +kernel
theorem dX12_falses_74 : decode cX12_falses 74 = .ok (.ireturn, 1) := by decide +kernel
set_option maxHeartbeats 4000000 in
set_option maxRecDepth 100000 in
theorem c_X12_falses (l : Launch) (g : GG) (sz : Nat) (m_ : Nat) (j0 : Nat) (j1 : Nat) (j11 : Nat) (j12 : Nat) (j13 : Nat) (j14 : Nat) (j15 : Nat) (j16 : Nat) (j17 : Nat) (j18 : Nat) (j19 : Nat) (j20 : Nat) (j21 : Nat) (j22 : Nat) (j23 : Nat) (j24 : Nat) (j25 : Nat) (j26 : Nat) (j27 : Nat) (j28 : Nat) (j29 : Nat) (j30 : Nat) (j31 : Nat) (j32 : Nat) (j33 : Nat) (j34 : Nat) (j35 : Nat) (j36 : Nat) (j37 : Nat) (j38 : Nat) (j39 : Nat) (j40 : Nat) (j41 : Nat) (j42 : Nat) (j52 : Nat) (j53 : Nat) (j56 : Nat) (j57 : Nat) (j58 : Nat) (j59 : Nat) (j60 : Nat) (j61 : Nat) (j62 : Nat) (j63 : Nat) (j64 : Nat) (j65 : Nat) (j78 : Nat) (j79 : Nat) (j80 : Nat) (j81 : Nat) (j82 : Nat) (j85 : Nat) (j86 : Nat) (p0 : Int32) : Met l yX12_falses (.code yX12_falses cX12_falses 4 (some .int) :: gT) ({ frames := 0, cells := 0, slots := 0, locals := 0 }) (va_Pc [.ref m_, .int p0] (Pst g sz [(m_, .inr (12, [.ref j0, .ref j1, .int 0, .int 0, .int 0, .int (-1), .int 0, .int 0, .int 0, .int 0, .long 0, .ref j11, .ref j12, .ref j13, .ref j14, .ref j15, .ref j16, .ref j17, .ref j18, .ref j19, .ref j20, .ref j21, .ref j22, .ref j23, .ref j24, .ref j25, .ref j26, .ref j27, .ref j28, .ref j29, .ref j30, .ref j31, .ref j32, .ref j33, .ref j34, .ref j35, .ref j36, .ref j37, .ref j38, .ref j39, .ref j40, .ref j41, .ref j42, .int 0, .int 0, .int 0, .int 0, .int 0, .int 0, .int 0, .int 0, .int 0, .ref j52, .ref j53, .int 0, .int 0, .ref j56, .ref j57, .ref j58, .ref j59, .ref j60, .ref j61, .ref j62, .ref j63, .ref j64, .ref j65, .int 0, .int 0, .int 0, .int 0, .int 0, .int 0, .int 0, .int 0, .int 0, .int 0, .int 0, .int 0, .ref j78, .ref j79, .ref j80, .ref j81, .ref j82, .int 0, .int 0, .ref j85, .ref j86])), (j52, aI g 374 z0)] nX)) (va_Qi (fun (r : Int32) (_ : Unit) => r = 0) (Qst g [(m_, .inr (12, [.ref j0, .ref j1, .int 0, .int 0, .int 0, .int (-1), .int 0, .int 0, .int 0, .int 0, .long 0, .ref j11, .ref j12, .ref j13, .ref j14, .ref j15, .ref j16, .ref j17, .ref j18, .ref j19, .ref j20, .ref j21, .ref j22, .ref j23, .ref j24, .ref j25, .ref j26, .ref j27, .ref j28, .ref j29, .ref j30, .ref j31, .ref j32, .ref j33, .ref j34, .ref j35, .ref j36, .ref j37, .ref j38, .ref j39, .ref j40, .ref j41, .ref j42, .int 0, .int 0, .int 0, .int 0, .int 0, .int 0, .int 0, .int 0, .int 0, .ref j52, .ref j53, .int 0, .int 0, .ref j56, .ref j57, .ref j58, .ref j59, .ref j60, .ref j61, .ref j62, .ref j63, .ref j64, .ref j65, .int 0, .int 0, .int 0, .int 0, .int 0, .int 0, .int 0, .int 0, .int 0, .int 0, .int 0, .int 0, .ref j78, .ref j79, .ref j80, .ref j81, .ref j82, .int 0, .int 0, .ref j85, .ref j86])), (j52, aI g 374 z0)] sz (fun _ => [])) (va_A [(m_, .inr (12, [.ref j0, .ref j1, .int 0, .int 0, .int 0, .int (-1), .int 0, .int 0, .int 0, .int 0, .long 0, .ref j11, .ref j12, .ref j13, .ref j14, .ref j15, .ref j16, .ref j17, .ref j18, .ref j19, .ref j20, .ref j21, .ref j22, .ref j23, .ref j24, .ref j25, .ref j26, .ref j27, .ref j28, .ref j29, .ref j30, .ref j31, .ref j32, .ref j33, .ref j34, .ref j35, .ref j36, .ref j37, .ref j38, .ref j39, .ref j40, .ref j41, .ref j42, .int 0, .int 0, .int 0, .int 0, .int 0, .int 0, .int 0, .int 0, .int 0, .ref j52, .ref j53, .int 0, .int 0, .ref j56, .ref j57, .ref j58, .ref j59, .ref j60, .ref j61, .ref j62, .ref j63, .ref j64, .ref j65, .int 0, .int 0, .int 0, .int 0, .int 0, .int 0, .int 0, .int 0, .int 0, .int 0, .int 0, .int 0, .ref j78, .ref j79, .ref j80, .ref j81, .ref j82, .int 0, .int 0, .ref j85, .ref j86])), (j52, aI g 374 z0)] sz)) 0 0 (va_A [(m_, .inr (12, [.ref j0, .ref j1, .int 0, .int 0, .int 0, .int (-1), .int 0, .int 0, .int 0, .int 0, .long 0, .ref j11, .ref j12, .ref j13, .ref j14, .ref j15, .ref j16, .ref j17, .ref j18, .ref j19, .ref j20, .ref j21, .ref j22, .ref j23, .ref j24, .ref j25, .ref j26, .ref j27, .ref j28, .ref j29, .ref j30, .ref j31, .ref j32, .ref j33, .ref j34, .ref j35, .ref j36, .ref j37, .ref j38, .ref j39, .ref j40, .ref j41, .ref j42, .int 0, .int 0, .int 0, .int 0, .int 0, .int 0, .int 0, .int 0, .int 0, .ref j52, .ref j53, .int 0, .int 0, .ref j56, .ref j57, .ref j58, .ref j59, .ref j60, .ref j61, .ref j62, .ref j63, .ref j64, .ref j65, .int 0, .int 0, .int 0, .int 0, .int 0, .int 0, .int 0, .int 0, .int 0, .int 0, .int 0, .int 0, .ref j78, .ref j79, .ref j80, .ref j81, .ref j82, .int 0, .int 0, .ref j85, .ref j86])), (j52, aI g 374 z0)] sz) := by
  refine Met.ofW (cc := cX12_falses) (maxL := 4) (ret := (some .int)) (by decide) rfl ?_
  intro p e s m args below meth c s₁ B hml hv
  obtain ⟨rfl, hsz, hP, hK, hD0, hX⟩ := hv
  have hx := B.exec
  have hb := B.bytes
  have hr := B.returns
  have hT : ∀ w ∈ gT, w.before _ s = true := fun w h => atoms_spec (ws := .code yX12_falses cX12_falses 4 (some .int) :: gT) B.pre w (List.mem_cons_of_mem _ h)
  have hown : s.vm.findClass RX12 = some m.cls := findClass_of_methodNamed B.named
  have hlocks := B.notSynchronized
  subst hsz
  have hD := hD0.self (sz := s.heap.size)
  generalize hAe : va_A [(m_, .inr (12, [.ref j0, .ref j1, .int 0, .int 0, .int 0, .int (-1), .int 0, .int 0, .int 0, .int 0, .long 0, .ref j11, .ref j12, .ref j13, .ref j14, .ref j15, .ref j16, .ref j17, .ref j18, .ref j19, .ref j20, .ref j21, .ref j22, .ref j23, .ref j24, .ref j25, .ref j26, .ref j27, .ref j28, .ref j29, .ref j30, .ref j31, .ref j32, .ref j33, .ref j34, .ref j35, .ref j36, .ref j37, .ref j38, .ref j39, .ref j40, .ref j41, .ref j42, .int 0, .int 0, .int 0, .int 0, .int 0, .int 0, .int 0, .int 0, .int 0, .ref j52, .ref j53, .int 0, .int 0, .ref j56, .ref j57, .ref j58, .ref j59, .ref j60, .ref j61, .ref j62, .ref j63, .ref j64, .ref j65, .int 0, .int 0, .int 0, .int 0, .int 0, .int 0, .int 0, .int 0, .int 0, .int 0, .int 0, .int 0, .ref j78, .ref j79, .ref j80, .ref j81, .ref j82, .int 0, .int 0, .ref j85, .ref j86])), (j52, aI g 374 z0)] s.heap.size = A at hD ⊢
  have hA : ∀ q : Nat, s.heap.size ≤ q → A q := fun q h => by rw [← hAe]; exact Or.inr h
  have hS : va_S A s.heap s.heap [] := va_S.rf
  have hl := lv_entry ([.ref m_, .int p0]) (n := 4) (Nat.le_of_ble_eq_true rfl)
  rw [lg_entry_eq]
  generalize (lg_sl ([.ref m_, .int p0]) ++ List.replicate (4 - (lg_sl ([.ref m_, .int p0])).length) Slot.unset).toArray = ls at hl ⊢
  have hl : lv_has ls 4 [(0, .ref m_), (1, .int p0)] := hl
  refine p_nH (fun H hH => ?_)
  have hP : va_P g.1 vwCl [(m_, .inr (12, [.ref j0, .ref j1, .int 0, .int 0, .int 0, .int (-1), .int 0, .int 0, .int 0, .int 0, .long 0, .ref j11, .ref j12, .ref j13, .ref j14, .ref j15, .ref j16, .ref j17, .ref j18, .ref j19, .ref j20, .ref j21, .ref j22, .ref j23, .ref j24, .ref j25, .ref j26, .ref j27, .ref j28, .ref j29, .ref j30, .ref j31, .ref j32, .ref j33, .ref j34, .ref j35, .ref j36, .ref j37, .ref j38, .ref j39, .ref j40, .ref j41, .ref j42, .int 0, .int 0, .int 0, .int 0, .int 0, .int 0, .int 0, .int 0, .int 0, .ref j52, .ref j53, .int 0, .int 0, .ref j56, .ref j57, .ref j58, .ref j59, .ref j60, .ref j61, .ref j62, .ref j63, .ref j64, .ref j65, .int 0, .int 0, .int 0, .int 0, .int 0, .int 0, .int 0, .int 0, .int 0, .int 0, .int 0, .int 0, .ref j78, .ref j79, .ref j80, .ref j81, .ref j82, .int 0, .int 0, .ref j85, .ref j86])), (j52, aI g 374 z0)] H := by rw [hH]; exact hP
  have hS : va_S A s.heap H [] := by rw [hH]; exact hS
  refine lv_aload_n hx hb dX12_falses_0 rfl (lv_at hl 0 rfl) ?_
  refine lv_iconst (v := 0) hx hb dX12_falses_1 (by decide) ?_
  refine va_put (D := g.1) (ci := 12) (v := .int 0) (ty := .int) (C := RX12) (T := TX12) (N := 87) hx hb hT inF_X12 tyX12 tyX12_ok nmX12 hown hK.1 hP hD hS 0 rfl rfl 77 (by decide) (hT _ bw_269) (fun _ h9 => h9) rfl (by decide +kernel) rfl rfl (Nat.le_of_ble_eq_true rfl) dX12_falses_2 (fun H locs hP hD hS => ?_)
  have hP : va_P g.1 vwCl [(m_, .inr (12, [.ref j0, .ref j1, .int 0, .int 0, .int 0, .int (-1), .int 0, .int 0, .int 0, .int 0, .long 0, .ref j11, .ref j12, .ref j13, .ref j14, .ref j15, .ref j16, .ref j17, .ref j18, .ref j19, .ref j20, .ref j21, .ref j22, .ref j23, .ref j24, .ref j25, .ref j26, .ref j27, .ref j28, .ref j29, .ref j30, .ref j31, .ref j32, .ref j33, .ref j34, .ref j35, .ref j36, .ref j37, .ref j38, .ref j39, .ref j40, .ref j41, .ref j42, .int 0, .int 0, .int 0, .int 0, .int 0, .int 0, .int 0, .int 0, .int 0, .ref j52, .ref j53, .int 0, .int 0, .ref j56, .ref j57, .ref j58, .ref j59, .ref j60, .ref j61, .ref j62, .ref j63, .ref j64, .ref j65, .int 0, .int 0, .int 0, .int 0, .int 0, .int 0, .int 0, .int 0, .int 0, .int 0, .int 0, .int 0, .ref j78, .ref j79, .ref j80, .ref j81, .ref j82, .int 0, .int 0, .ref j85, .ref j86])), (j52, aI g 374 z0)] H := hP
  have hD : va_D A [(m_, .inr (12, [.ref j0, .ref j1, .int 0, .int 0, .int 0, .int (-1), .int 0, .int 0, .int 0, .int 0, .long 0, .ref j11, .ref j12, .ref j13, .ref j14, .ref j15, .ref j16, .ref j17, .ref j18, .ref j19, .ref j20, .ref j21, .ref j22, .ref j23, .ref j24, .ref j25, .ref j26, .ref j27, .ref j28, .ref j29, .ref j30, .ref j31, .ref j32, .ref j33, .ref j34, .ref j35, .ref j36, .ref j37, .ref j38, .ref j39, .ref j40, .ref j41, .ref j42, .int 0, .int 0, .int 0, .int 0, .int 0, .int 0, .int 0, .int 0, .int 0, .ref j52, .ref j53, .int 0, .int 0, .ref j56, .ref j57, .ref j58, .ref j59, .ref j60, .ref j61, .ref j62, .ref j63, .ref j64, .ref j65, .int 0, .int 0, .int 0, .int 0, .int 0, .int 0, .int 0, .int 0, .int 0, .int 0, .int 0, .int 0, .ref j78, .ref j79, .ref j80, .ref j81, .ref j82, .int 0, .int 0, .ref j85, .ref j86])), (j52, aI g 374 z0)] := hD
  refine lv_iconst (v := 0) hx hb dX12_falses_5 (by decide) ?_
  refine lv_istore_n (lv' := [(2, .int 0), (0, .ref m_), (1, .int p0)]) hx hb dX12_falses_6 rfl hl (by decide) rfl (fun ls hl => ?_)
  refine lv_iconst (v := 0) hx hb dX12_falses_7 (by decide) ?_
  refine lv_istore_n (lv' := [(3, .int 0), (2, .int 0), (0, .ref m_), (1, .int p0)]) hx hb dX12_falses_8 rfl hl (by decide) rfl (fun ls hl => ?_)
  refine lv_iload_n hx hb dX12_falses_9 rfl (lv_at hl 0 rfl) ?_
  refine lv_aload_n hx hb dX12_falses_10 rfl (lv_at hl 2 rfl) ?_
  refine va_get (D := g.1) (ci := 12) (v := .ref j52) (C := RX12) (T := TX12) (N := 87) hx hb hT inF_X12 hown hK.1 hP 0 rfl rfl 52 (by decide) (hT _ bw_228) (fun _ h9 => h9) rfl dX12_falses_11 ?_
  refine lv_bipush (v := 71) hx hb dX12_falses_14 (by decide) ?_
  refine va_iald hx hb hK.1 hP 1 1 rfl rfl (i := 71) (by unfold vp_in; decide) dX12_falses_16 ?_
  refine p_ti (v := 0) (rfl) ?_
  refine lv_icmp_ge (tgt := 73) hx hb dX12_falses_17 (by decide) (fun _ => ?_) (fun c9 => absurd (by decide) c9)
  refine lv_iload_n hx hb dX12_falses_73 rfl (lv_at hl 1 rfl) ?_
  have hP9 : va_P g.1 vwCl [] H := hP.sub [] rfl
  have hD9 : va_D A [] := ⟨fun i j p q h => by simp at h, fun k q h => by simp at h⟩
  exact W.iret (v := 0) hx hb hr (fun t ht hW => ⟨⟨0, (), rfl, rfl, by rw [ht]; exact hP9, by rw [hAe]; exact hD9⟩, hS.F ht⟩) hS.2.2 dX12_falses_74

theorem bw_282 : Cond.fieldLink RX12 305 "DuelDelaysModel" "taped" "I" ∈ gT := gT_tb 1307 (by decide +kernel) (by decide +kernel)
theorem bw_283 : Cond.code yX12_end cX12_end 2 (some .int) ∈ gT := gT_tb 2072 (by decide +kernel) (by decide +kernel)
theorem dX12_end_0 : decode cX12_end 0 = .ok (.iload_n 1, 1) := by decide +kernel
theorem dX12_end_1 : decode cX12_end 1 = .ok (.ifCond .lt 11, 3) := by decide +kernel
theorem dX12_end_4 : decode cX12_end 4 = .ok (.iload_n 1, 1) := by decide +kernel
theorem dX12_end_5 : decode cX12_end 5 = .ok (.aload_n 0, 1) := by decide +kernel
theorem dX12_end_6 : decode cX12_end 6 = .ok (.getfield 305, 3) := by decide +kernel
theorem dX12_end_9 : decode cX12_end 9 = .ok (.if_icmp .le 5, 3) := by decide +kernel
theorem dX12_end_12 : decode cX12_end 12 = .ok (.iconst (-1), 1) := by decide +kernel
theorem dX12_end_13 : decode cX12_end 13 = .ok (.ireturn, 1) := by decide +kernel
theorem dX12_end_14 : decode cX12_end 14 = .ok (.aload_n 0, 1) := by decide +kernel
theorem dX12_end_15 : decode cX12_end 15 = .ok (.iload_n 1, 1) := by decide +kernel
theorem dX12_end_16 : decode cX12_end 16 = .ok (.putfield 305, 3) := by decide +kernel
theorem dX12_end_19 : decode cX12_end 19 = .ok (.iload_n 1, 1) := by decide +kernel
theorem dX12_end_20 : decode cX12_end 20 = .ok (.ireturn, 1) := by decide +kernel
set_option maxHeartbeats 4000000 in
set_option maxRecDepth 100000 in
theorem c_X12_end (l : Launch) (g : GG) (sz : Nat) (m_ : Nat) (j0 : Nat) (j1 : Nat) (j11 : Nat) (j12 : Nat) (j13 : Nat) (j14 : Nat) (j15 : Nat) (j16 : Nat) (j17 : Nat) (j18 : Nat) (j19 : Nat) (j20 : Nat) (j21 : Nat) (j22 : Nat) (j23 : Nat) (j24 : Nat) (j25 : Nat) (j26 : Nat) (j27 : Nat) (j28 : Nat) (j29 : Nat) (j30 : Nat) (j31 : Nat) (j32 : Nat) (j33 : Nat) (j34 : Nat) (j35 : Nat) (j36 : Nat) (j37 : Nat) (j38 : Nat) (j39 : Nat) (j40 : Nat) (j41 : Nat) (j42 : Nat) (j52 : Nat) (j53 : Nat) (j56 : Nat) (j57 : Nat) (j58 : Nat) (j59 : Nat) (j60 : Nat) (j61 : Nat) (j62 : Nat) (j63 : Nat) (j64 : Nat) (j65 : Nat) (j78 : Nat) (j79 : Nat) (j80 : Nat) (j81 : Nat) (j82 : Nat) (j85 : Nat) (j86 : Nat) (p0 : Int32) : Met l yX12_end (.code yX12_end cX12_end 2 (some .int) :: gT) ({ frames := 0, cells := 0, slots := 0, locals := 0 }) (va_Pc [.ref m_, .int p0] (Pst g sz [(m_, .inr (12, [.ref j0, .ref j1, .int 0, .int 0, .int 0, .int (-1), .int 0, .int 0, .int 0, .int 0, .long 0, .ref j11, .ref j12, .ref j13, .ref j14, .ref j15, .ref j16, .ref j17, .ref j18, .ref j19, .ref j20, .ref j21, .ref j22, .ref j23, .ref j24, .ref j25, .ref j26, .ref j27, .ref j28, .ref j29, .ref j30, .ref j31, .ref j32, .ref j33, .ref j34, .ref j35, .ref j36, .ref j37, .ref j38, .ref j39, .ref j40, .ref j41, .ref j42, .int 0, .int 0, .int 0, .int 0, .int 0, .int 0, .int 0, .int 0, .int 0, .ref j52, .ref j53, .int 0, .int 0, .ref j56, .ref j57, .ref j58, .ref j59, .ref j60, .ref j61, .ref j62, .ref j63, .ref j64, .ref j65, .int 0, .int 0, .int 0, .int 0, .int 0, .int 0, .int 0, .int 0, .int 0, .int 0, .int 0, .int 0, .ref j78, .ref j79, .ref j80, .ref j81, .ref j82, .int 0, .int 0, .ref j85, .ref j86]))] nX)) (va_Qi (fun (r : Int32) (_ : Unit) => r = Fr 0 p0) (Qst g [(m_, .inr (12, [.ref j0, .ref j1, .int 0, .int 0, .int 0, .int (-1), .int 0, .int 0, .int 0, .int 0, .long 0, .ref j11, .ref j12, .ref j13, .ref j14, .ref j15, .ref j16, .ref j17, .ref j18, .ref j19, .ref j20, .ref j21, .ref j22, .ref j23, .ref j24, .ref j25, .ref j26, .ref j27, .ref j28, .ref j29, .ref j30, .ref j31, .ref j32, .ref j33, .ref j34, .ref j35, .ref j36, .ref j37, .ref j38, .ref j39, .ref j40, .ref j41, .ref j42, .int 0, .int 0, .int 0, .int 0, .int 0, .int 0, .int 0, .int 0, .int 0, .ref j52, .ref j53, .int 0, .int 0, .ref j56, .ref j57, .ref j58, .ref j59, .ref j60, .ref j61, .ref j62, .ref j63, .ref j64, .ref j65, .int 0, .int 0, .int 0, .int 0, .int 0, .int 0, .int 0, .int 0, .int 0, .int 0, .int 0, .int 0, .ref j78, .ref j79, .ref j80, .ref j81, .ref j82, .int 0, .int 0, .ref j85, .ref j86]))] sz (fun _ => [])) (va_A [(m_, .inr (12, [.ref j0, .ref j1, .int 0, .int 0, .int 0, .int (-1), .int 0, .int 0, .int 0, .int 0, .long 0, .ref j11, .ref j12, .ref j13, .ref j14, .ref j15, .ref j16, .ref j17, .ref j18, .ref j19, .ref j20, .ref j21, .ref j22, .ref j23, .ref j24, .ref j25, .ref j26, .ref j27, .ref j28, .ref j29, .ref j30, .ref j31, .ref j32, .ref j33, .ref j34, .ref j35, .ref j36, .ref j37, .ref j38, .ref j39, .ref j40, .ref j41, .ref j42, .int 0, .int 0, .int 0, .int 0, .int 0, .int 0, .int 0, .int 0, .int 0, .ref j52, .ref j53, .int 0, .int 0, .ref j56, .ref j57, .ref j58, .ref j59, .ref j60, .ref j61, .ref j62, .ref j63, .ref j64, .ref j65, .int 0, .int 0, .int 0, .int 0, .int 0, .int 0, .int 0, .int 0, .int 0, .int 0, .int 0, .int 0, .ref j78, .ref j79, .ref j80, .ref j81, .ref j82, .int 0, .int 0, .ref j85, .ref j86]))] sz)) 0 0 (va_A [(m_, .inr (12, [.ref j0, .ref j1, .int 0, .int 0, .int 0, .int (-1), .int 0, .int 0, .int 0, .int 0, .long 0, .ref j11, .ref j12, .ref j13, .ref j14, .ref j15, .ref j16, .ref j17, .ref j18, .ref j19, .ref j20, .ref j21, .ref j22, .ref j23, .ref j24, .ref j25, .ref j26, .ref j27, .ref j28, .ref j29, .ref j30, .ref j31, .ref j32, .ref j33, .ref j34, .ref j35, .ref j36, .ref j37, .ref j38, .ref j39, .ref j40, .ref j41, .ref j42, .int 0, .int 0, .int 0, .int 0, .int 0, .int 0, .int 0, .int 0, .int 0, .ref j52, .ref j53, .int 0, .int 0, .ref j56, .ref j57, .ref j58, .ref j59, .ref j60, .ref j61, .ref j62, .ref j63, .ref j64, .ref j65, .int 0, .int 0, .int 0, .int 0, .int 0, .int 0, .int 0, .int 0, .int 0, .int 0, .int 0, .int 0, .ref j78, .ref j79, .ref j80, .ref j81, .ref j82, .int 0, .int 0, .ref j85, .ref j86]))] sz) := by
  refine Met.ofW (cc := cX12_end) (maxL := 2) (ret := (some .int)) (by decide) rfl ?_
  intro p e s m args below meth c s₁ B hml hv
  obtain ⟨rfl, hsz, hP, hK, hD0, hX⟩ := hv
  have hx := B.exec
  have hb := B.bytes
  have hr := B.returns
  have hT : ∀ w ∈ gT, w.before _ s = true := fun w h => atoms_spec (ws := .code yX12_end cX12_end 2 (some .int) :: gT) B.pre w (List.mem_cons_of_mem _ h)
  have hown : s.vm.findClass RX12 = some m.cls := findClass_of_methodNamed B.named
  have hlocks := B.notSynchronized
  subst hsz
  have hD := hD0.self (sz := s.heap.size)
  generalize hAe : va_A [(m_, .inr (12, [.ref j0, .ref j1, .int 0, .int 0, .int 0, .int (-1), .int 0, .int 0, .int 0, .int 0, .long 0, .ref j11, .ref j12, .ref j13, .ref j14, .ref j15, .ref j16, .ref j17, .ref j18, .ref j19, .ref j20, .ref j21, .ref j22, .ref j23, .ref j24, .ref j25, .ref j26, .ref j27, .ref j28, .ref j29, .ref j30, .ref j31, .ref j32, .ref j33, .ref j34, .ref j35, .ref j36, .ref j37, .ref j38, .ref j39, .ref j40, .ref j41, .ref j42, .int 0, .int 0, .int 0, .int 0, .int 0, .int 0, .int 0, .int 0, .int 0, .ref j52, .ref j53, .int 0, .int 0, .ref j56, .ref j57, .ref j58, .ref j59, .ref j60, .ref j61, .ref j62, .ref j63, .ref j64, .ref j65, .int 0, .int 0, .int 0, .int 0, .int 0, .int 0, .int 0, .int 0, .int 0, .int 0, .int 0, .int 0, .ref j78, .ref j79, .ref j80, .ref j81, .ref j82, .int 0, .int 0, .ref j85, .ref j86]))] s.heap.size = A at hD ⊢
  have hA : ∀ q : Nat, s.heap.size ≤ q → A q := fun q h => by rw [← hAe]; exact Or.inr h
  have hS : va_S A s.heap s.heap [] := va_S.rf
  have hl := lv_entry ([.ref m_, .int p0]) (n := 2) (Nat.le_of_ble_eq_true rfl)
  rw [lg_entry_eq]
  generalize (lg_sl ([.ref m_, .int p0]) ++ List.replicate (2 - (lg_sl ([.ref m_, .int p0])).length) Slot.unset).toArray = ls at hl ⊢
  have hl : lv_has ls 2 [(0, .ref m_), (1, .int p0)] := hl
  refine p_nH (fun H hH => ?_)
  have hP : va_P g.1 vwCl [(m_, .inr (12, [.ref j0, .ref j1, .int 0, .int 0, .int 0, .int (-1), .int 0, .int 0, .int 0, .int 0, .long 0, .ref j11, .ref j12, .ref j13, .ref j14, .ref j15, .ref j16, .ref j17, .ref j18, .ref j19, .ref j20, .ref j21, .ref j22, .ref j23, .ref j24, .ref j25, .ref j26, .ref j27, .ref j28, .ref j29, .ref j30, .ref j31, .ref j32, .ref j33, .ref j34, .ref j35, .ref j36, .ref j37, .ref j38, .ref j39, .ref j40, .ref j41, .ref j42, .int 0, .int 0, .int 0, .int 0, .int 0, .int 0, .int 0, .int 0, .int 0, .ref j52, .ref j53, .int 0, .int 0, .ref j56, .ref j57, .ref j58, .ref j59, .ref j60, .ref j61, .ref j62, .ref j63, .ref j64, .ref j65, .int 0, .int 0, .int 0, .int 0, .int 0, .int 0, .int 0, .int 0, .int 0, .int 0, .int 0, .int 0, .ref j78, .ref j79, .ref j80, .ref j81, .ref j82, .int 0, .int 0, .ref j85, .ref j86]))] H := by rw [hH]; exact hP
  have hS : va_S A s.heap H [] := by rw [hH]; exact hS
  refine lv_iload_n hx hb dX12_end_0 rfl (lv_at hl 1 rfl) ?_
  refine lv_if_lt (tgt := 12) hx hb dX12_end_1 (by decide) (fun c_1 => ?_) (fun c_1 => ?_)
  · refine lv_iconst (v := (-1)) hx hb dX12_end_12 (by decide) ?_
    have hP9 : va_P g.1 vwCl [] H := hP.sub [] rfl
    have hD9 : va_D A [] := ⟨fun i j p q h => by simp at h, fun k q h => by simp at h⟩
    exact W.iret (v := (-1)) hx hb hr (fun t ht hW => ⟨⟨(-1), (), rfl, (by rw [Fr, if_neg (by have e0 : (0 : Int32).toInt = 0 := (by decide); simp only [Int32.lt_iff_toInt_lt, Int32.le_iff_toInt_le, ← Int32.toInt_inj, e0] at c_1 ⊢; omega)]), by rw [ht]; exact hP9, by rw [hAe]; exact hD9⟩, hS.F ht⟩) hS.2.2 dX12_end_13
  · refine lv_iload_n hx hb dX12_end_4 rfl (lv_at hl 1 rfl) ?_
    refine lv_aload_n hx hb dX12_end_5 rfl (lv_at hl 0 rfl) ?_
    refine va_get (D := g.1) (ci := 12) (v := .int 0) (C := RX12) (T := TX12) (N := 87) hx hb hT inF_X12 hown hK.1 hP 0 rfl rfl 2 (by decide) (hT _ bw_282) (fun _ h9 => h9) rfl dX12_end_6 ?_
    refine lv_icmp_le (tgt := 14) hx hb dX12_end_9 (by decide) (fun c_2 => ?_) (fun c_2 => ?_)
    · refine lv_aload_n hx hb dX12_end_14 rfl (lv_at hl 0 rfl) ?_
      refine lv_iload_n hx hb dX12_end_15 rfl (lv_at hl 1 rfl) ?_
      refine va_put (D := g.1) (ci := 12) (v := .int p0) (ty := .int) (C := RX12) (T := TX12) (N := 87) hx hb hT inF_X12 tyX12 tyX12_ok nmX12 hown hK.1 hP hD hS 0 rfl rfl 2 (by decide) (hT _ bw_282) (fun _ h9 => h9) rfl (by decide +kernel) rfl rfl (Nat.le_of_ble_eq_true rfl) dX12_end_16 (fun H locs hP hD hS => ?_)
      have hP : va_P g.1 vwCl [(m_, .inr (12, [.ref j0, .ref j1, .int p0, .int 0, .int 0, .int (-1), .int 0, .int 0, .int 0, .int 0, .long 0, .ref j11, .ref j12, .ref j13, .ref j14, .ref j15, .ref j16, .ref j17, .ref j18, .ref j19, .ref j20, .ref j21, .ref j22, .ref j23, .ref j24, .ref j25, .ref j26, .ref j27, .ref j28, .ref j29, .ref j30, .ref j31, .ref j32, .ref j33, .ref j34, .ref j35, .ref j36, .ref j37, .ref j38, .ref j39, .ref j40, .ref j41, .ref j42, .int 0, .int 0, .int 0, .int 0, .int 0, .int 0, .int 0, .int 0, .int 0, .ref j52, .ref j53, .int 0, .int 0, .ref j56, .ref j57, .ref j58, .ref j59, .ref j60, .ref j61, .ref j62, .ref j63, .ref j64, .ref j65, .int 0, .int 0, .int 0, .int 0, .int 0, .int 0, .int 0, .int 0, .int 0, .int 0, .int 0, .int 0, .ref j78, .ref j79, .ref j80, .ref j81, .ref j82, .int 0, .int 0, .ref j85, .ref j86]))] H := hP
      have hD : va_D A [(m_, .inr (12, [.ref j0, .ref j1, .int p0, .int 0, .int 0, .int (-1), .int 0, .int 0, .int 0, .int 0, .long 0, .ref j11, .ref j12, .ref j13, .ref j14, .ref j15, .ref j16, .ref j17, .ref j18, .ref j19, .ref j20, .ref j21, .ref j22, .ref j23, .ref j24, .ref j25, .ref j26, .ref j27, .ref j28, .ref j29, .ref j30, .ref j31, .ref j32, .ref j33, .ref j34, .ref j35, .ref j36, .ref j37, .ref j38, .ref j39, .ref j40, .ref j41, .ref j42, .int 0, .int 0, .int 0, .int 0, .int 0, .int 0, .int 0, .int 0, .int 0, .ref j52, .ref j53, .int 0, .int 0, .ref j56, .ref j57, .ref j58, .ref j59, .ref j60, .ref j61, .ref j62, .ref j63, .ref j64, .ref j65, .int 0, .int 0, .int 0, .int 0, .int 0, .int 0, .int 0, .int 0, .int 0, .int 0, .int 0, .int 0, .ref j78, .ref j79, .ref j80, .ref j81, .ref j82, .int 0, .int 0, .ref j85, .ref j86]))] := hD
      refine lv_iload_n hx hb dX12_end_19 rfl (lv_at hl 1 rfl) ?_
      have hP9 : va_P g.1 vwCl [] H := hP.sub [] rfl
      have hD9 : va_D A [] := ⟨fun i j p q h => by simp at h, fun k q h => by simp at h⟩
      exact W.iret (v := p0) hx hb hr (fun t ht hW => ⟨⟨p0, (), rfl, (by rw [Fr, if_pos (by have e0 : (0 : Int32).toInt = 0 := (by decide); simp only [Int32.lt_iff_toInt_lt, Int32.le_iff_toInt_le, ← Int32.toInt_inj, e0] at c_1 c_2 ⊢; omega)]), by rw [ht]; exact hP9, by rw [hAe]; exact hD9⟩, hS.F ht⟩) hS.2.2 dX12_end_20
    · refine lv_iconst (v := (-1)) hx hb dX12_end_12 (by decide) ?_
      have hP9 : va_P g.1 vwCl [] H := hP.sub [] rfl
      have hD9 : va_D A [] := ⟨fun i j p q h => by simp at h, fun k q h => by simp at h⟩
      exact W.iret (v := (-1)) hx hb hr (fun t ht hW => ⟨⟨(-1), (), rfl, (by rw [Fr, if_neg (by have e0 : (0 : Int32).toInt = 0 := (by decide); simp only [Int32.lt_iff_toInt_lt, Int32.le_iff_toInt_le, ← Int32.toInt_inj, e0] at c_1 c_2 ⊢; omega)]), by rw [ht]; exact hP9, by rw [hAe]; exact hD9⟩, hS.F ht⟩) hS.2.2 dX12_end_13

theorem bw_284 : Cond.fieldLink RX12 16 "DuelDelaysModel" "faultPlace" "I" ∈ gT := gT_tb 1310 (by decide +kernel) (by decide +kernel)
theorem bw_285 : Cond.code yX12_fault cX12_fault 2 (some .int) ∈ gT := gT_tb 1738 (by decide +kernel) (by decide +kernel)
theorem dX12_fault_0 : decode cX12_fault 0 = .ok (.iload_n 1, 1) := by decide +kernel
theorem dX12_fault_1 : decode cX12_fault 1 = .ok (.ifCond .ne 10, 3) := by decide +kernel
theorem dX12_fault_4 : decode cX12_fault 4 = .ok (.aload_n 0, 1) := by decide +kernel
theorem dX12_fault_5 : decode cX12_fault 5 = .ok (.getfield 185, 3) := by decide +kernel
theorem dX12_fault_8 : decode cX12_fault 8 = .ok (.goto 16, 3) := by decide +kernel
theorem dX12_fault_11 : decode cX12_fault 11 = .ok (.iload_n 1, 1) := by decide +kernel
theorem dX12_fault_12 : decode cX12_fault 12 = .ok (.iconst 1, 1) := by decide +kernel
theorem dX12_fault_13 : decode cX12_fault 13 = .ok (.if_icmp .ne 10, 3) := by decide +kernel
theorem dX12_fault_16 : decode cX12_fault 16 = .ok (.aload_n 0, 1) := by decide +kernel
theorem dX12_fault_17 : decode cX12_fault 17 = .ok (.getfield 16, 3) := by decide +kernel
theorem dX12_fault_20 : decode cX12_fault 20 = .ok (.goto 4, 3) := by decide +kernel
theorem dX12_fault_23 : decode cX12_fault 23 = .ok (.iconst (-1), 1) := by decide +kernel
theorem dX12_fault_24 : decode cX12_fault 24 = .ok (.ireturn, 1) := by decide +kernel
set_option maxHeartbeats 4000000 in
set_option maxRecDepth 100000 in
theorem c_X12_fault (l : Launch) (g : GG) (sz : Nat) (m_ : Nat) (j0 : Nat) (j1 : Nat) (j11 : Nat) (j12 : Nat) (j13 : Nat) (j14 : Nat) (j15 : Nat) (j16 : Nat) (j17 : Nat) (j18 : Nat) (j19 : Nat) (j20 : Nat) (j21 : Nat) (j22 : Nat) (j23 : Nat) (j24 : Nat) (j25 : Nat) (j26 : Nat) (j27 : Nat) (j28 : Nat) (j29 : Nat) (j30 : Nat) (j31 : Nat) (j32 : Nat) (j33 : Nat) (j34 : Nat) (j35 : Nat) (j36 : Nat) (j37 : Nat) (j38 : Nat) (j39 : Nat) (j40 : Nat) (j41 : Nat) (j42 : Nat) (j52 : Nat) (j53 : Nat) (j56 : Nat) (j57 : Nat) (j58 : Nat) (j59 : Nat) (j60 : Nat) (j61 : Nat) (j62 : Nat) (j63 : Nat) (j64 : Nat) (j65 : Nat) (j78 : Nat) (j79 : Nat) (j80 : Nat) (j81 : Nat) (j82 : Nat) (j85 : Nat) (j86 : Nat) (p0 : Int32) : Met l yX12_fault (.code yX12_fault cX12_fault 2 (some .int) :: gT) ({ frames := 0, cells := 0, slots := 0, locals := 0 }) (va_Pc [.ref m_, .int p0] (Pst g sz [(m_, .inr (12, [.ref j0, .ref j1, .int 0, .int 0, .int 0, .int (-1), .int 0, .int 0, .int 0, .int 0, .long 0, .ref j11, .ref j12, .ref j13, .ref j14, .ref j15, .ref j16, .ref j17, .ref j18, .ref j19, .ref j20, .ref j21, .ref j22, .ref j23, .ref j24, .ref j25, .ref j26, .ref j27, .ref j28, .ref j29, .ref j30, .ref j31, .ref j32, .ref j33, .ref j34, .ref j35, .ref j36, .ref j37, .ref j38, .ref j39, .ref j40, .ref j41, .ref j42, .int 0, .int 0, .int 0, .int 0, .int 0, .int 0, .int 0, .int 0, .int 0, .ref j52, .ref j53, .int 0, .int 0, .ref j56, .ref j57, .ref j58, .ref j59, .ref j60, .ref j61, .ref j62, .ref j63, .ref j64, .ref j65, .int 0, .int 0, .int 0, .int 0, .int 0, .int 0, .int 0, .int 0, .int 0, .int 0, .int 0, .int 0, .ref j78, .ref j79, .ref j80, .ref j81, .ref j82, .int 0, .int 0, .ref j85, .ref j86]))] nX)) (va_Qi (fun (r : Int32) (_ : Unit) => r = Fz 0 p0) (Qst g [] sz (fun _ => [])) (va_A [] sz)) 0 0 (va_A [] sz) := by
  refine Met.ofW (cc := cX12_fault) (maxL := 2) (ret := (some .int)) (by decide) rfl ?_
  intro p e s m args below meth c s₁ B hml hv
  obtain ⟨rfl, hsz, hP, hK, hD0, hX⟩ := hv
  have hx := B.exec
  have hb := B.bytes
  have hr := B.returns
  have hT : ∀ w ∈ gT, w.before _ s = true := fun w h => atoms_spec (ws := .code yX12_fault cX12_fault 2 (some .int) :: gT) B.pre w (List.mem_cons_of_mem _ h)
  have hown : s.vm.findClass RX12 = some m.cls := findClass_of_methodNamed B.named
  have hlocks := B.notSynchronized
  subst hsz
  have hD := hD0
  generalize hAe : va_A [] s.heap.size = A at ⊢
  have hA : ∀ q : Nat, s.heap.size ≤ q → A q := fun q h => by rw [← hAe]; exact Or.inr h
  have hS : va_S A s.heap s.heap [] := va_S.rf
  have hl := lv_entry ([.ref m_, .int p0]) (n := 2) (Nat.le_of_ble_eq_true rfl)
  rw [lg_entry_eq]
  generalize (lg_sl ([.ref m_, .int p0]) ++ List.replicate (2 - (lg_sl ([.ref m_, .int p0])).length) Slot.unset).toArray = ls at hl ⊢
  have hl : lv_has ls 2 [(0, .ref m_), (1, .int p0)] := hl
  refine p_nH (fun H hH => ?_)
  have hP : va_P g.1 vwCl [(m_, .inr (12, [.ref j0, .ref j1, .int 0, .int 0, .int 0, .int (-1), .int 0, .int 0, .int 0, .int 0, .long 0, .ref j11, .ref j12, .ref j13, .ref j14, .ref j15, .ref j16, .ref j17, .ref j18, .ref j19, .ref j20, .ref j21, .ref j22, .ref j23, .ref j24, .ref j25, .ref j26, .ref j27, .ref j28, .ref j29, .ref j30, .ref j31, .ref j32, .ref j33, .ref j34, .ref j35, .ref j36, .ref j37, .ref j38, .ref j39, .ref j40, .ref j41, .ref j42, .int 0, .int 0, .int 0, .int 0, .int 0, .int 0, .int 0, .int 0, .int 0, .ref j52, .ref j53, .int 0, .int 0, .ref j56, .ref j57, .ref j58, .ref j59, .ref j60, .ref j61, .ref j62, .ref j63, .ref j64, .ref j65, .int 0, .int 0, .int 0, .int 0, .int 0, .int 0, .int 0, .int 0, .int 0, .int 0, .int 0, .int 0, .ref j78, .ref j79, .ref j80, .ref j81, .ref j82, .int 0, .int 0, .ref j85, .ref j86]))] H := by rw [hH]; exact hP
  have hS : va_S A s.heap H [] := by rw [hH]; exact hS
  refine lv_iload_n hx hb dX12_fault_0 rfl (lv_at hl 1 rfl) ?_
  refine lv_if_ne (tgt := 11) hx hb dX12_fault_1 (by decide) (fun c_1 => ?_) (fun c_1 => ?_)
  · refine lv_iload_n hx hb dX12_fault_11 rfl (lv_at hl 1 rfl) ?_
    refine lv_iconst (v := 1) hx hb dX12_fault_12 (by decide) ?_
    refine lv_icmp_ne (tgt := 23) hx hb dX12_fault_13 (by decide) (fun c_2 => ?_) (fun c_2 => ?_)
    · refine lv_iconst (v := (-1)) hx hb dX12_fault_23 (by decide) ?_
      have hP9 : va_P g.1 vwCl [] H := hP.sub [] rfl
      have hD9 : va_D A [] := ⟨fun i j p q h => by simp at h, fun k q h => by simp at h⟩
      exact W.iret (v := (-1)) hx hb hr (fun t ht hW => ⟨⟨(-1), (), rfl, (by rw [Fz, if_neg (by have e0 : (0 : Int32).toInt = 0 := (by decide); have e1 : (1 : Int32).toInt = 1 := (by decide); simp only [Int32.lt_iff_toInt_lt, Int32.le_iff_toInt_le, ← Int32.toInt_inj, e0, e1] at c_1 c_2 ⊢; omega)]), by rw [ht]; exact hP9, by rw [hAe]; exact hD9⟩, hS.F ht⟩) hS.2.2 dX12_fault_24
    · refine lv_aload_n hx hb dX12_fault_16 rfl (lv_at hl 0 rfl) ?_
      refine va_get (D := g.1) (ci := 12) (v := .int (-1)) (C := RX12) (T := TX12) (N := 87) hx hb hT inF_X12 hown hK.1 hP 0 rfl rfl 5 (by decide) (hT _ bw_284) (fun _ h9 => h9) rfl dX12_fault_17 ?_
      refine lv_goto (tgt := 24) hx hb dX12_fault_20 (by decide) ?_
      have hP9 : va_P g.1 vwCl [] H := hP.sub [] rfl
      have hD9 : va_D A [] := ⟨fun i j p q h => by simp at h, fun k q h => by simp at h⟩
      exact W.iret (v := (-1)) hx hb hr (fun t ht hW => ⟨⟨(-1), (), rfl, (by rw [Fz, if_neg (by have e0 : (0 : Int32).toInt = 0 := (by decide); have e1 : (1 : Int32).toInt = 1 := (by decide); simp only [Int32.lt_iff_toInt_lt, Int32.le_iff_toInt_le, ← Int32.toInt_inj, e0, e1] at c_1 c_2 ⊢; omega)]), by rw [ht]; exact hP9, by rw [hAe]; exact hD9⟩, hS.F ht⟩) hS.2.2 dX12_fault_24
  · refine lv_aload_n hx hb dX12_fault_4 rfl (lv_at hl 0 rfl) ?_
    refine va_get (D := g.1) (ci := 12) (v := .int 0) (C := RX12) (T := TX12) (N := 87) hx hb hT inF_X12 hown hK.1 hP 0 rfl rfl 4 (by decide) (hT _ bw_237) (fun _ h9 => h9) rfl dX12_fault_5 ?_
    refine lv_goto (tgt := 24) hx hb dX12_fault_8 (by decide) ?_
    have hP9 : va_P g.1 vwCl [] H := hP.sub [] rfl
    have hD9 : va_D A [] := ⟨fun i j p q h => by simp at h, fun k q h => by simp at h⟩
    exact W.iret (v := 0) hx hb hr (fun t ht hW => ⟨⟨0, (), rfl, (by rw [Fz, if_pos (by have e0 : (0 : Int32).toInt = 0 := (by decide); simp only [Int32.lt_iff_toInt_lt, Int32.le_iff_toInt_le, ← Int32.toInt_inj, e0] at c_1 ⊢; omega)]), by rw [ht]; exact hP9, by rw [hAe]; exact hD9⟩, hS.F ht⟩) hS.2.2 dX12_fault_24

theorem bw_286 : Cond.fieldLink RX12 608 "DuelDelaysModel" "time" "I" ∈ gT := gT_tb 1389 (by decide +kernel) (by decide +kernel)
theorem bw_287 : Cond.constant RX12 611 (100000) ∈ gT := gT_tb 2040 (by decide +kernel) (by decide +kernel)
theorem bw_288 : Cond.code yX12_later cX12_later 2 (some .int) ∈ gT := gT_tb 2039 (by decide +kernel) (by decide +kernel)
theorem dX12_later_0 : decode cX12_later 0 = .ok (.iload_n 1, 1) := by decide +kernel
theorem dX12_later_1 : decode cX12_later 1 = .ok (.iconst 0, 1) := by decide +kernel
theorem dX12_later_2 : decode cX12_later 2 = .ok (.sipush 1000, 3) := by decide +kernel
theorem dX12_later_5 : decode cX12_later 5 = .ok (.invokestatic 411, 3) := by decide +kernel
theorem dX12_later_8 : decode cX12_later 8 = .ok (.ifCond .eq 15, 3) := by decide +kernel
theorem dX12_later_11 : decode cX12_later 11 = .ok (.aload_n 0, 1) := by decide +kernel
theorem dX12_later_12 : decode cX12_later 12 = .ok (.getfield 608, 3) := by decide +kernel
theorem dX12_later_15 : decode cX12_later 15 = .ok (.iload_n 1, 1) := by decide +kernel
theorem dX12_later_16 : decode cX12_later 16 = .ok (.iadd, 1) := by decide +kernel
theorem dX12_later_17 : decode cX12_later 17 = .ok (.ldc_w 611, 3) := by decide +kernel
theorem dX12_later_20 : decode cX12_later 20 = .ok (.if_icmp .le 5, 3) := by decide +kernel
theorem dX12_later_23 : decode cX12_later 23 = .ok (.iconst (-1), 1) := by decide +kernel
theorem dX12_later_24 : decode cX12_later 24 = .ok (.ireturn, 1) := by decide +kernel
theorem dX12_later_25 : decode cX12_later 25 = .ok (.aload_n 0, 1) := by decide +kernel
theorem dX12_later_26 : decode cX12_later 26 = .ok (.dup, 1) := by decide +kernel
theorem dX12_later_27 : decode cX12_later 27 = .ok (.getfield 608, 3) := by decide +kernel
theorem dX12_later_30 : decode cX12_later 30 = .ok (.iload_n 1, 1) := by decide +kernel
theorem dX12_later_31 : decode cX12_later 31 = .ok (.iadd, 1) := by decide +kernel
theorem dX12_later_32 : decode cX12_later 32 = .ok (.putfield 608, 3) := by decide +kernel
theorem dX12_later_35 : decode cX12_later 35 = .ok (.aload_n 0, 1) := by decide +kernel
theorem dX12_later_36 : decode cX12_later 36 = .ok (.getfield 608, 3) := by decide +kernel
theorem dX12_later_39 : decode cX12_later 39 = .ok (.ireturn, 1) := by decide +kernel
set_option maxHeartbeats 4000000 in
set_option maxRecDepth 100000 in
theorem c_X12_later (l : Launch) (g : GG) (sz : Nat) (m_ : Nat) (j0 : Nat) (j1 : Nat) (j11 : Nat) (j12 : Nat) (j13 : Nat) (j14 : Nat) (j15 : Nat) (j16 : Nat) (j17 : Nat) (j18 : Nat) (j19 : Nat) (j20 : Nat) (j21 : Nat) (j22 : Nat) (j23 : Nat) (j24 : Nat) (j25 : Nat) (j26 : Nat) (j27 : Nat) (j28 : Nat) (j29 : Nat) (j30 : Nat) (j31 : Nat) (j32 : Nat) (j33 : Nat) (j34 : Nat) (j35 : Nat) (j36 : Nat) (j37 : Nat) (j38 : Nat) (j39 : Nat) (j40 : Nat) (j41 : Nat) (j42 : Nat) (j52 : Nat) (j53 : Nat) (j56 : Nat) (j57 : Nat) (j58 : Nat) (j59 : Nat) (j60 : Nat) (j61 : Nat) (j62 : Nat) (j63 : Nat) (j64 : Nat) (j65 : Nat) (j78 : Nat) (j79 : Nat) (j80 : Nat) (j81 : Nat) (j82 : Nat) (j85 : Nat) (j86 : Nat) (p0 : Int32) : Met l yX12_later (.code yX12_later cX12_later 2 (some .int) :: gT) ({ frames := 1, cells := 0, slots := 0, locals := 22 }) (va_Pc [.ref m_, .int p0] (Pst g sz [(m_, .inr (12, [.ref j0, .ref j1, .int 0, .int 0, .int 0, .int (-1), .int 0, .int 0, .int 0, .int 0, .long 0, .ref j11, .ref j12, .ref j13, .ref j14, .ref j15, .ref j16, .ref j17, .ref j18, .ref j19, .ref j20, .ref j21, .ref j22, .ref j23, .ref j24, .ref j25, .ref j26, .ref j27, .ref j28, .ref j29, .ref j30, .ref j31, .ref j32, .ref j33, .ref j34, .ref j35, .ref j36, .ref j37, .ref j38, .ref j39, .ref j40, .ref j41, .ref j42, .int 0, .int 0, .int 0, .int 0, .int 0, .int 0, .int 0, .int 0, .int 0, .ref j52, .ref j53, .int 0, .int 0, .ref j56, .ref j57, .ref j58, .ref j59, .ref j60, .ref j61, .ref j62, .ref j63, .ref j64, .ref j65, .int 0, .int 0, .int 0, .int 0, .int 0, .int 0, .int 0, .int 0, .int 0, .int 0, .int 0, .int 0, .ref j78, .ref j79, .ref j80, .ref j81, .ref j82, .int 0, .int 0, .ref j85, .ref j86]))] nX)) (va_Qi (fun (r : Int32) (_ : Unit) => r = Fr 1000 p0) (Qst g [(m_, .inr (12, [.ref j0, .ref j1, .int 0, .int 0, .int 0, .int (-1), .int 0, .int 0, .int 0, .int 0, .long 0, .ref j11, .ref j12, .ref j13, .ref j14, .ref j15, .ref j16, .ref j17, .ref j18, .ref j19, .ref j20, .ref j21, .ref j22, .ref j23, .ref j24, .ref j25, .ref j26, .ref j27, .ref j28, .ref j29, .ref j30, .ref j31, .ref j32, .ref j33, .ref j34, .ref j35, .ref j36, .ref j37, .ref j38, .ref j39, .ref j40, .ref j41, .ref j42, .int 0, .int 0, .int 0, .int 0, .int 0, .int 0, .int 0, .int 0, .int 0, .ref j52, .ref j53, .int 0, .int 0, .ref j56, .ref j57, .ref j58, .ref j59, .ref j60, .ref j61, .ref j62, .ref j63, .ref j64, .ref j65, .int 0, .int 0, .int 0, .int 0, .int 0, .int 0, .int 0, .int 0, .int 0, .int 0, .int 0, .int 0, .ref j78, .ref j79, .ref j80, .ref j81, .ref j82, .int 0, .int 0, .ref j85, .ref j86]))] sz (fun _ => [])) (va_A [(m_, .inr (12, [.ref j0, .ref j1, .int 0, .int 0, .int 0, .int (-1), .int 0, .int 0, .int 0, .int 0, .long 0, .ref j11, .ref j12, .ref j13, .ref j14, .ref j15, .ref j16, .ref j17, .ref j18, .ref j19, .ref j20, .ref j21, .ref j22, .ref j23, .ref j24, .ref j25, .ref j26, .ref j27, .ref j28, .ref j29, .ref j30, .ref j31, .ref j32, .ref j33, .ref j34, .ref j35, .ref j36, .ref j37, .ref j38, .ref j39, .ref j40, .ref j41, .ref j42, .int 0, .int 0, .int 0, .int 0, .int 0, .int 0, .int 0, .int 0, .int 0, .ref j52, .ref j53, .int 0, .int 0, .ref j56, .ref j57, .ref j58, .ref j59, .ref j60, .ref j61, .ref j62, .ref j63, .ref j64, .ref j65, .int 0, .int 0, .int 0, .int 0, .int 0, .int 0, .int 0, .int 0, .int 0, .int 0, .int 0, .int 0, .ref j78, .ref j79, .ref j80, .ref j81, .ref j82, .int 0, .int 0, .ref j85, .ref j86]))] sz)) 0 0 (va_A [(m_, .inr (12, [.ref j0, .ref j1, .int 0, .int 0, .int 0, .int (-1), .int 0, .int 0, .int 0, .int 0, .long 0, .ref j11, .ref j12, .ref j13, .ref j14, .ref j15, .ref j16, .ref j17, .ref j18, .ref j19, .ref j20, .ref j21, .ref j22, .ref j23, .ref j24, .ref j25, .ref j26, .ref j27, .ref j28, .ref j29, .ref j30, .ref j31, .ref j32, .ref j33, .ref j34, .ref j35, .ref j36, .ref j37, .ref j38, .ref j39, .ref j40, .ref j41, .ref j42, .int 0, .int 0, .int 0, .int 0, .int 0, .int 0, .int 0, .int 0, .int 0, .ref j52, .ref j53, .int 0, .int 0, .ref j56, .ref j57, .ref j58, .ref j59, .ref j60, .ref j61, .ref j62, .ref j63, .ref j64, .ref j65, .int 0, .int 0, .int 0, .int 0, .int 0, .int 0, .int 0, .int 0, .int 0, .int 0, .int 0, .int 0, .ref j78, .ref j79, .ref j80, .ref j81, .ref j82, .int 0, .int 0, .ref j85, .ref j86]))] sz) := by
  refine Met.ofW (cc := cX12_later) (maxL := 2) (ret := (some .int)) (by decide) rfl ?_
  intro p e s m args below meth c s₁ B hml hv
  obtain ⟨rfl, hsz, hP, hK, hD0, hX⟩ := hv
  have hx := B.exec
  have hb := B.bytes
  have hr := B.returns
  have hT : ∀ w ∈ gT, w.before _ s = true := fun w h => atoms_spec (ws := .code yX12_later cX12_later 2 (some .int) :: gT) B.pre w (List.mem_cons_of_mem _ h)
  have hown : s.vm.findClass RX12 = some m.cls := findClass_of_methodNamed B.named
  have hlocks := B.notSynchronized
  subst hsz
  have hD := hD0.self (sz := s.heap.size)
  generalize hAe : va_A [(m_, .inr (12, [.ref j0, .ref j1, .int 0, .int 0, .int 0, .int (-1), .int 0, .int 0, .int 0, .int 0, .long 0, .ref j11, .ref j12, .ref j13, .ref j14, .ref j15, .ref j16, .ref j17, .ref j18, .ref j19, .ref j20, .ref j21, .ref j22, .ref j23, .ref j24, .ref j25, .ref j26, .ref j27, .ref j28, .ref j29, .ref j30, .ref j31, .ref j32, .ref j33, .ref j34, .ref j35, .ref j36, .ref j37, .ref j38, .ref j39, .ref j40, .ref j41, .ref j42, .int 0, .int 0, .int 0, .int 0, .int 0, .int 0, .int 0, .int 0, .int 0, .ref j52, .ref j53, .int 0, .int 0, .ref j56, .ref j57, .ref j58, .ref j59, .ref j60, .ref j61, .ref j62, .ref j63, .ref j64, .ref j65, .int 0, .int 0, .int 0, .int 0, .int 0, .int 0, .int 0, .int 0, .int 0, .int 0, .int 0, .int 0, .ref j78, .ref j79, .ref j80, .ref j81, .ref j82, .int 0, .int 0, .ref j85, .ref j86]))] s.heap.size = A at hD ⊢
  have hA : ∀ q : Nat, s.heap.size ≤ q → A q := fun q h => by rw [← hAe]; exact Or.inr h
  have hS : va_S A s.heap s.heap [] := va_S.rf
  have hl := lv_entry ([.ref m_, .int p0]) (n := 2) (Nat.le_of_ble_eq_true rfl)
  rw [lg_entry_eq]
  generalize (lg_sl ([.ref m_, .int p0]) ++ List.replicate (2 - (lg_sl ([.ref m_, .int p0])).length) Slot.unset).toArray = ls at hl ⊢
  have hl : lv_has ls 2 [(0, .ref m_), (1, .int p0)] := hl
  refine p_nH (fun H hH => ?_)
  have hP : va_P g.1 vwCl [(m_, .inr (12, [.ref j0, .ref j1, .int 0, .int 0, .int 0, .int (-1), .int 0, .int 0, .int 0, .int 0, .long 0, .ref j11, .ref j12, .ref j13, .ref j14, .ref j15, .ref j16, .ref j17, .ref j18, .ref j19, .ref j20, .ref j21, .ref j22, .ref j23, .ref j24, .ref j25, .ref j26, .ref j27, .ref j28, .ref j29, .ref j30, .ref j31, .ref j32, .ref j33, .ref j34, .ref j35, .ref j36, .ref j37, .ref j38, .ref j39, .ref j40, .ref j41, .ref j42, .int 0, .int 0, .int 0, .int 0, .int 0, .int 0, .int 0, .int 0, .int 0, .ref j52, .ref j53, .int 0, .int 0, .ref j56, .ref j57, .ref j58, .ref j59, .ref j60, .ref j61, .ref j62, .ref j63, .ref j64, .ref j65, .int 0, .int 0, .int 0, .int 0, .int 0, .int 0, .int 0, .int 0, .int 0, .int 0, .int 0, .int 0, .ref j78, .ref j79, .ref j80, .ref j81, .ref j82, .int 0, .int 0, .ref j85, .ref j86]))] H := by rw [hH]; exact hP
  have hS : va_S A s.heap H [] := by rw [hH]; exact hS
  refine lv_iload_n hx hb dX12_later_0 rfl (lv_at hl 1 rfl) ?_
  refine lv_iconst (v := 0) hx hb dX12_later_1 (by decide) ?_
  refine lv_sipush (v := 1000) hx hb dX12_later_2 (by decide) ?_
  refine k_iR (k_S (n := 3) ⟨hx, hb, hml, hown, hT⟩ hK hP hD [] rfl (by decide) (c_X12_isIn_1000 l g H.size p0) (gS bw_222 bw_223 bw_224 bw_219) rfl rfl (by decide +kernel) ⟨by decide, by decide⟩ (fun _ _ _ _ _ => trivial) (fun _ _ _ => trivial) rfl rfl hl.1 (Nat.le_of_ble_eq_true rfl) dX12_later_5 ⟨by decide, by decide⟩) hP hS hA (fun r_1 _ H locs hw hP hS => ?_)
  rcases hw with ⟨rfl, f_2, f_3⟩ | ⟨rfl, f_4⟩
  · refine lv_if_eq (tgt := 23) hx hb dX12_later_8 (by decide) (fun c9 => absurd c9 (by decide)) (fun _ => ?_)
    refine lv_aload_n hx hb dX12_later_11 rfl (lv_at hl 0 rfl) ?_
    refine va_get (D := g.1) (ci := 12) (v := .int 0) (C := RX12) (T := TX12) (N := 87) hx hb hT inF_X12 hown hK.1 hP 0 rfl rfl 84 (by decide) (hT _ bw_286) (fun _ h9 => h9) rfl dX12_later_12 ?_
    refine lv_iload_n hx hb dX12_later_15 rfl (lv_at hl 1 rfl) ?_
    refine lv_iadd hx hb dX12_later_16 ?_
    refine p_ti (v := p0) (Int32.zero_add _) ?_
    refine lv_ldcw (v := 100000) hx hb hown (hT _ bw_287) dX12_later_17 ?_
    refine lv_icmp_le (tgt := 25) hx hb dX12_later_20 (by decide) (fun _ => ?_) (fun c9 => absurd (by have e0 : (0 : Int32).toInt = 0 := (by decide); have e1 : (1000 : Int32).toInt = 1000 := (by decide); have e2 : (100000 : Int32).toInt = 100000 := (by decide); simp only [Int32.lt_iff_toInt_lt, Int32.le_iff_toInt_le, ← Int32.toInt_inj, e0, e1, e2] at f_2 f_3 ⊢; omega) c9)
    refine lv_aload_n hx hb dX12_later_25 rfl (lv_at hl 0 rfl) ?_
    refine lv_dup hx hb dX12_later_26 rfl ?_
    refine va_get (D := g.1) (ci := 12) (v := .int 0) (C := RX12) (T := TX12) (N := 87) hx hb hT inF_X12 hown hK.1 hP 0 rfl rfl 84 (by decide) (hT _ bw_286) (fun _ h9 => h9) rfl dX12_later_27 ?_
    refine lv_iload_n hx hb dX12_later_30 rfl (lv_at hl 1 rfl) ?_
    refine lv_iadd hx hb dX12_later_31 ?_
    refine p_ti (v := p0) (Int32.zero_add _) ?_
    refine va_put (D := g.1) (ci := 12) (v := .int p0) (ty := .int) (C := RX12) (T := TX12) (N := 87) hx hb hT inF_X12 tyX12 tyX12_ok nmX12 hown hK.1 hP hD hS 0 rfl rfl 84 (by decide) (hT _ bw_286) (fun _ h9 => h9) rfl (by decide +kernel) rfl rfl (Nat.le_of_ble_eq_true rfl) dX12_later_32 (fun H locs hP hD hS => ?_)
    have hP : va_P g.1 vwCl [(m_, .inr (12, [.ref j0, .ref j1, .int 0, .int 0, .int 0, .int (-1), .int 0, .int 0, .int 0, .int 0, .long 0, .ref j11, .ref j12, .ref j13, .ref j14, .ref j15, .ref j16, .ref j17, .ref j18, .ref j19, .ref j20, .ref j21, .ref j22, .ref j23, .ref j24, .ref j25, .ref j26, .ref j27, .ref j28, .ref j29, .ref j30, .ref j31, .ref j32, .ref j33, .ref j34, .ref j35, .ref j36, .ref j37, .ref j38, .ref j39, .ref j40, .ref j41, .ref j42, .int 0, .int 0, .int 0, .int 0, .int 0, .int 0, .int 0, .int 0, .int 0, .ref j52, .ref j53, .int 0, .int 0, .ref j56, .ref j57, .ref j58, .ref j59, .ref j60, .ref j61, .ref j62, .ref j63, .ref j64, .ref j65, .int 0, .int 0, .int 0, .int 0, .int 0, .int 0, .int 0, .int 0, .int 0, .int 0, .int 0, .int 0, .ref j78, .ref j79, .ref j80, .ref j81, .ref j82, .int 0, .int p0, .ref j85, .ref j86]))] H := hP
    have hD : va_D A [(m_, .inr (12, [.ref j0, .ref j1, .int 0, .int 0, .int 0, .int (-1), .int 0, .int 0, .int 0, .int 0, .long 0, .ref j11, .ref j12, .ref j13, .ref j14, .ref j15, .ref j16, .ref j17, .ref j18, .ref j19, .ref j20, .ref j21, .ref j22, .ref j23, .ref j24, .ref j25, .ref j26, .ref j27, .ref j28, .ref j29, .ref j30, .ref j31, .ref j32, .ref j33, .ref j34, .ref j35, .ref j36, .ref j37, .ref j38, .ref j39, .ref j40, .ref j41, .ref j42, .int 0, .int 0, .int 0, .int 0, .int 0, .int 0, .int 0, .int 0, .int 0, .ref j52, .ref j53, .int 0, .int 0, .ref j56, .ref j57, .ref j58, .ref j59, .ref j60, .ref j61, .ref j62, .ref j63, .ref j64, .ref j65, .int 0, .int 0, .int 0, .int 0, .int 0, .int 0, .int 0, .int 0, .int 0, .int 0, .int 0, .int 0, .ref j78, .ref j79, .ref j80, .ref j81, .ref j82, .int 0, .int p0, .ref j85, .ref j86]))] := hD
    refine lv_aload_n hx hb dX12_later_35 rfl (lv_at hl 0 rfl) ?_
    refine va_get (D := g.1) (ci := 12) (v := .int p0) (C := RX12) (T := TX12) (N := 87) hx hb hT inF_X12 hown hK.1 hP 0 rfl rfl 84 (by decide) (hT _ bw_286) (fun _ h9 => h9) rfl dX12_later_36 ?_
    have hP9 : va_P g.1 vwCl [] H := hP.sub [] rfl
    have hD9 : va_D A [] := ⟨fun i j p q h => by simp at h, fun k q h => by simp at h⟩
    exact W.iret (v := p0) hx hb hr (fun t ht hW => ⟨⟨p0, (), rfl, (by rw [Fr, if_pos (by have e0 : (0 : Int32).toInt = 0 := (by decide); have e1 : (1000 : Int32).toInt = 1000 := (by decide); simp only [Int32.lt_iff_toInt_lt, Int32.le_iff_toInt_le, ← Int32.toInt_inj, e0, e1] at f_2 f_3 ⊢; omega)]), by rw [ht]; exact hP9, by rw [hAe]; exact hD9⟩, hS.F ht⟩) hS.2.2 dX12_later_39
  · refine lv_if_eq (tgt := 23) hx hb dX12_later_8 (by decide) (fun _ => ?_) (fun c9 => absurd (by decide) c9)
    refine lv_iconst (v := (-1)) hx hb dX12_later_23 (by decide) ?_
    have hP9 : va_P g.1 vwCl [] H := hP.sub [] rfl
    have hD9 : va_D A [] := ⟨fun i j p q h => by simp at h, fun k q h => by simp at h⟩
    exact W.iret (v := (-1)) hx hb hr (fun t ht hW => ⟨⟨(-1), (), rfl, (by rw [Fr, if_neg f_4]), by rw [ht]; exact hP9, by rw [hAe]; exact hD9⟩, hS.F ht⟩) hS.2.2 dX12_later_24

theorem bw_289 : Cond.fieldLink RX12 24 "DuelDelaysModel" "kinds" "[I" ∈ gT := gT_tb 1317 (by decide +kernel) (by decide +kernel)
theorem bw_290 : Cond.methodLink RX12 615 yX12_openMany ∈ gT := gT_tb 2061 (by decide +kernel) (by decide +kernel)
theorem bw_291 : Cond.instanceMethod yX12_openMany ∈ gT := gT_tb 2063 (by decide +kernel) (by decide +kernel)
theorem bw_292 : Cond.selects RX12 yX12_openMany yX12_openMany ∈ gT := gT_sl 128 (by decide +kernel) (by decide +kernel)
theorem bw_293 : Cond.fieldLink RX12 33 "DuelDelaysModel" "units" "[I" ∈ gT := gT_tb 1320 (by decide +kernel) (by decide +kernel)
theorem bw_294 : Cond.code yX12_about cX12_about 2 (some .int) ∈ gT := gT_tb 2060 (by decide +kernel) (by decide +kernel)
theorem dX12_about_0 : decode cX12_about 0 = .ok (.iload_n 1, 1) := by decide +kernel
theorem dX12_about_1 : decode cX12_about 1 = .ok (.tableswitch 193 0 15 #[79, 89, 99, 109, 117, 125, 133, 140, 145, 153, 158, 163, 168, 173, 178, 188], 79) := by decide +kernel
theorem dX12_about_80 : decode cX12_about 80 = .ok (.aload_n 0, 1) := by decide +kernel
theorem dX12_about_81 : decode cX12_about 81 = .ok (.getfield 20, 3) := by decide +kernel
theorem dX12_about_84 : decode cX12_about 84 = .ok (.aload_n 0, 1) := by decide +kernel
theorem dX12_about_85 : decode cX12_about 85 = .ok (.getfield 308, 3) := by decide +kernel
theorem dX12_about_88 : decode cX12_about 88 = .ok (.iaload, 1) := by decide +kernel
theorem dX12_about_89 : decode cX12_about 89 = .ok (.ireturn, 1) := by decide +kernel
theorem dX12_about_90 : decode cX12_about 90 = .ok (.aload_n 0, 1) := by decide +kernel
theorem dX12_about_91 : decode cX12_about 91 = .ok (.getfield 24, 3) := by decide +kernel
theorem dX12_about_94 : decode cX12_about 94 = .ok (.aload_n 0, 1) := by decide +kernel
theorem dX12_about_95 : decode cX12_about 95 = .ok (.getfield 308, 3) := by decide +kernel
theorem dX12_about_98 : decode cX12_about 98 = .ok (.iaload, 1) := by decide +kernel
theorem dX12_about_99 : decode cX12_about 99 = .ok (.ireturn, 1) := by decide +kernel
theorem dX12_about_100 : decode cX12_about 100 = .ok (.aload_n 0, 1) := by decide +kernel
theorem dX12_about_101 : decode cX12_about 101 = .ok (.getfield 27, 3) := by decide +kernel
theorem dX12_about_104 : decode cX12_about 104 = .ok (.aload_n 0, 1) := by decide +kernel
theorem dX12_about_105 : decode cX12_about 105 = .ok (.getfield 308, 3) := by decide +kernel
theorem dX12_about_108 : decode cX12_about 108 = .ok (.iaload, 1) := by decide +kernel
theorem dX12_about_109 : decode cX12_about 109 = .ok (.ireturn, 1) := by decide +kernel
theorem dX12_about_110 : decode cX12_about 110 = .ok (.aload_n 0, 1) := by decide +kernel
theorem dX12_about_111 : decode cX12_about 111 = .ok (.getfield 119, 3) := by decide +kernel
theorem dX12_about_114 : decode cX12_about 114 = .ok (.bipush 70, 2) := by decide +kernel
theorem dX12_about_116 : decode cX12_about 116 = .ok (.iaload, 1) := by decide +kernel
theorem dX12_about_117 : decode cX12_about 117 = .ok (.ireturn, 1) := by decide +kernel
theorem dX12_about_118 : decode cX12_about 118 = .ok (.aload_n 0, 1) := by decide +kernel
theorem dX12_about_119 : decode cX12_about 119 = .ok (.getfield 119, 3) := by decide +kernel
theorem dX12_about_122 : decode cX12_about 122 = .ok (.bipush 72, 2) := by decide +kernel
theorem dX12_about_124 : decode cX12_about 124 = .ok (.iaload, 1) := by decide +kernel
theorem dX12_about_125 : decode cX12_about 125 = .ok (.ireturn, 1) := by decide +kernel
theorem dX12_about_126 : decode cX12_about 126 = .ok (.aload_n 0, 1) := by decide +kernel
theorem dX12_about_127 : decode cX12_about 127 = .ok (.getfield 119, 3) := by decide +kernel
theorem dX12_about_130 : decode cX12_about 130 = .ok (.bipush 73, 2) := by decide +kernel
theorem dX12_about_132 : decode cX12_about 132 = .ok (.iaload, 1) := by decide +kernel
theorem dX12_about_133 : decode cX12_about 133 = .ok (.ireturn, 1) := by decide +kernel
theorem dX12_about_134 : decode cX12_about 134 = .ok (.aload_n 0, 1) := by decide +kernel
theorem dX12_about_135 : decode cX12_about 135 = .ok (.getfield 119, 3) := by decide +kernel
theorem dX12_about_138 : decode cX12_about 138 = .ok (.iconst 0, 1) := by decide +kernel
theorem dX12_about_139 : decode cX12_about 139 = .ok (.iaload, 1) := by decide +kernel
theorem dX12_about_140 : decode cX12_about 140 = .ok (.ireturn, 1) := by decide +kernel
theorem dX12_about_141 : decode cX12_about 141 = .ok (.aload_n 0, 1) := by decide +kernel
theorem dX12_about_142 : decode cX12_about 142 = .ok (.invokevirtual 615, 3) := by decide +kernel
theorem dX12_about_145 : decode cX12_about 145 = .ok (.ireturn, 1) := by decide +kernel
theorem dX12_about_146 : decode cX12_about 146 = .ok (.aload_n 0, 1) := by decide +kernel
theorem dX12_about_147 : decode cX12_about 147 = .ok (.getfield 119, 3) := by decide +kernel
theorem dX12_about_150 : decode cX12_about 150 = .ok (.bipush 71, 2) := by decide +kernel
theorem dX12_about_152 : decode cX12_about 152 = .ok (.iaload, 1) := by decide +kernel
theorem dX12_about_153 : decode cX12_about 153 = .ok (.ireturn, 1) := by decide +kernel
theorem dX12_about_154 : decode cX12_about 154 = .ok (.aload_n 0, 1) := by decide +kernel
theorem dX12_about_155 : decode cX12_about 155 = .ok (.getfield 425, 3) := by decide +kernel
theorem dX12_about_158 : decode cX12_about 158 = .ok (.ireturn, 1) := by decide +kernel
theorem dX12_about_159 : decode cX12_about 159 = .ok (.aload_n 0, 1) := by decide +kernel
theorem dX12_about_160 : decode cX12_about 160 = .ok (.getfield 428, 3) := by decide +kernel
theorem dX12_about_163 : decode cX12_about 163 = .ok (.ireturn, 1) := by decide +kernel
theorem dX12_about_164 : decode cX12_about 164 = .ok (.aload_n 0, 1) := by decide +kernel
theorem dX12_about_165 : decode cX12_about 165 = .ok (.getfield 431, 3) := by decide +kernel
theorem dX12_about_168 : decode cX12_about 168 = .ok (.ireturn, 1) := by decide +kernel
theorem dX12_about_169 : decode cX12_about 169 = .ok (.aload_n 0, 1) := by decide +kernel
theorem dX12_about_170 : decode cX12_about 170 = .ok (.getfield 608, 3) := by decide +kernel
theorem dX12_about_173 : decode cX12_about 173 = .ok (.ireturn, 1) := by decide +kernel
theorem dX12_about_174 : decode cX12_about 174 = .ok (.aload_n 0, 1) := by decide +kernel
theorem dX12_about_175 : decode cX12_about 175 = .ok (.getfield 305, 3) := by decide +kernel
theorem dX12_about_178 : decode cX12_about 178 = .ok (.ireturn, 1) := by decide +kernel
theorem dX12_about_179 : decode cX12_about 179 = .ok (.aload_n 0, 1) := by decide +kernel
theorem dX12_about_180 : decode cX12_about 180 = .ok (.getfield 33, 3) := by decide +kernel
theorem dX12_about_183 : decode cX12_about 183 = .ok (.aload_n 0, 1) := by decide +kernel
theorem dX12_about_184 : decode cX12_about 184 = .ok (.getfield 308, 3) := by decide +kernel
theorem dX12_about_187 : decode cX12_about 187 = .ok (.iaload, 1) := by decide +kernel
theorem dX12_about_188 : decode cX12_about 188 = .ok (.ireturn, 1) := by decide +kernel
theorem dX12_about_189 : decode cX12_about 189 = .ok (.aload_n 0, 1) := by decide +kernel
theorem dX12_about_190 : decode cX12_about 190 = .ok (.getfield 434, 3) := by decide +kernel
theorem dX12_about_193 : decode cX12_about 193 = .ok (.ireturn, 1) := by decide +kernel
theorem dX12_about_194 : decode cX12_about 194 = .ok (.iconst (-1), 1) := by decide +kernel
theorem dX12_about_195 : decode cX12_about 195 = .ok (.ireturn, 1) := by decide +kernel
set_option maxHeartbeats 4000000 in
set_option maxRecDepth 100000 in
theorem c_X12_about (l : Launch) (g : GG) (sz : Nat) (m_ : Nat) (j0 : Nat) (j1 : Nat) (j11 : Nat) (j12 : Nat) (j13 : Nat) (j14 : Nat) (j15 : Nat) (j16 : Nat) (j17 : Nat) (j18 : Nat) (j19 : Nat) (j20 : Nat) (j21 : Nat) (j22 : Nat) (j23 : Nat) (j24 : Nat) (j25 : Nat) (j26 : Nat) (j27 : Nat) (j28 : Nat) (j29 : Nat) (j30 : Nat) (j31 : Nat) (j32 : Nat) (j33 : Nat) (j34 : Nat) (j35 : Nat) (j36 : Nat) (j37 : Nat) (j38 : Nat) (j39 : Nat) (j40 : Nat) (j41 : Nat) (j42 : Nat) (j52 : Nat) (j53 : Nat) (j56 : Nat) (j57 : Nat) (j58 : Nat) (j59 : Nat) (j60 : Nat) (j61 : Nat) (j62 : Nat) (j63 : Nat) (j64 : Nat) (j65 : Nat) (j78 : Nat) (j79 : Nat) (j80 : Nat) (j81 : Nat) (j82 : Nat) (j85 : Nat) (j86 : Nat) (p0 : Int32) : Met l yX12_about (.code yX12_about cX12_about 2 (some .int) :: gT) ({ frames := 1, cells := 0, slots := 0, locals := 22 }) (va_Pc [.ref m_, .int p0] (Pst g sz [(m_, .inr (12, [.ref j0, .ref j1, .int 0, .int 0, .int 0, .int (-1), .int 0, .int 0, .int 0, .int 0, .long 0, .ref j11, .ref j12, .ref j13, .ref j14, .ref j15, .ref j16, .ref j17, .ref j18, .ref j19, .ref j20, .ref j21, .ref j22, .ref j23, .ref j24, .ref j25, .ref j26, .ref j27, .ref j28, .ref j29, .ref j30, .ref j31, .ref j32, .ref j33, .ref j34, .ref j35, .ref j36, .ref j37, .ref j38, .ref j39, .ref j40, .ref j41, .ref j42, .int 0, .int 0, .int 0, .int 0, .int 0, .int 0, .int 0, .int 0, .int 0, .ref j52, .ref j53, .int 0, .int 0, .ref j56, .ref j57, .ref j58, .ref j59, .ref j60, .ref j61, .ref j62, .ref j63, .ref j64, .ref j65, .int 0, .int 0, .int 0, .int 0, .int 0, .int 0, .int 0, .int 0, .int 0, .int 0, .int 0, .int 0, .ref j78, .ref j79, .ref j80, .ref j81, .ref j82, .int 0, .int 0, .ref j85, .ref j86])), (j11, aI g 2 z0), (j12, aI g 2 z0), (j13, aI g 2 z0), (j15, aI g 2 z0), (j52, aI g 374 z0)] nX)) (va_Qi (fun (r : Int32) (_ : Unit) => r = Fz 15 p0) (Qst g [] sz (fun _ => [])) (va_A [] sz)) 0 0 (va_A [] sz) := by
  refine Met.ofW (cc := cX12_about) (maxL := 2) (ret := (some .int)) (by decide) rfl ?_
  intro p e s m args below meth c s₁ B hml hv
  obtain ⟨rfl, hsz, hP, hK, hD0, hX⟩ := hv
  have hx := B.exec
  have hb := B.bytes
  have hr := B.returns
  have hT : ∀ w ∈ gT, w.before _ s = true := fun w h => atoms_spec (ws := .code yX12_about cX12_about 2 (some .int) :: gT) B.pre w (List.mem_cons_of_mem _ h)
  have hown : s.vm.findClass RX12 = some m.cls := findClass_of_methodNamed B.named
  have hlocks := B.notSynchronized
  subst hsz
  have hD := hD0
  generalize hAe : va_A [] s.heap.size = A at ⊢
  have hA : ∀ q : Nat, s.heap.size ≤ q → A q := fun q h => by rw [← hAe]; exact Or.inr h
  have hS : va_S A s.heap s.heap [] := va_S.rf
  have hl := lv_entry ([.ref m_, .int p0]) (n := 2) (Nat.le_of_ble_eq_true rfl)
  rw [lg_entry_eq]
  generalize (lg_sl ([.ref m_, .int p0]) ++ List.replicate (2 - (lg_sl ([.ref m_, .int p0])).length) Slot.unset).toArray = ls at hl ⊢
  have hl : lv_has ls 2 [(0, .ref m_), (1, .int p0)] := hl
  refine p_nH (fun H hH => ?_)
  have hP : va_P g.1 vwCl [(m_, .inr (12, [.ref j0, .ref j1, .int 0, .int 0, .int 0, .int (-1), .int 0, .int 0, .int 0, .int 0, .long 0, .ref j11, .ref j12, .ref j13, .ref j14, .ref j15, .ref j16, .ref j17, .ref j18, .ref j19, .ref j20, .ref j21, .ref j22, .ref j23, .ref j24, .ref j25, .ref j26, .ref j27, .ref j28, .ref j29, .ref j30, .ref j31, .ref j32, .ref j33, .ref j34, .ref j35, .ref j36, .ref j37, .ref j38, .ref j39, .ref j40, .ref j41, .ref j42, .int 0, .int 0, .int 0, .int 0, .int 0, .int 0, .int 0, .int 0, .int 0, .ref j52, .ref j53, .int 0, .int 0, .ref j56, .ref j57, .ref j58, .ref j59, .ref j60, .ref j61, .ref j62, .ref j63, .ref j64, .ref j65, .int 0, .int 0, .int 0, .int 0, .int 0, .int 0, .int 0, .int 0, .int 0, .int 0, .int 0, .int 0, .ref j78, .ref j79, .ref j80, .ref j81, .ref j82, .int 0, .int 0, .ref j85, .ref j86])), (j11, aI g 2 z0), (j12, aI g 2 z0), (j13, aI g 2 z0), (j15, aI g 2 z0), (j52, aI g 374 z0)] H := by rw [hH]; exact hP
  have hS : va_S A s.heap H [] := by rw [hH]; exact hS
  refine lv_iload_n hx hb dX12_about_0 rfl (lv_at hl 1 rfl) ?_
  rcases tsplit p0 16 (by decide) with h_1 | ⟨j, hj, eh_1⟩
  · refine lv_tableOut (tgt := 194) hx hb dX12_about_1 (by omega) (by decide) ?_
    refine lv_iconst (v := (-1)) hx hb dX12_about_194 (by decide) ?_
    have hP9 : va_P g.1 vwCl [] H := hP.sub [] rfl
    have hD9 : va_D A [] := ⟨fun i j p q h => by simp at h, fun k q h => by simp at h⟩
    exact W.iret (v := (-1)) hx hb hr (fun t ht hW => ⟨⟨(-1), (), rfl, (by rw [Fz, if_neg (by have e0 : (0 : Int32).toInt = 0 := (by decide); have e1 : (15 : Int32).toInt = 15 := (by decide); simp only [Int32.lt_iff_toInt_lt, Int32.le_iff_toInt_le, ← Int32.toInt_inj, e0, e1] at h_1 ⊢; omega)]), by rw [ht]; exact hP9, by rw [hAe]; exact hD9⟩, hS.F ht⟩) hS.2.2 dX12_about_195
  · rcases (show j = 0 ∨ j = 1 ∨ j = 2 ∨ j = 3 ∨ j = 4 ∨ j = 5 ∨ j = 6 ∨ j = 7 ∨ j = 8 ∨ j = 9 ∨ j = 10 ∨ j = 11 ∨ j = 12 ∨ j = 13 ∨ j = 14 ∨ j = 15 by omega) with rfl | rfl | rfl | rfl | rfl | rfl | rfl | rfl | rfl | rfl | rfl | rfl | rfl | rfl | rfl | rfl
    · obtain rfl : p0 = 0 := eh_1
      refine lv_tableIn (tgt := 80) hx hb dX12_about_1 (by decide) (by decide) (off := 79) (by decide) (by decide) ?_
      refine lv_aload_n hx hb dX12_about_80 rfl (lv_at hl 0 rfl) ?_
      refine va_get (D := g.1) (ci := 12) (v := .ref j11) (C := RX12) (T := TX12) (N := 87) hx hb hT inF_X12 hown hK.1 hP 0 rfl rfl 11 (by decide) (hT _ bw_220) (fun _ h9 => h9) rfl dX12_about_81 ?_
      refine lv_aload_n hx hb dX12_about_84 rfl (lv_at hl 0 rfl) ?_
      refine va_get (D := g.1) (ci := 12) (v := .int 0) (C := RX12) (T := TX12) (N := 87) hx hb hT inF_X12 hown hK.1 hP 0 rfl rfl 43 (by decide) (hT _ bw_221) (fun _ h9 => h9) rfl dX12_about_85 ?_
      refine va_iald hx hb hK.1 hP 1 1 rfl rfl (i := 0) (by unfold vp_in; decide) dX12_about_88 ?_
      refine p_ti (v := 0) (rfl) ?_
      have hP9 : va_P g.1 vwCl [] H := hP.sub [] rfl
      have hD9 : va_D A [] := ⟨fun i j p q h => by simp at h, fun k q h => by simp at h⟩
      exact W.iret (v := 0) hx hb hr (fun t ht hW => ⟨⟨0, (), rfl, by decide, by rw [ht]; exact hP9, by rw [hAe]; exact hD9⟩, hS.F ht⟩) hS.2.2 dX12_about_89
    · obtain rfl : p0 = 1 := eh_1
      refine lv_tableIn (tgt := 90) hx hb dX12_about_1 (by decide) (by decide) (off := 89) (by decide) (by decide) ?_
      refine lv_aload_n hx hb dX12_about_90 rfl (lv_at hl 0 rfl) ?_
      refine va_get (D := g.1) (ci := 12) (v := .ref j12) (C := RX12) (T := TX12) (N := 87) hx hb hT inF_X12 hown hK.1 hP 0 rfl rfl 12 (by decide) (hT _ bw_289) (fun _ h9 => h9) rfl dX12_about_91 ?_
      refine lv_aload_n hx hb dX12_about_94 rfl (lv_at hl 0 rfl) ?_
      refine va_get (D := g.1) (ci := 12) (v := .int 0) (C := RX12) (T := TX12) (N := 87) hx hb hT inF_X12 hown hK.1 hP 0 rfl rfl 43 (by decide) (hT _ bw_221) (fun _ h9 => h9) rfl dX12_about_95 ?_
      refine va_iald hx hb hK.1 hP 2 1 rfl rfl (i := 0) (by unfold vp_in; decide) dX12_about_98 ?_
      refine p_ti (v := 0) (rfl) ?_
      have hP9 : va_P g.1 vwCl [] H := hP.sub [] rfl
      have hD9 : va_D A [] := ⟨fun i j p q h => by simp at h, fun k q h => by simp at h⟩
      exact W.iret (v := 0) hx hb hr (fun t ht hW => ⟨⟨0, (), rfl, by decide, by rw [ht]; exact hP9, by rw [hAe]; exact hD9⟩, hS.F ht⟩) hS.2.2 dX12_about_99
    · obtain rfl : p0 = 2 := eh_1
      refine lv_tableIn (tgt := 100) hx hb dX12_about_1 (by decide) (by decide) (off := 99) (by decide) (by decide) ?_
      refine lv_aload_n hx hb dX12_about_100 rfl (lv_at hl 0 rfl) ?_
      refine va_get (D := g.1) (ci := 12) (v := .ref j13) (C := RX12) (T := TX12) (N := 87) hx hb hT inF_X12 hown hK.1 hP 0 rfl rfl 13 (by decide) (hT _ bw_226) (fun _ h9 => h9) rfl dX12_about_101 ?_
      refine lv_aload_n hx hb dX12_about_104 rfl (lv_at hl 0 rfl) ?_
      refine va_get (D := g.1) (ci := 12) (v := .int 0) (C := RX12) (T := TX12) (N := 87) hx hb hT inF_X12 hown hK.1 hP 0 rfl rfl 43 (by decide) (hT _ bw_221) (fun _ h9 => h9) rfl dX12_about_105 ?_
      refine va_iald hx hb hK.1 hP 3 1 rfl rfl (i := 0) (by unfold vp_in; decide) dX12_about_108 ?_
      refine p_ti (v := 0) (rfl) ?_
      have hP9 : va_P g.1 vwCl [] H := hP.sub [] rfl
      have hD9 : va_D A [] := ⟨fun i j p q h => by simp at h, fun k q h => by simp at h⟩
      exact W.iret (v := 0) hx hb hr (fun t ht hW => ⟨⟨0, (), rfl, by decide, by rw [ht]; exact hP9, by rw [hAe]; exact hD9⟩, hS.F ht⟩) hS.2.2 dX12_about_109
    · obtain rfl : p0 = 3 := eh_1
      refine lv_tableIn (tgt := 110) hx hb dX12_about_1 (by decide) (by decide) (off := 109) (by decide) (by decide) ?_
      refine lv_aload_n hx hb dX12_about_110 rfl (lv_at hl 0 rfl) ?_
      refine va_get (D := g.1) (ci := 12) (v := .ref j52) (C := RX12) (T := TX12) (N := 87) hx hb hT inF_X12 hown hK.1 hP 0 rfl rfl 52 (by decide) (hT _ bw_228) (fun _ h9 => h9) rfl dX12_about_111 ?_
      refine lv_bipush (v := 70) hx hb dX12_about_114 (by decide) ?_
      refine va_iald hx hb hK.1 hP 5 1 rfl rfl (i := 70) (by unfold vp_in; decide) dX12_about_116 ?_
      refine p_ti (v := 0) (rfl) ?_
      have hP9 : va_P g.1 vwCl [] H := hP.sub [] rfl
      have hD9 : va_D A [] := ⟨fun i j p q h => by simp at h, fun k q h => by simp at h⟩
      exact W.iret (v := 0) hx hb hr (fun t ht hW => ⟨⟨0, (), rfl, by decide, by rw [ht]; exact hP9, by rw [hAe]; exact hD9⟩, hS.F ht⟩) hS.2.2 dX12_about_117
    · obtain rfl : p0 = 4 := eh_1
      refine lv_tableIn (tgt := 118) hx hb dX12_about_1 (by decide) (by decide) (off := 117) (by decide) (by decide) ?_
      refine lv_aload_n hx hb dX12_about_118 rfl (lv_at hl 0 rfl) ?_
      refine va_get (D := g.1) (ci := 12) (v := .ref j52) (C := RX12) (T := TX12) (N := 87) hx hb hT inF_X12 hown hK.1 hP 0 rfl rfl 52 (by decide) (hT _ bw_228) (fun _ h9 => h9) rfl dX12_about_119 ?_
      refine lv_bipush (v := 72) hx hb dX12_about_122 (by decide) ?_
      refine va_iald hx hb hK.1 hP 5 1 rfl rfl (i := 72) (by unfold vp_in; decide) dX12_about_124 ?_
      refine p_ti (v := 0) (rfl) ?_
      have hP9 : va_P g.1 vwCl [] H := hP.sub [] rfl
      have hD9 : va_D A [] := ⟨fun i j p q h => by simp at h, fun k q h => by simp at h⟩
      exact W.iret (v := 0) hx hb hr (fun t ht hW => ⟨⟨0, (), rfl, by decide, by rw [ht]; exact hP9, by rw [hAe]; exact hD9⟩, hS.F ht⟩) hS.2.2 dX12_about_125
    · obtain rfl : p0 = 5 := eh_1
      refine lv_tableIn (tgt := 126) hx hb dX12_about_1 (by decide) (by decide) (off := 125) (by decide) (by decide) ?_
      refine lv_aload_n hx hb dX12_about_126 rfl (lv_at hl 0 rfl) ?_
      refine va_get (D := g.1) (ci := 12) (v := .ref j52) (C := RX12) (T := TX12) (N := 87) hx hb hT inF_X12 hown hK.1 hP 0 rfl rfl 52 (by decide) (hT _ bw_228) (fun _ h9 => h9) rfl dX12_about_127 ?_
      refine lv_bipush (v := 73) hx hb dX12_about_130 (by decide) ?_
      refine va_iald hx hb hK.1 hP 5 1 rfl rfl (i := 73) (by unfold vp_in; decide) dX12_about_132 ?_
      refine p_ti (v := 0) (rfl) ?_
      have hP9 : va_P g.1 vwCl [] H := hP.sub [] rfl
      have hD9 : va_D A [] := ⟨fun i j p q h => by simp at h, fun k q h => by simp at h⟩
      exact W.iret (v := 0) hx hb hr (fun t ht hW => ⟨⟨0, (), rfl, by decide, by rw [ht]; exact hP9, by rw [hAe]; exact hD9⟩, hS.F ht⟩) hS.2.2 dX12_about_133
    · obtain rfl : p0 = 6 := eh_1
      refine lv_tableIn (tgt := 134) hx hb dX12_about_1 (by decide) (by decide) (off := 133) (by decide) (by decide) ?_
      refine lv_aload_n hx hb dX12_about_134 rfl (lv_at hl 0 rfl) ?_
      refine va_get (D := g.1) (ci := 12) (v := .ref j52) (C := RX12) (T := TX12) (N := 87) hx hb hT inF_X12 hown hK.1 hP 0 rfl rfl 52 (by decide) (hT _ bw_228) (fun _ h9 => h9) rfl dX12_about_135 ?_
      refine lv_iconst (v := 0) hx hb dX12_about_138 (by decide) ?_
      refine va_iald hx hb hK.1 hP 5 1 rfl rfl (i := 0) (by unfold vp_in; decide) dX12_about_139 ?_
      refine p_ti (v := 0) (rfl) ?_
      have hP9 : va_P g.1 vwCl [] H := hP.sub [] rfl
      have hD9 : va_D A [] := ⟨fun i j p q h => by simp at h, fun k q h => by simp at h⟩
      exact W.iret (v := 0) hx hb hr (fun t ht hW => ⟨⟨0, (), rfl, by decide, by rw [ht]; exact hP9, by rw [hAe]; exact hD9⟩, hS.F ht⟩) hS.2.2 dX12_about_140
    · obtain rfl : p0 = 7 := eh_1
      refine lv_tableIn (tgt := 141) hx hb dX12_about_1 (by decide) (by decide) (off := 140) (by decide) (by decide) ?_
      refine lv_aload_n hx hb dX12_about_141 rfl (lv_at hl 0 rfl) ?_
      refine k_iR (k_V (n := 0) ⟨hx, hb, hml, hown, hT⟩ hK hP hD [0, 5] rfl (by decide) (c_X12_openMany l g H.size m_ j0 j1 j11 j12 j13 j14 j15 j16 j17 j18 j19 j20 j21 j22 j23 j24 j25 j26 j27 j28 j29 j30 j31 j32 j33 j34 j35 j36 j37 j38 j39 j40 j41 j42 j52 j53 j56 j57 j58 j59 j60 j61 j62 j63 j64 j65 j78 j79 j80 j81 j82 j85 j86) (gV bw_290 bw_291 bw_292 bw_233 bw_236) rfl rfl (by decide +kernel) ⟨by decide, by decide⟩ (ci := 12) (q0 := 0) rfl rfl (fun _ _ _ _ _ => trivial) (fun _ _ _ => trivial) rfl rfl hl.1 (Nat.le_of_ble_eq_true rfl) dX12_about_142 ⟨by decide, by decide⟩) hP hS hA (fun r_2 _ H locs hw hP hS => ?_)
      have hw : r_2 = 0 := hw
      subst hw
      have hP9 : va_P g.1 vwCl [] H := hP.sub [] rfl
      have hD9 : va_D A [] := ⟨fun i j p q h => by simp at h, fun k q h => by simp at h⟩
      exact W.iret (v := 0) hx hb hr (fun t ht hW => ⟨⟨0, (), rfl, by decide, by rw [ht]; exact hP9, by rw [hAe]; exact hD9⟩, hS.F ht⟩) hS.2.2 dX12_about_145
    · obtain rfl : p0 = 8 := eh_1
      refine lv_tableIn (tgt := 146) hx hb dX12_about_1 (by decide) (by decide) (off := 145) (by decide) (by decide) ?_
      refine lv_aload_n hx hb dX12_about_146 rfl (lv_at hl 0 rfl) ?_
      refine va_get (D := g.1) (ci := 12) (v := .ref j52) (C := RX12) (T := TX12) (N := 87) hx hb hT inF_X12 hown hK.1 hP 0 rfl rfl 52 (by decide) (hT _ bw_228) (fun _ h9 => h9) rfl dX12_about_147 ?_
      refine lv_bipush (v := 71) hx hb dX12_about_150 (by decide) ?_
      refine va_iald hx hb hK.1 hP 5 1 rfl rfl (i := 71) (by unfold vp_in; decide) dX12_about_152 ?_
      refine p_ti (v := 0) (rfl) ?_
      have hP9 : va_P g.1 vwCl [] H := hP.sub [] rfl
      have hD9 : va_D A [] := ⟨fun i j p q h => by simp at h, fun k q h => by simp at h⟩
      exact W.iret (v := 0) hx hb hr (fun t ht hW => ⟨⟨0, (), rfl, by decide, by rw [ht]; exact hP9, by rw [hAe]; exact hD9⟩, hS.F ht⟩) hS.2.2 dX12_about_153
    · obtain rfl : p0 = 9 := eh_1
      refine lv_tableIn (tgt := 154) hx hb dX12_about_1 (by decide) (by decide) (off := 153) (by decide) (by decide) ?_
      refine lv_aload_n hx hb dX12_about_154 rfl (lv_at hl 0 rfl) ?_
      refine va_get (D := g.1) (ci := 12) (v := .int 0) (C := RX12) (T := TX12) (N := 87) hx hb hT inF_X12 hown hK.1 hP 0 rfl rfl 54 (by decide) (hT _ bw_258) (fun _ h9 => h9) rfl dX12_about_155 ?_
      have hP9 : va_P g.1 vwCl [] H := hP.sub [] rfl
      have hD9 : va_D A [] := ⟨fun i j p q h => by simp at h, fun k q h => by simp at h⟩
      exact W.iret (v := 0) hx hb hr (fun t ht hW => ⟨⟨0, (), rfl, by decide, by rw [ht]; exact hP9, by rw [hAe]; exact hD9⟩, hS.F ht⟩) hS.2.2 dX12_about_158
    · obtain rfl : p0 = 10 := eh_1
      refine lv_tableIn (tgt := 159) hx hb dX12_about_1 (by decide) (by decide) (off := 158) (by decide) (by decide) ?_
      refine lv_aload_n hx hb dX12_about_159 rfl (lv_at hl 0 rfl) ?_
      refine va_get (D := g.1) (ci := 12) (v := .int 0) (C := RX12) (T := TX12) (N := 87) hx hb hT inF_X12 hown hK.1 hP 0 rfl rfl 55 (by decide) (hT _ bw_260) (fun _ h9 => h9) rfl dX12_about_160 ?_
      have hP9 : va_P g.1 vwCl [] H := hP.sub [] rfl
      have hD9 : va_D A [] := ⟨fun i j p q h => by simp at h, fun k q h => by simp at h⟩
      exact W.iret (v := 0) hx hb hr (fun t ht hW => ⟨⟨0, (), rfl, by decide, by rw [ht]; exact hP9, by rw [hAe]; exact hD9⟩, hS.F ht⟩) hS.2.2 dX12_about_163
    · obtain rfl : p0 = 11 := eh_1
      refine lv_tableIn (tgt := 164) hx hb dX12_about_1 (by decide) (by decide) (off := 163) (by decide) (by decide) ?_
      refine lv_aload_n hx hb dX12_about_164 rfl (lv_at hl 0 rfl) ?_
      refine va_get (D := g.1) (ci := 12) (v := .int 0) (C := RX12) (T := TX12) (N := 87) hx hb hT inF_X12 hown hK.1 hP 0 rfl rfl 83 (by decide) (hT _ bw_274) (fun _ h9 => h9) rfl dX12_about_165 ?_
      have hP9 : va_P g.1 vwCl [] H := hP.sub [] rfl
      have hD9 : va_D A [] := ⟨fun i j p q h => by simp at h, fun k q h => by simp at h⟩
      exact W.iret (v := 0) hx hb hr (fun t ht hW => ⟨⟨0, (), rfl, by decide, by rw [ht]; exact hP9, by rw [hAe]; exact hD9⟩, hS.F ht⟩) hS.2.2 dX12_about_168
    · obtain rfl : p0 = 12 := eh_1
      refine lv_tableIn (tgt := 169) hx hb dX12_about_1 (by decide) (by decide) (off := 168) (by decide) (by decide) ?_
      refine lv_aload_n hx hb dX12_about_169 rfl (lv_at hl 0 rfl) ?_
      refine va_get (D := g.1) (ci := 12) (v := .int 0) (C := RX12) (T := TX12) (N := 87) hx hb hT inF_X12 hown hK.1 hP 0 rfl rfl 84 (by decide) (hT _ bw_286) (fun _ h9 => h9) rfl dX12_about_170 ?_
      have hP9 : va_P g.1 vwCl [] H := hP.sub [] rfl
      have hD9 : va_D A [] := ⟨fun i j p q h => by simp at h, fun k q h => by simp at h⟩
      exact W.iret (v := 0) hx hb hr (fun t ht hW => ⟨⟨0, (), rfl, by decide, by rw [ht]; exact hP9, by rw [hAe]; exact hD9⟩, hS.F ht⟩) hS.2.2 dX12_about_173
    · obtain rfl : p0 = 13 := eh_1
      refine lv_tableIn (tgt := 174) hx hb dX12_about_1 (by decide) (by decide) (off := 173) (by decide) (by decide) ?_
      refine lv_aload_n hx hb dX12_about_174 rfl (lv_at hl 0 rfl) ?_
      refine va_get (D := g.1) (ci := 12) (v := .int 0) (C := RX12) (T := TX12) (N := 87) hx hb hT inF_X12 hown hK.1 hP 0 rfl rfl 2 (by decide) (hT _ bw_282) (fun _ h9 => h9) rfl dX12_about_175 ?_
      have hP9 : va_P g.1 vwCl [] H := hP.sub [] rfl
      have hD9 : va_D A [] := ⟨fun i j p q h => by simp at h, fun k q h => by simp at h⟩
      exact W.iret (v := 0) hx hb hr (fun t ht hW => ⟨⟨0, (), rfl, by decide, by rw [ht]; exact hP9, by rw [hAe]; exact hD9⟩, hS.F ht⟩) hS.2.2 dX12_about_178
    · obtain rfl : p0 = 14 := eh_1
      refine lv_tableIn (tgt := 179) hx hb dX12_about_1 (by decide) (by decide) (off := 178) (by decide) (by decide) ?_
      refine lv_aload_n hx hb dX12_about_179 rfl (lv_at hl 0 rfl) ?_
      refine va_get (D := g.1) (ci := 12) (v := .ref j15) (C := RX12) (T := TX12) (N := 87) hx hb hT inF_X12 hown hK.1 hP 0 rfl rfl 15 (by decide) (hT _ bw_293) (fun _ h9 => h9) rfl dX12_about_180 ?_
      refine lv_aload_n hx hb dX12_about_183 rfl (lv_at hl 0 rfl) ?_
      refine va_get (D := g.1) (ci := 12) (v := .int 0) (C := RX12) (T := TX12) (N := 87) hx hb hT inF_X12 hown hK.1 hP 0 rfl rfl 43 (by decide) (hT _ bw_221) (fun _ h9 => h9) rfl dX12_about_184 ?_
      refine va_iald hx hb hK.1 hP 4 1 rfl rfl (i := 0) (by unfold vp_in; decide) dX12_about_187 ?_
      refine p_ti (v := 0) (rfl) ?_
      have hP9 : va_P g.1 vwCl [] H := hP.sub [] rfl
      have hD9 : va_D A [] := ⟨fun i j p q h => by simp at h, fun k q h => by simp at h⟩
      exact W.iret (v := 0) hx hb hr (fun t ht hW => ⟨⟨0, (), rfl, by decide, by rw [ht]; exact hP9, by rw [hAe]; exact hD9⟩, hS.F ht⟩) hS.2.2 dX12_about_188
    · obtain rfl : p0 = 15 := eh_1
      refine lv_tableIn (tgt := 189) hx hb dX12_about_1 (by decide) (by decide) (off := 188) (by decide) (by decide) ?_
      refine lv_aload_n hx hb dX12_about_189 rfl (lv_at hl 0 rfl) ?_
      refine va_get (D := g.1) (ci := 12) (v := .int 0) (C := RX12) (T := TX12) (N := 87) hx hb hT inF_X12 hown hK.1 hP 0 rfl rfl 77 (by decide) (hT _ bw_269) (fun _ h9 => h9) rfl dX12_about_190 ?_
      have hP9 : va_P g.1 vwCl [] H := hP.sub [] rfl
      have hD9 : va_D A [] := ⟨fun i j p q h => by simp at h, fun k q h => by simp at h⟩
      exact W.iret (v := 0) hx hb hr (fun t ht hW => ⟨⟨0, (), rfl, by decide, by rw [ht]; exact hP9, by rw [hAe]; exact hD9⟩, hS.F ht⟩) hS.2.2 dX12_about_193
