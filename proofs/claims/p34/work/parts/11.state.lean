theorem bw_22 : Cond.code yX11_barringUses cX11_barringUses 3 (some .int) ∈ gT := gT_tb 810 (by decide +kernel) (by decide +kernel)
theorem dX11_barringUses_0 : decode cX11_barringUses 0 = .ok (.iload_n 0, 1) := by decide +kernel
theorem dX11_barringUses_1 : decode cX11_barringUses 1 = .ok (.iconst 1, 1) := by decide +kernel
theorem dX11_barringUses_2 : decode cX11_barringUses 2 = .ok (.if_icmp .ne 12, 3) := by decide +kernel
theorem dX11_barringUses_5 : decode cX11_barringUses 5 = .ok (.iconst 1, 1) := by decide +kernel
theorem dX11_barringUses_6 : decode cX11_barringUses 6 = .ok (.iload_n 1, 1) := by decide +kernel
theorem dX11_barringUses_7 : decode cX11_barringUses 7 = .ok (.bipush 8, 2) := by decide +kernel
theorem dX11_barringUses_9 : decode cX11_barringUses 9 = .ok (.imul, 1) := by decide +kernel
theorem dX11_barringUses_10 : decode cX11_barringUses 10 = .ok (.iload_n 2, 1) := by decide +kernel
theorem dX11_barringUses_11 : decode cX11_barringUses 11 = .ok (.iadd, 1) := by decide +kernel
theorem dX11_barringUses_12 : decode cX11_barringUses 12 = .ok (.ishl, 1) := by decide +kernel
theorem dX11_barringUses_13 : decode cX11_barringUses 13 = .ok (.ireturn, 1) := by decide +kernel
theorem dX11_barringUses_14 : decode cX11_barringUses 14 = .ok (.iconst 1, 1) := by decide +kernel
theorem dX11_barringUses_15 : decode cX11_barringUses 15 = .ok (.iload_n 2, 1) := by decide +kernel
theorem dX11_barringUses_16 : decode cX11_barringUses 16 = .ok (.ishl, 1) := by decide +kernel
theorem dX11_barringUses_17 : decode cX11_barringUses 17 = .ok (.iconst 1, 1) := by decide +kernel
theorem dX11_barringUses_18 : decode cX11_barringUses 18 = .ok (.bipush 8, 2) := by decide +kernel
theorem dX11_barringUses_20 : decode cX11_barringUses 20 = .ok (.iload_n 2, 1) := by decide +kernel
theorem dX11_barringUses_21 : decode cX11_barringUses 21 = .ok (.iadd, 1) := by decide +kernel
theorem dX11_barringUses_22 : decode cX11_barringUses 22 = .ok (.ishl, 1) := by decide +kernel
theorem dX11_barringUses_23 : decode cX11_barringUses 23 = .ok (.ior, 1) := by decide +kernel
theorem dX11_barringUses_24 : decode cX11_barringUses 24 = .ok (.ireturn, 1) := by decide +kernel
set_option maxHeartbeats 4000000 in
set_option maxRecDepth 100000 in
theorem s_X11_barringUses (l : Launch) (g : GG) (sz : Nat) (p0 : Int32) (p1 : Int32) (p2 : Int32) : Met l yX11_barringUses (.code yX11_barringUses cX11_barringUses 3 (some .int) :: gT) ({ frames := 0, cells := 0, slots := 0, locals := 0 }) (va_Pc [.int p0, .int p1, .int p2] (Pst g sz [] nX)) (va_Qi (fun (r : Int32) => fun (_ : Unit) => True) (Qst g [] sz (fun _ => [])) (va_A [] sz)) 0 0 (va_A [] sz) := by
  refine Met.ofW (cc := cX11_barringUses) (maxL := 3) (ret := (some .int)) (by decide) rfl ?_
  intro p e s m args below meth c s₁ B hml hv
  obtain ⟨rfl, hsz, hP, hK, hD0, hX⟩ := hv
  have hx := B.exec
  have hb := B.bytes
  have hr := B.returns
  have hT : ∀ w ∈ gT, w.before _ s = true := fun w h => atoms_spec (ws := .code yX11_barringUses cX11_barringUses 3 (some .int) :: gT) B.pre w (List.mem_cons_of_mem _ h)
  have hown : s.vm.findClass RX11 = some m.cls := findClass_of_methodNamed B.named
  have hlocks := B.notSynchronized
  subst hsz
  have hD := hD0
  generalize hAe : va_A [] s.heap.size = A at ⊢
  have hA : ∀ q : Nat, s.heap.size ≤ q → A q := fun q h => by rw [← hAe]; exact Or.inr h
  have hS : va_S A s.heap s.heap [] := va_S.rf
  have hl := lv_entry ([.int p0, .int p1, .int p2]) (n := 3) (Nat.le_of_ble_eq_true rfl)
  rw [lg_entry_eq]
  generalize (lg_sl ([.int p0, .int p1, .int p2]) ++ List.replicate (3 - (lg_sl ([.int p0, .int p1, .int p2])).length) Slot.unset).toArray = ls at hl ⊢
  have hl : lv_has ls 3 [(0, .int p0), (1, .int p1), (2, .int p2)] := hl
  refine p_nH (fun H hH => ?_)
  have hP : va_P g.1 vwCl [] H := by rw [hH]; exact hP
  have hS : va_S A s.heap H [] := by rw [hH]; exact hS
  refine lv_iload_n hx hb dX11_barringUses_0 rfl (lv_at hl 0 rfl) ?_
  refine lv_iconst (v := 1) hx hb dX11_barringUses_1 (by decide) ?_
  refine lv_icmp_ne (tgt := 14) hx hb dX11_barringUses_2 (by decide) (fun c_1 => ?_) (fun c_1 => ?_)
  · have f_2 := E_ne (rfl : p0.toInt = _) (by decide : (1 : Int32).toInt = 1) c_1
    refine lv_iconst (v := 1) hx hb dX11_barringUses_14 (by decide) ?_
    refine lv_iload_n hx hb dX11_barringUses_15 rfl (lv_at hl 2 rfl) ?_
    refine lv_ishl hx hb dX11_barringUses_16 ?_
    refine lv_topi (fun x_3 ex_3 => ?_)
    refine lv_iconst (v := 1) hx hb dX11_barringUses_17 (by decide) ?_
    refine lv_bipush (v := 8) hx hb dX11_barringUses_18 (by decide) ?_
    refine lv_iload_n hx hb dX11_barringUses_20 rfl (lv_at hl 2 rfl) ?_
    refine lv_iadd hx hb dX11_barringUses_21 ?_
    refine lv_topi (fun x_4 ex_4 => ?_)
    refine lv_ishl hx hb dX11_barringUses_22 ?_
    refine lv_topi (fun x_5 ex_5 => ?_)
    refine lv_ior hx hb dX11_barringUses_23 ?_
    refine lv_topi (fun x_6 ex_6 => ?_)
    have hP9 : va_P g.1 vwCl [] H := hP.sub [] rfl
    have hD9 : va_D A [] := ⟨fun i j p q h => by simp at h, fun k q h => by simp at h⟩
    exact W.iret (v := x_6) hx hb hr (fun t ht hW => ⟨⟨x_6, (), rfl, trivial, by rw [ht]; exact hP9, by rw [hAe]; exact hD9⟩, hS.F ht⟩) hS.2.2 dX11_barringUses_24
  · have f_7 := E_eq (rfl : p0.toInt = _) (by decide : (1 : Int32).toInt = 1) c_1
    refine lv_iconst (v := 1) hx hb dX11_barringUses_5 (by decide) ?_
    refine lv_iload_n hx hb dX11_barringUses_6 rfl (lv_at hl 1 rfl) ?_
    refine lv_bipush (v := 8) hx hb dX11_barringUses_7 (by decide) ?_
    refine lv_imul hx hb dX11_barringUses_9 ?_
    refine lv_topi (fun x_8 ex_8 => ?_)
    refine lv_iload_n hx hb dX11_barringUses_10 rfl (lv_at hl 2 rfl) ?_
    refine lv_iadd hx hb dX11_barringUses_11 ?_
    refine lv_topi (fun x_9 ex_9 => ?_)
    refine lv_ishl hx hb dX11_barringUses_12 ?_
    refine lv_topi (fun x_10 ex_10 => ?_)
    have hP9 : va_P g.1 vwCl [] H := hP.sub [] rfl
    have hD9 : va_D A [] := ⟨fun i j p q h => by simp at h, fun k q h => by simp at h⟩
    exact W.iret (v := x_10) hx hb hr (fun t ht hW => ⟨⟨x_10, (), rfl, trivial, by rw [ht]; exact hP9, by rw [hAe]; exact hD9⟩, hS.F ht⟩) hS.2.2 dX11_barringUses_13

theorem bw_23 : Cond.constant RJ6 265 (1431655765) ∈ gT := gT_tb 870 (by decide +kernel) (by decide +kernel)
theorem bw_24 : Cond.constant RJ6 266 (858993459) ∈ gT := gT_tb 871 (by decide +kernel) (by decide +kernel)
theorem bw_25 : Cond.constant RJ6 267 (252645135) ∈ gT := gT_tb 872 (by decide +kernel) (by decide +kernel)
theorem bw_26 : Cond.code yJ6_bitCount_0f7a4 cJ6_bitCount_0f7a4 1 (some .int) ∈ gT := gT_tb 869 (by decide +kernel) (by decide +kernel)
theorem dJ6_bitCount_0f7a4_0 : decode cJ6_bitCount_0f7a4 0 = .ok (.iload_n 0, 1) := by decide +kernel
theorem dJ6_bitCount_0f7a4_1 : decode cJ6_bitCount_0f7a4 1 = .ok (.iload_n 0, 1) := by decide +kernel
theorem dJ6_bitCount_0f7a4_2 : decode cJ6_bitCount_0f7a4 2 = .ok (.iconst 1, 1) := by decide +kernel
theorem dJ6_bitCount_0f7a4_3 : decode cJ6_bitCount_0f7a4 3 = .ok (.iushr, 1) := by decide +kernel
theorem dJ6_bitCount_0f7a4_4 : decode cJ6_bitCount_0f7a4 4 = .ok (.ldc_w 265, 3) := by decide +kernel
theorem dJ6_bitCount_0f7a4_7 : decode cJ6_bitCount_0f7a4 7 = .ok (.iand, 1) := by decide +kernel
theorem dJ6_bitCount_0f7a4_8 : decode cJ6_bitCount_0f7a4 8 = .ok (.isub, 1) := by decide +kernel
theorem dJ6_bitCount_0f7a4_9 : decode cJ6_bitCount_0f7a4 9 = .ok (.istore_n 0, 1) := by decide +kernel
theorem dJ6_bitCount_0f7a4_10 : decode cJ6_bitCount_0f7a4 10 = .ok (.iload_n 0, 1) := by decide +kernel
theorem dJ6_bitCount_0f7a4_11 : decode cJ6_bitCount_0f7a4 11 = .ok (.ldc_w 266, 3) := by decide +kernel
theorem dJ6_bitCount_0f7a4_14 : decode cJ6_bitCount_0f7a4 14 = .ok (.iand, 1) := by decide +kernel
theorem dJ6_bitCount_0f7a4_15 : decode cJ6_bitCount_0f7a4 15 = .ok (.iload_n 0, 1) := by decide +kernel
theorem dJ6_bitCount_0f7a4_16 : decode cJ6_bitCount_0f7a4 16 = .ok (.iconst 2, 1) := by decide +kernel
theorem dJ6_bitCount_0f7a4_17 : decode cJ6_bitCount_0f7a4 17 = .ok (.iushr, 1) := by decide +kernel
theorem dJ6_bitCount_0f7a4_18 : decode cJ6_bitCount_0f7a4 18 = .ok (.ldc_w 266, 3) := by decide +kernel
theorem dJ6_bitCount_0f7a4_21 : decode cJ6_bitCount_0f7a4 21 = .ok (.iand, 1) := by decide +kernel
theorem dJ6_bitCount_0f7a4_22 : decode cJ6_bitCount_0f7a4 22 = .ok (.iadd, 1) := by decide +kernel
theorem dJ6_bitCount_0f7a4_23 : decode cJ6_bitCount_0f7a4 23 = .ok (.istore_n 0, 1) := by decide +kernel
theorem dJ6_bitCount_0f7a4_24 : decode cJ6_bitCount_0f7a4 24 = .ok (.iload_n 0, 1) := by decide +kernel
theorem dJ6_bitCount_0f7a4_25 : decode cJ6_bitCount_0f7a4 25 = .ok (.iload_n 0, 1) := by decide +kernel
theorem dJ6_bitCount_0f7a4_26 : decode cJ6_bitCount_0f7a4 26 = .ok (.iconst 4, 1) := by decide +kernel
theorem dJ6_bitCount_0f7a4_27 : decode cJ6_bitCount_0f7a4 27 = .ok (.iushr, 1) := by decide +kernel
theorem dJ6_bitCount_0f7a4_28 : decode cJ6_bitCount_0f7a4 28 = .ok (.iadd, 1) := by decide +kernel
theorem dJ6_bitCount_0f7a4_29 : decode cJ6_bitCount_0f7a4 29 = .ok (.ldc_w 267, 3) := by decide +kernel
theorem dJ6_bitCount_0f7a4_32 : decode cJ6_bitCount_0f7a4 32 = .ok (.iand, 1) := by decide +kernel
theorem dJ6_bitCount_0f7a4_33 : decode cJ6_bitCount_0f7a4 33 = .ok (.istore_n 0, 1) := by decide +kernel
theorem dJ6_bitCount_0f7a4_34 : decode cJ6_bitCount_0f7a4 34 = .ok (.iload_n 0, 1) := by decide +kernel
theorem dJ6_bitCount_0f7a4_35 : decode cJ6_bitCount_0f7a4 35 = .ok (.iload_n 0, 1) := by decide +kernel
theorem dJ6_bitCount_0f7a4_36 : decode cJ6_bitCount_0f7a4 36 = .ok (.bipush 8, 2) := by decide +kernel
theorem dJ6_bitCount_0f7a4_38 : decode cJ6_bitCount_0f7a4 38 = .ok (.iushr, 1) := by decide +kernel
theorem dJ6_bitCount_0f7a4_39 : decode cJ6_bitCount_0f7a4 39 = .ok (.iadd, 1) := by decide +kernel
theorem dJ6_bitCount_0f7a4_40 : decode cJ6_bitCount_0f7a4 40 = .ok (.istore_n 0, 1) := by decide +kernel
theorem dJ6_bitCount_0f7a4_41 : decode cJ6_bitCount_0f7a4 41 = .ok (.iload_n 0, 1) := by decide +kernel
theorem dJ6_bitCount_0f7a4_42 : decode cJ6_bitCount_0f7a4 42 = .ok (.iload_n 0, 1) := by decide +kernel
theorem dJ6_bitCount_0f7a4_43 : decode cJ6_bitCount_0f7a4 43 = .ok (.bipush 16, 2) := by decide +kernel
theorem dJ6_bitCount_0f7a4_45 : decode cJ6_bitCount_0f7a4 45 = .ok (.iushr, 1) := by decide +kernel
theorem dJ6_bitCount_0f7a4_46 : decode cJ6_bitCount_0f7a4 46 = .ok (.iadd, 1) := by decide +kernel
theorem dJ6_bitCount_0f7a4_47 : decode cJ6_bitCount_0f7a4 47 = .ok (.istore_n 0, 1) := by decide +kernel
theorem dJ6_bitCount_0f7a4_48 : decode cJ6_bitCount_0f7a4 48 = .ok (.iload_n 0, 1) := by decide +kernel
theorem dJ6_bitCount_0f7a4_49 : decode cJ6_bitCount_0f7a4 49 = .ok (.bipush 63, 2) := by decide +kernel
theorem dJ6_bitCount_0f7a4_51 : decode cJ6_bitCount_0f7a4 51 = .ok (.iand, 1) := by decide +kernel
theorem dJ6_bitCount_0f7a4_52 : decode cJ6_bitCount_0f7a4 52 = .ok (.ireturn, 1) := by decide +kernel
set_option maxHeartbeats 4000000 in
set_option maxRecDepth 100000 in
theorem s_J6_bitCount_0f7a4 (l : Launch) (g : GG) (sz : Nat) (p0 : Int32) : Met l yJ6_bitCount_0f7a4 (.code yJ6_bitCount_0f7a4 cJ6_bitCount_0f7a4 1 (some .int) :: gT) ({ frames := 0, cells := 0, slots := 0, locals := 0 }) (va_Pc [.int p0] (Pst g sz [] nX)) (va_Qi (fun (r : Int32) => fun (_ : Unit) => 0 ≤ r.toInt ∧ r.toInt ≤ 63) (Qst g [] sz (fun _ => [])) (va_A [] sz)) 0 0 (va_A [] sz) := by
  refine Met.ofW (cc := cJ6_bitCount_0f7a4) (maxL := 1) (ret := (some .int)) (by decide) rfl ?_
  intro p e s m args below meth c s₁ B hml hv
  obtain ⟨rfl, hsz, hP, hK, hD0, hX⟩ := hv
  have hx := B.exec
  have hb := B.bytes
  have hr := B.returns
  have hT : ∀ w ∈ gT, w.before _ s = true := fun w h => atoms_spec (ws := .code yJ6_bitCount_0f7a4 cJ6_bitCount_0f7a4 1 (some .int) :: gT) B.pre w (List.mem_cons_of_mem _ h)
  have hown : s.vm.findClass RJ6 = some m.cls := findClass_of_methodNamed B.named
  have hlocks := B.notSynchronized
  subst hsz
  have hD := hD0
  generalize hAe : va_A [] s.heap.size = A at ⊢
  have hA : ∀ q : Nat, s.heap.size ≤ q → A q := fun q h => by rw [← hAe]; exact Or.inr h
  have hS : va_S A s.heap s.heap [] := va_S.rf
  have hl := lv_entry ([.int p0]) (n := 1) (Nat.le_of_ble_eq_true rfl)
  rw [lg_entry_eq]
  generalize (lg_sl ([.int p0]) ++ List.replicate (1 - (lg_sl ([.int p0])).length) Slot.unset).toArray = ls at hl ⊢
  have hl : lv_has ls 1 [(0, .int p0)] := hl
  refine p_nH (fun H hH => ?_)
  have hP : va_P g.1 vwCl [] H := by rw [hH]; exact hP
  have hS : va_S A s.heap H [] := by rw [hH]; exact hS
  refine lv_iload_n hx hb dJ6_bitCount_0f7a4_0 rfl (lv_at hl 0 rfl) ?_
  refine lv_iload_n hx hb dJ6_bitCount_0f7a4_1 rfl (lv_at hl 0 rfl) ?_
  refine lv_iconst (v := 1) hx hb dJ6_bitCount_0f7a4_2 (by decide) ?_
  obtain ⟨x_1, ex_1⟩ : ∃ v : Int32, ((p0 : Int32).toUInt32 >>> ((1 : Int32).toUInt32 &&& Int32.toUInt32 31)).toInt32 = v := ⟨_, rfl⟩
  have fx_1 : 0 ≤ x_1.toInt ∧ x_1.toInt < 2147483648 := I_ushr 1 (by decide) (by decide) (by decide) ex_1
  refine lv_iushr (v := x_1) hx hb dJ6_bitCount_0f7a4_3 ex_1 ?_
  refine lv_ldcw (v := 1431655765) hx hb hown (hT _ bw_23) dJ6_bitCount_0f7a4_4 ?_
  refine lv_iand hx hb dJ6_bitCount_0f7a4_7 ?_
  refine lv_topi (fun x_2 ex_2 => ?_)
  have fx_2 : 0 ≤ x_2.toInt ∧ x_2.toInt ≤ 1431655765 := by rw [ex_2]; exact I_and (by decide) (by decide)
  refine lv_isub hx hb dJ6_bitCount_0f7a4_8 ?_
  refine lv_topi (fun x_3 ex_3 => ?_)
  refine lv_istore_n (lv' := [(0, .int x_3)]) hx hb dJ6_bitCount_0f7a4_9 rfl hl (by decide) rfl (fun ls hl => ?_)
  refine lv_iload_n hx hb dJ6_bitCount_0f7a4_10 rfl (lv_at hl 0 rfl) ?_
  refine lv_ldcw (v := 858993459) hx hb hown (hT _ bw_24) dJ6_bitCount_0f7a4_11 ?_
  refine lv_iand hx hb dJ6_bitCount_0f7a4_14 ?_
  refine lv_topi (fun x_4 ex_4 => ?_)
  have fx_4 : 0 ≤ x_4.toInt ∧ x_4.toInt ≤ 858993459 := by rw [ex_4]; exact I_and (by decide) (by decide)
  refine lv_iload_n hx hb dJ6_bitCount_0f7a4_15 rfl (lv_at hl 0 rfl) ?_
  refine lv_iconst (v := 2) hx hb dJ6_bitCount_0f7a4_16 (by decide) ?_
  obtain ⟨x_5, ex_5⟩ : ∃ v : Int32, ((x_3 : Int32).toUInt32 >>> ((2 : Int32).toUInt32 &&& Int32.toUInt32 31)).toInt32 = v := ⟨_, rfl⟩
  have fx_5 : 0 ≤ x_5.toInt ∧ x_5.toInt < 1073741824 := I_ushr 2 (by decide) (by decide) (by decide) ex_5
  refine lv_iushr (v := x_5) hx hb dJ6_bitCount_0f7a4_17 ex_5 ?_
  refine lv_ldcw (v := 858993459) hx hb hown (hT _ bw_24) dJ6_bitCount_0f7a4_18 ?_
  refine lv_iand hx hb dJ6_bitCount_0f7a4_21 ?_
  refine lv_topi (fun x_6 ex_6 => ?_)
  have fx_6 : 0 ≤ x_6.toInt ∧ x_6.toInt ≤ 858993459 := by rw [ex_6]; exact I_and (by decide) (by decide)
  refine lv_iadd hx hb dJ6_bitCount_0f7a4_22 ?_
  refine lv_topi (fun x_7 ex_7 => ?_)
  have fx_7 : x_7.toInt = x_4.toInt + x_6.toInt := by rw [ex_7]; exact I_add rfl rfl (by omega) (by omega)
  refine lv_istore_n (lv' := [(0, .int x_7)]) hx hb dJ6_bitCount_0f7a4_23 rfl hl (by decide) rfl (fun ls hl => ?_)
  refine lv_iload_n hx hb dJ6_bitCount_0f7a4_24 rfl (lv_at hl 0 rfl) ?_
  refine lv_iload_n hx hb dJ6_bitCount_0f7a4_25 rfl (lv_at hl 0 rfl) ?_
  refine lv_iconst (v := 4) hx hb dJ6_bitCount_0f7a4_26 (by decide) ?_
  obtain ⟨x_8, ex_8⟩ : ∃ v : Int32, ((x_7 : Int32).toUInt32 >>> ((4 : Int32).toUInt32 &&& Int32.toUInt32 31)).toInt32 = v := ⟨_, rfl⟩
  have fx_8 : 0 ≤ x_8.toInt ∧ x_8.toInt < 268435456 := I_ushr 4 (by decide) (by decide) (by decide) ex_8
  refine lv_iushr (v := x_8) hx hb dJ6_bitCount_0f7a4_27 ex_8 ?_
  refine lv_iadd hx hb dJ6_bitCount_0f7a4_28 ?_
  refine lv_topi (fun x_9 ex_9 => ?_)
  have fx_9 : x_9.toInt = x_7.toInt + x_8.toInt := by rw [ex_9]; exact I_add rfl rfl (by omega) (by omega)
  refine lv_ldcw (v := 252645135) hx hb hown (hT _ bw_25) dJ6_bitCount_0f7a4_29 ?_
  refine lv_iand hx hb dJ6_bitCount_0f7a4_32 ?_
  refine lv_topi (fun x_10 ex_10 => ?_)
  have fx_10 : 0 ≤ x_10.toInt ∧ x_10.toInt ≤ 252645135 := by rw [ex_10]; exact I_and (by decide) (by decide)
  refine lv_istore_n (lv' := [(0, .int x_10)]) hx hb dJ6_bitCount_0f7a4_33 rfl hl (by decide) rfl (fun ls hl => ?_)
  refine lv_iload_n hx hb dJ6_bitCount_0f7a4_34 rfl (lv_at hl 0 rfl) ?_
  refine lv_iload_n hx hb dJ6_bitCount_0f7a4_35 rfl (lv_at hl 0 rfl) ?_
  refine lv_bipush (v := 8) hx hb dJ6_bitCount_0f7a4_36 (by decide) ?_
  obtain ⟨x_11, ex_11⟩ : ∃ v : Int32, ((x_10 : Int32).toUInt32 >>> ((8 : Int32).toUInt32 &&& Int32.toUInt32 31)).toInt32 = v := ⟨_, rfl⟩
  have fx_11 : 0 ≤ x_11.toInt ∧ x_11.toInt < 16777216 := I_ushr 8 (by decide) (by decide) (by decide) ex_11
  refine lv_iushr (v := x_11) hx hb dJ6_bitCount_0f7a4_38 ex_11 ?_
  refine lv_iadd hx hb dJ6_bitCount_0f7a4_39 ?_
  refine lv_topi (fun x_12 ex_12 => ?_)
  have fx_12 : x_12.toInt = x_10.toInt + x_11.toInt := by rw [ex_12]; exact I_add rfl rfl (by omega) (by omega)
  refine lv_istore_n (lv' := [(0, .int x_12)]) hx hb dJ6_bitCount_0f7a4_40 rfl hl (by decide) rfl (fun ls hl => ?_)
  refine lv_iload_n hx hb dJ6_bitCount_0f7a4_41 rfl (lv_at hl 0 rfl) ?_
  refine lv_iload_n hx hb dJ6_bitCount_0f7a4_42 rfl (lv_at hl 0 rfl) ?_
  refine lv_bipush (v := 16) hx hb dJ6_bitCount_0f7a4_43 (by decide) ?_
  obtain ⟨x_13, ex_13⟩ : ∃ v : Int32, ((x_12 : Int32).toUInt32 >>> ((16 : Int32).toUInt32 &&& Int32.toUInt32 31)).toInt32 = v := ⟨_, rfl⟩
  have fx_13 : 0 ≤ x_13.toInt ∧ x_13.toInt < 65536 := I_ushr 16 (by decide) (by decide) (by decide) ex_13
  refine lv_iushr (v := x_13) hx hb dJ6_bitCount_0f7a4_45 ex_13 ?_
  refine lv_iadd hx hb dJ6_bitCount_0f7a4_46 ?_
  refine lv_topi (fun x_14 ex_14 => ?_)
  have fx_14 : x_14.toInt = x_12.toInt + x_13.toInt := by rw [ex_14]; exact I_add rfl rfl (by omega) (by omega)
  refine lv_istore_n (lv' := [(0, .int x_14)]) hx hb dJ6_bitCount_0f7a4_47 rfl hl (by decide) rfl (fun ls hl => ?_)
  refine lv_iload_n hx hb dJ6_bitCount_0f7a4_48 rfl (lv_at hl 0 rfl) ?_
  refine lv_bipush (v := 63) hx hb dJ6_bitCount_0f7a4_49 (by decide) ?_
  refine lv_iand hx hb dJ6_bitCount_0f7a4_51 ?_
  refine lv_topi (fun x_15 ex_15 => ?_)
  have fx_15 : 0 ≤ x_15.toInt ∧ x_15.toInt ≤ 63 := by rw [ex_15]; exact I_and (by decide) (by decide)
  have hP9 : va_P g.1 vwCl [] H := hP.sub [] rfl
  have hD9 : va_D A [] := ⟨fun i j p q h => by simp at h, fun k q h => by simp at h⟩
  exact W.iret (v := x_15) hx hb hr (fun t ht hW => ⟨⟨x_15, (), rfl, (by first | with_reducible assumption | omega), by rw [ht]; exact hP9, by rw [hAe]; exact hD9⟩, hS.F ht⟩) hS.2.2 dJ6_bitCount_0f7a4_52

set_option maxRecDepth 20000 in
theorem inF_X9 : ∀ w ∈ u_ws RX9 TX9 14, w ∈ gT := gT_u [478, 480, 482, 484, 486, 488, 490, 492, 494, 496, 498, 500, 502, 504] (by decide +kernel) (by decide +kernel)
theorem bw_27 : Cond.fieldLink RX9 54 "DuelDelays$State" "alive" "I" ∈ gT := gT_tb 452 (by decide +kernel) (by decide +kernel)
theorem bw_28 : Cond.code yX9_isAlive cX9_isAlive 2 (some .boolean) ∈ gT := gT_tb 850 (by decide +kernel) (by decide +kernel)
theorem dX9_isAlive_0 : decode cX9_isAlive 0 = .ok (.aload_n 0, 1) := by decide +kernel
theorem dX9_isAlive_1 : decode cX9_isAlive 1 = .ok (.getfield 54, 3) := by decide +kernel
theorem dX9_isAlive_4 : decode cX9_isAlive 4 = .ok (.iload_n 1, 1) := by decide +kernel
theorem dX9_isAlive_5 : decode cX9_isAlive 5 = .ok (.ishr, 1) := by decide +kernel
theorem dX9_isAlive_6 : decode cX9_isAlive 6 = .ok (.iconst 1, 1) := by decide +kernel
theorem dX9_isAlive_7 : decode cX9_isAlive 7 = .ok (.iand, 1) := by decide +kernel
theorem dX9_isAlive_8 : decode cX9_isAlive 8 = .ok (.ifCond .eq 7, 3) := by decide +kernel
theorem dX9_isAlive_11 : decode cX9_isAlive 11 = .ok (.iconst 1, 1) := by decide +kernel
theorem dX9_isAlive_12 : decode cX9_isAlive 12 = .ok (.goto 4, 3) := by decide +kernel
theorem dX9_isAlive_15 : decode cX9_isAlive 15 = .ok (.iconst 0, 1) := by decide +kernel
theorem dX9_isAlive_16 : decode cX9_isAlive 16 = .ok (.ireturn, 1) := by decide +kernel
set_option maxHeartbeats 4000000 in
set_option maxRecDepth 100000 in
theorem s_X9_isAlive (l : Launch) (g : GG) (sz : Nat) (h : Nat) (bday : Int32) (bseed : Int32) (balive : Int32) (bstruck : Int32) (bopen : Int32) (bduels : Int32) (blines : Int32) (bcoins : Nat) (brented : Nat) (bmornings : Nat) (bhonours : Nat) (bused : Nat) (bsides : Nat) (blog : Nat) (p0 : Int32) (hh0 : 0 ≤ bseed.toInt ∧ bseed.toInt ≤ 999) (hh1 : 0 ≤ bduels.toInt ∧ bduels.toInt ≤ 8) (hh2 : 0 ≤ blines.toInt ∧ blines.toInt ≤ 60) : Met l yX9_isAlive (.code yX9_isAlive cX9_isAlive 2 (some .boolean) :: gT) ({ frames := 0, cells := 0, slots := 0, locals := 0 }) (va_Pc [.ref h, .int p0] (Pst g sz [(h, .inr (9, [.int bday, .int bseed, .int balive, .int bstruck, .int bopen, .int bduels, .int blines, .ref bcoins, .ref brented, .ref bmornings, .ref bhonours, .ref bused, .ref bsides, .ref blog]))] nX)) (va_Qi (fun (r : Int32) => fun (_ : Unit) => 0 ≤ r.toInt ∧ r.toInt ≤ 1) (Qst g [] sz (fun _ => [])) (va_A [] sz)) 0 0 (va_A [] sz) := by
  refine Met.ofW (cc := cX9_isAlive) (maxL := 2) (ret := (some .boolean)) (by decide) rfl ?_
  intro p e s m args below meth c s₁ B hml hv
  obtain ⟨rfl, hsz, hP, hK, hD0, hX⟩ := hv
  have hx := B.exec
  have hb := B.bytes
  have hr := B.returns
  have hT : ∀ w ∈ gT, w.before _ s = true := fun w h => atoms_spec (ws := .code yX9_isAlive cX9_isAlive 2 (some .boolean) :: gT) B.pre w (List.mem_cons_of_mem _ h)
  have hown : s.vm.findClass RX9 = some m.cls := findClass_of_methodNamed B.named
  have hlocks := B.notSynchronized
  subst hsz
  have hD := hD0
  generalize hAe : va_A [] s.heap.size = A at ⊢
  have hA : ∀ q : Nat, s.heap.size ≤ q → A q := fun q h => by rw [← hAe]; exact Or.inr h
  have hS : va_S A s.heap s.heap [] := va_S.rf
  have hl := lv_entry ([.ref h, .int p0]) (n := 2) (Nat.le_of_ble_eq_true rfl)
  rw [lg_entry_eq]
  generalize (lg_sl ([.ref h, .int p0]) ++ List.replicate (2 - (lg_sl ([.ref h, .int p0])).length) Slot.unset).toArray = ls at hl ⊢
  have hl : lv_has ls 2 [(0, .ref h), (1, .int p0)] := hl
  refine p_nH (fun H hH => ?_)
  have hP : va_P g.1 vwCl [(h, .inr (9, [.int bday, .int bseed, .int balive, .int bstruck, .int bopen, .int bduels, .int blines, .ref bcoins, .ref brented, .ref bmornings, .ref bhonours, .ref bused, .ref bsides, .ref blog]))] H := by rw [hH]; exact hP
  have hS : va_S A s.heap H [] := by rw [hH]; exact hS
  refine lv_aload_n hx hb dX9_isAlive_0 rfl (lv_at hl 0 rfl) ?_
  refine va_get (D := g.1) (ci := 9) (v := .int balive) (C := RX9) (T := TX9) (N := 14) hx hb hT inF_X9 hown hK.1 hP 0 rfl rfl 2 (by decide) (hT _ bw_27) (fun _ h9 => h9) rfl dX9_isAlive_1 ?_
  refine lv_iload_n hx hb dX9_isAlive_4 rfl (lv_at hl 1 rfl) ?_
  refine lv_ishr hx hb dX9_isAlive_5 ?_
  refine lv_topi (fun x_1 ex_1 => ?_)
  refine lv_iconst (v := 1) hx hb dX9_isAlive_6 (by decide) ?_
  refine lv_iand hx hb dX9_isAlive_7 ?_
  refine lv_topi (fun x_2 ex_2 => ?_)
  have fx_2 : 0 ≤ x_2.toInt ∧ x_2.toInt ≤ 1 := by rw [ex_2]; exact I_and (by decide) (by decide)
  refine lv_if_eq (tgt := 15) hx hb dX9_isAlive_8 (by decide) (fun c_3 => ?_) (fun c_3 => ?_)
  · have f_4 := E_eq (rfl : x_2.toInt = _) (by decide : (0 : Int32).toInt = 0) c_3
    refine lv_iconst (v := 0) hx hb dX9_isAlive_15 (by decide) ?_
    have hP9 : va_P g.1 vwCl [] H := hP.sub [] rfl
    have hD9 : va_D A [] := ⟨fun i j p q h => by simp at h, fun k q h => by simp at h⟩
    exact W.zret (v := 0) (ty := .boolean) hx hb hr rfl (fun t ht hW => ⟨⟨0, (), rfl, ⟨by decide, by decide⟩, by rw [ht]; exact hP9, by rw [hAe]; exact hD9⟩, hS.F ht⟩) hS.2.2 dX9_isAlive_16
  · have f_5 := E_ne (rfl : x_2.toInt = _) (by decide : (0 : Int32).toInt = 0) c_3
    refine lv_iconst (v := 1) hx hb dX9_isAlive_11 (by decide) ?_
    refine lv_goto (tgt := 16) hx hb dX9_isAlive_12 (by decide) ?_
    have hP9 : va_P g.1 vwCl [] H := hP.sub [] rfl
    have hD9 : va_D A [] := ⟨fun i j p q h => by simp at h, fun k q h => by simp at h⟩
    exact W.zret (v := 1) (ty := .boolean) hx hb hr rfl (fun t ht hW => ⟨⟨1, (), rfl, ⟨by decide, by decide⟩, by rw [ht]; exact hP9, by rw [hAe]; exact hD9⟩, hS.F ht⟩) hS.2.2 dX9_isAlive_16

theorem bw_29 : Cond.fieldLink RX9 57 "DuelDelays$State" "struck" "I" ∈ gT := gT_tb 454 (by decide +kernel) (by decide +kernel)
theorem bw_30 : Cond.code yX9_isStruck cX9_isStruck 2 (some .boolean) ∈ gT := gT_tb 889 (by decide +kernel) (by decide +kernel)
theorem dX9_isStruck_0 : decode cX9_isStruck 0 = .ok (.aload_n 0, 1) := by decide +kernel
theorem dX9_isStruck_1 : decode cX9_isStruck 1 = .ok (.getfield 57, 3) := by decide +kernel
theorem dX9_isStruck_4 : decode cX9_isStruck 4 = .ok (.iload_n 1, 1) := by decide +kernel
theorem dX9_isStruck_5 : decode cX9_isStruck 5 = .ok (.ishr, 1) := by decide +kernel
theorem dX9_isStruck_6 : decode cX9_isStruck 6 = .ok (.iconst 1, 1) := by decide +kernel
theorem dX9_isStruck_7 : decode cX9_isStruck 7 = .ok (.iand, 1) := by decide +kernel
theorem dX9_isStruck_8 : decode cX9_isStruck 8 = .ok (.ifCond .eq 7, 3) := by decide +kernel
theorem dX9_isStruck_11 : decode cX9_isStruck 11 = .ok (.iconst 1, 1) := by decide +kernel
theorem dX9_isStruck_12 : decode cX9_isStruck 12 = .ok (.goto 4, 3) := by decide +kernel
theorem dX9_isStruck_15 : decode cX9_isStruck 15 = .ok (.iconst 0, 1) := by decide +kernel
theorem dX9_isStruck_16 : decode cX9_isStruck 16 = .ok (.ireturn, 1) := by decide +kernel
set_option maxHeartbeats 4000000 in
set_option maxRecDepth 100000 in
theorem s_X9_isStruck (l : Launch) (g : GG) (sz : Nat) (h : Nat) (bday : Int32) (bseed : Int32) (balive : Int32) (bstruck : Int32) (bopen : Int32) (bduels : Int32) (blines : Int32) (bcoins : Nat) (brented : Nat) (bmornings : Nat) (bhonours : Nat) (bused : Nat) (bsides : Nat) (blog : Nat) (p0 : Int32) (hh0 : 0 ≤ bseed.toInt ∧ bseed.toInt ≤ 999) (hh1 : 0 ≤ bduels.toInt ∧ bduels.toInt ≤ 8) (hh2 : 0 ≤ blines.toInt ∧ blines.toInt ≤ 60) : Met l yX9_isStruck (.code yX9_isStruck cX9_isStruck 2 (some .boolean) :: gT) ({ frames := 0, cells := 0, slots := 0, locals := 0 }) (va_Pc [.ref h, .int p0] (Pst g sz [(h, .inr (9, [.int bday, .int bseed, .int balive, .int bstruck, .int bopen, .int bduels, .int blines, .ref bcoins, .ref brented, .ref bmornings, .ref bhonours, .ref bused, .ref bsides, .ref blog]))] nX)) (va_Qi (fun (r : Int32) => fun (_ : Unit) => 0 ≤ r.toInt ∧ r.toInt ≤ 1) (Qst g [] sz (fun _ => [])) (va_A [] sz)) 0 0 (va_A [] sz) := by
  refine Met.ofW (cc := cX9_isStruck) (maxL := 2) (ret := (some .boolean)) (by decide) rfl ?_
  intro p e s m args below meth c s₁ B hml hv
  obtain ⟨rfl, hsz, hP, hK, hD0, hX⟩ := hv
  have hx := B.exec
  have hb := B.bytes
  have hr := B.returns
  have hT : ∀ w ∈ gT, w.before _ s = true := fun w h => atoms_spec (ws := .code yX9_isStruck cX9_isStruck 2 (some .boolean) :: gT) B.pre w (List.mem_cons_of_mem _ h)
  have hown : s.vm.findClass RX9 = some m.cls := findClass_of_methodNamed B.named
  have hlocks := B.notSynchronized
  subst hsz
  have hD := hD0
  generalize hAe : va_A [] s.heap.size = A at ⊢
  have hA : ∀ q : Nat, s.heap.size ≤ q → A q := fun q h => by rw [← hAe]; exact Or.inr h
  have hS : va_S A s.heap s.heap [] := va_S.rf
  have hl := lv_entry ([.ref h, .int p0]) (n := 2) (Nat.le_of_ble_eq_true rfl)
  rw [lg_entry_eq]
  generalize (lg_sl ([.ref h, .int p0]) ++ List.replicate (2 - (lg_sl ([.ref h, .int p0])).length) Slot.unset).toArray = ls at hl ⊢
  have hl : lv_has ls 2 [(0, .ref h), (1, .int p0)] := hl
  refine p_nH (fun H hH => ?_)
  have hP : va_P g.1 vwCl [(h, .inr (9, [.int bday, .int bseed, .int balive, .int bstruck, .int bopen, .int bduels, .int blines, .ref bcoins, .ref brented, .ref bmornings, .ref bhonours, .ref bused, .ref bsides, .ref blog]))] H := by rw [hH]; exact hP
  have hS : va_S A s.heap H [] := by rw [hH]; exact hS
  refine lv_aload_n hx hb dX9_isStruck_0 rfl (lv_at hl 0 rfl) ?_
  refine va_get (D := g.1) (ci := 9) (v := .int bstruck) (C := RX9) (T := TX9) (N := 14) hx hb hT inF_X9 hown hK.1 hP 0 rfl rfl 3 (by decide) (hT _ bw_29) (fun _ h9 => h9) rfl dX9_isStruck_1 ?_
  refine lv_iload_n hx hb dX9_isStruck_4 rfl (lv_at hl 1 rfl) ?_
  refine lv_ishr hx hb dX9_isStruck_5 ?_
  refine lv_topi (fun x_1 ex_1 => ?_)
  refine lv_iconst (v := 1) hx hb dX9_isStruck_6 (by decide) ?_
  refine lv_iand hx hb dX9_isStruck_7 ?_
  refine lv_topi (fun x_2 ex_2 => ?_)
  have fx_2 : 0 ≤ x_2.toInt ∧ x_2.toInt ≤ 1 := by rw [ex_2]; exact I_and (by decide) (by decide)
  refine lv_if_eq (tgt := 15) hx hb dX9_isStruck_8 (by decide) (fun c_3 => ?_) (fun c_3 => ?_)
  · have f_4 := E_eq (rfl : x_2.toInt = _) (by decide : (0 : Int32).toInt = 0) c_3
    refine lv_iconst (v := 0) hx hb dX9_isStruck_15 (by decide) ?_
    have hP9 : va_P g.1 vwCl [] H := hP.sub [] rfl
    have hD9 : va_D A [] := ⟨fun i j p q h => by simp at h, fun k q h => by simp at h⟩
    exact W.zret (v := 0) (ty := .boolean) hx hb hr rfl (fun t ht hW => ⟨⟨0, (), rfl, ⟨by decide, by decide⟩, by rw [ht]; exact hP9, by rw [hAe]; exact hD9⟩, hS.F ht⟩) hS.2.2 dX9_isStruck_16
  · have f_5 := E_ne (rfl : x_2.toInt = _) (by decide : (0 : Int32).toInt = 0) c_3
    refine lv_iconst (v := 1) hx hb dX9_isStruck_11 (by decide) ?_
    refine lv_goto (tgt := 16) hx hb dX9_isStruck_12 (by decide) ?_
    have hP9 : va_P g.1 vwCl [] H := hP.sub [] rfl
    have hD9 : va_D A [] := ⟨fun i j p q h => by simp at h, fun k q h => by simp at h⟩
    exact W.zret (v := 1) (ty := .boolean) hx hb hr rfl (fun t ht hW => ⟨⟨1, (), rfl, ⟨by decide, by decide⟩, by rw [ht]; exact hP9, by rw [hAe]; exact hD9⟩, hS.F ht⟩) hS.2.2 dX9_isStruck_16

theorem bw_31 : Cond.fieldLink RX9 60 "DuelDelays$State" "open" "I" ∈ gT := gT_tb 456 (by decide +kernel) (by decide +kernel)
theorem bw_32 : Cond.code yX9_isOpen cX9_isOpen 2 (some .boolean) ∈ gT := gT_tb 866 (by decide +kernel) (by decide +kernel)
theorem dX9_isOpen_0 : decode cX9_isOpen 0 = .ok (.aload_n 0, 1) := by decide +kernel
theorem dX9_isOpen_1 : decode cX9_isOpen 1 = .ok (.getfield 60, 3) := by decide +kernel
theorem dX9_isOpen_4 : decode cX9_isOpen 4 = .ok (.iload_n 1, 1) := by decide +kernel
theorem dX9_isOpen_5 : decode cX9_isOpen 5 = .ok (.ishr, 1) := by decide +kernel
theorem dX9_isOpen_6 : decode cX9_isOpen 6 = .ok (.iconst 1, 1) := by decide +kernel
theorem dX9_isOpen_7 : decode cX9_isOpen 7 = .ok (.iand, 1) := by decide +kernel
theorem dX9_isOpen_8 : decode cX9_isOpen 8 = .ok (.ifCond .eq 7, 3) := by decide +kernel
theorem dX9_isOpen_11 : decode cX9_isOpen 11 = .ok (.iconst 1, 1) := by decide +kernel
theorem dX9_isOpen_12 : decode cX9_isOpen 12 = .ok (.goto 4, 3) := by decide +kernel
theorem dX9_isOpen_15 : decode cX9_isOpen 15 = .ok (.iconst 0, 1) := by decide +kernel
theorem dX9_isOpen_16 : decode cX9_isOpen 16 = .ok (.ireturn, 1) := by decide +kernel
set_option maxHeartbeats 4000000 in
set_option maxRecDepth 100000 in
theorem s_X9_isOpen (l : Launch) (g : GG) (sz : Nat) (h : Nat) (bday : Int32) (bseed : Int32) (balive : Int32) (bstruck : Int32) (bopen : Int32) (bduels : Int32) (blines : Int32) (bcoins : Nat) (brented : Nat) (bmornings : Nat) (bhonours : Nat) (bused : Nat) (bsides : Nat) (blog : Nat) (p0 : Int32) (hh0 : 0 ≤ bseed.toInt ∧ bseed.toInt ≤ 999) (hh1 : 0 ≤ bduels.toInt ∧ bduels.toInt ≤ 8) (hh2 : 0 ≤ blines.toInt ∧ blines.toInt ≤ 60) : Met l yX9_isOpen (.code yX9_isOpen cX9_isOpen 2 (some .boolean) :: gT) ({ frames := 0, cells := 0, slots := 0, locals := 0 }) (va_Pc [.ref h, .int p0] (Pst g sz [(h, .inr (9, [.int bday, .int bseed, .int balive, .int bstruck, .int bopen, .int bduels, .int blines, .ref bcoins, .ref brented, .ref bmornings, .ref bhonours, .ref bused, .ref bsides, .ref blog]))] nX)) (va_Qi (fun (r : Int32) => fun (_ : Unit) => 0 ≤ r.toInt ∧ r.toInt ≤ 1) (Qst g [] sz (fun _ => [])) (va_A [] sz)) 0 0 (va_A [] sz) := by
  refine Met.ofW (cc := cX9_isOpen) (maxL := 2) (ret := (some .boolean)) (by decide) rfl ?_
  intro p e s m args below meth c s₁ B hml hv
  obtain ⟨rfl, hsz, hP, hK, hD0, hX⟩ := hv
  have hx := B.exec
  have hb := B.bytes
  have hr := B.returns
  have hT : ∀ w ∈ gT, w.before _ s = true := fun w h => atoms_spec (ws := .code yX9_isOpen cX9_isOpen 2 (some .boolean) :: gT) B.pre w (List.mem_cons_of_mem _ h)
  have hown : s.vm.findClass RX9 = some m.cls := findClass_of_methodNamed B.named
  have hlocks := B.notSynchronized
  subst hsz
  have hD := hD0
  generalize hAe : va_A [] s.heap.size = A at ⊢
  have hA : ∀ q : Nat, s.heap.size ≤ q → A q := fun q h => by rw [← hAe]; exact Or.inr h
  have hS : va_S A s.heap s.heap [] := va_S.rf
  have hl := lv_entry ([.ref h, .int p0]) (n := 2) (Nat.le_of_ble_eq_true rfl)
  rw [lg_entry_eq]
  generalize (lg_sl ([.ref h, .int p0]) ++ List.replicate (2 - (lg_sl ([.ref h, .int p0])).length) Slot.unset).toArray = ls at hl ⊢
  have hl : lv_has ls 2 [(0, .ref h), (1, .int p0)] := hl
  refine p_nH (fun H hH => ?_)
  have hP : va_P g.1 vwCl [(h, .inr (9, [.int bday, .int bseed, .int balive, .int bstruck, .int bopen, .int bduels, .int blines, .ref bcoins, .ref brented, .ref bmornings, .ref bhonours, .ref bused, .ref bsides, .ref blog]))] H := by rw [hH]; exact hP
  have hS : va_S A s.heap H [] := by rw [hH]; exact hS
  refine lv_aload_n hx hb dX9_isOpen_0 rfl (lv_at hl 0 rfl) ?_
  refine va_get (D := g.1) (ci := 9) (v := .int bopen) (C := RX9) (T := TX9) (N := 14) hx hb hT inF_X9 hown hK.1 hP 0 rfl rfl 4 (by decide) (hT _ bw_31) (fun _ h9 => h9) rfl dX9_isOpen_1 ?_
  refine lv_iload_n hx hb dX9_isOpen_4 rfl (lv_at hl 1 rfl) ?_
  refine lv_ishr hx hb dX9_isOpen_5 ?_
  refine lv_topi (fun x_1 ex_1 => ?_)
  refine lv_iconst (v := 1) hx hb dX9_isOpen_6 (by decide) ?_
  refine lv_iand hx hb dX9_isOpen_7 ?_
  refine lv_topi (fun x_2 ex_2 => ?_)
  have fx_2 : 0 ≤ x_2.toInt ∧ x_2.toInt ≤ 1 := by rw [ex_2]; exact I_and (by decide) (by decide)
  refine lv_if_eq (tgt := 15) hx hb dX9_isOpen_8 (by decide) (fun c_3 => ?_) (fun c_3 => ?_)
  · have f_4 := E_eq (rfl : x_2.toInt = _) (by decide : (0 : Int32).toInt = 0) c_3
    refine lv_iconst (v := 0) hx hb dX9_isOpen_15 (by decide) ?_
    have hP9 : va_P g.1 vwCl [] H := hP.sub [] rfl
    have hD9 : va_D A [] := ⟨fun i j p q h => by simp at h, fun k q h => by simp at h⟩
    exact W.zret (v := 0) (ty := .boolean) hx hb hr rfl (fun t ht hW => ⟨⟨0, (), rfl, ⟨by decide, by decide⟩, by rw [ht]; exact hP9, by rw [hAe]; exact hD9⟩, hS.F ht⟩) hS.2.2 dX9_isOpen_16
  · have f_5 := E_ne (rfl : x_2.toInt = _) (by decide : (0 : Int32).toInt = 0) c_3
    refine lv_iconst (v := 1) hx hb dX9_isOpen_11 (by decide) ?_
    refine lv_goto (tgt := 16) hx hb dX9_isOpen_12 (by decide) ?_
    have hP9 : va_P g.1 vwCl [] H := hP.sub [] rfl
    have hD9 : va_D A [] := ⟨fun i j p q h => by simp at h, fun k q h => by simp at h⟩
    exact W.zret (v := 1) (ty := .boolean) hx hb hr rfl (fun t ht hW => ⟨⟨1, (), rfl, ⟨by decide, by decide⟩, by rw [ht]; exact hP9, by rw [hAe]; exact hD9⟩, hS.F ht⟩) hS.2.2 dX9_isOpen_16

theorem bw_33 : Cond.fieldLink RX9 63 "DuelDelays$State" "duels" "I" ∈ gT := gT_tb 458 (by decide +kernel) (by decide +kernel)
theorem bw_34 : Cond.code yX9_hasDuel cX9_hasDuel 2 (some .boolean) ∈ gT := gT_tb 858 (by decide +kernel) (by decide +kernel)
theorem dX9_hasDuel_0 : decode cX9_hasDuel 0 = .ok (.iload_n 1, 1) := by decide +kernel
theorem dX9_hasDuel_1 : decode cX9_hasDuel 1 = .ok (.ifCond .lt 15, 3) := by decide +kernel
theorem dX9_hasDuel_4 : decode cX9_hasDuel 4 = .ok (.iload_n 1, 1) := by decide +kernel
theorem dX9_hasDuel_5 : decode cX9_hasDuel 5 = .ok (.aload_n 0, 1) := by decide +kernel
theorem dX9_hasDuel_6 : decode cX9_hasDuel 6 = .ok (.getfield 63, 3) := by decide +kernel
theorem dX9_hasDuel_9 : decode cX9_hasDuel 9 = .ok (.if_icmp .ge 7, 3) := by decide +kernel
theorem dX9_hasDuel_12 : decode cX9_hasDuel 12 = .ok (.iconst 1, 1) := by decide +kernel
theorem dX9_hasDuel_13 : decode cX9_hasDuel 13 = .ok (.goto 4, 3) := by decide +kernel
theorem dX9_hasDuel_16 : decode cX9_hasDuel 16 = .ok (.iconst 0, 1) := by decide +kernel
theorem dX9_hasDuel_17 : decode cX9_hasDuel 17 = .ok (.ireturn, 1) := by decide +kernel
set_option maxHeartbeats 4000000 in
set_option maxRecDepth 100000 in
theorem s_X9_hasDuel (l : Launch) (g : GG) (sz : Nat) (h : Nat) (bday : Int32) (bseed : Int32) (balive : Int32) (bstruck : Int32) (bopen : Int32) (bduels : Int32) (blines : Int32) (bcoins : Nat) (brented : Nat) (bmornings : Nat) (bhonours : Nat) (bused : Nat) (bsides : Nat) (blog : Nat) (p0 : Int32) (hh0 : 0 ≤ bseed.toInt ∧ bseed.toInt ≤ 999) (hh1 : 0 ≤ bduels.toInt ∧ bduels.toInt ≤ 8) (hh2 : 0 ≤ blines.toInt ∧ blines.toInt ≤ 60) : Met l yX9_hasDuel (.code yX9_hasDuel cX9_hasDuel 2 (some .boolean) :: gT) ({ frames := 0, cells := 0, slots := 0, locals := 0 }) (va_Pc [.ref h, .int p0] (Pst g sz [(h, .inr (9, [.int bday, .int bseed, .int balive, .int bstruck, .int bopen, .int bduels, .int blines, .ref bcoins, .ref brented, .ref bmornings, .ref bhonours, .ref bused, .ref bsides, .ref blog]))] nX)) (va_Qi (fun (r : Int32) => fun (_ : Unit) => (r = 1 ∧ (0 ≤ p0.toInt ∧ p0.toInt < bduels.toInt)) ∨ (r = 0)) (Qst g [] sz (fun _ => [])) (va_A [] sz)) 0 0 (va_A [] sz) := by
  refine Met.ofW (cc := cX9_hasDuel) (maxL := 2) (ret := (some .boolean)) (by decide) rfl ?_
  intro p e s m args below meth c s₁ B hml hv
  obtain ⟨rfl, hsz, hP, hK, hD0, hX⟩ := hv
  have hx := B.exec
  have hb := B.bytes
  have hr := B.returns
  have hT : ∀ w ∈ gT, w.before _ s = true := fun w h => atoms_spec (ws := .code yX9_hasDuel cX9_hasDuel 2 (some .boolean) :: gT) B.pre w (List.mem_cons_of_mem _ h)
  have hown : s.vm.findClass RX9 = some m.cls := findClass_of_methodNamed B.named
  have hlocks := B.notSynchronized
  subst hsz
  have hD := hD0
  generalize hAe : va_A [] s.heap.size = A at ⊢
  have hA : ∀ q : Nat, s.heap.size ≤ q → A q := fun q h => by rw [← hAe]; exact Or.inr h
  have hS : va_S A s.heap s.heap [] := va_S.rf
  have hl := lv_entry ([.ref h, .int p0]) (n := 2) (Nat.le_of_ble_eq_true rfl)
  rw [lg_entry_eq]
  generalize (lg_sl ([.ref h, .int p0]) ++ List.replicate (2 - (lg_sl ([.ref h, .int p0])).length) Slot.unset).toArray = ls at hl ⊢
  have hl : lv_has ls 2 [(0, .ref h), (1, .int p0)] := hl
  refine p_nH (fun H hH => ?_)
  have hP : va_P g.1 vwCl [(h, .inr (9, [.int bday, .int bseed, .int balive, .int bstruck, .int bopen, .int bduels, .int blines, .ref bcoins, .ref brented, .ref bmornings, .ref bhonours, .ref bused, .ref bsides, .ref blog]))] H := by rw [hH]; exact hP
  have hS : va_S A s.heap H [] := by rw [hH]; exact hS
  refine lv_iload_n hx hb dX9_hasDuel_0 rfl (lv_at hl 1 rfl) ?_
  refine lv_if_lt (tgt := 16) hx hb dX9_hasDuel_1 (by decide) (fun c_1 => ?_) (fun c_1 => ?_)
  · have f_2 := E_lt (rfl : p0.toInt = _) (by decide : (0 : Int32).toInt = 0) c_1
    refine lv_iconst (v := 0) hx hb dX9_hasDuel_16 (by decide) ?_
    have hP9 : va_P g.1 vwCl [] H := hP.sub [] rfl
    have hD9 : va_D A [] := ⟨fun i j p q h => by simp at h, fun k q h => by simp at h⟩
    exact W.zret (v := 0) (ty := .boolean) hx hb hr rfl (fun t ht hW => ⟨⟨0, (), rfl, (Or.inr (rfl)), by rw [ht]; exact hP9, by rw [hAe]; exact hD9⟩, hS.F ht⟩) hS.2.2 dX9_hasDuel_17
  · have f_3 := E_nlt (rfl : p0.toInt = _) (by decide : (0 : Int32).toInt = 0) c_1
    refine lv_iload_n hx hb dX9_hasDuel_4 rfl (lv_at hl 1 rfl) ?_
    refine lv_aload_n hx hb dX9_hasDuel_5 rfl (lv_at hl 0 rfl) ?_
    refine va_get (D := g.1) (ci := 9) (v := .int bduels) (C := RX9) (T := TX9) (N := 14) hx hb hT inF_X9 hown hK.1 hP 0 rfl rfl 5 (by decide) (hT _ bw_33) (fun _ h9 => h9) rfl dX9_hasDuel_6 ?_
    refine lv_icmp_ge (tgt := 16) hx hb dX9_hasDuel_9 (by decide) (fun c_4 => ?_) (fun c_4 => ?_)
    · have f_5 := E_le (rfl : bduels.toInt = _) (rfl : p0.toInt = _) c_4
      refine lv_iconst (v := 0) hx hb dX9_hasDuel_16 (by decide) ?_
      have hP9 : va_P g.1 vwCl [] H := hP.sub [] rfl
      have hD9 : va_D A [] := ⟨fun i j p q h => by simp at h, fun k q h => by simp at h⟩
      exact W.zret (v := 0) (ty := .boolean) hx hb hr rfl (fun t ht hW => ⟨⟨0, (), rfl, (Or.inr (rfl)), by rw [ht]; exact hP9, by rw [hAe]; exact hD9⟩, hS.F ht⟩) hS.2.2 dX9_hasDuel_17
    · have f_6 := E_nle (rfl : bduels.toInt = _) (rfl : p0.toInt = _) c_4
      refine lv_iconst (v := 1) hx hb dX9_hasDuel_12 (by decide) ?_
      refine lv_goto (tgt := 17) hx hb dX9_hasDuel_13 (by decide) ?_
      have hP9 : va_P g.1 vwCl [] H := hP.sub [] rfl
      have hD9 : va_D A [] := ⟨fun i j p q h => by simp at h, fun k q h => by simp at h⟩
      exact W.zret (v := 1) (ty := .boolean) hx hb hr rfl (fun t ht hW => ⟨⟨1, (), rfl, (Or.inl ⟨rfl, by omega⟩), by rw [ht]; exact hP9, by rw [hAe]; exact hD9⟩, hS.F ht⟩) hS.2.2 dX9_hasDuel_17

theorem bw_35 : Cond.fieldLink RX9 27 "DuelDelays$State" "sides" "[I" ∈ gT := gT_tb 476 (by decide +kernel) (by decide +kernel)
theorem bw_36 : Cond.code yX9_manOf cX9_manOf 3 (some .int) ∈ gT := gT_tb 862 (by decide +kernel) (by decide +kernel)
theorem dX9_manOf_0 : decode cX9_manOf 0 = .ok (.aload_n 0, 1) := by decide +kernel
theorem dX9_manOf_1 : decode cX9_manOf 1 = .ok (.getfield 27, 3) := by decide +kernel
theorem dX9_manOf_4 : decode cX9_manOf 4 = .ok (.iconst 2, 1) := by decide +kernel
theorem dX9_manOf_5 : decode cX9_manOf 5 = .ok (.iload_n 1, 1) := by decide +kernel
theorem dX9_manOf_6 : decode cX9_manOf 6 = .ok (.imul, 1) := by decide +kernel
theorem dX9_manOf_7 : decode cX9_manOf 7 = .ok (.iload_n 2, 1) := by decide +kernel
theorem dX9_manOf_8 : decode cX9_manOf 8 = .ok (.iadd, 1) := by decide +kernel
theorem dX9_manOf_9 : decode cX9_manOf 9 = .ok (.iaload, 1) := by decide +kernel
theorem dX9_manOf_10 : decode cX9_manOf 10 = .ok (.ireturn, 1) := by decide +kernel
set_option maxHeartbeats 4000000 in
set_option maxRecDepth 100000 in
theorem s_X9_manOf (l : Launch) (g : GG) (sz : Nat) (h : Nat) (bday : Int32) (bseed : Int32) (balive : Int32) (bstruck : Int32) (bopen : Int32) (bduels : Int32) (blines : Int32) (bcoins : Nat) (brented : Nat) (bmornings : Nat) (bhonours : Nat) (bused : Nat) (bsides : Nat) (Fbsides : Nat → Int32) (blog : Nat) (p0 : Int32) (p1 : Int32) (hh0 : 0 ≤ bseed.toInt ∧ bseed.toInt ≤ 999) (hh1 : 0 ≤ bduels.toInt ∧ bduels.toInt ≤ 8) (hh2 : 0 ≤ blines.toInt ∧ blines.toInt ≤ 60) (hh3 : Rg 16 0 5 Fbsides) (hh4 : 0 ≤ p0.toInt ∧ p0.toInt ≤ 7) (hh5 : 0 ≤ p1.toInt ∧ p1.toInt ≤ 1) : Met l yX9_manOf (.code yX9_manOf cX9_manOf 3 (some .int) :: gT) ({ frames := 0, cells := 0, slots := 0, locals := 0 }) (va_Pc [.ref h, .int p0, .int p1] (Pst g sz [(h, .inr (9, [.int bday, .int bseed, .int balive, .int bstruck, .int bopen, .int bduels, .int blines, .ref bcoins, .ref brented, .ref bmornings, .ref bhonours, .ref bused, .ref bsides, .ref blog])), (bsides, aI g 16 Fbsides)] nX)) (va_Qi (fun (r : Int32) => fun (_ : Unit) => 0 ≤ r.toInt ∧ r.toInt ≤ 5) (Qst g [] sz (fun _ => [])) (va_A [] sz)) 0 0 (va_A [] sz) := by
  refine Met.ofW (cc := cX9_manOf) (maxL := 3) (ret := (some .int)) (by decide) rfl ?_
  intro p e s m args below meth c s₁ B hml hv
  obtain ⟨rfl, hsz, hP, hK, hD0, hX⟩ := hv
  have hx := B.exec
  have hb := B.bytes
  have hr := B.returns
  have hT : ∀ w ∈ gT, w.before _ s = true := fun w h => atoms_spec (ws := .code yX9_manOf cX9_manOf 3 (some .int) :: gT) B.pre w (List.mem_cons_of_mem _ h)
  have hown : s.vm.findClass RX9 = some m.cls := findClass_of_methodNamed B.named
  have hlocks := B.notSynchronized
  subst hsz
  have hD := hD0
  generalize hAe : va_A [] s.heap.size = A at ⊢
  have hA : ∀ q : Nat, s.heap.size ≤ q → A q := fun q h => by rw [← hAe]; exact Or.inr h
  have hS : va_S A s.heap s.heap [] := va_S.rf
  have hl := lv_entry ([.ref h, .int p0, .int p1]) (n := 3) (Nat.le_of_ble_eq_true rfl)
  rw [lg_entry_eq]
  generalize (lg_sl ([.ref h, .int p0, .int p1]) ++ List.replicate (3 - (lg_sl ([.ref h, .int p0, .int p1])).length) Slot.unset).toArray = ls at hl ⊢
  have hl : lv_has ls 3 [(0, .ref h), (1, .int p0), (2, .int p1)] := hl
  refine p_nH (fun H hH => ?_)
  have hP : va_P g.1 vwCl [(h, .inr (9, [.int bday, .int bseed, .int balive, .int bstruck, .int bopen, .int bduels, .int blines, .ref bcoins, .ref brented, .ref bmornings, .ref bhonours, .ref bused, .ref bsides, .ref blog])), (bsides, aI g 16 Fbsides)] H := by rw [hH]; exact hP
  have hS : va_S A s.heap H [] := by rw [hH]; exact hS
  refine lv_aload_n hx hb dX9_manOf_0 rfl (lv_at hl 0 rfl) ?_
  refine va_get (D := g.1) (ci := 9) (v := .ref bsides) (C := RX9) (T := TX9) (N := 14) hx hb hT inF_X9 hown hK.1 hP 0 rfl rfl 12 (by decide) (hT _ bw_35) (fun _ h9 => h9) rfl dX9_manOf_1 ?_
  refine lv_iconst (v := 2) hx hb dX9_manOf_4 (by decide) ?_
  refine lv_iload_n hx hb dX9_manOf_5 rfl (lv_at hl 1 rfl) ?_
  refine lv_imul hx hb dX9_manOf_6 ?_
  refine lv_topi (fun x_1 ex_1 => ?_)
  have fx_1 : x_1.toInt = 2 * p0.toInt := by rw [ex_1]; exact I_mul (by decide : (2 : Int32).toInt = 2) rfl (by omega) (by omega)
  refine lv_iload_n hx hb dX9_manOf_7 rfl (lv_at hl 2 rfl) ?_
  refine lv_iadd hx hb dX9_manOf_8 ?_
  refine lv_topi (fun x_2 ex_2 => ?_)
  have fx_2 : x_2.toInt = x_1.toInt + p1.toInt := by rw [ex_2]; exact I_add rfl rfl (by omega) (by omega)
  have h_3 : vp_in x_2 16 := vp_in_iff.mpr (by omega)
  refine va_iald hx hb hK.1 hP 1 1 rfl rfl (i := x_2) h_3 dX9_manOf_9 ?_
  refine lv_topi (fun x_4 ex_4 => ?_)
  have fx_4 : 0 ≤ x_4.toInt ∧ x_4.toInt ≤ 5 := Rg.rd hh3 h_3 ex_4
  have ux_4 := congrArg Int32.toInt ex_4
  have hP9 : va_P g.1 vwCl [] H := hP.sub [] rfl
  have hD9 : va_D A [] := ⟨fun i j p q h => by simp at h, fun k q h => by simp at h⟩
  exact W.iret (v := x_4) hx hb hr (fun t ht hW => ⟨⟨x_4, (), rfl, (by first | with_reducible assumption | omega), by rw [ht]; exact hP9, by rw [hAe]; exact hD9⟩, hS.F ht⟩) hS.2.2 dX9_manOf_10

theorem bw_37 : Cond.code yX9_sideOf cX9_sideOf 3 (some .int) ∈ gT := gT_tb 976 (by decide +kernel) (by decide +kernel)
theorem dX9_sideOf_0 : decode cX9_sideOf 0 = .ok (.aload_n 0, 1) := by decide +kernel
theorem dX9_sideOf_1 : decode cX9_sideOf 1 = .ok (.getfield 27, 3) := by decide +kernel
theorem dX9_sideOf_4 : decode cX9_sideOf 4 = .ok (.iconst 2, 1) := by decide +kernel
theorem dX9_sideOf_5 : decode cX9_sideOf 5 = .ok (.iload_n 1, 1) := by decide +kernel
theorem dX9_sideOf_6 : decode cX9_sideOf 6 = .ok (.imul, 1) := by decide +kernel
theorem dX9_sideOf_7 : decode cX9_sideOf 7 = .ok (.iaload, 1) := by decide +kernel
theorem dX9_sideOf_8 : decode cX9_sideOf 8 = .ok (.iload_n 2, 1) := by decide +kernel
theorem dX9_sideOf_9 : decode cX9_sideOf 9 = .ok (.if_icmp .ne 7, 3) := by decide +kernel
theorem dX9_sideOf_12 : decode cX9_sideOf 12 = .ok (.iconst 0, 1) := by decide +kernel
theorem dX9_sideOf_13 : decode cX9_sideOf 13 = .ok (.goto 22, 3) := by decide +kernel
theorem dX9_sideOf_16 : decode cX9_sideOf 16 = .ok (.aload_n 0, 1) := by decide +kernel
theorem dX9_sideOf_17 : decode cX9_sideOf 17 = .ok (.getfield 27, 3) := by decide +kernel
theorem dX9_sideOf_20 : decode cX9_sideOf 20 = .ok (.iconst 2, 1) := by decide +kernel
theorem dX9_sideOf_21 : decode cX9_sideOf 21 = .ok (.iload_n 1, 1) := by decide +kernel
theorem dX9_sideOf_22 : decode cX9_sideOf 22 = .ok (.imul, 1) := by decide +kernel
theorem dX9_sideOf_23 : decode cX9_sideOf 23 = .ok (.iconst 1, 1) := by decide +kernel
theorem dX9_sideOf_24 : decode cX9_sideOf 24 = .ok (.iadd, 1) := by decide +kernel
theorem dX9_sideOf_25 : decode cX9_sideOf 25 = .ok (.iaload, 1) := by decide +kernel
theorem dX9_sideOf_26 : decode cX9_sideOf 26 = .ok (.iload_n 2, 1) := by decide +kernel
theorem dX9_sideOf_27 : decode cX9_sideOf 27 = .ok (.if_icmp .ne 7, 3) := by decide +kernel
theorem dX9_sideOf_30 : decode cX9_sideOf 30 = .ok (.iconst 1, 1) := by decide +kernel
theorem dX9_sideOf_31 : decode cX9_sideOf 31 = .ok (.goto 4, 3) := by decide +kernel
theorem dX9_sideOf_34 : decode cX9_sideOf 34 = .ok (.iconst (-1), 1) := by decide +kernel
theorem dX9_sideOf_35 : decode cX9_sideOf 35 = .ok (.ireturn, 1) := by decide +kernel
set_option maxHeartbeats 4000000 in
set_option maxRecDepth 100000 in
theorem s_X9_sideOf (l : Launch) (g : GG) (sz : Nat) (h : Nat) (bday : Int32) (bseed : Int32) (balive : Int32) (bstruck : Int32) (bopen : Int32) (bduels : Int32) (blines : Int32) (bcoins : Nat) (brented : Nat) (bmornings : Nat) (bhonours : Nat) (bused : Nat) (bsides : Nat) (Fbsides : Nat → Int32) (blog : Nat) (p0 : Int32) (p1 : Int32) (hh0 : 0 ≤ bseed.toInt ∧ bseed.toInt ≤ 999) (hh1 : 0 ≤ bduels.toInt ∧ bduels.toInt ≤ 8) (hh2 : 0 ≤ blines.toInt ∧ blines.toInt ≤ 60) (hh3 : Rg 16 0 5 Fbsides) (hh4 : 0 ≤ p0.toInt ∧ p0.toInt ≤ 7) : Met l yX9_sideOf (.code yX9_sideOf cX9_sideOf 3 (some .int) :: gT) ({ frames := 0, cells := 0, slots := 0, locals := 0 }) (va_Pc [.ref h, .int p0, .int p1] (Pst g sz [(h, .inr (9, [.int bday, .int bseed, .int balive, .int bstruck, .int bopen, .int bduels, .int blines, .ref bcoins, .ref brented, .ref bmornings, .ref bhonours, .ref bused, .ref bsides, .ref blog])), (bsides, aI g 16 Fbsides)] nX)) (va_Qi (fun (r : Int32) => fun (_ : Unit) => (-1) ≤ r.toInt ∧ r.toInt ≤ 1) (Qst g [] sz (fun _ => [])) (va_A [] sz)) 0 0 (va_A [] sz) := by
  refine Met.ofW (cc := cX9_sideOf) (maxL := 3) (ret := (some .int)) (by decide) rfl ?_
  intro p e s m args below meth c s₁ B hml hv
  obtain ⟨rfl, hsz, hP, hK, hD0, hX⟩ := hv
  have hx := B.exec
  have hb := B.bytes
  have hr := B.returns
  have hT : ∀ w ∈ gT, w.before _ s = true := fun w h => atoms_spec (ws := .code yX9_sideOf cX9_sideOf 3 (some .int) :: gT) B.pre w (List.mem_cons_of_mem _ h)
  have hown : s.vm.findClass RX9 = some m.cls := findClass_of_methodNamed B.named
  have hlocks := B.notSynchronized
  subst hsz
  have hD := hD0
  generalize hAe : va_A [] s.heap.size = A at ⊢
  have hA : ∀ q : Nat, s.heap.size ≤ q → A q := fun q h => by rw [← hAe]; exact Or.inr h
  have hS : va_S A s.heap s.heap [] := va_S.rf
  have hl := lv_entry ([.ref h, .int p0, .int p1]) (n := 3) (Nat.le_of_ble_eq_true rfl)
  rw [lg_entry_eq]
  generalize (lg_sl ([.ref h, .int p0, .int p1]) ++ List.replicate (3 - (lg_sl ([.ref h, .int p0, .int p1])).length) Slot.unset).toArray = ls at hl ⊢
  have hl : lv_has ls 3 [(0, .ref h), (1, .int p0), (2, .int p1)] := hl
  refine p_nH (fun H hH => ?_)
  have hP : va_P g.1 vwCl [(h, .inr (9, [.int bday, .int bseed, .int balive, .int bstruck, .int bopen, .int bduels, .int blines, .ref bcoins, .ref brented, .ref bmornings, .ref bhonours, .ref bused, .ref bsides, .ref blog])), (bsides, aI g 16 Fbsides)] H := by rw [hH]; exact hP
  have hS : va_S A s.heap H [] := by rw [hH]; exact hS
  refine lv_aload_n hx hb dX9_sideOf_0 rfl (lv_at hl 0 rfl) ?_
  refine va_get (D := g.1) (ci := 9) (v := .ref bsides) (C := RX9) (T := TX9) (N := 14) hx hb hT inF_X9 hown hK.1 hP 0 rfl rfl 12 (by decide) (hT _ bw_35) (fun _ h9 => h9) rfl dX9_sideOf_1 ?_
  refine lv_iconst (v := 2) hx hb dX9_sideOf_4 (by decide) ?_
  refine lv_iload_n hx hb dX9_sideOf_5 rfl (lv_at hl 1 rfl) ?_
  refine lv_imul hx hb dX9_sideOf_6 ?_
  refine lv_topi (fun x_1 ex_1 => ?_)
  have fx_1 : x_1.toInt = 2 * p0.toInt := by rw [ex_1]; exact I_mul (by decide : (2 : Int32).toInt = 2) rfl (by omega) (by omega)
  have h_2 : vp_in x_1 16 := vp_in_iff.mpr (by omega)
  refine va_iald hx hb hK.1 hP 1 1 rfl rfl (i := x_1) h_2 dX9_sideOf_7 ?_
  refine lv_topi (fun x_3 ex_3 => ?_)
  have fx_3 : 0 ≤ x_3.toInt ∧ x_3.toInt ≤ 5 := Rg.rd hh3 h_2 ex_3
  have ux_3 := congrArg Int32.toInt ex_3
  refine lv_iload_n hx hb dX9_sideOf_8 rfl (lv_at hl 2 rfl) ?_
  refine lv_icmp_ne (tgt := 16) hx hb dX9_sideOf_9 (by decide) (fun c_4 => ?_) (fun c_4 => ?_)
  · have f_5 := E_ne (rfl : x_3.toInt = _) (rfl : p1.toInt = _) c_4
    refine lv_aload_n hx hb dX9_sideOf_16 rfl (lv_at hl 0 rfl) ?_
    refine va_get (D := g.1) (ci := 9) (v := .ref bsides) (C := RX9) (T := TX9) (N := 14) hx hb hT inF_X9 hown hK.1 hP 0 rfl rfl 12 (by decide) (hT _ bw_35) (fun _ h9 => h9) rfl dX9_sideOf_17 ?_
    refine lv_iconst (v := 2) hx hb dX9_sideOf_20 (by decide) ?_
    refine lv_iload_n hx hb dX9_sideOf_21 rfl (lv_at hl 1 rfl) ?_
    refine lv_imul hx hb dX9_sideOf_22 ?_
    refine lv_topi (fun x_6 ex_6 => ?_)
    have fx_6 : x_6.toInt = 2 * p0.toInt := by rw [ex_6]; exact I_mul (by decide : (2 : Int32).toInt = 2) rfl (by omega) (by omega)
    refine lv_iconst (v := 1) hx hb dX9_sideOf_23 (by decide) ?_
    refine lv_iadd hx hb dX9_sideOf_24 ?_
    refine lv_topi (fun x_7 ex_7 => ?_)
    have fx_7 : x_7.toInt = x_6.toInt + 1 := by rw [ex_7]; exact I_add rfl (by decide : (1 : Int32).toInt = 1) (by omega) (by omega)
    have h_8 : vp_in x_7 16 := vp_in_iff.mpr (by omega)
    refine va_iald hx hb hK.1 hP 1 1 rfl rfl (i := x_7) h_8 dX9_sideOf_25 ?_
    refine lv_topi (fun x_9 ex_9 => ?_)
    have fx_9 : 0 ≤ x_9.toInt ∧ x_9.toInt ≤ 5 := Rg.rd hh3 h_8 ex_9
    have ux_9 := congrArg Int32.toInt ex_9
    refine lv_iload_n hx hb dX9_sideOf_26 rfl (lv_at hl 2 rfl) ?_
    refine lv_icmp_ne (tgt := 34) hx hb dX9_sideOf_27 (by decide) (fun c_10 => ?_) (fun c_10 => ?_)
    · have f_11 := E_ne (rfl : x_9.toInt = _) (rfl : p1.toInt = _) c_10
      refine lv_iconst (v := (-1)) hx hb dX9_sideOf_34 (by decide) ?_
      have hP9 : va_P g.1 vwCl [] H := hP.sub [] rfl
      have hD9 : va_D A [] := ⟨fun i j p q h => by simp at h, fun k q h => by simp at h⟩
      exact W.iret (v := (-1)) hx hb hr (fun t ht hW => ⟨⟨(-1), (), rfl, ⟨by decide, by decide⟩, by rw [ht]; exact hP9, by rw [hAe]; exact hD9⟩, hS.F ht⟩) hS.2.2 dX9_sideOf_35
    · have f_12 := E_eq (rfl : x_9.toInt = _) (rfl : p1.toInt = _) c_10
      refine lv_iconst (v := 1) hx hb dX9_sideOf_30 (by decide) ?_
      refine lv_goto (tgt := 35) hx hb dX9_sideOf_31 (by decide) ?_
      have hP9 : va_P g.1 vwCl [] H := hP.sub [] rfl
      have hD9 : va_D A [] := ⟨fun i j p q h => by simp at h, fun k q h => by simp at h⟩
      exact W.iret (v := 1) hx hb hr (fun t ht hW => ⟨⟨1, (), rfl, ⟨by decide, by decide⟩, by rw [ht]; exact hP9, by rw [hAe]; exact hD9⟩, hS.F ht⟩) hS.2.2 dX9_sideOf_35
  · have f_13 := E_eq (rfl : x_3.toInt = _) (rfl : p1.toInt = _) c_4
    refine lv_iconst (v := 0) hx hb dX9_sideOf_12 (by decide) ?_
    refine lv_goto (tgt := 35) hx hb dX9_sideOf_13 (by decide) ?_
    have hP9 : va_P g.1 vwCl [] H := hP.sub [] rfl
    have hD9 : va_D A [] := ⟨fun i j p q h => by simp at h, fun k q h => by simp at h⟩
    exact W.iret (v := 0) hx hb hr (fun t ht hW => ⟨⟨0, (), rfl, ⟨by decide, by decide⟩, by rw [ht]; exact hP9, by rw [hAe]; exact hD9⟩, hS.F ht⟩) hS.2.2 dX9_sideOf_35

theorem bw_38 : Cond.fieldLink RX9 30 "DuelDelays$State" "log" "[I" ∈ gT := gT_tb 477 (by decide +kernel) (by decide +kernel)
theorem bw_39 : Cond.code yX9_lineOf cX9_lineOf 4 (some .int) ∈ gT := gT_tb 1241 (by decide +kernel) (by decide +kernel)
theorem dX9_lineOf_0 : decode cX9_lineOf 0 = .ok (.aload_n 0, 1) := by decide +kernel
theorem dX9_lineOf_1 : decode cX9_lineOf 1 = .ok (.getfield 30, 3) := by decide +kernel
theorem dX9_lineOf_4 : decode cX9_lineOf 4 = .ok (.iload_n 1, 1) := by decide +kernel
theorem dX9_lineOf_5 : decode cX9_lineOf 5 = .ok (.iaload, 1) := by decide +kernel
theorem dX9_lineOf_6 : decode cX9_lineOf 6 = .ok (.istore_n 3, 1) := by decide +kernel
theorem dX9_lineOf_7 : decode cX9_lineOf 7 = .ok (.iload_n 2, 1) := by decide +kernel
theorem dX9_lineOf_8 : decode cX9_lineOf 8 = .ok (.tableswitch 62 0 3 #[32, 37, 45, 53], 32) := by decide +kernel
theorem dX9_lineOf_40 : decode cX9_lineOf 40 = .ok (.iload_n 3, 1) := by decide +kernel
theorem dX9_lineOf_41 : decode cX9_lineOf 41 = .ok (.bipush 29, 2) := by decide +kernel
theorem dX9_lineOf_43 : decode cX9_lineOf 43 = .ok (.iushr, 1) := by decide +kernel
theorem dX9_lineOf_44 : decode cX9_lineOf 44 = .ok (.ireturn, 1) := by decide +kernel
theorem dX9_lineOf_45 : decode cX9_lineOf 45 = .ok (.iload_n 3, 1) := by decide +kernel
theorem dX9_lineOf_46 : decode cX9_lineOf 46 = .ok (.bipush 26, 2) := by decide +kernel
theorem dX9_lineOf_48 : decode cX9_lineOf 48 = .ok (.iushr, 1) := by decide +kernel
theorem dX9_lineOf_49 : decode cX9_lineOf 49 = .ok (.bipush 7, 2) := by decide +kernel
theorem dX9_lineOf_51 : decode cX9_lineOf 51 = .ok (.iand, 1) := by decide +kernel
theorem dX9_lineOf_52 : decode cX9_lineOf 52 = .ok (.ireturn, 1) := by decide +kernel
theorem dX9_lineOf_53 : decode cX9_lineOf 53 = .ok (.iload_n 3, 1) := by decide +kernel
theorem dX9_lineOf_54 : decode cX9_lineOf 54 = .ok (.bipush 23, 2) := by decide +kernel
theorem dX9_lineOf_56 : decode cX9_lineOf 56 = .ok (.iushr, 1) := by decide +kernel
theorem dX9_lineOf_57 : decode cX9_lineOf 57 = .ok (.bipush 7, 2) := by decide +kernel
theorem dX9_lineOf_59 : decode cX9_lineOf 59 = .ok (.iand, 1) := by decide +kernel
theorem dX9_lineOf_60 : decode cX9_lineOf 60 = .ok (.ireturn, 1) := by decide +kernel
theorem dX9_lineOf_61 : decode cX9_lineOf 61 = .ok (.iload_n 3, 1) := by decide +kernel
theorem dX9_lineOf_62 : decode cX9_lineOf 62 = .ok (.bipush 9, 2) := by decide +kernel
theorem dX9_lineOf_64 : decode cX9_lineOf 64 = .ok (.iushr, 1) := by decide +kernel
theorem dX9_lineOf_65 : decode cX9_lineOf 65 = .ok (.sipush 16383, 3) := by decide +kernel
theorem dX9_lineOf_68 : decode cX9_lineOf 68 = .ok (.iand, 1) := by decide +kernel
theorem dX9_lineOf_69 : decode cX9_lineOf 69 = .ok (.ireturn, 1) := by decide +kernel
theorem dX9_lineOf_70 : decode cX9_lineOf 70 = .ok (.iload_n 3, 1) := by decide +kernel
theorem dX9_lineOf_71 : decode cX9_lineOf 71 = .ok (.sipush 511, 3) := by decide +kernel
theorem dX9_lineOf_74 : decode cX9_lineOf 74 = .ok (.iand, 1) := by decide +kernel
theorem dX9_lineOf_75 : decode cX9_lineOf 75 = .ok (.ireturn, 1) := by decide +kernel
set_option maxHeartbeats 4000000 in
set_option maxRecDepth 100000 in
theorem s_X9_lineOf (l : Launch) (g : GG) (sz : Nat) (h : Nat) (bday : Int32) (bseed : Int32) (balive : Int32) (bstruck : Int32) (bopen : Int32) (bduels : Int32) (blines : Int32) (bcoins : Nat) (brented : Nat) (bmornings : Nat) (bhonours : Nat) (bused : Nat) (bsides : Nat) (blog : Nat) (Fblog : Nat → Int32) (p0 : Int32) (p1 : Int32) (hh0 : 0 ≤ bseed.toInt ∧ bseed.toInt ≤ 999) (hh1 : 0 ≤ bduels.toInt ∧ bduels.toInt ≤ 8) (hh2 : 0 ≤ blines.toInt ∧ blines.toInt ≤ 60) (hh4 : 0 ≤ p0.toInt ∧ p0.toInt ≤ 59) : Met l yX9_lineOf (.code yX9_lineOf cX9_lineOf 4 (some .int) :: gT) ({ frames := 0, cells := 0, slots := 0, locals := 0 }) (va_Pc [.ref h, .int p0, .int p1] (Pst g sz [(h, .inr (9, [.int bday, .int bseed, .int balive, .int bstruck, .int bopen, .int bduels, .int blines, .ref bcoins, .ref brented, .ref bmornings, .ref bhonours, .ref bused, .ref bsides, .ref blog])), (blog, aI g 60 Fblog)] nX)) (va_Qi (fun (r : Int32) => fun (_ : Unit) => 0 ≤ r.toInt ∧ r.toInt ≤ 16383) (Qst g [] sz (fun _ => [])) (va_A [] sz)) 0 0 (va_A [] sz) := by
  refine Met.ofW (cc := cX9_lineOf) (maxL := 4) (ret := (some .int)) (by decide) rfl ?_
  intro p e s m args below meth c s₁ B hml hv
  obtain ⟨rfl, hsz, hP, hK, hD0, hX⟩ := hv
  have hx := B.exec
  have hb := B.bytes
  have hr := B.returns
  have hT : ∀ w ∈ gT, w.before _ s = true := fun w h => atoms_spec (ws := .code yX9_lineOf cX9_lineOf 4 (some .int) :: gT) B.pre w (List.mem_cons_of_mem _ h)
  have hown : s.vm.findClass RX9 = some m.cls := findClass_of_methodNamed B.named
  have hlocks := B.notSynchronized
  subst hsz
  have hD := hD0
  generalize hAe : va_A [] s.heap.size = A at ⊢
  have hA : ∀ q : Nat, s.heap.size ≤ q → A q := fun q h => by rw [← hAe]; exact Or.inr h
  have hS : va_S A s.heap s.heap [] := va_S.rf
  have hl := lv_entry ([.ref h, .int p0, .int p1]) (n := 4) (Nat.le_of_ble_eq_true rfl)
  rw [lg_entry_eq]
  generalize (lg_sl ([.ref h, .int p0, .int p1]) ++ List.replicate (4 - (lg_sl ([.ref h, .int p0, .int p1])).length) Slot.unset).toArray = ls at hl ⊢
  have hl : lv_has ls 4 [(0, .ref h), (1, .int p0), (2, .int p1)] := hl
  refine p_nH (fun H hH => ?_)
  have hP : va_P g.1 vwCl [(h, .inr (9, [.int bday, .int bseed, .int balive, .int bstruck, .int bopen, .int bduels, .int blines, .ref bcoins, .ref brented, .ref bmornings, .ref bhonours, .ref bused, .ref bsides, .ref blog])), (blog, aI g 60 Fblog)] H := by rw [hH]; exact hP
  have hS : va_S A s.heap H [] := by rw [hH]; exact hS
  refine lv_aload_n hx hb dX9_lineOf_0 rfl (lv_at hl 0 rfl) ?_
  refine va_get (D := g.1) (ci := 9) (v := .ref blog) (C := RX9) (T := TX9) (N := 14) hx hb hT inF_X9 hown hK.1 hP 0 rfl rfl 13 (by decide) (hT _ bw_38) (fun _ h9 => h9) rfl dX9_lineOf_1 ?_
  refine lv_iload_n hx hb dX9_lineOf_4 rfl (lv_at hl 1 rfl) ?_
  have h_1 : vp_in p0 60 := vp_in_iff.mpr (by omega)
  refine va_iald hx hb hK.1 hP 1 1 rfl rfl (i := p0) h_1 dX9_lineOf_5 ?_
  refine lv_topi (fun x_2 ex_2 => ?_)
  have ux_2 := congrArg Int32.toInt ex_2
  refine lv_istore_n (lv' := [(3, .int x_2), (0, .ref h), (1, .int p0), (2, .int p1)]) hx hb dX9_lineOf_6 rfl hl (by decide) rfl (fun ls hl => ?_)
  refine lv_iload_n hx hb dX9_lineOf_7 rfl (lv_at hl 3 rfl) ?_
  rcases tsplit p1 4 (by decide) with h_3 | ⟨j, hj, eh_3⟩
  · refine lv_tableOut (tgt := 70) hx hb dX9_lineOf_8 (by omega) (by decide) ?_
    refine lv_iload_n hx hb dX9_lineOf_70 rfl (lv_at hl 0 rfl) ?_
    refine lv_sipush (v := 511) hx hb dX9_lineOf_71 (by decide) ?_
    refine lv_iand hx hb dX9_lineOf_74 ?_
    refine lv_topi (fun x_4 ex_4 => ?_)
    have fx_4 : 0 ≤ x_4.toInt ∧ x_4.toInt ≤ 511 := by rw [ex_4]; exact I_and (by decide) (by decide)
    have hP9 : va_P g.1 vwCl [] H := hP.sub [] rfl
    have hD9 : va_D A [] := ⟨fun i j p q h => by simp at h, fun k q h => by simp at h⟩
    exact W.iret (v := x_4) hx hb hr (fun t ht hW => ⟨⟨x_4, (), rfl, (by first | with_reducible assumption | omega), by rw [ht]; exact hP9, by rw [hAe]; exact hD9⟩, hS.F ht⟩) hS.2.2 dX9_lineOf_75
  · rcases (show j = 0 ∨ j = 1 ∨ j = 2 ∨ j = 3 by omega) with rfl | rfl | rfl | rfl
    · obtain rfl : p1 = 0 := eh_3
      refine lv_tableIn (tgt := 40) hx hb dX9_lineOf_8 (by decide) (by decide) (off := 32) (by decide) (by decide) ?_
      refine lv_iload_n hx hb dX9_lineOf_40 rfl (lv_at hl 0 rfl) ?_
      refine lv_bipush (v := 29) hx hb dX9_lineOf_41 (by decide) ?_
      obtain ⟨x_5, ex_5⟩ : ∃ v : Int32, ((x_2 : Int32).toUInt32 >>> ((29 : Int32).toUInt32 &&& Int32.toUInt32 31)).toInt32 = v := ⟨_, rfl⟩
      have fx_5 : 0 ≤ x_5.toInt ∧ x_5.toInt < 8 := I_ushr 29 (by decide) (by decide) (by decide) ex_5
      refine lv_iushr (v := x_5) hx hb dX9_lineOf_43 ex_5 ?_
      have hP9 : va_P g.1 vwCl [] H := hP.sub [] rfl
      have hD9 : va_D A [] := ⟨fun i j p q h => by simp at h, fun k q h => by simp at h⟩
      exact W.iret (v := x_5) hx hb hr (fun t ht hW => ⟨⟨x_5, (), rfl, (by first | with_reducible assumption | omega), by rw [ht]; exact hP9, by rw [hAe]; exact hD9⟩, hS.F ht⟩) hS.2.2 dX9_lineOf_44
    · obtain rfl : p1 = 1 := eh_3
      refine lv_tableIn (tgt := 45) hx hb dX9_lineOf_8 (by decide) (by decide) (off := 37) (by decide) (by decide) ?_
      refine lv_iload_n hx hb dX9_lineOf_45 rfl (lv_at hl 0 rfl) ?_
      refine lv_bipush (v := 26) hx hb dX9_lineOf_46 (by decide) ?_
      obtain ⟨x_6, ex_6⟩ : ∃ v : Int32, ((x_2 : Int32).toUInt32 >>> ((26 : Int32).toUInt32 &&& Int32.toUInt32 31)).toInt32 = v := ⟨_, rfl⟩
      have fx_6 : 0 ≤ x_6.toInt ∧ x_6.toInt < 64 := I_ushr 26 (by decide) (by decide) (by decide) ex_6
      refine lv_iushr (v := x_6) hx hb dX9_lineOf_48 ex_6 ?_
      refine lv_bipush (v := 7) hx hb dX9_lineOf_49 (by decide) ?_
      refine lv_iand hx hb dX9_lineOf_51 ?_
      refine lv_topi (fun x_7 ex_7 => ?_)
      have fx_7 : 0 ≤ x_7.toInt ∧ x_7.toInt ≤ 7 := by rw [ex_7]; exact I_and (by decide) (by decide)
      have hP9 : va_P g.1 vwCl [] H := hP.sub [] rfl
      have hD9 : va_D A [] := ⟨fun i j p q h => by simp at h, fun k q h => by simp at h⟩
      exact W.iret (v := x_7) hx hb hr (fun t ht hW => ⟨⟨x_7, (), rfl, (by first | with_reducible assumption | omega), by rw [ht]; exact hP9, by rw [hAe]; exact hD9⟩, hS.F ht⟩) hS.2.2 dX9_lineOf_52
    · obtain rfl : p1 = 2 := eh_3
      refine lv_tableIn (tgt := 53) hx hb dX9_lineOf_8 (by decide) (by decide) (off := 45) (by decide) (by decide) ?_
      refine lv_iload_n hx hb dX9_lineOf_53 rfl (lv_at hl 0 rfl) ?_
      refine lv_bipush (v := 23) hx hb dX9_lineOf_54 (by decide) ?_
      obtain ⟨x_8, ex_8⟩ : ∃ v : Int32, ((x_2 : Int32).toUInt32 >>> ((23 : Int32).toUInt32 &&& Int32.toUInt32 31)).toInt32 = v := ⟨_, rfl⟩
      have fx_8 : 0 ≤ x_8.toInt ∧ x_8.toInt < 512 := I_ushr 23 (by decide) (by decide) (by decide) ex_8
      refine lv_iushr (v := x_8) hx hb dX9_lineOf_56 ex_8 ?_
      refine lv_bipush (v := 7) hx hb dX9_lineOf_57 (by decide) ?_
      refine lv_iand hx hb dX9_lineOf_59 ?_
      refine lv_topi (fun x_9 ex_9 => ?_)
      have fx_9 : 0 ≤ x_9.toInt ∧ x_9.toInt ≤ 7 := by rw [ex_9]; exact I_and (by decide) (by decide)
      have hP9 : va_P g.1 vwCl [] H := hP.sub [] rfl
      have hD9 : va_D A [] := ⟨fun i j p q h => by simp at h, fun k q h => by simp at h⟩
      exact W.iret (v := x_9) hx hb hr (fun t ht hW => ⟨⟨x_9, (), rfl, (by first | with_reducible assumption | omega), by rw [ht]; exact hP9, by rw [hAe]; exact hD9⟩, hS.F ht⟩) hS.2.2 dX9_lineOf_60
    · obtain rfl : p1 = 3 := eh_3
      refine lv_tableIn (tgt := 61) hx hb dX9_lineOf_8 (by decide) (by decide) (off := 53) (by decide) (by decide) ?_
      refine lv_iload_n hx hb dX9_lineOf_61 rfl (lv_at hl 0 rfl) ?_
      refine lv_bipush (v := 9) hx hb dX9_lineOf_62 (by decide) ?_
      obtain ⟨x_10, ex_10⟩ : ∃ v : Int32, ((x_2 : Int32).toUInt32 >>> ((9 : Int32).toUInt32 &&& Int32.toUInt32 31)).toInt32 = v := ⟨_, rfl⟩
      have fx_10 : 0 ≤ x_10.toInt ∧ x_10.toInt < 8388608 := I_ushr 9 (by decide) (by decide) (by decide) ex_10
      refine lv_iushr (v := x_10) hx hb dX9_lineOf_64 ex_10 ?_
      refine lv_sipush (v := 16383) hx hb dX9_lineOf_65 (by decide) ?_
      refine lv_iand hx hb dX9_lineOf_68 ?_
      refine lv_topi (fun x_11 ex_11 => ?_)
      have fx_11 : 0 ≤ x_11.toInt ∧ x_11.toInt ≤ 16383 := by rw [ex_11]; exact I_and (by decide) (by decide)
      have hP9 : va_P g.1 vwCl [] H := hP.sub [] rfl
      have hD9 : va_D A [] := ⟨fun i j p q h => by simp at h, fun k q h => by simp at h⟩
      exact W.iret (v := x_11) hx hb hr (fun t ht hW => ⟨⟨x_11, (), rfl, (by first | with_reducible assumption | omega), by rw [ht]; exact hP9, by rw [hAe]; exact hD9⟩, hS.F ht⟩) hS.2.2 dX9_lineOf_69

theorem bw_40 : Cond.fieldLink RX9 66 "DuelDelays$State" "lines" "I" ∈ gT := gT_tb 461 (by decide +kernel) (by decide +kernel)
theorem bw_41 : Cond.fieldLink RX9 33 "DuelDelays$State" "day" "I" ∈ gT := gT_tb 448 (by decide +kernel) (by decide +kernel)
theorem bw_42 : Cond.code yX9_addLine cX9_addLine 5 none ∈ gT := gT_tb 1007 (by decide +kernel) (by decide +kernel)
theorem dX9_addLine_0 : decode cX9_addLine 0 = .ok (.aload_n 0, 1) := by decide +kernel
theorem dX9_addLine_1 : decode cX9_addLine 1 = .ok (.getfield 66, 3) := by decide +kernel
theorem dX9_addLine_4 : decode cX9_addLine 4 = .ok (.bipush 60, 2) := by decide +kernel
theorem dX9_addLine_6 : decode cX9_addLine 6 = .ok (.if_icmp .ge 47, 3) := by decide +kernel
theorem dX9_addLine_9 : decode cX9_addLine 9 = .ok (.aload_n 0, 1) := by decide +kernel
theorem dX9_addLine_10 : decode cX9_addLine 10 = .ok (.getfield 30, 3) := by decide +kernel
theorem dX9_addLine_13 : decode cX9_addLine 13 = .ok (.aload_n 0, 1) := by decide +kernel
theorem dX9_addLine_14 : decode cX9_addLine 14 = .ok (.getfield 66, 3) := by decide +kernel
theorem dX9_addLine_17 : decode cX9_addLine 17 = .ok (.iload_n 1, 1) := by decide +kernel
theorem dX9_addLine_18 : decode cX9_addLine 18 = .ok (.bipush 29, 2) := by decide +kernel
theorem dX9_addLine_20 : decode cX9_addLine 20 = .ok (.ishl, 1) := by decide +kernel
theorem dX9_addLine_21 : decode cX9_addLine 21 = .ok (.iload_n 2, 1) := by decide +kernel
theorem dX9_addLine_22 : decode cX9_addLine 22 = .ok (.bipush 26, 2) := by decide +kernel
theorem dX9_addLine_24 : decode cX9_addLine 24 = .ok (.ishl, 1) := by decide +kernel
theorem dX9_addLine_25 : decode cX9_addLine 25 = .ok (.ior, 1) := by decide +kernel
theorem dX9_addLine_26 : decode cX9_addLine 26 = .ok (.iload_n 3, 1) := by decide +kernel
theorem dX9_addLine_27 : decode cX9_addLine 27 = .ok (.bipush 23, 2) := by decide +kernel
theorem dX9_addLine_29 : decode cX9_addLine 29 = .ok (.ishl, 1) := by decide +kernel
theorem dX9_addLine_30 : decode cX9_addLine 30 = .ok (.ior, 1) := by decide +kernel
theorem dX9_addLine_31 : decode cX9_addLine 31 = .ok (.aload_n 0, 1) := by decide +kernel
theorem dX9_addLine_32 : decode cX9_addLine 32 = .ok (.getfield 33, 3) := by decide +kernel
theorem dX9_addLine_35 : decode cX9_addLine 35 = .ok (.bipush 9, 2) := by decide +kernel
theorem dX9_addLine_37 : decode cX9_addLine 37 = .ok (.ishl, 1) := by decide +kernel
theorem dX9_addLine_38 : decode cX9_addLine 38 = .ok (.ior, 1) := by decide +kernel
theorem dX9_addLine_39 : decode cX9_addLine 39 = .ok (.iload 4, 2) := by decide +kernel
theorem dX9_addLine_41 : decode cX9_addLine 41 = .ok (.ior, 1) := by decide +kernel
theorem dX9_addLine_42 : decode cX9_addLine 42 = .ok (.iastore, 1) := by decide +kernel
theorem dX9_addLine_43 : decode cX9_addLine 43 = .ok (.aload_n 0, 1) := by decide +kernel
theorem dX9_addLine_44 : decode cX9_addLine 44 = .ok (.dup, 1) := by decide +kernel
theorem dX9_addLine_45 : decode cX9_addLine 45 = .ok (.getfield 66, 3) := by decide +kernel
theorem dX9_addLine_48 : decode cX9_addLine 48 = .ok (.iconst 1, 1) := by decide +kernel
theorem dX9_addLine_49 : decode cX9_addLine 49 = .ok (.iadd, 1) := by decide +kernel
theorem dX9_addLine_50 : decode cX9_addLine 50 = .ok (.putfield 66, 3) := by decide +kernel
theorem dX9_addLine_53 : decode cX9_addLine 53 = .ok (.return_, 1) := by decide +kernel
set_option maxHeartbeats 4000000 in
set_option maxRecDepth 100000 in
theorem s_X9_addLine (l : Launch) (g : GG) (sz : Nat) (h : Nat) (bday : Int32) (bseed : Int32) (balive : Int32) (bstruck : Int32) (bopen : Int32) (bduels : Int32) (blines : Int32) (bcoins : Nat) (brented : Nat) (bmornings : Nat) (bhonours : Nat) (bused : Nat) (bsides : Nat) (blog : Nat) (Fblog : Nat → Int32) (p0 : Int32) (p1 : Int32) (p2 : Int32) (p3 : Int32) (hh0 : 0 ≤ bseed.toInt ∧ bseed.toInt ≤ 999) (hh1 : 0 ≤ bduels.toInt ∧ bduels.toInt ≤ 8) (hh2 : 0 ≤ blines.toInt ∧ blines.toInt ≤ 60) : Met l yX9_addLine (.code yX9_addLine cX9_addLine 5 none :: gT) ({ frames := 0, cells := 0, slots := 0, locals := 0 }) (va_Pc [.ref h, .int p0, .int p1, .int p2, .int p3] (Pst g sz [(h, .inr (9, [.int bday, .int bseed, .int balive, .int bstruck, .int bopen, .int bduels, .int blines, .ref bcoins, .ref brented, .ref bmornings, .ref bhonours, .ref bused, .ref bsides, .ref blog])), (blog, aI g 60 Fblog)] nX)) (va_Qv (fun ((o0_lines, o1_F) : Int32 × (Nat → Int32)) => 0 ≤ o0_lines.toInt ∧ o0_lines.toInt ≤ 60) (Qst g [(h, .inr (9, [.int bday, .int bseed, .int balive, .int bstruck, .int bopen, .int bduels, .int blines, .ref bcoins, .ref brented, .ref bmornings, .ref bhonours, .ref bused, .ref bsides, .ref blog])), (blog, aI g 60 Fblog)] sz (fun ((o0_lines, o1_F) : Int32 × (Nat → Int32)) => [(h, .inr (9, [.int bday, .int bseed, .int balive, .int bstruck, .int bopen, .int bduels, .int o0_lines, .ref bcoins, .ref brented, .ref bmornings, .ref bhonours, .ref bused, .ref bsides, .ref blog])), (blog, aI g 60 o1_F)])) (va_A [(h, .inr (9, [.int bday, .int bseed, .int balive, .int bstruck, .int bopen, .int bduels, .int blines, .ref bcoins, .ref brented, .ref bmornings, .ref bhonours, .ref bused, .ref bsides, .ref blog])), (blog, aI g 60 Fblog)] sz)) 0 0 (va_A [(h, .inr (9, [.int bday, .int bseed, .int balive, .int bstruck, .int bopen, .int bduels, .int blines, .ref bcoins, .ref brented, .ref bmornings, .ref bhonours, .ref bused, .ref bsides, .ref blog])), (blog, aI g 60 Fblog)] sz) := by
  refine Met.ofW (cc := cX9_addLine) (maxL := 5) (ret := none) (by decide) rfl ?_
  intro p e s m args below meth c s₁ B hml hv
  obtain ⟨rfl, hsz, hP, hK, hD0, hX⟩ := hv
  have hx := B.exec
  have hb := B.bytes
  have hr := B.returns
  have hT : ∀ w ∈ gT, w.before _ s = true := fun w h => atoms_spec (ws := .code yX9_addLine cX9_addLine 5 none :: gT) B.pre w (List.mem_cons_of_mem _ h)
  have hown : s.vm.findClass RX9 = some m.cls := findClass_of_methodNamed B.named
  have hlocks := B.notSynchronized
  subst hsz
  have hD := hD0.self (sz := s.heap.size)
  generalize hAe : va_A [(h, .inr (9, [.int bday, .int bseed, .int balive, .int bstruck, .int bopen, .int bduels, .int blines, .ref bcoins, .ref brented, .ref bmornings, .ref bhonours, .ref bused, .ref bsides, .ref blog])), (blog, aI g 60 Fblog)] s.heap.size = A at hD ⊢
  have hA : ∀ q : Nat, s.heap.size ≤ q → A q := fun q h => by rw [← hAe]; exact Or.inr h
  have hS : va_S A s.heap s.heap [] := va_S.rf
  have hl := lv_entry ([.ref h, .int p0, .int p1, .int p2, .int p3]) (n := 5) (Nat.le_of_ble_eq_true rfl)
  rw [lg_entry_eq]
  generalize (lg_sl ([.ref h, .int p0, .int p1, .int p2, .int p3]) ++ List.replicate (5 - (lg_sl ([.ref h, .int p0, .int p1, .int p2, .int p3])).length) Slot.unset).toArray = ls at hl ⊢
  have hl : lv_has ls 5 [(0, .ref h), (1, .int p0), (2, .int p1), (3, .int p2), (4, .int p3)] := hl
  refine p_nH (fun H hH => ?_)
  have hP : va_P g.1 vwCl [(h, .inr (9, [.int bday, .int bseed, .int balive, .int bstruck, .int bopen, .int bduels, .int blines, .ref bcoins, .ref brented, .ref bmornings, .ref bhonours, .ref bused, .ref bsides, .ref blog])), (blog, aI g 60 Fblog)] H := by rw [hH]; exact hP
  have hS : va_S A s.heap H [] := by rw [hH]; exact hS
  refine lv_aload_n hx hb dX9_addLine_0 rfl (lv_at hl 0 rfl) ?_
  refine va_get (D := g.1) (ci := 9) (v := .int blines) (C := RX9) (T := TX9) (N := 14) hx hb hT inF_X9 hown hK.1 hP 0 rfl rfl 6 (by decide) (hT _ bw_40) (fun _ h9 => h9) rfl dX9_addLine_1 ?_
  refine lv_bipush (v := 60) hx hb dX9_addLine_4 (by decide) ?_
  refine lv_icmp_ge (tgt := 53) hx hb dX9_addLine_6 (by decide) (fun c_1 => ?_) (fun c_1 => ?_)
  · have f_2 := E_le (by decide : (60 : Int32).toInt = 60) (rfl : blines.toInt = _) c_1
    have hP9 : va_P g.1 vwCl [(h, .inr (9, [.int bday, .int bseed, .int balive, .int bstruck, .int bopen, .int bduels, .int blines, .ref bcoins, .ref brented, .ref bmornings, .ref bhonours, .ref bused, .ref bsides, .ref blog])), (blog, aI g 60 Fblog)] H := hP.sub [0, 1] rfl
    have hD9 : va_D A [(h, .inr (9, [.int bday, .int bseed, .int balive, .int bstruck, .int bopen, .int bduels, .int blines, .ref bcoins, .ref brented, .ref bmornings, .ref bhonours, .ref bused, .ref bsides, .ref blog])), (blog, aI g 60 Fblog)] := hD.sub [0, 1] (by decide +kernel) rfl
    exact W.vret hx hb hr (fun t ht hW => ⟨⟨(blines, Fblog), rfl, (by first | with_reducible assumption | omega), by rw [ht]; exact hP9, by rw [hAe]; exact hD9⟩, hS.F ht⟩) hS.2.2 dX9_addLine_53
  · have f_3 := E_nle (by decide : (60 : Int32).toInt = 60) (rfl : blines.toInt = _) c_1
    refine lv_aload_n hx hb dX9_addLine_9 rfl (lv_at hl 0 rfl) ?_
    refine va_get (D := g.1) (ci := 9) (v := .ref blog) (C := RX9) (T := TX9) (N := 14) hx hb hT inF_X9 hown hK.1 hP 0 rfl rfl 13 (by decide) (hT _ bw_38) (fun _ h9 => h9) rfl dX9_addLine_10 ?_
    refine lv_aload_n hx hb dX9_addLine_13 rfl (lv_at hl 0 rfl) ?_
    refine va_get (D := g.1) (ci := 9) (v := .int blines) (C := RX9) (T := TX9) (N := 14) hx hb hT inF_X9 hown hK.1 hP 0 rfl rfl 6 (by decide) (hT _ bw_40) (fun _ h9 => h9) rfl dX9_addLine_14 ?_
    refine lv_iload_n hx hb dX9_addLine_17 rfl (lv_at hl 1 rfl) ?_
    refine lv_bipush (v := 29) hx hb dX9_addLine_18 (by decide) ?_
    refine lv_ishl hx hb dX9_addLine_20 ?_
    refine lv_topi (fun x_4 ex_4 => ?_)
    refine lv_iload_n hx hb dX9_addLine_21 rfl (lv_at hl 2 rfl) ?_
    refine lv_bipush (v := 26) hx hb dX9_addLine_22 (by decide) ?_
    refine lv_ishl hx hb dX9_addLine_24 ?_
    refine lv_topi (fun x_5 ex_5 => ?_)
    refine lv_ior hx hb dX9_addLine_25 ?_
    refine lv_topi (fun x_6 ex_6 => ?_)
    refine lv_iload_n hx hb dX9_addLine_26 rfl (lv_at hl 3 rfl) ?_
    refine lv_bipush (v := 23) hx hb dX9_addLine_27 (by decide) ?_
    refine lv_ishl hx hb dX9_addLine_29 ?_
    refine lv_topi (fun x_7 ex_7 => ?_)
    refine lv_ior hx hb dX9_addLine_30 ?_
    refine lv_topi (fun x_8 ex_8 => ?_)
    refine lv_aload_n hx hb dX9_addLine_31 rfl (lv_at hl 0 rfl) ?_
    refine va_get (D := g.1) (ci := 9) (v := .int bday) (C := RX9) (T := TX9) (N := 14) hx hb hT inF_X9 hown hK.1 hP 0 rfl rfl 0 (by decide) (hT _ bw_41) (fun _ h9 => h9) rfl dX9_addLine_32 ?_
    refine lv_bipush (v := 9) hx hb dX9_addLine_35 (by decide) ?_
    refine lv_ishl hx hb dX9_addLine_37 ?_
    refine lv_topi (fun x_9 ex_9 => ?_)
    refine lv_ior hx hb dX9_addLine_38 ?_
    refine lv_topi (fun x_10 ex_10 => ?_)
    refine lv_iload hx hb dX9_addLine_39 (lv_at hl 4 rfl) ?_
    refine lv_ior hx hb dX9_addLine_41 ?_
    refine lv_topi (fun x_11 ex_11 => ?_)
    have h_12 : vp_in blines 60 := vp_in_iff.mpr (by omega)
    refine va_iast hx hb hK.1 hP hD hS 1 1 rfl rfl (i := blines) (x := x_11) h_12 dX9_addLine_42 (fun H locs hP hD hS => ?_)
    generalize upd Fblog (blines : Int32).toNatClampNeg x_11 = f_13 at hP hD
    have hP : va_P g.1 vwCl [(h, .inr (9, [.int bday, .int bseed, .int balive, .int bstruck, .int bopen, .int bduels, .int blines, .ref bcoins, .ref brented, .ref bmornings, .ref bhonours, .ref bused, .ref bsides, .ref blog])), (blog, aI g 60 f_13)] H := hP
    have hD : va_D A [(h, .inr (9, [.int bday, .int bseed, .int balive, .int bstruck, .int bopen, .int bduels, .int blines, .ref bcoins, .ref brented, .ref bmornings, .ref bhonours, .ref bused, .ref bsides, .ref blog])), (blog, aI g 60 f_13)] := hD
    refine lv_aload_n hx hb dX9_addLine_43 rfl (lv_at hl 0 rfl) ?_
    refine lv_dup hx hb dX9_addLine_44 rfl ?_
    refine va_get (D := g.1) (ci := 9) (v := .int blines) (C := RX9) (T := TX9) (N := 14) hx hb hT inF_X9 hown hK.1 hP 0 rfl rfl 6 (by decide) (hT _ bw_40) (fun _ h9 => h9) rfl dX9_addLine_45 ?_
    refine lv_iconst (v := 1) hx hb dX9_addLine_48 (by decide) ?_
    refine lv_iadd hx hb dX9_addLine_49 ?_
    refine lv_topi (fun x_14 ex_14 => ?_)
    have fx_14 : x_14.toInt = blines.toInt + 1 := by rw [ex_14]; exact I_add rfl (by decide : (1 : Int32).toInt = 1) (by omega) (by omega)
    refine va_put (D := g.1) (ci := 9) (v := .int x_14) (ty := .int) (C := RX9) (T := TX9) (N := 14) hx hb hT inF_X9 tyX9 tyX9_ok nmX9 hown hK.1 hP hD hS 0 rfl rfl 6 (by decide) (hT _ bw_40) (fun _ h9 => h9) rfl (by decide +kernel) rfl rfl (Nat.le_of_ble_eq_true rfl) dX9_addLine_50 (fun H locs hP hD hS => ?_)
    have hP : va_P g.1 vwCl [(h, .inr (9, [.int bday, .int bseed, .int balive, .int bstruck, .int bopen, .int bduels, .int x_14, .ref bcoins, .ref brented, .ref bmornings, .ref bhonours, .ref bused, .ref bsides, .ref blog])), (blog, aI g 60 f_13)] H := hP
    have hD : va_D A [(h, .inr (9, [.int bday, .int bseed, .int balive, .int bstruck, .int bopen, .int bduels, .int x_14, .ref bcoins, .ref brented, .ref bmornings, .ref bhonours, .ref bused, .ref bsides, .ref blog])), (blog, aI g 60 f_13)] := hD
    have hP9 : va_P g.1 vwCl [(h, .inr (9, [.int bday, .int bseed, .int balive, .int bstruck, .int bopen, .int bduels, .int x_14, .ref bcoins, .ref brented, .ref bmornings, .ref bhonours, .ref bused, .ref bsides, .ref blog])), (blog, aI g 60 f_13)] H := hP.sub [0, 1] rfl
    have hD9 : va_D A [(h, .inr (9, [.int bday, .int bseed, .int balive, .int bstruck, .int bopen, .int bduels, .int x_14, .ref bcoins, .ref brented, .ref bmornings, .ref bhonours, .ref bused, .ref bsides, .ref blog])), (blog, aI g 60 f_13)] := hD.sub [0, 1] (by decide +kernel) rfl
    exact W.vret hx hb hr (fun t ht hW => ⟨⟨(x_14, f_13), rfl, (by first | with_reducible assumption | omega), by rw [ht]; exact hP9, by rw [hAe]; exact hD9⟩, hS.F ht⟩) hS.2.2 dX9_addLine_53

theorem bw_43 : Cond.methodLink RX9 93 yX9_isOpen ∈ gT := gT_tb 928 (by decide +kernel) (by decide +kernel)
theorem bw_44 : Cond.instanceMethod yX9_isOpen ∈ gT := gT_tb 864 (by decide +kernel) (by decide +kernel)
theorem bw_45 : Cond.selects RX9 yX9_isOpen yX9_isOpen ∈ gT := gT_tb 865 (by decide +kernel) (by decide +kernel)
theorem bw_46 : Cond.initialized RX9 ∈ gT := gT_tb 16 (by decide +kernel) (by decide +kernel)
theorem bw_47 : Cond.methodLink RX9 97 yX9_sideOf ∈ gT := gT_tb 1025 (by decide +kernel) (by decide +kernel)
theorem bw_48 : Cond.instanceMethod yX9_sideOf ∈ gT := gT_tb 974 (by decide +kernel) (by decide +kernel)
theorem bw_49 : Cond.selects RX9 yX9_sideOf yX9_sideOf ∈ gT := gT_tb 975 (by decide +kernel) (by decide +kernel)
theorem bw_50 : Cond.code yX9_haveOpenDuel cX9_haveOpenDuel 4 (some .boolean) ∈ gT := gT_tb 1024 (by decide +kernel) (by decide +kernel)
theorem dX9_haveOpenDuel_0 : decode cX9_haveOpenDuel 0 = .ok (.iconst 0, 1) := by decide +kernel
theorem dX9_haveOpenDuel_1 : decode cX9_haveOpenDuel 1 = .ok (.istore_n 3, 1) := by decide +kernel
theorem dX9_haveOpenDuel_2 : decode cX9_haveOpenDuel 2 = .ok (.iload_n 3, 1) := by decide +kernel
theorem dX9_haveOpenDuel_3 : decode cX9_haveOpenDuel 3 = .ok (.aload_n 0, 1) := by decide +kernel
theorem dX9_haveOpenDuel_4 : decode cX9_haveOpenDuel 4 = .ok (.getfield 63, 3) := by decide +kernel
theorem dX9_haveOpenDuel_7 : decode cX9_haveOpenDuel 7 = .ok (.if_icmp .ge 39, 3) := by decide +kernel
theorem dX9_haveOpenDuel_10 : decode cX9_haveOpenDuel 10 = .ok (.aload_n 0, 1) := by decide +kernel
theorem dX9_haveOpenDuel_11 : decode cX9_haveOpenDuel 11 = .ok (.iload_n 3, 1) := by decide +kernel
theorem dX9_haveOpenDuel_12 : decode cX9_haveOpenDuel 12 = .ok (.invokevirtual 93, 3) := by decide +kernel
theorem dX9_haveOpenDuel_15 : decode cX9_haveOpenDuel 15 = .ok (.ifCond .eq 25, 3) := by decide +kernel
theorem dX9_haveOpenDuel_18 : decode cX9_haveOpenDuel 18 = .ok (.aload_n 0, 1) := by decide +kernel
theorem dX9_haveOpenDuel_19 : decode cX9_haveOpenDuel 19 = .ok (.iload_n 3, 1) := by decide +kernel
theorem dX9_haveOpenDuel_20 : decode cX9_haveOpenDuel 20 = .ok (.iload_n 1, 1) := by decide +kernel
theorem dX9_haveOpenDuel_21 : decode cX9_haveOpenDuel 21 = .ok (.invokevirtual 97, 3) := by decide +kernel
theorem dX9_haveOpenDuel_24 : decode cX9_haveOpenDuel 24 = .ok (.iconst (-1), 1) := by decide +kernel
theorem dX9_haveOpenDuel_25 : decode cX9_haveOpenDuel 25 = .ok (.if_icmp .eq 15, 3) := by decide +kernel
theorem dX9_haveOpenDuel_28 : decode cX9_haveOpenDuel 28 = .ok (.aload_n 0, 1) := by decide +kernel
theorem dX9_haveOpenDuel_29 : decode cX9_haveOpenDuel 29 = .ok (.iload_n 3, 1) := by decide +kernel
theorem dX9_haveOpenDuel_30 : decode cX9_haveOpenDuel 30 = .ok (.iload_n 2, 1) := by decide +kernel
theorem dX9_haveOpenDuel_31 : decode cX9_haveOpenDuel 31 = .ok (.invokevirtual 97, 3) := by decide +kernel
theorem dX9_haveOpenDuel_34 : decode cX9_haveOpenDuel 34 = .ok (.iconst (-1), 1) := by decide +kernel
theorem dX9_haveOpenDuel_35 : decode cX9_haveOpenDuel 35 = .ok (.if_icmp .eq 5, 3) := by decide +kernel
theorem dX9_haveOpenDuel_38 : decode cX9_haveOpenDuel 38 = .ok (.iconst 1, 1) := by decide +kernel
theorem dX9_haveOpenDuel_39 : decode cX9_haveOpenDuel 39 = .ok (.ireturn, 1) := by decide +kernel
theorem dX9_haveOpenDuel_40 : decode cX9_haveOpenDuel 40 = .ok (.iinc 3 1, 3) := by decide +kernel
theorem dX9_haveOpenDuel_43 : decode cX9_haveOpenDuel 43 = .ok (.goto (-41), 3) := by decide +kernel
theorem dX9_haveOpenDuel_46 : decode cX9_haveOpenDuel 46 = .ok (.iconst 0, 1) := by decide +kernel
theorem dX9_haveOpenDuel_47 : decode cX9_haveOpenDuel 47 = .ok (.ireturn, 1) := by decide +kernel
set_option maxHeartbeats 4000000 in
set_option maxRecDepth 100000 in
theorem s_X9_haveOpenDuel (l : Launch) (g : GG) (sz : Nat) (h : Nat) (bday : Int32) (bseed : Int32) (balive : Int32) (bstruck : Int32) (bopen : Int32) (bduels : Int32) (blines : Int32) (bcoins : Nat) (brented : Nat) (bmornings : Nat) (bhonours : Nat) (bused : Nat) (bsides : Nat) (Fbsides : Nat → Int32) (blog : Nat) (p0 : Int32) (p1 : Int32) (hh0 : 0 ≤ bseed.toInt ∧ bseed.toInt ≤ 999) (hh1 : 0 ≤ bduels.toInt ∧ bduels.toInt ≤ 8) (hh2 : 0 ≤ blines.toInt ∧ blines.toInt ≤ 60) (hh3 : Rg 16 0 5 Fbsides) : Met l yX9_haveOpenDuel (.code yX9_haveOpenDuel cX9_haveOpenDuel 4 (some .boolean) :: gT) ({ frames := 1, cells := 0, slots := 0, locals := 22 }) (va_Pc [.ref h, .int p0, .int p1] (Pst g sz [(h, .inr (9, [.int bday, .int bseed, .int balive, .int bstruck, .int bopen, .int bduels, .int blines, .ref bcoins, .ref brented, .ref bmornings, .ref bhonours, .ref bused, .ref bsides, .ref blog])), (bsides, aI g 16 Fbsides)] nX)) (va_Qi (fun (r : Int32) => fun (_ : Unit) => 0 ≤ r.toInt ∧ r.toInt ≤ 1) (Qst g [] sz (fun _ => [])) (va_A [] sz)) 0 0 (va_A [] sz) := by
  refine Met.ofW (cc := cX9_haveOpenDuel) (maxL := 4) (ret := (some .boolean)) (by decide) rfl ?_
  intro p e s m args below meth c s₁ B hml hv
  obtain ⟨rfl, hsz, hP, hK, hD0, hX⟩ := hv
  have hx := B.exec
  have hb := B.bytes
  have hr := B.returns
  have hT : ∀ w ∈ gT, w.before _ s = true := fun w h => atoms_spec (ws := .code yX9_haveOpenDuel cX9_haveOpenDuel 4 (some .boolean) :: gT) B.pre w (List.mem_cons_of_mem _ h)
  have hown : s.vm.findClass RX9 = some m.cls := findClass_of_methodNamed B.named
  have hlocks := B.notSynchronized
  subst hsz
  have hD := hD0
  generalize hAe : va_A [] s.heap.size = A at ⊢
  have hA : ∀ q : Nat, s.heap.size ≤ q → A q := fun q h => by rw [← hAe]; exact Or.inr h
  have hS : va_S A s.heap s.heap [] := va_S.rf
  have hl := lv_entry ([.ref h, .int p0, .int p1]) (n := 4) (Nat.le_of_ble_eq_true rfl)
  rw [lg_entry_eq]
  generalize (lg_sl ([.ref h, .int p0, .int p1]) ++ List.replicate (4 - (lg_sl ([.ref h, .int p0, .int p1])).length) Slot.unset).toArray = ls at hl ⊢
  have hl : lv_has ls 4 [(0, .ref h), (1, .int p0), (2, .int p1)] := hl
  refine p_nH (fun H hH => ?_)
  have hP : va_P g.1 vwCl [(h, .inr (9, [.int bday, .int bseed, .int balive, .int bstruck, .int bopen, .int bduels, .int blines, .ref bcoins, .ref brented, .ref bmornings, .ref bhonours, .ref bused, .ref bsides, .ref blog])), (bsides, aI g 16 Fbsides)] H := by rw [hH]; exact hP
  have hS : va_S A s.heap H [] := by rw [hH]; exact hS
  refine lv_iconst (v := 0) hx hb dX9_haveOpenDuel_0 (by decide) ?_
  refine lv_istore_n (lv' := [(3, .int 0), (0, .ref h), (1, .int p0), (2, .int p1)]) hx hb dX9_haveOpenDuel_1 rfl hl (by decide) rfl (fun ls hl => ?_)
  refine k_floop 2 (fun n H locs ls => ∃ (L_1 : Int32), (0 ≤ L_1.toInt ∧ L_1.toInt ≤ 8) ∧ 8 - L_1.toInt ≤ (n : Int) ∧ va_P g.1 vwCl [(h, .inr (9, [.int bday, .int bseed, .int balive, .int bstruck, .int bopen, .int bduels, .int blines, .ref bcoins, .ref brented, .ref bmornings, .ref bhonours, .ref bused, .ref bsides, .ref blog])), (bsides, aI g 16 Fbsides)] H ∧ va_S A s.heap H locs ∧ lv_has ls 4 [(3, .int L_1), (0, .ref h), (1, .int p0), (2, .int p1)]) (fun n H locs ls hI ih => ?_) ((8 - 0 : Int)).toNat ⟨0, by decide, by have k0 : (0 : Int32).toInt = 0 := (by decide); omega, hP, hS, hl⟩
  refine hI.elim (fun L_1 hI => ?_)
  have g_2 := hI.1
  have hm_3 := hI.2.1
  have hP := hI.2.2.1
  have hS := hI.2.2.2.1
  have hl := hI.2.2.2.2
  clear hI
  refine lv_iload_n hx hb dX9_haveOpenDuel_2 rfl (lv_at hl 0 rfl) ?_
  refine lv_aload_n hx hb dX9_haveOpenDuel_3 rfl (lv_at hl 1 rfl) ?_
  refine va_get (D := g.1) (ci := 9) (v := .int bduels) (C := RX9) (T := TX9) (N := 14) hx hb hT inF_X9 hown hK.1 hP 0 rfl rfl 5 (by decide) (hT _ bw_33) (fun _ h9 => h9) rfl dX9_haveOpenDuel_4 ?_
  refine lv_icmp_ge (tgt := 46) hx hb dX9_haveOpenDuel_7 (by decide) (fun c_4 => ?_) (fun c_4 => ?_)
  · have f_5 := E_le (rfl : bduels.toInt = _) (rfl : L_1.toInt = _) c_4
    refine lv_iconst (v := 0) hx hb dX9_haveOpenDuel_46 (by decide) ?_
    have hP9 : va_P g.1 vwCl [] H := hP.sub [] rfl
    have hD9 : va_D A [] := ⟨fun i j p q h => by simp at h, fun k q h => by simp at h⟩
    exact W.zret (v := 0) (ty := .boolean) hx hb hr rfl (fun t ht hW => ⟨⟨0, (), rfl, ⟨by decide, by decide⟩, by rw [ht]; exact hP9, by rw [hAe]; exact hD9⟩, hS.F ht⟩) hS.2.2 dX9_haveOpenDuel_47
  · have f_6 := E_nle (rfl : bduels.toInt = _) (rfl : L_1.toInt = _) c_4
    refine lv_aload_n hx hb dX9_haveOpenDuel_10 rfl (lv_at hl 1 rfl) ?_
    refine lv_iload_n hx hb dX9_haveOpenDuel_11 rfl (lv_at hl 0 rfl) ?_
    refine k_iR (k_V (n := 1) ⟨hx, hb, hml, hown, hT⟩ hK hP hD [0] rfl (by decide +kernel) (s_X9_isOpen l g H.size h bday bseed balive bstruck bopen bduels blines bcoins brented bmornings bhonours bused bsides blog L_1 (by first | with_reducible assumption | omega) (by first | with_reducible assumption | omega) (by first | with_reducible assumption | omega)) (gV bw_43 bw_44 bw_45 bw_46 bw_32) rfl rfl (by decide +kernel) ⟨by decide, by decide⟩ (ci := 9) (q0 := 0) rfl rfl (fun _ _ _ _ _ => trivial) (fun _ _ _ => trivial) rfl rfl hl.1 (Nat.le_of_ble_eq_true rfl) dX9_haveOpenDuel_12 ⟨by decide, by decide⟩) hP hS hA (fun r_7 _ H locs hw0 hP hS => ?_)
    have hw : 0 ≤ r_7.toInt ∧ r_7.toInt ≤ 1 := hw0
    clear hw0
    have w_8 := hw
    refine lv_if_eq (tgt := 40) hx hb dX9_haveOpenDuel_15 (by decide) (fun c_9 => ?_) (fun c_9 => ?_)
    · have f_10 := E_eq (rfl : r_7.toInt = _) (by decide : (0 : Int32).toInt = 0) c_9
      obtain ⟨x_11, ex_11⟩ : ∃ y : Int32, y = L_1 + 1 := ⟨_, rfl⟩
      have fx_11 : x_11.toInt = L_1.toInt + 1 := by rw [ex_11]; exact I_add rfl (by decide) (by omega) (by omega)
      refine lv_iinc (v := x_11) (lv' := [(3, .int x_11), (0, .ref h), (1, .int p0), (2, .int p1)]) hx hb dX9_haveOpenDuel_40 hl (k := 0) rfl (by rw [ex_11]; rfl) (by decide) rfl (fun ls hl => ?_)
      refine lv_goto (tgt := 2) hx hb dX9_haveOpenDuel_43 (by decide) ?_
      exact ih (n - 1) (by omega) H locs ls ⟨x_11, (by first | with_reducible assumption | omega), by omega, hP.sub [0, 1] rfl, hS, lv_sub hl [0, 1, 2, 3] rfl⟩
    · have f_12 := E_ne (rfl : r_7.toInt = _) (by decide : (0 : Int32).toInt = 0) c_9
      refine lv_aload_n hx hb dX9_haveOpenDuel_18 rfl (lv_at hl 1 rfl) ?_
      refine lv_iload_n hx hb dX9_haveOpenDuel_19 rfl (lv_at hl 0 rfl) ?_
      refine lv_iload_n hx hb dX9_haveOpenDuel_20 rfl (lv_at hl 2 rfl) ?_
      refine k_iR (k_V (n := 2) ⟨hx, hb, hml, hown, hT⟩ hK hP hD [0, 1] rfl (by decide +kernel) (s_X9_sideOf l g H.size h bday bseed balive bstruck bopen bduels blines bcoins brented bmornings bhonours bused bsides Fbsides blog L_1 p0 (by first | with_reducible assumption | omega) (by first | with_reducible assumption | omega) (by first | with_reducible assumption | omega) hh3 (by first | with_reducible assumption | omega)) (gV bw_47 bw_48 bw_49 bw_46 bw_37) rfl rfl (by decide +kernel) ⟨by decide, by decide⟩ (ci := 9) (q0 := 0) rfl rfl (fun _ _ _ _ _ => trivial) (fun _ _ _ => trivial) rfl rfl hl.1 (Nat.le_of_ble_eq_true rfl) dX9_haveOpenDuel_21 ⟨by decide, by decide⟩) hP hS hA (fun r_13 _ H locs hw0 hP hS => ?_)
      have hw : (-1) ≤ r_13.toInt ∧ r_13.toInt ≤ 1 := hw0
      clear hw0
      have w_14 := hw
      refine lv_iconst (v := (-1)) hx hb dX9_haveOpenDuel_24 (by decide) ?_
      refine lv_icmp_eq (tgt := 40) hx hb dX9_haveOpenDuel_25 (by decide) (fun c_15 => ?_) (fun c_15 => ?_)
      · have f_16 := E_eq (rfl : r_13.toInt = _) (by decide : ((-1) : Int32).toInt = (-1)) c_15
        obtain ⟨x_17, ex_17⟩ : ∃ y : Int32, y = L_1 + 1 := ⟨_, rfl⟩
        have fx_17 : x_17.toInt = L_1.toInt + 1 := by rw [ex_17]; exact I_add rfl (by decide) (by omega) (by omega)
        refine lv_iinc (v := x_17) (lv' := [(3, .int x_17), (0, .ref h), (1, .int p0), (2, .int p1)]) hx hb dX9_haveOpenDuel_40 hl (k := 0) rfl (by rw [ex_17]; rfl) (by decide) rfl (fun ls hl => ?_)
        refine lv_goto (tgt := 2) hx hb dX9_haveOpenDuel_43 (by decide) ?_
        exact ih (n - 1) (by omega) H locs ls ⟨x_17, (by first | with_reducible assumption | omega), by omega, hP.sub [0, 1] rfl, hS, lv_sub hl [0, 1, 2, 3] rfl⟩
      · have f_18 := E_ne (rfl : r_13.toInt = _) (by decide : ((-1) : Int32).toInt = (-1)) c_15
        refine lv_aload_n hx hb dX9_haveOpenDuel_28 rfl (lv_at hl 1 rfl) ?_
        refine lv_iload_n hx hb dX9_haveOpenDuel_29 rfl (lv_at hl 0 rfl) ?_
        refine lv_iload_n hx hb dX9_haveOpenDuel_30 rfl (lv_at hl 3 rfl) ?_
        refine k_iR (k_V (n := 2) ⟨hx, hb, hml, hown, hT⟩ hK hP hD [0, 1] rfl (by decide +kernel) (s_X9_sideOf l g H.size h bday bseed balive bstruck bopen bduels blines bcoins brented bmornings bhonours bused bsides Fbsides blog L_1 p1 (by first | with_reducible assumption | omega) (by first | with_reducible assumption | omega) (by first | with_reducible assumption | omega) hh3 (by first | with_reducible assumption | omega)) (gV bw_47 bw_48 bw_49 bw_46 bw_37) rfl rfl (by decide +kernel) ⟨by decide, by decide⟩ (ci := 9) (q0 := 0) rfl rfl (fun _ _ _ _ _ => trivial) (fun _ _ _ => trivial) rfl rfl hl.1 (Nat.le_of_ble_eq_true rfl) dX9_haveOpenDuel_31 ⟨by decide, by decide⟩) hP hS hA (fun r_19 _ H locs hw0 hP hS => ?_)
        have hw : (-1) ≤ r_19.toInt ∧ r_19.toInt ≤ 1 := hw0
        clear hw0
        have w_20 := hw
        refine lv_iconst (v := (-1)) hx hb dX9_haveOpenDuel_34 (by decide) ?_
        refine lv_icmp_eq (tgt := 40) hx hb dX9_haveOpenDuel_35 (by decide) (fun c_21 => ?_) (fun c_21 => ?_)
        · have f_22 := E_eq (rfl : r_19.toInt = _) (by decide : ((-1) : Int32).toInt = (-1)) c_21
          obtain ⟨x_23, ex_23⟩ : ∃ y : Int32, y = L_1 + 1 := ⟨_, rfl⟩
          have fx_23 : x_23.toInt = L_1.toInt + 1 := by rw [ex_23]; exact I_add rfl (by decide) (by omega) (by omega)
          refine lv_iinc (v := x_23) (lv' := [(3, .int x_23), (0, .ref h), (1, .int p0), (2, .int p1)]) hx hb dX9_haveOpenDuel_40 hl (k := 0) rfl (by rw [ex_23]; rfl) (by decide) rfl (fun ls hl => ?_)
          refine lv_goto (tgt := 2) hx hb dX9_haveOpenDuel_43 (by decide) ?_
          exact ih (n - 1) (by omega) H locs ls ⟨x_23, (by first | with_reducible assumption | omega), by omega, hP.sub [0, 1] rfl, hS, lv_sub hl [0, 1, 2, 3] rfl⟩
        · have f_24 := E_ne (rfl : r_19.toInt = _) (by decide : ((-1) : Int32).toInt = (-1)) c_21
          refine lv_iconst (v := 1) hx hb dX9_haveOpenDuel_38 (by decide) ?_
          have hP9 : va_P g.1 vwCl [] H := hP.sub [] rfl
          have hD9 : va_D A [] := ⟨fun i j p q h => by simp at h, fun k q h => by simp at h⟩
          exact W.zret (v := 1) (ty := .boolean) hx hb hr rfl (fun t ht hW => ⟨⟨1, (), rfl, ⟨by decide, by decide⟩, by rw [ht]; exact hP9, by rw [hAe]; exact hD9⟩, hS.F ht⟩) hS.2.2 dX9_haveOpenDuel_39

theorem bw_51 : Cond.fieldLink RX9 18 "DuelDelays$State" "mornings" "[I" ∈ gT := gT_tb 467 (by decide +kernel) (by decide +kernel)
theorem bw_52 : Cond.code yX9_firstOpen cX9_firstOpen 3 (some .int) ∈ gT := gT_tb 960 (by decide +kernel) (by decide +kernel)
theorem dX9_firstOpen_0 : decode cX9_firstOpen 0 = .ok (.iconst (-1), 1) := by decide +kernel
theorem dX9_firstOpen_1 : decode cX9_firstOpen 1 = .ok (.istore_n 1, 1) := by decide +kernel
theorem dX9_firstOpen_2 : decode cX9_firstOpen 2 = .ok (.iconst 0, 1) := by decide +kernel
theorem dX9_firstOpen_3 : decode cX9_firstOpen 3 = .ok (.istore_n 2, 1) := by decide +kernel
theorem dX9_firstOpen_4 : decode cX9_firstOpen 4 = .ok (.iload_n 2, 1) := by decide +kernel
theorem dX9_firstOpen_5 : decode cX9_firstOpen 5 = .ok (.aload_n 0, 1) := by decide +kernel
theorem dX9_firstOpen_6 : decode cX9_firstOpen 6 = .ok (.getfield 63, 3) := by decide +kernel
theorem dX9_firstOpen_9 : decode cX9_firstOpen 9 = .ok (.if_icmp .ge 39, 3) := by decide +kernel
theorem dX9_firstOpen_12 : decode cX9_firstOpen 12 = .ok (.aload_n 0, 1) := by decide +kernel
theorem dX9_firstOpen_13 : decode cX9_firstOpen 13 = .ok (.iload_n 2, 1) := by decide +kernel
theorem dX9_firstOpen_14 : decode cX9_firstOpen 14 = .ok (.invokevirtual 93, 3) := by decide +kernel
theorem dX9_firstOpen_17 : decode cX9_firstOpen 17 = .ok (.ifCond .eq 25, 3) := by decide +kernel
theorem dX9_firstOpen_20 : decode cX9_firstOpen 20 = .ok (.iload_n 1, 1) := by decide +kernel
theorem dX9_firstOpen_21 : decode cX9_firstOpen 21 = .ok (.iconst (-1), 1) := by decide +kernel
theorem dX9_firstOpen_22 : decode cX9_firstOpen 22 = .ok (.if_icmp .eq 18, 3) := by decide +kernel
theorem dX9_firstOpen_25 : decode cX9_firstOpen 25 = .ok (.aload_n 0, 1) := by decide +kernel
theorem dX9_firstOpen_26 : decode cX9_firstOpen 26 = .ok (.getfield 18, 3) := by decide +kernel
theorem dX9_firstOpen_29 : decode cX9_firstOpen 29 = .ok (.iload_n 2, 1) := by decide +kernel
theorem dX9_firstOpen_30 : decode cX9_firstOpen 30 = .ok (.iaload, 1) := by decide +kernel
theorem dX9_firstOpen_31 : decode cX9_firstOpen 31 = .ok (.aload_n 0, 1) := by decide +kernel
theorem dX9_firstOpen_32 : decode cX9_firstOpen 32 = .ok (.getfield 18, 3) := by decide +kernel
theorem dX9_firstOpen_35 : decode cX9_firstOpen 35 = .ok (.iload_n 1, 1) := by decide +kernel
theorem dX9_firstOpen_36 : decode cX9_firstOpen 36 = .ok (.iaload, 1) := by decide +kernel
theorem dX9_firstOpen_37 : decode cX9_firstOpen 37 = .ok (.if_icmp .ge 5, 3) := by decide +kernel
theorem dX9_firstOpen_40 : decode cX9_firstOpen 40 = .ok (.iload_n 2, 1) := by decide +kernel
theorem dX9_firstOpen_41 : decode cX9_firstOpen 41 = .ok (.istore_n 1, 1) := by decide +kernel
theorem dX9_firstOpen_42 : decode cX9_firstOpen 42 = .ok (.iinc 2 1, 3) := by decide +kernel
theorem dX9_firstOpen_45 : decode cX9_firstOpen 45 = .ok (.goto (-41), 3) := by decide +kernel
theorem dX9_firstOpen_48 : decode cX9_firstOpen 48 = .ok (.iload_n 1, 1) := by decide +kernel
theorem dX9_firstOpen_49 : decode cX9_firstOpen 49 = .ok (.ireturn, 1) := by decide +kernel
set_option maxHeartbeats 4000000 in
set_option maxRecDepth 100000 in
theorem s_X9_firstOpen (l : Launch) (g : GG) (sz : Nat) (h : Nat) (bday : Int32) (bseed : Int32) (balive : Int32) (bstruck : Int32) (bopen : Int32) (bduels : Int32) (blines : Int32) (bcoins : Nat) (brented : Nat) (bmornings : Nat) (Fbmornings : Nat → Int32) (bhonours : Nat) (bused : Nat) (bsides : Nat) (blog : Nat) (hh0 : 0 ≤ bseed.toInt ∧ bseed.toInt ≤ 999) (hh1 : 0 ≤ bduels.toInt ∧ bduels.toInt ≤ 8) (hh2 : 0 ≤ blines.toInt ∧ blines.toInt ≤ 60) : Met l yX9_firstOpen (.code yX9_firstOpen cX9_firstOpen 3 (some .int) :: gT) ({ frames := 1, cells := 0, slots := 0, locals := 21 }) (va_Pc [.ref h] (Pst g sz [(h, .inr (9, [.int bday, .int bseed, .int balive, .int bstruck, .int bopen, .int bduels, .int blines, .ref bcoins, .ref brented, .ref bmornings, .ref bhonours, .ref bused, .ref bsides, .ref blog])), (bmornings, aI g 8 Fbmornings)] nX)) (va_Qi (fun (r : Int32) => fun (_ : Unit) => (-1) ≤ r.toInt ∧ r.toInt ≤ 7) (Qst g [] sz (fun _ => [])) (va_A [] sz)) 0 0 (va_A [] sz) := by
  refine Met.ofW (cc := cX9_firstOpen) (maxL := 3) (ret := (some .int)) (by decide) rfl ?_
  intro p e s m args below meth c s₁ B hml hv
  obtain ⟨rfl, hsz, hP, hK, hD0, hX⟩ := hv
  have hx := B.exec
  have hb := B.bytes
  have hr := B.returns
  have hT : ∀ w ∈ gT, w.before _ s = true := fun w h => atoms_spec (ws := .code yX9_firstOpen cX9_firstOpen 3 (some .int) :: gT) B.pre w (List.mem_cons_of_mem _ h)
  have hown : s.vm.findClass RX9 = some m.cls := findClass_of_methodNamed B.named
  have hlocks := B.notSynchronized
  subst hsz
  have hD := hD0
  generalize hAe : va_A [] s.heap.size = A at ⊢
  have hA : ∀ q : Nat, s.heap.size ≤ q → A q := fun q h => by rw [← hAe]; exact Or.inr h
  have hS : va_S A s.heap s.heap [] := va_S.rf
  have hl := lv_entry ([.ref h]) (n := 3) (Nat.le_of_ble_eq_true rfl)
  rw [lg_entry_eq]
  generalize (lg_sl ([.ref h]) ++ List.replicate (3 - (lg_sl ([.ref h])).length) Slot.unset).toArray = ls at hl ⊢
  have hl : lv_has ls 3 [(0, .ref h)] := hl
  refine p_nH (fun H hH => ?_)
  have hP : va_P g.1 vwCl [(h, .inr (9, [.int bday, .int bseed, .int balive, .int bstruck, .int bopen, .int bduels, .int blines, .ref bcoins, .ref brented, .ref bmornings, .ref bhonours, .ref bused, .ref bsides, .ref blog])), (bmornings, aI g 8 Fbmornings)] H := by rw [hH]; exact hP
  have hS : va_S A s.heap H [] := by rw [hH]; exact hS
  refine lv_iconst (v := (-1)) hx hb dX9_firstOpen_0 (by decide) ?_
  refine lv_istore_n (lv' := [(1, .int (-1)), (0, .ref h)]) hx hb dX9_firstOpen_1 rfl hl (by decide) rfl (fun ls hl => ?_)
  refine lv_iconst (v := 0) hx hb dX9_firstOpen_2 (by decide) ?_
  refine lv_istore_n (lv' := [(2, .int 0), (1, .int (-1)), (0, .ref h)]) hx hb dX9_firstOpen_3 rfl hl (by decide) rfl (fun ls hl => ?_)
  refine k_floop 4 (fun n H locs ls => ∃ (L_1 : Int32) (L_2 : Int32), (0 ≤ L_1.toInt ∧ L_1.toInt ≤ 8) ∧ ((-1) ≤ L_2.toInt ∧ L_2.toInt ≤ 7) ∧ 8 - L_1.toInt ≤ (n : Int) ∧ va_P g.1 vwCl [(h, .inr (9, [.int bday, .int bseed, .int balive, .int bstruck, .int bopen, .int bduels, .int blines, .ref bcoins, .ref brented, .ref bmornings, .ref bhonours, .ref bused, .ref bsides, .ref blog])), (bmornings, aI g 8 Fbmornings)] H ∧ va_S A s.heap H locs ∧ lv_has ls 3 [(2, .int L_1), (1, .int L_2), (0, .ref h)]) (fun n H locs ls hI ih => ?_) ((8 - 0 : Int)).toNat ⟨0, (-1), by decide, by decide, by have k0 : ((-1) : Int32).toInt = (-1) := (by decide); have k1 : (0 : Int32).toInt = 0 := (by decide); omega, hP, hS, hl⟩
  refine hI.elim (fun L_1 hI => hI.elim (fun L_2 hI => ?_))
  have g_3 := hI.1
  have g_4 := hI.2.1
  have hm_5 := hI.2.2.1
  have hP := hI.2.2.2.1
  have hS := hI.2.2.2.2.1
  have hl := hI.2.2.2.2.2
  clear hI
  refine lv_iload_n hx hb dX9_firstOpen_4 rfl (lv_at hl 0 rfl) ?_
  refine lv_aload_n hx hb dX9_firstOpen_5 rfl (lv_at hl 2 rfl) ?_
  refine va_get (D := g.1) (ci := 9) (v := .int bduels) (C := RX9) (T := TX9) (N := 14) hx hb hT inF_X9 hown hK.1 hP 0 rfl rfl 5 (by decide) (hT _ bw_33) (fun _ h9 => h9) rfl dX9_firstOpen_6 ?_
  refine lv_icmp_ge (tgt := 48) hx hb dX9_firstOpen_9 (by decide) (fun c_6 => ?_) (fun c_6 => ?_)
  · have f_7 := E_le (rfl : bduels.toInt = _) (rfl : L_1.toInt = _) c_6
    refine lv_iload_n hx hb dX9_firstOpen_48 rfl (lv_at hl 1 rfl) ?_
    have hP9 : va_P g.1 vwCl [] H := hP.sub [] rfl
    have hD9 : va_D A [] := ⟨fun i j p q h => by simp at h, fun k q h => by simp at h⟩
    exact W.iret (v := L_2) hx hb hr (fun t ht hW => ⟨⟨L_2, (), rfl, (by first | with_reducible assumption | omega), by rw [ht]; exact hP9, by rw [hAe]; exact hD9⟩, hS.F ht⟩) hS.2.2 dX9_firstOpen_49
  · have f_8 := E_nle (rfl : bduels.toInt = _) (rfl : L_1.toInt = _) c_6
    refine lv_aload_n hx hb dX9_firstOpen_12 rfl (lv_at hl 2 rfl) ?_
    refine lv_iload_n hx hb dX9_firstOpen_13 rfl (lv_at hl 0 rfl) ?_
    refine k_iR (k_V (n := 1) ⟨hx, hb, hml, hown, hT⟩ hK hP hD [0] rfl (by decide +kernel) (s_X9_isOpen l g H.size h bday bseed balive bstruck bopen bduels blines bcoins brented bmornings bhonours bused bsides blog L_1 (by first | with_reducible assumption | omega) (by first | with_reducible assumption | omega) (by first | with_reducible assumption | omega)) (gV bw_43 bw_44 bw_45 bw_46 bw_32) rfl rfl (by decide +kernel) ⟨by decide, by decide⟩ (ci := 9) (q0 := 0) rfl rfl (fun _ _ _ _ _ => trivial) (fun _ _ _ => trivial) rfl rfl hl.1 (Nat.le_of_ble_eq_true rfl) dX9_firstOpen_14 ⟨by decide, by decide⟩) hP hS hA (fun r_9 _ H locs hw0 hP hS => ?_)
    have hw : 0 ≤ r_9.toInt ∧ r_9.toInt ≤ 1 := hw0
    clear hw0
    have w_10 := hw
    refine lv_if_eq (tgt := 42) hx hb dX9_firstOpen_17 (by decide) (fun c_11 => ?_) (fun c_11 => ?_)
    · have f_12 := E_eq (rfl : r_9.toInt = _) (by decide : (0 : Int32).toInt = 0) c_11
      obtain ⟨x_13, ex_13⟩ : ∃ y : Int32, y = L_1 + 1 := ⟨_, rfl⟩
      have fx_13 : x_13.toInt = L_1.toInt + 1 := by rw [ex_13]; exact I_add rfl (by decide) (by omega) (by omega)
      refine lv_iinc (v := x_13) (lv' := [(2, .int x_13), (1, .int L_2), (0, .ref h)]) hx hb dX9_firstOpen_42 hl (k := 0) rfl (by rw [ex_13]; rfl) (by decide) rfl (fun ls hl => ?_)
      refine lv_goto (tgt := 4) hx hb dX9_firstOpen_45 (by decide) ?_
      exact ih (n - 1) (by omega) H locs ls ⟨x_13, L_2, (by first | with_reducible assumption | omega), (by first | with_reducible assumption | omega), by omega, hP.sub [0, 1] rfl, hS, lv_sub hl [0, 1, 2] rfl⟩
    · have f_14 := E_ne (rfl : r_9.toInt = _) (by decide : (0 : Int32).toInt = 0) c_11
      refine lv_iload_n hx hb dX9_firstOpen_20 rfl (lv_at hl 1 rfl) ?_
      refine lv_iconst (v := (-1)) hx hb dX9_firstOpen_21 (by decide) ?_
      refine lv_icmp_eq (tgt := 40) hx hb dX9_firstOpen_22 (by decide) (fun c_15 => ?_) (fun c_15 => ?_)
      · have f_16 := E_eq (rfl : L_2.toInt = _) (by decide : ((-1) : Int32).toInt = (-1)) c_15
        refine lv_iload_n hx hb dX9_firstOpen_40 rfl (lv_at hl 0 rfl) ?_
        refine lv_istore_n (lv' := [(1, .int L_1), (2, .int L_1), (0, .ref h)]) hx hb dX9_firstOpen_41 rfl hl (by decide) rfl (fun ls hl => ?_)
        obtain ⟨x_17, ex_17⟩ : ∃ y : Int32, y = L_1 + 1 := ⟨_, rfl⟩
        have fx_17 : x_17.toInt = L_1.toInt + 1 := by rw [ex_17]; exact I_add rfl (by decide) (by omega) (by omega)
        refine lv_iinc (v := x_17) (lv' := [(2, .int x_17), (1, .int L_1), (0, .ref h)]) hx hb dX9_firstOpen_42 hl (k := 1) rfl (by rw [ex_17]; rfl) (by decide) rfl (fun ls hl => ?_)
        refine lv_goto (tgt := 4) hx hb dX9_firstOpen_45 (by decide) ?_
        exact ih (n - 1) (by omega) H locs ls ⟨x_17, L_1, (by first | with_reducible assumption | omega), (by first | with_reducible assumption | omega), by omega, hP.sub [0, 1] rfl, hS, lv_sub hl [0, 1, 2] rfl⟩
      · have f_18 := E_ne (rfl : L_2.toInt = _) (by decide : ((-1) : Int32).toInt = (-1)) c_15
        refine lv_aload_n hx hb dX9_firstOpen_25 rfl (lv_at hl 2 rfl) ?_
        refine va_get (D := g.1) (ci := 9) (v := .ref bmornings) (C := RX9) (T := TX9) (N := 14) hx hb hT inF_X9 hown hK.1 hP 0 rfl rfl 9 (by decide) (hT _ bw_51) (fun _ h9 => h9) rfl dX9_firstOpen_26 ?_
        refine lv_iload_n hx hb dX9_firstOpen_29 rfl (lv_at hl 0 rfl) ?_
        have h_19 : vp_in L_1 8 := vp_in_iff.mpr (by omega)
        refine va_iald hx hb hK.1 hP 1 1 rfl rfl (i := L_1) h_19 dX9_firstOpen_30 ?_
        refine lv_topi (fun x_20 ex_20 => ?_)
        have ux_20 := congrArg Int32.toInt ex_20
        refine lv_aload_n hx hb dX9_firstOpen_31 rfl (lv_at hl 2 rfl) ?_
        refine va_get (D := g.1) (ci := 9) (v := .ref bmornings) (C := RX9) (T := TX9) (N := 14) hx hb hT inF_X9 hown hK.1 hP 0 rfl rfl 9 (by decide) (hT _ bw_51) (fun _ h9 => h9) rfl dX9_firstOpen_32 ?_
        refine lv_iload_n hx hb dX9_firstOpen_35 rfl (lv_at hl 1 rfl) ?_
        have h_21 : vp_in L_2 8 := vp_in_iff.mpr (by omega)
        refine va_iald hx hb hK.1 hP 1 1 rfl rfl (i := L_2) h_21 dX9_firstOpen_36 ?_
        refine lv_topi (fun x_22 ex_22 => ?_)
        have ux_22 := congrArg Int32.toInt ex_22
        refine lv_icmp_ge (tgt := 42) hx hb dX9_firstOpen_37 (by decide) (fun c_23 => ?_) (fun c_23 => ?_)
        · have f_24 := E_le (rfl : x_22.toInt = _) (rfl : x_20.toInt = _) c_23
          obtain ⟨x_25, ex_25⟩ : ∃ y : Int32, y = L_1 + 1 := ⟨_, rfl⟩
          have fx_25 : x_25.toInt = L_1.toInt + 1 := by rw [ex_25]; exact I_add rfl (by decide) (by omega) (by omega)
          refine lv_iinc (v := x_25) (lv' := [(2, .int x_25), (1, .int L_2), (0, .ref h)]) hx hb dX9_firstOpen_42 hl (k := 0) rfl (by rw [ex_25]; rfl) (by decide) rfl (fun ls hl => ?_)
          refine lv_goto (tgt := 4) hx hb dX9_firstOpen_45 (by decide) ?_
          exact ih (n - 1) (by omega) H locs ls ⟨x_25, L_2, (by first | with_reducible assumption | omega), (by first | with_reducible assumption | omega), by omega, hP.sub [0, 1] rfl, hS, lv_sub hl [0, 1, 2] rfl⟩
        · have f_26 := E_nle (rfl : x_22.toInt = _) (rfl : x_20.toInt = _) c_23
          refine lv_iload_n hx hb dX9_firstOpen_40 rfl (lv_at hl 0 rfl) ?_
          refine lv_istore_n (lv' := [(1, .int L_1), (2, .int L_1), (0, .ref h)]) hx hb dX9_firstOpen_41 rfl hl (by decide) rfl (fun ls hl => ?_)
          obtain ⟨x_27, ex_27⟩ : ∃ y : Int32, y = L_1 + 1 := ⟨_, rfl⟩
          have fx_27 : x_27.toInt = L_1.toInt + 1 := by rw [ex_27]; exact I_add rfl (by decide) (by omega) (by omega)
          refine lv_iinc (v := x_27) (lv' := [(2, .int x_27), (1, .int L_1), (0, .ref h)]) hx hb dX9_firstOpen_42 hl (k := 1) rfl (by rw [ex_27]; rfl) (by decide) rfl (fun ls hl => ?_)
          refine lv_goto (tgt := 4) hx hb dX9_firstOpen_45 (by decide) ?_
          exact ih (n - 1) (by omega) H locs ls ⟨x_27, L_1, (by first | with_reducible assumption | omega), (by first | with_reducible assumption | omega), by omega, hP.sub [0, 1] rfl, hS, lv_sub hl [0, 1, 2] rfl⟩

set_option maxRecDepth 20000 in
theorem inF_X2 : ∀ w ∈ u_ws RX2 TX2 9, w ∈ gT := gT_u [315, 317, 319, 321, 323, 325, 327, 329, 331] (by decide +kernel) (by decide +kernel)
theorem bw_53 : Cond.fieldLink RX9 45 "DuelDelays$Land" "men" "LDuelDelays$Men;" ∈ gT := gT_tb 285 (by decide +kernel) (by decide +kernel)
theorem bw_54 : Cond.fieldLink RX9 49 "DuelDelays$Men" "count" "I" ∈ gT := gT_tb 165 (by decide +kernel) (by decide +kernel)
theorem bw_55 : Cond.fieldLink RX9 101 "DuelDelays$Men" "fathers" "[I" ∈ gT := gT_tb 181 (by decide +kernel) (by decide +kernel)
theorem bw_56 : Cond.methodLink RX9 104 yX9_isAlive ∈ gT := gT_tb 885 (by decide +kernel) (by decide +kernel)
theorem bw_57 : Cond.instanceMethod yX9_isAlive ∈ gT := gT_tb 848 (by decide +kernel) (by decide +kernel)
theorem bw_58 : Cond.selects RX9 yX9_isAlive yX9_isAlive ∈ gT := gT_tb 849 (by decide +kernel) (by decide +kernel)
theorem bw_59 : Cond.code yX9_heirOf cX9_heirOf 4 (some .int) ∈ gT := gT_tb 968 (by decide +kernel) (by decide +kernel)
theorem dX9_heirOf_0 : decode cX9_heirOf 0 = .ok (.iconst 0, 1) := by decide +kernel
theorem dX9_heirOf_1 : decode cX9_heirOf 1 = .ok (.istore_n 3, 1) := by decide +kernel
theorem dX9_heirOf_2 : decode cX9_heirOf 2 = .ok (.iload_n 3, 1) := by decide +kernel
theorem dX9_heirOf_3 : decode cX9_heirOf 3 = .ok (.aload_n 1, 1) := by decide +kernel
theorem dX9_heirOf_4 : decode cX9_heirOf 4 = .ok (.getfield 45, 3) := by decide +kernel
theorem dX9_heirOf_7 : decode cX9_heirOf 7 = .ok (.getfield 49, 3) := by decide +kernel
theorem dX9_heirOf_10 : decode cX9_heirOf 10 = .ok (.if_icmp .ge 32, 3) := by decide +kernel
theorem dX9_heirOf_13 : decode cX9_heirOf 13 = .ok (.aload_n 1, 1) := by decide +kernel
theorem dX9_heirOf_14 : decode cX9_heirOf 14 = .ok (.getfield 45, 3) := by decide +kernel
theorem dX9_heirOf_17 : decode cX9_heirOf 17 = .ok (.getfield 101, 3) := by decide +kernel
theorem dX9_heirOf_20 : decode cX9_heirOf 20 = .ok (.iload_n 3, 1) := by decide +kernel
theorem dX9_heirOf_21 : decode cX9_heirOf 21 = .ok (.iaload, 1) := by decide +kernel
theorem dX9_heirOf_22 : decode cX9_heirOf 22 = .ok (.iload_n 2, 1) := by decide +kernel
theorem dX9_heirOf_23 : decode cX9_heirOf 23 = .ok (.if_icmp .ne 13, 3) := by decide +kernel
theorem dX9_heirOf_26 : decode cX9_heirOf 26 = .ok (.aload_n 0, 1) := by decide +kernel
theorem dX9_heirOf_27 : decode cX9_heirOf 27 = .ok (.iload_n 3, 1) := by decide +kernel
theorem dX9_heirOf_28 : decode cX9_heirOf 28 = .ok (.invokevirtual 104, 3) := by decide +kernel
theorem dX9_heirOf_31 : decode cX9_heirOf 31 = .ok (.ifCond .eq 5, 3) := by decide +kernel
theorem dX9_heirOf_34 : decode cX9_heirOf 34 = .ok (.iload_n 3, 1) := by decide +kernel
theorem dX9_heirOf_35 : decode cX9_heirOf 35 = .ok (.ireturn, 1) := by decide +kernel
theorem dX9_heirOf_36 : decode cX9_heirOf 36 = .ok (.iinc 3 1, 3) := by decide +kernel
theorem dX9_heirOf_39 : decode cX9_heirOf 39 = .ok (.goto (-37), 3) := by decide +kernel
theorem dX9_heirOf_42 : decode cX9_heirOf 42 = .ok (.iconst (-1), 1) := by decide +kernel
theorem dX9_heirOf_43 : decode cX9_heirOf 43 = .ok (.ireturn, 1) := by decide +kernel
set_option maxHeartbeats 4000000 in
set_option maxRecDepth 100000 in
theorem s_X9_heirOf (l : Launch) (g : GG) (sz : Nat) (h : Nat) (bday : Int32) (bseed : Int32) (balive : Int32) (bstruck : Int32) (bopen : Int32) (bduels : Int32) (blines : Int32) (bcoins : Nat) (brented : Nat) (bmornings : Nat) (bhonours : Nat) (bused : Nat) (bsides : Nat) (blog : Nat) (la : Nat) (dduels : Int32) (dduelSides : Nat) (dduelMornings : Nat) (dhonour : Int32) (ddraw : Int32) (dusesOfKind : Nat) (dmen : Nat) (dmen_count : Int32) (dmen_names : Nat) (dmen_dies : Nat) (dmen_coins : Nat) (dmen_fathers : Nat) (Fdmen_fathers : Nat → Int32) (dformulas : Nat) (dreasons : Nat) (p0 : Int32) (hh0 : 0 ≤ bseed.toInt ∧ bseed.toInt ≤ 999) (hh1 : 0 ≤ bduels.toInt ∧ bduels.toInt ≤ 8) (hh2 : 0 ≤ blines.toInt ∧ blines.toInt ≤ 60) (hh4 : 0 ≤ dduels.toInt ∧ dduels.toInt ≤ 6) (hh6 : 0 ≤ ddraw.toInt ∧ ddraw.toInt ≤ 999) (hh7 : 0 ≤ dmen_count.toInt ∧ dmen_count.toInt ≤ 6) : Met l yX9_heirOf (.code yX9_heirOf cX9_heirOf 4 (some .int) :: gT) ({ frames := 1, cells := 0, slots := 0, locals := 21 }) (va_Pc [.ref h, .ref la, .int p0] (Pst g sz [(h, .inr (9, [.int bday, .int bseed, .int balive, .int bstruck, .int bopen, .int bduels, .int blines, .ref bcoins, .ref brented, .ref bmornings, .ref bhonours, .ref bused, .ref bsides, .ref blog])), (la, .inr (2, [.ref dmen, .ref dformulas, .ref dreasons, .int dduels, .ref dduelSides, .ref dduelMornings, .int dhonour, .int ddraw, .ref dusesOfKind])), (dmen, .inr (3, [.int dmen_count, .ref dmen_names, .ref dmen_dies, .ref dmen_coins, .ref dmen_fathers])), (dmen_fathers, aI g 6 Fdmen_fathers)] nX)) (va_Qi (fun (r : Int32) => fun (_ : Unit) => (-1) ≤ r.toInt ∧ r.toInt ≤ 5) (Qst g [] sz (fun _ => [])) (va_A [] sz)) 0 0 (va_A [] sz) := by
  refine Met.ofW (cc := cX9_heirOf) (maxL := 4) (ret := (some .int)) (by decide) rfl ?_
  intro p e s m args below meth c s₁ B hml hv
  obtain ⟨rfl, hsz, hP, hK, hD0, hX⟩ := hv
  have hx := B.exec
  have hb := B.bytes
  have hr := B.returns
  have hT : ∀ w ∈ gT, w.before _ s = true := fun w h => atoms_spec (ws := .code yX9_heirOf cX9_heirOf 4 (some .int) :: gT) B.pre w (List.mem_cons_of_mem _ h)
  have hown : s.vm.findClass RX9 = some m.cls := findClass_of_methodNamed B.named
  have hlocks := B.notSynchronized
  subst hsz
  have hD := hD0
  generalize hAe : va_A [] s.heap.size = A at ⊢
  have hA : ∀ q : Nat, s.heap.size ≤ q → A q := fun q h => by rw [← hAe]; exact Or.inr h
  have hS : va_S A s.heap s.heap [] := va_S.rf
  have hl := lv_entry ([.ref h, .ref la, .int p0]) (n := 4) (Nat.le_of_ble_eq_true rfl)
  rw [lg_entry_eq]
  generalize (lg_sl ([.ref h, .ref la, .int p0]) ++ List.replicate (4 - (lg_sl ([.ref h, .ref la, .int p0])).length) Slot.unset).toArray = ls at hl ⊢
  have hl : lv_has ls 4 [(0, .ref h), (1, .ref la), (2, .int p0)] := hl
  refine p_nH (fun H hH => ?_)
  have hP : va_P g.1 vwCl [(h, .inr (9, [.int bday, .int bseed, .int balive, .int bstruck, .int bopen, .int bduels, .int blines, .ref bcoins, .ref brented, .ref bmornings, .ref bhonours, .ref bused, .ref bsides, .ref blog])), (la, .inr (2, [.ref dmen, .ref dformulas, .ref dreasons, .int dduels, .ref dduelSides, .ref dduelMornings, .int dhonour, .int ddraw, .ref dusesOfKind])), (dmen, .inr (3, [.int dmen_count, .ref dmen_names, .ref dmen_dies, .ref dmen_coins, .ref dmen_fathers])), (dmen_fathers, aI g 6 Fdmen_fathers)] H := by rw [hH]; exact hP
  have hS : va_S A s.heap H [] := by rw [hH]; exact hS
  refine lv_iconst (v := 0) hx hb dX9_heirOf_0 (by decide) ?_
  refine lv_istore_n (lv' := [(3, .int 0), (0, .ref h), (1, .ref la), (2, .int p0)]) hx hb dX9_heirOf_1 rfl hl (by decide) rfl (fun ls hl => ?_)
  refine k_floop 2 (fun n H locs ls => ∃ (L_1 : Int32), (0 ≤ L_1.toInt ∧ L_1.toInt ≤ 6) ∧ 6 - L_1.toInt ≤ (n : Int) ∧ va_P g.1 vwCl [(h, .inr (9, [.int bday, .int bseed, .int balive, .int bstruck, .int bopen, .int bduels, .int blines, .ref bcoins, .ref brented, .ref bmornings, .ref bhonours, .ref bused, .ref bsides, .ref blog])), (la, .inr (2, [.ref dmen, .ref dformulas, .ref dreasons, .int dduels, .ref dduelSides, .ref dduelMornings, .int dhonour, .int ddraw, .ref dusesOfKind])), (dmen, .inr (3, [.int dmen_count, .ref dmen_names, .ref dmen_dies, .ref dmen_coins, .ref dmen_fathers])), (dmen_fathers, aI g 6 Fdmen_fathers)] H ∧ va_S A s.heap H locs ∧ lv_has ls 4 [(3, .int L_1), (0, .ref h), (1, .ref la), (2, .int p0)]) (fun n H locs ls hI ih => ?_) ((6 - 0 : Int)).toNat ⟨0, by decide, by have k0 : (0 : Int32).toInt = 0 := (by decide); omega, hP, hS, hl⟩
  refine hI.elim (fun L_1 hI => ?_)
  have g_2 := hI.1
  have hm_3 := hI.2.1
  have hP := hI.2.2.1
  have hS := hI.2.2.2.1
  have hl := hI.2.2.2.2
  clear hI
  refine lv_iload_n hx hb dX9_heirOf_2 rfl (lv_at hl 0 rfl) ?_
  refine lv_aload_n hx hb dX9_heirOf_3 rfl (lv_at hl 2 rfl) ?_
  refine va_get (D := g.1) (ci := 2) (v := .ref dmen) (C := RX2) (T := TX2) (N := 9) hx hb hT inF_X2 hown hK.1 hP 1 rfl rfl 0 (by decide) (hT _ bw_53) (fun _ h9 => h9) rfl dX9_heirOf_4 ?_
  refine va_get (D := g.1) (ci := 3) (v := .int dmen_count) (C := RX3) (T := TX3) (N := 5) hx hb hT inF_X3 hown hK.1 hP 2 rfl rfl 0 (by decide) (hT _ bw_54) (fun _ h9 => h9) rfl dX9_heirOf_7 ?_
  refine lv_icmp_ge (tgt := 42) hx hb dX9_heirOf_10 (by decide) (fun c_4 => ?_) (fun c_4 => ?_)
  · have f_5 := E_le (rfl : dmen_count.toInt = _) (rfl : L_1.toInt = _) c_4
    refine lv_iconst (v := (-1)) hx hb dX9_heirOf_42 (by decide) ?_
    have hP9 : va_P g.1 vwCl [] H := hP.sub [] rfl
    have hD9 : va_D A [] := ⟨fun i j p q h => by simp at h, fun k q h => by simp at h⟩
    exact W.iret (v := (-1)) hx hb hr (fun t ht hW => ⟨⟨(-1), (), rfl, ⟨by decide, by decide⟩, by rw [ht]; exact hP9, by rw [hAe]; exact hD9⟩, hS.F ht⟩) hS.2.2 dX9_heirOf_43
  · have f_6 := E_nle (rfl : dmen_count.toInt = _) (rfl : L_1.toInt = _) c_4
    refine lv_aload_n hx hb dX9_heirOf_13 rfl (lv_at hl 2 rfl) ?_
    refine va_get (D := g.1) (ci := 2) (v := .ref dmen) (C := RX2) (T := TX2) (N := 9) hx hb hT inF_X2 hown hK.1 hP 1 rfl rfl 0 (by decide) (hT _ bw_53) (fun _ h9 => h9) rfl dX9_heirOf_14 ?_
    refine va_get (D := g.1) (ci := 3) (v := .ref dmen_fathers) (C := RX3) (T := TX3) (N := 5) hx hb hT inF_X3 hown hK.1 hP 2 rfl rfl 4 (by decide) (hT _ bw_55) (fun _ h9 => h9) rfl dX9_heirOf_17 ?_
    refine lv_iload_n hx hb dX9_heirOf_20 rfl (lv_at hl 0 rfl) ?_
    have h_7 : vp_in L_1 6 := vp_in_iff.mpr (by omega)
    refine va_iald hx hb hK.1 hP 3 1 rfl rfl (i := L_1) h_7 dX9_heirOf_21 ?_
    refine lv_topi (fun x_8 ex_8 => ?_)
    have ux_8 := congrArg Int32.toInt ex_8
    refine lv_iload_n hx hb dX9_heirOf_22 rfl (lv_at hl 3 rfl) ?_
    refine lv_icmp_ne (tgt := 36) hx hb dX9_heirOf_23 (by decide) (fun c_9 => ?_) (fun c_9 => ?_)
    · have f_10 := E_ne (rfl : x_8.toInt = _) (rfl : p0.toInt = _) c_9
      obtain ⟨x_11, ex_11⟩ : ∃ y : Int32, y = L_1 + 1 := ⟨_, rfl⟩
      have fx_11 : x_11.toInt = L_1.toInt + 1 := by rw [ex_11]; exact I_add rfl (by decide) (by omega) (by omega)
      refine lv_iinc (v := x_11) (lv' := [(3, .int x_11), (0, .ref h), (1, .ref la), (2, .int p0)]) hx hb dX9_heirOf_36 hl (k := 0) rfl (by rw [ex_11]; rfl) (by decide) rfl (fun ls hl => ?_)
      refine lv_goto (tgt := 2) hx hb dX9_heirOf_39 (by decide) ?_
      exact ih (n - 1) (by omega) H locs ls ⟨x_11, (by first | with_reducible assumption | omega), by omega, hP.sub [0, 1, 2, 3] rfl, hS, lv_sub hl [0, 1, 2, 3] rfl⟩
    · have f_12 := E_eq (rfl : x_8.toInt = _) (rfl : p0.toInt = _) c_9
      refine lv_aload_n hx hb dX9_heirOf_26 rfl (lv_at hl 1 rfl) ?_
      refine lv_iload_n hx hb dX9_heirOf_27 rfl (lv_at hl 0 rfl) ?_
      refine k_iR (k_V (n := 1) ⟨hx, hb, hml, hown, hT⟩ hK hP hD [0] rfl (by decide +kernel) (s_X9_isAlive l g H.size h bday bseed balive bstruck bopen bduels blines bcoins brented bmornings bhonours bused bsides blog L_1 (by first | with_reducible assumption | omega) (by first | with_reducible assumption | omega) (by first | with_reducible assumption | omega)) (gV bw_56 bw_57 bw_58 bw_46 bw_28) rfl rfl (by decide +kernel) ⟨by decide, by decide⟩ (ci := 9) (q0 := 0) rfl rfl (fun _ _ _ _ _ => trivial) (fun _ _ _ => trivial) rfl rfl hl.1 (Nat.le_of_ble_eq_true rfl) dX9_heirOf_28 ⟨by decide, by decide⟩) hP hS hA (fun r_13 _ H locs hw0 hP hS => ?_)
      have hw : 0 ≤ r_13.toInt ∧ r_13.toInt ≤ 1 := hw0
      clear hw0
      have w_14 := hw
      refine lv_if_eq (tgt := 36) hx hb dX9_heirOf_31 (by decide) (fun c_15 => ?_) (fun c_15 => ?_)
      · have f_16 := E_eq (rfl : r_13.toInt = _) (by decide : (0 : Int32).toInt = 0) c_15
        obtain ⟨x_17, ex_17⟩ : ∃ y : Int32, y = L_1 + 1 := ⟨_, rfl⟩
        have fx_17 : x_17.toInt = L_1.toInt + 1 := by rw [ex_17]; exact I_add rfl (by decide) (by omega) (by omega)
        refine lv_iinc (v := x_17) (lv' := [(3, .int x_17), (0, .ref h), (1, .ref la), (2, .int p0)]) hx hb dX9_heirOf_36 hl (k := 0) rfl (by rw [ex_17]; rfl) (by decide) rfl (fun ls hl => ?_)
        refine lv_goto (tgt := 2) hx hb dX9_heirOf_39 (by decide) ?_
        exact ih (n - 1) (by omega) H locs ls ⟨x_17, (by first | with_reducible assumption | omega), by omega, hP.sub [0, 1, 2, 3] rfl, hS, lv_sub hl [0, 1, 2, 3] rfl⟩
      · have f_18 := E_ne (rfl : r_13.toInt = _) (by decide : (0 : Int32).toInt = 0) c_15
        refine lv_iload_n hx hb dX9_heirOf_34 rfl (lv_at hl 0 rfl) ?_
        have hP9 : va_P g.1 vwCl [] H := hP.sub [] rfl
        have hD9 : va_D A [] := ⟨fun i j p q h => by simp at h, fun k q h => by simp at h⟩
        exact W.iret (v := L_1) hx hb hr (fun t ht hW => ⟨⟨L_1, (), rfl, (by first | with_reducible assumption | omega), by rw [ht]; exact hP9, by rw [hAe]; exact hD9⟩, hS.F ht⟩) hS.2.2 dX9_heirOf_35

theorem bw_60 : Cond.fieldLink RX9 24 "DuelDelays$State" "used" "[I" ∈ gT := gT_tb 473 (by decide +kernel) (by decide +kernel)
theorem bw_61 : Cond.initialized yX11_barringUses.cls ∈ gT := gT_tb 1 (by decide +kernel) (by decide +kernel)
theorem bw_62 : Cond.static yX11_barringUses ∈ gT := gT_tb 809 (by decide +kernel) (by decide +kernel)
theorem bw_63 : Cond.methodLink RX9 111 yJ6_bitCount_0f7a4 ∈ gT := gT_tb 895 (by decide +kernel) (by decide +kernel)
theorem bw_64 : Cond.static yJ6_bitCount_0f7a4 ∈ gT := gT_tb 868 (by decide +kernel) (by decide +kernel)
theorem bw_65 : Cond.initialized yJ6_bitCount_0f7a4.cls ∈ gT := gT_tb 22 (by decide +kernel) (by decide +kernel)
theorem bw_66 : Cond.code yX9_timesUsed cX9_timesUsed 4 (some .int) ∈ gT := gT_tb 893 (by decide +kernel) (by decide +kernel)
theorem dX9_timesUsed_0 : decode cX9_timesUsed 0 = .ok (.iconst 0, 1) := by decide +kernel
theorem dX9_timesUsed_1 : decode cX9_timesUsed 1 = .ok (.istore_n 2, 1) := by decide +kernel
theorem dX9_timesUsed_2 : decode cX9_timesUsed 2 = .ok (.iconst 0, 1) := by decide +kernel
theorem dX9_timesUsed_3 : decode cX9_timesUsed 3 = .ok (.istore_n 3, 1) := by decide +kernel
theorem dX9_timesUsed_4 : decode cX9_timesUsed 4 = .ok (.iload_n 3, 1) := by decide +kernel
theorem dX9_timesUsed_5 : decode cX9_timesUsed 5 = .ok (.aload_n 0, 1) := by decide +kernel
theorem dX9_timesUsed_6 : decode cX9_timesUsed 6 = .ok (.getfield 63, 3) := by decide +kernel
theorem dX9_timesUsed_9 : decode cX9_timesUsed 9 = .ok (.if_icmp .ge 28, 3) := by decide +kernel
theorem dX9_timesUsed_12 : decode cX9_timesUsed 12 = .ok (.iload_n 2, 1) := by decide +kernel
theorem dX9_timesUsed_13 : decode cX9_timesUsed 13 = .ok (.aload_n 0, 1) := by decide +kernel
theorem dX9_timesUsed_14 : decode cX9_timesUsed 14 = .ok (.getfield 24, 3) := by decide +kernel
theorem dX9_timesUsed_17 : decode cX9_timesUsed 17 = .ok (.iload_n 3, 1) := by decide +kernel
theorem dX9_timesUsed_18 : decode cX9_timesUsed 18 = .ok (.iaload, 1) := by decide +kernel
theorem dX9_timesUsed_19 : decode cX9_timesUsed 19 = .ok (.iconst 0, 1) := by decide +kernel
theorem dX9_timesUsed_20 : decode cX9_timesUsed 20 = .ok (.iconst 0, 1) := by decide +kernel
theorem dX9_timesUsed_21 : decode cX9_timesUsed 21 = .ok (.iload_n 1, 1) := by decide +kernel
theorem dX9_timesUsed_22 : decode cX9_timesUsed 22 = .ok (.invokestatic 107, 3) := by decide +kernel
theorem dX9_timesUsed_25 : decode cX9_timesUsed 25 = .ok (.iand, 1) := by decide +kernel
theorem dX9_timesUsed_26 : decode cX9_timesUsed 26 = .ok (.invokestatic 111, 3) := by decide +kernel
theorem dX9_timesUsed_29 : decode cX9_timesUsed 29 = .ok (.iadd, 1) := by decide +kernel
theorem dX9_timesUsed_30 : decode cX9_timesUsed 30 = .ok (.istore_n 2, 1) := by decide +kernel
theorem dX9_timesUsed_31 : decode cX9_timesUsed 31 = .ok (.iinc 3 1, 3) := by decide +kernel
theorem dX9_timesUsed_34 : decode cX9_timesUsed 34 = .ok (.goto (-30), 3) := by decide +kernel
theorem dX9_timesUsed_37 : decode cX9_timesUsed 37 = .ok (.iload_n 2, 1) := by decide +kernel
theorem dX9_timesUsed_38 : decode cX9_timesUsed 38 = .ok (.ireturn, 1) := by decide +kernel
set_option maxHeartbeats 4000000 in
set_option maxRecDepth 100000 in
theorem s_X9_timesUsed (l : Launch) (g : GG) (sz : Nat) (h : Nat) (bday : Int32) (bseed : Int32) (balive : Int32) (bstruck : Int32) (bopen : Int32) (bduels : Int32) (blines : Int32) (bcoins : Nat) (brented : Nat) (bmornings : Nat) (bhonours : Nat) (bused : Nat) (Fbused : Nat → Int32) (bsides : Nat) (blog : Nat) (p0 : Int32) (hh0 : 0 ≤ bseed.toInt ∧ bseed.toInt ≤ 999) (hh1 : 0 ≤ bduels.toInt ∧ bduels.toInt ≤ 8) (hh2 : 0 ≤ blines.toInt ∧ blines.toInt ≤ 60) : Met l yX9_timesUsed (.code yX9_timesUsed cX9_timesUsed 4 (some .int) :: gT) ({ frames := 1, cells := 0, slots := 0, locals := 22 }) (va_Pc [.ref h, .int p0] (Pst g sz [(h, .inr (9, [.int bday, .int bseed, .int balive, .int bstruck, .int bopen, .int bduels, .int blines, .ref bcoins, .ref brented, .ref bmornings, .ref bhonours, .ref bused, .ref bsides, .ref blog])), (bused, aI g 8 Fbused)] nX)) (va_Qi (fun (r : Int32) => fun (_ : Unit) => True) (Qst g [] sz (fun _ => [])) (va_A [] sz)) 0 0 (va_A [] sz) := by
  refine Met.ofW (cc := cX9_timesUsed) (maxL := 4) (ret := (some .int)) (by decide) rfl ?_
  intro p e s m args below meth c s₁ B hml hv
  obtain ⟨rfl, hsz, hP, hK, hD0, hX⟩ := hv
  have hx := B.exec
  have hb := B.bytes
  have hr := B.returns
  have hT : ∀ w ∈ gT, w.before _ s = true := fun w h => atoms_spec (ws := .code yX9_timesUsed cX9_timesUsed 4 (some .int) :: gT) B.pre w (List.mem_cons_of_mem _ h)
  have hown : s.vm.findClass RX9 = some m.cls := findClass_of_methodNamed B.named
  have hlocks := B.notSynchronized
  subst hsz
  have hD := hD0
  generalize hAe : va_A [] s.heap.size = A at ⊢
  have hA : ∀ q : Nat, s.heap.size ≤ q → A q := fun q h => by rw [← hAe]; exact Or.inr h
  have hS : va_S A s.heap s.heap [] := va_S.rf
  have hl := lv_entry ([.ref h, .int p0]) (n := 4) (Nat.le_of_ble_eq_true rfl)
  rw [lg_entry_eq]
  generalize (lg_sl ([.ref h, .int p0]) ++ List.replicate (4 - (lg_sl ([.ref h, .int p0])).length) Slot.unset).toArray = ls at hl ⊢
  have hl : lv_has ls 4 [(0, .ref h), (1, .int p0)] := hl
  refine p_nH (fun H hH => ?_)
  have hP : va_P g.1 vwCl [(h, .inr (9, [.int bday, .int bseed, .int balive, .int bstruck, .int bopen, .int bduels, .int blines, .ref bcoins, .ref brented, .ref bmornings, .ref bhonours, .ref bused, .ref bsides, .ref blog])), (bused, aI g 8 Fbused)] H := by rw [hH]; exact hP
  have hS : va_S A s.heap H [] := by rw [hH]; exact hS
  refine lv_iconst (v := 0) hx hb dX9_timesUsed_0 (by decide) ?_
  refine lv_istore_n (lv' := [(2, .int 0), (0, .ref h), (1, .int p0)]) hx hb dX9_timesUsed_1 rfl hl (by decide) rfl (fun ls hl => ?_)
  refine lv_iconst (v := 0) hx hb dX9_timesUsed_2 (by decide) ?_
  refine lv_istore_n (lv' := [(3, .int 0), (2, .int 0), (0, .ref h), (1, .int p0)]) hx hb dX9_timesUsed_3 rfl hl (by decide) rfl (fun ls hl => ?_)
  refine k_floop 4 (fun n H locs ls => ∃ (L_1 : Int32) (L_2 : Int32), (0 ≤ L_1.toInt ∧ L_1.toInt ≤ 8) ∧ 8 - L_1.toInt ≤ (n : Int) ∧ va_P g.1 vwCl [(h, .inr (9, [.int bday, .int bseed, .int balive, .int bstruck, .int bopen, .int bduels, .int blines, .ref bcoins, .ref brented, .ref bmornings, .ref bhonours, .ref bused, .ref bsides, .ref blog])), (bused, aI g 8 Fbused)] H ∧ va_S A s.heap H locs ∧ lv_has ls 4 [(3, .int L_1), (2, .int L_2), (0, .ref h), (1, .int p0)]) (fun n H locs ls hI ih => ?_) ((8 - 0 : Int)).toNat ⟨0, 0, by decide, by have k0 : (0 : Int32).toInt = 0 := (by decide); omega, hP, hS, hl⟩
  refine hI.elim (fun L_1 hI => hI.elim (fun L_2 hI => ?_))
  have g_3 := hI.1
  have hm_4 := hI.2.1
  have hP := hI.2.2.1
  have hS := hI.2.2.2.1
  have hl := hI.2.2.2.2
  clear hI
  refine lv_iload_n hx hb dX9_timesUsed_4 rfl (lv_at hl 0 rfl) ?_
  refine lv_aload_n hx hb dX9_timesUsed_5 rfl (lv_at hl 2 rfl) ?_
  refine va_get (D := g.1) (ci := 9) (v := .int bduels) (C := RX9) (T := TX9) (N := 14) hx hb hT inF_X9 hown hK.1 hP 0 rfl rfl 5 (by decide) (hT _ bw_33) (fun _ h9 => h9) rfl dX9_timesUsed_6 ?_
  refine lv_icmp_ge (tgt := 37) hx hb dX9_timesUsed_9 (by decide) (fun c_5 => ?_) (fun c_5 => ?_)
  · have f_6 := E_le (rfl : bduels.toInt = _) (rfl : L_1.toInt = _) c_5
    refine lv_iload_n hx hb dX9_timesUsed_37 rfl (lv_at hl 1 rfl) ?_
    have hP9 : va_P g.1 vwCl [] H := hP.sub [] rfl
    have hD9 : va_D A [] := ⟨fun i j p q h => by simp at h, fun k q h => by simp at h⟩
    exact W.iret (v := L_2) hx hb hr (fun t ht hW => ⟨⟨L_2, (), rfl, trivial, by rw [ht]; exact hP9, by rw [hAe]; exact hD9⟩, hS.F ht⟩) hS.2.2 dX9_timesUsed_38
  · have f_7 := E_nle (rfl : bduels.toInt = _) (rfl : L_1.toInt = _) c_5
    refine lv_iload_n hx hb dX9_timesUsed_12 rfl (lv_at hl 1 rfl) ?_
    refine lv_aload_n hx hb dX9_timesUsed_13 rfl (lv_at hl 2 rfl) ?_
    refine va_get (D := g.1) (ci := 9) (v := .ref bused) (C := RX9) (T := TX9) (N := 14) hx hb hT inF_X9 hown hK.1 hP 0 rfl rfl 11 (by decide) (hT _ bw_60) (fun _ h9 => h9) rfl dX9_timesUsed_14 ?_
    refine lv_iload_n hx hb dX9_timesUsed_17 rfl (lv_at hl 0 rfl) ?_
    have h_8 : vp_in L_1 8 := vp_in_iff.mpr (by omega)
    refine va_iald hx hb hK.1 hP 1 1 rfl rfl (i := L_1) h_8 dX9_timesUsed_18 ?_
    refine lv_topi (fun x_9 ex_9 => ?_)
    have ux_9 := congrArg Int32.toInt ex_9
    refine lv_iconst (v := 0) hx hb dX9_timesUsed_19 (by decide) ?_
    refine lv_iconst (v := 0) hx hb dX9_timesUsed_20 (by decide) ?_
    refine lv_iload_n hx hb dX9_timesUsed_21 rfl (lv_at hl 3 rfl) ?_
    refine k_iR (k_SN (n := 3) ⟨hx, hb, hml, hown, hT⟩ hK hP hD [] rfl (by decide +kernel) (s_X11_barringUses l g H.size 0 0 p0) (gI bw_22) bw_61 (eW_X9_107 hK.2) bw_62 rfl rfl (by decide +kernel) ⟨by decide, by decide⟩ (fun _ _ _ _ _ => trivial) (fun _ _ _ => trivial) rfl rfl hl.1 (Nat.le_of_ble_eq_true rfl) dX9_timesUsed_22 ⟨by decide, by decide⟩) hP hS hA (fun r_10 _ H locs hw0 hP hS => ?_)
    refine lv_iand hx hb dX9_timesUsed_25 ?_
    refine lv_topi (fun x_11 ex_11 => ?_)
    refine k_iR (k_S (n := 1) ⟨hx, hb, hml, hown, hT⟩ hK hP hD [] rfl (by decide +kernel) (s_J6_bitCount_0f7a4 l g H.size x_11) (gS bw_63 bw_64 bw_65 bw_26) rfl rfl (by decide +kernel) ⟨by decide, by decide⟩ (fun _ _ _ _ _ => trivial) (fun _ _ _ => trivial) rfl rfl hl.1 (Nat.le_of_ble_eq_true rfl) dX9_timesUsed_26 ⟨by decide, by decide⟩) hP hS hA (fun r_12 _ H locs hw0 hP hS => ?_)
    have hw : 0 ≤ r_12.toInt ∧ r_12.toInt ≤ 63 := hw0
    clear hw0
    have w_13 := hw
    refine lv_iadd hx hb dX9_timesUsed_29 ?_
    refine lv_topi (fun x_14 ex_14 => ?_)
    refine lv_istore_n (lv' := [(2, .int x_14), (3, .int L_1), (0, .ref h), (1, .int p0)]) hx hb dX9_timesUsed_30 rfl hl (by decide) rfl (fun ls hl => ?_)
    obtain ⟨x_15, ex_15⟩ : ∃ y : Int32, y = L_1 + 1 := ⟨_, rfl⟩
    have fx_15 : x_15.toInt = L_1.toInt + 1 := by rw [ex_15]; exact I_add rfl (by decide) (by omega) (by omega)
    refine lv_iinc (v := x_15) (lv' := [(3, .int x_15), (2, .int x_14), (0, .ref h), (1, .int p0)]) hx hb dX9_timesUsed_31 hl (k := 1) rfl (by rw [ex_15]; rfl) (by decide) rfl (fun ls hl => ?_)
    refine lv_goto (tgt := 4) hx hb dX9_timesUsed_34 (by decide) ?_
    exact ih (n - 1) (by omega) H locs ls ⟨x_15, x_14, (by first | with_reducible assumption | omega), by omega, hP.sub [0, 1] rfl, hS, lv_sub hl [0, 1, 2, 3] rfl⟩

theorem bw_67 : Cond.fieldLink RX9 117 "DuelDelays$Land" "reasons" "LDuelDelays$Reasons;" ∈ gT := gT_tb 297 (by decide +kernel) (by decide +kernel)
theorem bw_68 : Cond.fieldLink RX9 121 "DuelDelays$Reasons" "owners" "[I" ∈ gT := gT_tb 250 (by decide +kernel) (by decide +kernel)
theorem bw_69 : Cond.code yX9_ownerOf cX9_ownerOf 4 (some .int) ∈ gT := gT_tb 884 (by decide +kernel) (by decide +kernel)
theorem dX9_ownerOf_0 : decode cX9_ownerOf 0 = .ok (.aload_n 1, 1) := by decide +kernel
theorem dX9_ownerOf_1 : decode cX9_ownerOf 1 = .ok (.getfield 117, 3) := by decide +kernel
theorem dX9_ownerOf_4 : decode cX9_ownerOf 4 = .ok (.getfield 121, 3) := by decide +kernel
theorem dX9_ownerOf_7 : decode cX9_ownerOf 7 = .ok (.iload_n 2, 1) := by decide +kernel
theorem dX9_ownerOf_8 : decode cX9_ownerOf 8 = .ok (.iaload, 1) := by decide +kernel
theorem dX9_ownerOf_9 : decode cX9_ownerOf 9 = .ok (.istore_n 3, 1) := by decide +kernel
theorem dX9_ownerOf_10 : decode cX9_ownerOf 10 = .ok (.iload_n 3, 1) := by decide +kernel
theorem dX9_ownerOf_11 : decode cX9_ownerOf 11 = .ok (.iconst (-1), 1) := by decide +kernel
theorem dX9_ownerOf_12 : decode cX9_ownerOf 12 = .ok (.if_icmp .eq 15, 3) := by decide +kernel
theorem dX9_ownerOf_15 : decode cX9_ownerOf 15 = .ok (.aload_n 0, 1) := by decide +kernel
theorem dX9_ownerOf_16 : decode cX9_ownerOf 16 = .ok (.iload_n 3, 1) := by decide +kernel
theorem dX9_ownerOf_17 : decode cX9_ownerOf 17 = .ok (.invokevirtual 104, 3) := by decide +kernel
theorem dX9_ownerOf_20 : decode cX9_ownerOf 20 = .ok (.ifCond .eq 7, 3) := by decide +kernel
theorem dX9_ownerOf_23 : decode cX9_ownerOf 23 = .ok (.iload_n 3, 1) := by decide +kernel
theorem dX9_ownerOf_24 : decode cX9_ownerOf 24 = .ok (.goto 4, 3) := by decide +kernel
theorem dX9_ownerOf_27 : decode cX9_ownerOf 27 = .ok (.iconst (-1), 1) := by decide +kernel
theorem dX9_ownerOf_28 : decode cX9_ownerOf 28 = .ok (.ireturn, 1) := by decide +kernel
set_option maxHeartbeats 4000000 in
set_option maxRecDepth 100000 in
theorem s_X9_ownerOf (l : Launch) (g : GG) (sz : Nat) (h : Nat) (bday : Int32) (bseed : Int32) (balive : Int32) (bstruck : Int32) (bopen : Int32) (bduels : Int32) (blines : Int32) (bcoins : Nat) (brented : Nat) (bmornings : Nat) (bhonours : Nat) (bused : Nat) (bsides : Nat) (blog : Nat) (la : Nat) (dduels : Int32) (dduelSides : Nat) (dduelMornings : Nat) (dhonour : Int32) (ddraw : Int32) (dusesOfKind : Nat) (dmen : Nat) (dformulas : Nat) (dreasons : Nat) (dreasons_count : Int32) (dreasons_names : Nat) (dreasons_kinds : Nat) (dreasons_owners : Nat) (Fdreasons_owners : Nat → Int32) (dreasons_froms : Nat) (dreasons_tos : Nat) (dreasons_rents : Nat) (dreasons_sorts : Nat) (p0 : Int32) (hh0 : 0 ≤ bseed.toInt ∧ bseed.toInt ≤ 999) (hh1 : 0 ≤ bduels.toInt ∧ bduels.toInt ≤ 8) (hh2 : 0 ≤ blines.toInt ∧ blines.toInt ≤ 60) (hh4 : 0 ≤ dduels.toInt ∧ dduels.toInt ≤ 6) (hh6 : 0 ≤ ddraw.toInt ∧ ddraw.toInt ≤ 999) (hh13 : 0 ≤ dreasons_count.toInt ∧ dreasons_count.toInt ≤ 8) (hh15 : Rg 8 (-1) 5 Fdreasons_owners) (hh16 : 0 ≤ p0.toInt ∧ p0.toInt ≤ 7) : Met l yX9_ownerOf (.code yX9_ownerOf cX9_ownerOf 4 (some .int) :: gT) ({ frames := 1, cells := 0, slots := 0, locals := 21 }) (va_Pc [.ref h, .ref la, .int p0] (Pst g sz [(h, .inr (9, [.int bday, .int bseed, .int balive, .int bstruck, .int bopen, .int bduels, .int blines, .ref bcoins, .ref brented, .ref bmornings, .ref bhonours, .ref bused, .ref bsides, .ref blog])), (la, .inr (2, [.ref dmen, .ref dformulas, .ref dreasons, .int dduels, .ref dduelSides, .ref dduelMornings, .int dhonour, .int ddraw, .ref dusesOfKind])), (dreasons, .inr (6, [.int dreasons_count, .ref dreasons_names, .ref dreasons_kinds, .ref dreasons_owners, .ref dreasons_froms, .ref dreasons_tos, .ref dreasons_rents, .ref dreasons_sorts])), (dreasons_owners, aI g 8 Fdreasons_owners)] nX)) (va_Qi (fun (r : Int32) => fun (_ : Unit) => ((-1) ≤ r.toInt ∧ r.toInt ≤ 5) ∧ (r.toInt = -1 ∨ 0 ≤ (Fdreasons_owners p0.toNatClampNeg).toInt)) (Qst g [] sz (fun _ => [])) (va_A [] sz)) 0 0 (va_A [] sz) := by
  refine Met.ofW (cc := cX9_ownerOf) (maxL := 4) (ret := (some .int)) (by decide) rfl ?_
  intro p e s m args below meth c s₁ B hml hv
  obtain ⟨rfl, hsz, hP, hK, hD0, hX⟩ := hv
  have hx := B.exec
  have hb := B.bytes
  have hr := B.returns
  have hT : ∀ w ∈ gT, w.before _ s = true := fun w h => atoms_spec (ws := .code yX9_ownerOf cX9_ownerOf 4 (some .int) :: gT) B.pre w (List.mem_cons_of_mem _ h)
  have hown : s.vm.findClass RX9 = some m.cls := findClass_of_methodNamed B.named
  have hlocks := B.notSynchronized
  subst hsz
  have hD := hD0
  generalize hAe : va_A [] s.heap.size = A at ⊢
  have hA : ∀ q : Nat, s.heap.size ≤ q → A q := fun q h => by rw [← hAe]; exact Or.inr h
  have hS : va_S A s.heap s.heap [] := va_S.rf
  have hl := lv_entry ([.ref h, .ref la, .int p0]) (n := 4) (Nat.le_of_ble_eq_true rfl)
  rw [lg_entry_eq]
  generalize (lg_sl ([.ref h, .ref la, .int p0]) ++ List.replicate (4 - (lg_sl ([.ref h, .ref la, .int p0])).length) Slot.unset).toArray = ls at hl ⊢
  have hl : lv_has ls 4 [(0, .ref h), (1, .ref la), (2, .int p0)] := hl
  refine p_nH (fun H hH => ?_)
  have hP : va_P g.1 vwCl [(h, .inr (9, [.int bday, .int bseed, .int balive, .int bstruck, .int bopen, .int bduels, .int blines, .ref bcoins, .ref brented, .ref bmornings, .ref bhonours, .ref bused, .ref bsides, .ref blog])), (la, .inr (2, [.ref dmen, .ref dformulas, .ref dreasons, .int dduels, .ref dduelSides, .ref dduelMornings, .int dhonour, .int ddraw, .ref dusesOfKind])), (dreasons, .inr (6, [.int dreasons_count, .ref dreasons_names, .ref dreasons_kinds, .ref dreasons_owners, .ref dreasons_froms, .ref dreasons_tos, .ref dreasons_rents, .ref dreasons_sorts])), (dreasons_owners, aI g 8 Fdreasons_owners)] H := by rw [hH]; exact hP
  have hS : va_S A s.heap H [] := by rw [hH]; exact hS
  refine lv_aload_n hx hb dX9_ownerOf_0 rfl (lv_at hl 1 rfl) ?_
  refine va_get (D := g.1) (ci := 2) (v := .ref dreasons) (C := RX2) (T := TX2) (N := 9) hx hb hT inF_X2 hown hK.1 hP 1 rfl rfl 2 (by decide) (hT _ bw_67) (fun _ h9 => h9) rfl dX9_ownerOf_1 ?_
  refine va_get (D := g.1) (ci := 6) (v := .ref dreasons_owners) (C := RX6) (T := TX6) (N := 8) hx hb hT inF_X6 hown hK.1 hP 2 rfl rfl 3 (by decide) (hT _ bw_68) (fun _ h9 => h9) rfl dX9_ownerOf_4 ?_
  refine lv_iload_n hx hb dX9_ownerOf_7 rfl (lv_at hl 2 rfl) ?_
  have h_1 : vp_in p0 8 := vp_in_iff.mpr (by omega)
  refine va_iald hx hb hK.1 hP 3 1 rfl rfl (i := p0) h_1 dX9_ownerOf_8 ?_
  refine lv_topi (fun x_2 ex_2 => ?_)
  have fx_2 : (-1) ≤ x_2.toInt ∧ x_2.toInt ≤ 5 := Rg.rd hh15 h_1 ex_2
  have ux_2 := congrArg Int32.toInt ex_2
  refine lv_istore_n (lv' := [(3, .int x_2), (0, .ref h), (1, .ref la), (2, .int p0)]) hx hb dX9_ownerOf_9 rfl hl (by decide) rfl (fun ls hl => ?_)
  refine lv_iload_n hx hb dX9_ownerOf_10 rfl (lv_at hl 0 rfl) ?_
  refine lv_iconst (v := (-1)) hx hb dX9_ownerOf_11 (by decide) ?_
  refine lv_icmp_eq (tgt := 27) hx hb dX9_ownerOf_12 (by decide) (fun c_3 => ?_) (fun c_3 => ?_)
  · have f_4 := E_eq (rfl : x_2.toInt = _) (by decide : ((-1) : Int32).toInt = (-1)) c_3
    refine lv_iconst (v := (-1)) hx hb dX9_ownerOf_27 (by decide) ?_
    have hP9 : va_P g.1 vwCl [] H := hP.sub [] rfl
    have hD9 : va_D A [] := ⟨fun i j p q h => by simp at h, fun k q h => by simp at h⟩
    exact W.iret (v := (-1)) hx hb hr (fun t ht hW => ⟨⟨(-1), (), rfl, ⟨⟨by decide, by decide⟩, (Or.inl (by decide))⟩, by rw [ht]; exact hP9, by rw [hAe]; exact hD9⟩, hS.F ht⟩) hS.2.2 dX9_ownerOf_28
  · have f_5 := E_ne (rfl : x_2.toInt = _) (by decide : ((-1) : Int32).toInt = (-1)) c_3
    refine lv_aload_n hx hb dX9_ownerOf_15 rfl (lv_at hl 1 rfl) ?_
    refine lv_iload_n hx hb dX9_ownerOf_16 rfl (lv_at hl 0 rfl) ?_
    refine k_iR (k_V (n := 1) ⟨hx, hb, hml, hown, hT⟩ hK hP hD [0] rfl (by decide +kernel) (s_X9_isAlive l g H.size h bday bseed balive bstruck bopen bduels blines bcoins brented bmornings bhonours bused bsides blog x_2 (by first | with_reducible assumption | omega) (by first | with_reducible assumption | omega) (by first | with_reducible assumption | omega)) (gV bw_56 bw_57 bw_58 bw_46 bw_28) rfl rfl (by decide +kernel) ⟨by decide, by decide⟩ (ci := 9) (q0 := 0) rfl rfl (fun _ _ _ _ _ => trivial) (fun _ _ _ => trivial) rfl rfl hl.1 (Nat.le_of_ble_eq_true rfl) dX9_ownerOf_17 ⟨by decide, by decide⟩) hP hS hA (fun r_6 _ H locs hw0 hP hS => ?_)
    have hw : 0 ≤ r_6.toInt ∧ r_6.toInt ≤ 1 := hw0
    clear hw0
    have w_7 := hw
    refine lv_if_eq (tgt := 27) hx hb dX9_ownerOf_20 (by decide) (fun c_8 => ?_) (fun c_8 => ?_)
    · have f_9 := E_eq (rfl : r_6.toInt = _) (by decide : (0 : Int32).toInt = 0) c_8
      refine lv_iconst (v := (-1)) hx hb dX9_ownerOf_27 (by decide) ?_
      have hP9 : va_P g.1 vwCl [] H := hP.sub [] rfl
      have hD9 : va_D A [] := ⟨fun i j p q h => by simp at h, fun k q h => by simp at h⟩
      exact W.iret (v := (-1)) hx hb hr (fun t ht hW => ⟨⟨(-1), (), rfl, ⟨⟨by decide, by decide⟩, (Or.inl (by decide))⟩, by rw [ht]; exact hP9, by rw [hAe]; exact hD9⟩, hS.F ht⟩) hS.2.2 dX9_ownerOf_28
    · have f_10 := E_ne (rfl : r_6.toInt = _) (by decide : (0 : Int32).toInt = 0) c_8
      refine lv_iload_n hx hb dX9_ownerOf_23 rfl (lv_at hl 0 rfl) ?_
      refine lv_goto (tgt := 28) hx hb dX9_ownerOf_24 (by decide) ?_
      have hP9 : va_P g.1 vwCl [] H := hP.sub [] rfl
      have hD9 : va_D A [] := ⟨fun i j p q h => by simp at h, fun k q h => by simp at h⟩
      exact W.iret (v := x_2) hx hb hr (fun t ht hW => ⟨⟨x_2, (), rfl, ⟨(by first | with_reducible assumption | omega), (Or.inr (by omega))⟩, by rw [ht]; exact hP9, by rw [hAe]; exact hD9⟩, hS.F ht⟩) hS.2.2 dX9_ownerOf_28

theorem bw_70 : Cond.fieldLink RX9 21 "DuelDelays$State" "honours" "[I" ∈ gT := gT_tb 471 (by decide +kernel) (by decide +kernel)
theorem bw_71 : Cond.code yX9_addDuel cX9_addDuel 4 none ∈ gT := gT_tb 520 (by decide +kernel) (by decide +kernel)
theorem dX9_addDuel_0 : decode cX9_addDuel 0 = .ok (.aload_n 0, 1) := by decide +kernel
theorem dX9_addDuel_1 : decode cX9_addDuel 1 = .ok (.getfield 63, 3) := by decide +kernel
theorem dX9_addDuel_4 : decode cX9_addDuel 4 = .ok (.bipush 8, 2) := by decide +kernel
theorem dX9_addDuel_6 : decode cX9_addDuel 6 = .ok (.if_icmp .ge 84, 3) := by decide +kernel
theorem dX9_addDuel_9 : decode cX9_addDuel 9 = .ok (.aload_n 0, 1) := by decide +kernel
theorem dX9_addDuel_10 : decode cX9_addDuel 10 = .ok (.getfield 27, 3) := by decide +kernel
theorem dX9_addDuel_13 : decode cX9_addDuel 13 = .ok (.iconst 2, 1) := by decide +kernel
theorem dX9_addDuel_14 : decode cX9_addDuel 14 = .ok (.aload_n 0, 1) := by decide +kernel
theorem dX9_addDuel_15 : decode cX9_addDuel 15 = .ok (.getfield 63, 3) := by decide +kernel
theorem dX9_addDuel_18 : decode cX9_addDuel 18 = .ok (.imul, 1) := by decide +kernel
theorem dX9_addDuel_19 : decode cX9_addDuel 19 = .ok (.iload_n 1, 1) := by decide +kernel
theorem dX9_addDuel_20 : decode cX9_addDuel 20 = .ok (.iastore, 1) := by decide +kernel
theorem dX9_addDuel_21 : decode cX9_addDuel 21 = .ok (.aload_n 0, 1) := by decide +kernel
theorem dX9_addDuel_22 : decode cX9_addDuel 22 = .ok (.getfield 27, 3) := by decide +kernel
theorem dX9_addDuel_25 : decode cX9_addDuel 25 = .ok (.iconst 2, 1) := by decide +kernel
theorem dX9_addDuel_26 : decode cX9_addDuel 26 = .ok (.aload_n 0, 1) := by decide +kernel
theorem dX9_addDuel_27 : decode cX9_addDuel 27 = .ok (.getfield 63, 3) := by decide +kernel
theorem dX9_addDuel_30 : decode cX9_addDuel 30 = .ok (.imul, 1) := by decide +kernel
theorem dX9_addDuel_31 : decode cX9_addDuel 31 = .ok (.iconst 1, 1) := by decide +kernel
theorem dX9_addDuel_32 : decode cX9_addDuel 32 = .ok (.iadd, 1) := by decide +kernel
theorem dX9_addDuel_33 : decode cX9_addDuel 33 = .ok (.iload_n 2, 1) := by decide +kernel
theorem dX9_addDuel_34 : decode cX9_addDuel 34 = .ok (.iastore, 1) := by decide +kernel
theorem dX9_addDuel_35 : decode cX9_addDuel 35 = .ok (.aload_n 0, 1) := by decide +kernel
theorem dX9_addDuel_36 : decode cX9_addDuel 36 = .ok (.getfield 18, 3) := by decide +kernel
theorem dX9_addDuel_39 : decode cX9_addDuel 39 = .ok (.aload_n 0, 1) := by decide +kernel
theorem dX9_addDuel_40 : decode cX9_addDuel 40 = .ok (.getfield 63, 3) := by decide +kernel
theorem dX9_addDuel_43 : decode cX9_addDuel 43 = .ok (.iload_n 3, 1) := by decide +kernel
theorem dX9_addDuel_44 : decode cX9_addDuel 44 = .ok (.iastore, 1) := by decide +kernel
theorem dX9_addDuel_45 : decode cX9_addDuel 45 = .ok (.aload_n 0, 1) := by decide +kernel
theorem dX9_addDuel_46 : decode cX9_addDuel 46 = .ok (.getfield 21, 3) := by decide +kernel
theorem dX9_addDuel_49 : decode cX9_addDuel 49 = .ok (.aload_n 0, 1) := by decide +kernel
theorem dX9_addDuel_50 : decode cX9_addDuel 50 = .ok (.getfield 63, 3) := by decide +kernel
theorem dX9_addDuel_53 : decode cX9_addDuel 53 = .ok (.iconst (-1), 1) := by decide +kernel
theorem dX9_addDuel_54 : decode cX9_addDuel 54 = .ok (.iastore, 1) := by decide +kernel
theorem dX9_addDuel_55 : decode cX9_addDuel 55 = .ok (.aload_n 0, 1) := by decide +kernel
theorem dX9_addDuel_56 : decode cX9_addDuel 56 = .ok (.getfield 24, 3) := by decide +kernel
theorem dX9_addDuel_59 : decode cX9_addDuel 59 = .ok (.aload_n 0, 1) := by decide +kernel
theorem dX9_addDuel_60 : decode cX9_addDuel 60 = .ok (.getfield 63, 3) := by decide +kernel
theorem dX9_addDuel_63 : decode cX9_addDuel 63 = .ok (.iconst 0, 1) := by decide +kernel
theorem dX9_addDuel_64 : decode cX9_addDuel 64 = .ok (.iastore, 1) := by decide +kernel
theorem dX9_addDuel_65 : decode cX9_addDuel 65 = .ok (.aload_n 0, 1) := by decide +kernel
theorem dX9_addDuel_66 : decode cX9_addDuel 66 = .ok (.dup, 1) := by decide +kernel
theorem dX9_addDuel_67 : decode cX9_addDuel 67 = .ok (.getfield 60, 3) := by decide +kernel
theorem dX9_addDuel_70 : decode cX9_addDuel 70 = .ok (.iconst 1, 1) := by decide +kernel
theorem dX9_addDuel_71 : decode cX9_addDuel 71 = .ok (.aload_n 0, 1) := by decide +kernel
theorem dX9_addDuel_72 : decode cX9_addDuel 72 = .ok (.getfield 63, 3) := by decide +kernel
theorem dX9_addDuel_75 : decode cX9_addDuel 75 = .ok (.ishl, 1) := by decide +kernel
theorem dX9_addDuel_76 : decode cX9_addDuel 76 = .ok (.ior, 1) := by decide +kernel
theorem dX9_addDuel_77 : decode cX9_addDuel 77 = .ok (.putfield 60, 3) := by decide +kernel
theorem dX9_addDuel_80 : decode cX9_addDuel 80 = .ok (.aload_n 0, 1) := by decide +kernel
theorem dX9_addDuel_81 : decode cX9_addDuel 81 = .ok (.dup, 1) := by decide +kernel
theorem dX9_addDuel_82 : decode cX9_addDuel 82 = .ok (.getfield 63, 3) := by decide +kernel
theorem dX9_addDuel_85 : decode cX9_addDuel 85 = .ok (.iconst 1, 1) := by decide +kernel
theorem dX9_addDuel_86 : decode cX9_addDuel 86 = .ok (.iadd, 1) := by decide +kernel
theorem dX9_addDuel_87 : decode cX9_addDuel 87 = .ok (.putfield 63, 3) := by decide +kernel
theorem dX9_addDuel_90 : decode cX9_addDuel 90 = .ok (.return_, 1) := by decide +kernel
set_option maxHeartbeats 4000000 in
set_option maxRecDepth 100000 in
theorem s_X9_addDuel (l : Launch) (g : GG) (sz : Nat) (h : Nat) (bday : Int32) (bseed : Int32) (balive : Int32) (bstruck : Int32) (bopen : Int32) (bduels : Int32) (blines : Int32) (bcoins : Nat) (brented : Nat) (bmornings : Nat) (Fbmornings : Nat → Int32) (bhonours : Nat) (Fbhonours : Nat → Int32) (bused : Nat) (Fbused : Nat → Int32) (bsides : Nat) (Fbsides : Nat → Int32) (blog : Nat) (p0 : Int32) (p1 : Int32) (p2 : Int32) (hh0 : 0 ≤ bseed.toInt ∧ bseed.toInt ≤ 999) (hh1 : 0 ≤ bduels.toInt ∧ bduels.toInt ≤ 8) (hh2 : 0 ≤ blines.toInt ∧ blines.toInt ≤ 60) (hh3 : Rg 16 0 5 Fbsides) (hh4 : 0 ≤ p0.toInt ∧ p0.toInt ≤ 5) (hh5 : 0 ≤ p1.toInt ∧ p1.toInt ≤ 5) : Met l yX9_addDuel (.code yX9_addDuel cX9_addDuel 4 none :: gT) ({ frames := 0, cells := 0, slots := 0, locals := 0 }) (va_Pc [.ref h, .int p0, .int p1, .int p2] (Pst g sz [(h, .inr (9, [.int bday, .int bseed, .int balive, .int bstruck, .int bopen, .int bduels, .int blines, .ref bcoins, .ref brented, .ref bmornings, .ref bhonours, .ref bused, .ref bsides, .ref blog])), (bmornings, aI g 8 Fbmornings), (bhonours, aI g 8 Fbhonours), (bused, aI g 8 Fbused), (bsides, aI g 16 Fbsides)] nX)) (va_Qv (fun ((o0_open, o1_duels, o2_F, o3_F, o4_F, o5_F) : Int32 × Int32 × (Nat → Int32) × (Nat → Int32) × (Nat → Int32) × (Nat → Int32)) => (0 ≤ o1_duels.toInt ∧ o1_duels.toInt ≤ 8) ∧ (Rg 16 0 5 o5_F)) (Qst g [(h, .inr (9, [.int bday, .int bseed, .int balive, .int bstruck, .int bopen, .int bduels, .int blines, .ref bcoins, .ref brented, .ref bmornings, .ref bhonours, .ref bused, .ref bsides, .ref blog])), (bmornings, aI g 8 Fbmornings), (bhonours, aI g 8 Fbhonours), (bused, aI g 8 Fbused), (bsides, aI g 16 Fbsides)] sz (fun ((o0_open, o1_duels, o2_F, o3_F, o4_F, o5_F) : Int32 × Int32 × (Nat → Int32) × (Nat → Int32) × (Nat → Int32) × (Nat → Int32)) => [(h, .inr (9, [.int bday, .int bseed, .int balive, .int bstruck, .int o0_open, .int o1_duels, .int blines, .ref bcoins, .ref brented, .ref bmornings, .ref bhonours, .ref bused, .ref bsides, .ref blog])), (bmornings, aI g 8 o2_F), (bhonours, aI g 8 o3_F), (bused, aI g 8 o4_F), (bsides, aI g 16 o5_F)])) (va_A [(h, .inr (9, [.int bday, .int bseed, .int balive, .int bstruck, .int bopen, .int bduels, .int blines, .ref bcoins, .ref brented, .ref bmornings, .ref bhonours, .ref bused, .ref bsides, .ref blog])), (bmornings, aI g 8 Fbmornings), (bhonours, aI g 8 Fbhonours), (bused, aI g 8 Fbused), (bsides, aI g 16 Fbsides)] sz)) 0 0 (va_A [(h, .inr (9, [.int bday, .int bseed, .int balive, .int bstruck, .int bopen, .int bduels, .int blines, .ref bcoins, .ref brented, .ref bmornings, .ref bhonours, .ref bused, .ref bsides, .ref blog])), (bmornings, aI g 8 Fbmornings), (bhonours, aI g 8 Fbhonours), (bused, aI g 8 Fbused), (bsides, aI g 16 Fbsides)] sz) := by
  refine Met.ofW (cc := cX9_addDuel) (maxL := 4) (ret := none) (by decide) rfl ?_
  intro p e s m args below meth c s₁ B hml hv
  obtain ⟨rfl, hsz, hP, hK, hD0, hX⟩ := hv
  have hx := B.exec
  have hb := B.bytes
  have hr := B.returns
  have hT : ∀ w ∈ gT, w.before _ s = true := fun w h => atoms_spec (ws := .code yX9_addDuel cX9_addDuel 4 none :: gT) B.pre w (List.mem_cons_of_mem _ h)
  have hown : s.vm.findClass RX9 = some m.cls := findClass_of_methodNamed B.named
  have hlocks := B.notSynchronized
  subst hsz
  have hD := hD0.self (sz := s.heap.size)
  generalize hAe : va_A [(h, .inr (9, [.int bday, .int bseed, .int balive, .int bstruck, .int bopen, .int bduels, .int blines, .ref bcoins, .ref brented, .ref bmornings, .ref bhonours, .ref bused, .ref bsides, .ref blog])), (bmornings, aI g 8 Fbmornings), (bhonours, aI g 8 Fbhonours), (bused, aI g 8 Fbused), (bsides, aI g 16 Fbsides)] s.heap.size = A at hD ⊢
  have hA : ∀ q : Nat, s.heap.size ≤ q → A q := fun q h => by rw [← hAe]; exact Or.inr h
  have hS : va_S A s.heap s.heap [] := va_S.rf
  have hl := lv_entry ([.ref h, .int p0, .int p1, .int p2]) (n := 4) (Nat.le_of_ble_eq_true rfl)
  rw [lg_entry_eq]
  generalize (lg_sl ([.ref h, .int p0, .int p1, .int p2]) ++ List.replicate (4 - (lg_sl ([.ref h, .int p0, .int p1, .int p2])).length) Slot.unset).toArray = ls at hl ⊢
  have hl : lv_has ls 4 [(0, .ref h), (1, .int p0), (2, .int p1), (3, .int p2)] := hl
  refine p_nH (fun H hH => ?_)
  have hP : va_P g.1 vwCl [(h, .inr (9, [.int bday, .int bseed, .int balive, .int bstruck, .int bopen, .int bduels, .int blines, .ref bcoins, .ref brented, .ref bmornings, .ref bhonours, .ref bused, .ref bsides, .ref blog])), (bmornings, aI g 8 Fbmornings), (bhonours, aI g 8 Fbhonours), (bused, aI g 8 Fbused), (bsides, aI g 16 Fbsides)] H := by rw [hH]; exact hP
  have hS : va_S A s.heap H [] := by rw [hH]; exact hS
  refine lv_aload_n hx hb dX9_addDuel_0 rfl (lv_at hl 0 rfl) ?_
  refine va_get (D := g.1) (ci := 9) (v := .int bduels) (C := RX9) (T := TX9) (N := 14) hx hb hT inF_X9 hown hK.1 hP 0 rfl rfl 5 (by decide) (hT _ bw_33) (fun _ h9 => h9) rfl dX9_addDuel_1 ?_
  refine lv_bipush (v := 8) hx hb dX9_addDuel_4 (by decide) ?_
  refine lv_icmp_ge (tgt := 90) hx hb dX9_addDuel_6 (by decide) (fun c_1 => ?_) (fun c_1 => ?_)
  · have f_2 := E_le (by decide : (8 : Int32).toInt = 8) (rfl : bduels.toInt = _) c_1
    have hP9 : va_P g.1 vwCl [(h, .inr (9, [.int bday, .int bseed, .int balive, .int bstruck, .int bopen, .int bduels, .int blines, .ref bcoins, .ref brented, .ref bmornings, .ref bhonours, .ref bused, .ref bsides, .ref blog])), (bmornings, aI g 8 Fbmornings), (bhonours, aI g 8 Fbhonours), (bused, aI g 8 Fbused), (bsides, aI g 16 Fbsides)] H := hP.sub [0, 1, 2, 3, 4] rfl
    have hD9 : va_D A [(h, .inr (9, [.int bday, .int bseed, .int balive, .int bstruck, .int bopen, .int bduels, .int blines, .ref bcoins, .ref brented, .ref bmornings, .ref bhonours, .ref bused, .ref bsides, .ref blog])), (bmornings, aI g 8 Fbmornings), (bhonours, aI g 8 Fbhonours), (bused, aI g 8 Fbused), (bsides, aI g 16 Fbsides)] := hD.sub [0, 1, 2, 3, 4] (by decide +kernel) rfl
    exact W.vret hx hb hr (fun t ht hW => ⟨⟨(bopen, bduels, Fbmornings, Fbhonours, Fbused, Fbsides), rfl, ⟨(by first | with_reducible assumption | omega), hh3⟩, by rw [ht]; exact hP9, by rw [hAe]; exact hD9⟩, hS.F ht⟩) hS.2.2 dX9_addDuel_90
  · have f_3 := E_nle (by decide : (8 : Int32).toInt = 8) (rfl : bduels.toInt = _) c_1
    refine lv_aload_n hx hb dX9_addDuel_9 rfl (lv_at hl 0 rfl) ?_
    refine va_get (D := g.1) (ci := 9) (v := .ref bsides) (C := RX9) (T := TX9) (N := 14) hx hb hT inF_X9 hown hK.1 hP 0 rfl rfl 12 (by decide) (hT _ bw_35) (fun _ h9 => h9) rfl dX9_addDuel_10 ?_
    refine lv_iconst (v := 2) hx hb dX9_addDuel_13 (by decide) ?_
    refine lv_aload_n hx hb dX9_addDuel_14 rfl (lv_at hl 0 rfl) ?_
    refine va_get (D := g.1) (ci := 9) (v := .int bduels) (C := RX9) (T := TX9) (N := 14) hx hb hT inF_X9 hown hK.1 hP 0 rfl rfl 5 (by decide) (hT _ bw_33) (fun _ h9 => h9) rfl dX9_addDuel_15 ?_
    refine lv_imul hx hb dX9_addDuel_18 ?_
    refine lv_topi (fun x_4 ex_4 => ?_)
    have fx_4 : x_4.toInt = 2 * bduels.toInt := by rw [ex_4]; exact I_mul (by decide : (2 : Int32).toInt = 2) rfl (by omega) (by omega)
    refine lv_iload_n hx hb dX9_addDuel_19 rfl (lv_at hl 1 rfl) ?_
    have h_5 : vp_in x_4 16 := vp_in_iff.mpr (by omega)
    refine va_iast hx hb hK.1 hP hD hS 4 1 rfl rfl (i := x_4) (x := p0) h_5 dX9_addDuel_20 (fun H locs hP hD hS => ?_)
    have gf_6 : Rg 16 0 5 (upd Fbsides (x_4 : Int32).toNatClampNeg p0) := Rg.upd hh3 (by omega)
    generalize upd Fbsides (x_4 : Int32).toNatClampNeg p0 = f_6 at hP hD gf_6
    have hP : va_P g.1 vwCl [(h, .inr (9, [.int bday, .int bseed, .int balive, .int bstruck, .int bopen, .int bduels, .int blines, .ref bcoins, .ref brented, .ref bmornings, .ref bhonours, .ref bused, .ref bsides, .ref blog])), (bmornings, aI g 8 Fbmornings), (bhonours, aI g 8 Fbhonours), (bused, aI g 8 Fbused), (bsides, aI g 16 f_6)] H := hP
    have hD : va_D A [(h, .inr (9, [.int bday, .int bseed, .int balive, .int bstruck, .int bopen, .int bduels, .int blines, .ref bcoins, .ref brented, .ref bmornings, .ref bhonours, .ref bused, .ref bsides, .ref blog])), (bmornings, aI g 8 Fbmornings), (bhonours, aI g 8 Fbhonours), (bused, aI g 8 Fbused), (bsides, aI g 16 f_6)] := hD
    refine lv_aload_n hx hb dX9_addDuel_21 rfl (lv_at hl 0 rfl) ?_
    refine va_get (D := g.1) (ci := 9) (v := .ref bsides) (C := RX9) (T := TX9) (N := 14) hx hb hT inF_X9 hown hK.1 hP 0 rfl rfl 12 (by decide) (hT _ bw_35) (fun _ h9 => h9) rfl dX9_addDuel_22 ?_
    refine lv_iconst (v := 2) hx hb dX9_addDuel_25 (by decide) ?_
    refine lv_aload_n hx hb dX9_addDuel_26 rfl (lv_at hl 0 rfl) ?_
    refine va_get (D := g.1) (ci := 9) (v := .int bduels) (C := RX9) (T := TX9) (N := 14) hx hb hT inF_X9 hown hK.1 hP 0 rfl rfl 5 (by decide) (hT _ bw_33) (fun _ h9 => h9) rfl dX9_addDuel_27 ?_
    refine lv_imul hx hb dX9_addDuel_30 ?_
    refine lv_topi (fun x_7 ex_7 => ?_)
    have fx_7 : x_7.toInt = 2 * bduels.toInt := by rw [ex_7]; exact I_mul (by decide : (2 : Int32).toInt = 2) rfl (by omega) (by omega)
    refine lv_iconst (v := 1) hx hb dX9_addDuel_31 (by decide) ?_
    refine lv_iadd hx hb dX9_addDuel_32 ?_
    refine lv_topi (fun x_8 ex_8 => ?_)
    have fx_8 : x_8.toInt = x_7.toInt + 1 := by rw [ex_8]; exact I_add rfl (by decide : (1 : Int32).toInt = 1) (by omega) (by omega)
    refine lv_iload_n hx hb dX9_addDuel_33 rfl (lv_at hl 2 rfl) ?_
    have h_9 : vp_in x_8 16 := vp_in_iff.mpr (by omega)
    refine va_iast hx hb hK.1 hP hD hS 4 1 rfl rfl (i := x_8) (x := p1) h_9 dX9_addDuel_34 (fun H locs hP hD hS => ?_)
    have gf_10 : Rg 16 0 5 (upd f_6 (x_8 : Int32).toNatClampNeg p1) := Rg.upd gf_6 (by omega)
    generalize upd f_6 (x_8 : Int32).toNatClampNeg p1 = f_10 at hP hD gf_10
    have hP : va_P g.1 vwCl [(h, .inr (9, [.int bday, .int bseed, .int balive, .int bstruck, .int bopen, .int bduels, .int blines, .ref bcoins, .ref brented, .ref bmornings, .ref bhonours, .ref bused, .ref bsides, .ref blog])), (bmornings, aI g 8 Fbmornings), (bhonours, aI g 8 Fbhonours), (bused, aI g 8 Fbused), (bsides, aI g 16 f_10)] H := hP
    have hD : va_D A [(h, .inr (9, [.int bday, .int bseed, .int balive, .int bstruck, .int bopen, .int bduels, .int blines, .ref bcoins, .ref brented, .ref bmornings, .ref bhonours, .ref bused, .ref bsides, .ref blog])), (bmornings, aI g 8 Fbmornings), (bhonours, aI g 8 Fbhonours), (bused, aI g 8 Fbused), (bsides, aI g 16 f_10)] := hD
    refine lv_aload_n hx hb dX9_addDuel_35 rfl (lv_at hl 0 rfl) ?_
    refine va_get (D := g.1) (ci := 9) (v := .ref bmornings) (C := RX9) (T := TX9) (N := 14) hx hb hT inF_X9 hown hK.1 hP 0 rfl rfl 9 (by decide) (hT _ bw_51) (fun _ h9 => h9) rfl dX9_addDuel_36 ?_
    refine lv_aload_n hx hb dX9_addDuel_39 rfl (lv_at hl 0 rfl) ?_
    refine va_get (D := g.1) (ci := 9) (v := .int bduels) (C := RX9) (T := TX9) (N := 14) hx hb hT inF_X9 hown hK.1 hP 0 rfl rfl 5 (by decide) (hT _ bw_33) (fun _ h9 => h9) rfl dX9_addDuel_40 ?_
    refine lv_iload_n hx hb dX9_addDuel_43 rfl (lv_at hl 3 rfl) ?_
    have h_11 : vp_in bduels 8 := vp_in_iff.mpr (by omega)
    refine va_iast hx hb hK.1 hP hD hS 1 1 rfl rfl (i := bduels) (x := p2) h_11 dX9_addDuel_44 (fun H locs hP hD hS => ?_)
    generalize upd Fbmornings (bduels : Int32).toNatClampNeg p2 = f_12 at hP hD
    have hP : va_P g.1 vwCl [(h, .inr (9, [.int bday, .int bseed, .int balive, .int bstruck, .int bopen, .int bduels, .int blines, .ref bcoins, .ref brented, .ref bmornings, .ref bhonours, .ref bused, .ref bsides, .ref blog])), (bmornings, aI g 8 f_12), (bhonours, aI g 8 Fbhonours), (bused, aI g 8 Fbused), (bsides, aI g 16 f_10)] H := hP
    have hD : va_D A [(h, .inr (9, [.int bday, .int bseed, .int balive, .int bstruck, .int bopen, .int bduels, .int blines, .ref bcoins, .ref brented, .ref bmornings, .ref bhonours, .ref bused, .ref bsides, .ref blog])), (bmornings, aI g 8 f_12), (bhonours, aI g 8 Fbhonours), (bused, aI g 8 Fbused), (bsides, aI g 16 f_10)] := hD
    refine lv_aload_n hx hb dX9_addDuel_45 rfl (lv_at hl 0 rfl) ?_
    refine va_get (D := g.1) (ci := 9) (v := .ref bhonours) (C := RX9) (T := TX9) (N := 14) hx hb hT inF_X9 hown hK.1 hP 0 rfl rfl 10 (by decide) (hT _ bw_70) (fun _ h9 => h9) rfl dX9_addDuel_46 ?_
    refine lv_aload_n hx hb dX9_addDuel_49 rfl (lv_at hl 0 rfl) ?_
    refine va_get (D := g.1) (ci := 9) (v := .int bduels) (C := RX9) (T := TX9) (N := 14) hx hb hT inF_X9 hown hK.1 hP 0 rfl rfl 5 (by decide) (hT _ bw_33) (fun _ h9 => h9) rfl dX9_addDuel_50 ?_
    refine lv_iconst (v := (-1)) hx hb dX9_addDuel_53 (by decide) ?_
    have h_13 : vp_in bduels 8 := vp_in_iff.mpr (by omega)
    refine va_iast hx hb hK.1 hP hD hS 2 1 rfl rfl (i := bduels) (x := (-1)) h_13 dX9_addDuel_54 (fun H locs hP hD hS => ?_)
    generalize upd Fbhonours (bduels : Int32).toNatClampNeg (-1) = f_14 at hP hD
    have hP : va_P g.1 vwCl [(h, .inr (9, [.int bday, .int bseed, .int balive, .int bstruck, .int bopen, .int bduels, .int blines, .ref bcoins, .ref brented, .ref bmornings, .ref bhonours, .ref bused, .ref bsides, .ref blog])), (bmornings, aI g 8 f_12), (bhonours, aI g 8 f_14), (bused, aI g 8 Fbused), (bsides, aI g 16 f_10)] H := hP
    have hD : va_D A [(h, .inr (9, [.int bday, .int bseed, .int balive, .int bstruck, .int bopen, .int bduels, .int blines, .ref bcoins, .ref brented, .ref bmornings, .ref bhonours, .ref bused, .ref bsides, .ref blog])), (bmornings, aI g 8 f_12), (bhonours, aI g 8 f_14), (bused, aI g 8 Fbused), (bsides, aI g 16 f_10)] := hD
    refine lv_aload_n hx hb dX9_addDuel_55 rfl (lv_at hl 0 rfl) ?_
    refine va_get (D := g.1) (ci := 9) (v := .ref bused) (C := RX9) (T := TX9) (N := 14) hx hb hT inF_X9 hown hK.1 hP 0 rfl rfl 11 (by decide) (hT _ bw_60) (fun _ h9 => h9) rfl dX9_addDuel_56 ?_
    refine lv_aload_n hx hb dX9_addDuel_59 rfl (lv_at hl 0 rfl) ?_
    refine va_get (D := g.1) (ci := 9) (v := .int bduels) (C := RX9) (T := TX9) (N := 14) hx hb hT inF_X9 hown hK.1 hP 0 rfl rfl 5 (by decide) (hT _ bw_33) (fun _ h9 => h9) rfl dX9_addDuel_60 ?_
    refine lv_iconst (v := 0) hx hb dX9_addDuel_63 (by decide) ?_
    have h_15 : vp_in bduels 8 := vp_in_iff.mpr (by omega)
    refine va_iast hx hb hK.1 hP hD hS 3 1 rfl rfl (i := bduels) (x := 0) h_15 dX9_addDuel_64 (fun H locs hP hD hS => ?_)
    generalize upd Fbused (bduels : Int32).toNatClampNeg 0 = f_16 at hP hD
    have hP : va_P g.1 vwCl [(h, .inr (9, [.int bday, .int bseed, .int balive, .int bstruck, .int bopen, .int bduels, .int blines, .ref bcoins, .ref brented, .ref bmornings, .ref bhonours, .ref bused, .ref bsides, .ref blog])), (bmornings, aI g 8 f_12), (bhonours, aI g 8 f_14), (bused, aI g 8 f_16), (bsides, aI g 16 f_10)] H := hP
    have hD : va_D A [(h, .inr (9, [.int bday, .int bseed, .int balive, .int bstruck, .int bopen, .int bduels, .int blines, .ref bcoins, .ref brented, .ref bmornings, .ref bhonours, .ref bused, .ref bsides, .ref blog])), (bmornings, aI g 8 f_12), (bhonours, aI g 8 f_14), (bused, aI g 8 f_16), (bsides, aI g 16 f_10)] := hD
    refine lv_aload_n hx hb dX9_addDuel_65 rfl (lv_at hl 0 rfl) ?_
    refine lv_dup hx hb dX9_addDuel_66 rfl ?_
    refine va_get (D := g.1) (ci := 9) (v := .int bopen) (C := RX9) (T := TX9) (N := 14) hx hb hT inF_X9 hown hK.1 hP 0 rfl rfl 4 (by decide) (hT _ bw_31) (fun _ h9 => h9) rfl dX9_addDuel_67 ?_
    refine lv_iconst (v := 1) hx hb dX9_addDuel_70 (by decide) ?_
    refine lv_aload_n hx hb dX9_addDuel_71 rfl (lv_at hl 0 rfl) ?_
    refine va_get (D := g.1) (ci := 9) (v := .int bduels) (C := RX9) (T := TX9) (N := 14) hx hb hT inF_X9 hown hK.1 hP 0 rfl rfl 5 (by decide) (hT _ bw_33) (fun _ h9 => h9) rfl dX9_addDuel_72 ?_
    refine lv_ishl hx hb dX9_addDuel_75 ?_
    refine lv_topi (fun x_17 ex_17 => ?_)
    refine lv_ior hx hb dX9_addDuel_76 ?_
    refine lv_topi (fun x_18 ex_18 => ?_)
    refine va_put (D := g.1) (ci := 9) (v := .int x_18) (ty := .int) (C := RX9) (T := TX9) (N := 14) hx hb hT inF_X9 tyX9 tyX9_ok nmX9 hown hK.1 hP hD hS 0 rfl rfl 4 (by decide) (hT _ bw_31) (fun _ h9 => h9) rfl (by decide +kernel) rfl rfl (Nat.le_of_ble_eq_true rfl) dX9_addDuel_77 (fun H locs hP hD hS => ?_)
    have hP : va_P g.1 vwCl [(h, .inr (9, [.int bday, .int bseed, .int balive, .int bstruck, .int x_18, .int bduels, .int blines, .ref bcoins, .ref brented, .ref bmornings, .ref bhonours, .ref bused, .ref bsides, .ref blog])), (bmornings, aI g 8 f_12), (bhonours, aI g 8 f_14), (bused, aI g 8 f_16), (bsides, aI g 16 f_10)] H := hP
    have hD : va_D A [(h, .inr (9, [.int bday, .int bseed, .int balive, .int bstruck, .int x_18, .int bduels, .int blines, .ref bcoins, .ref brented, .ref bmornings, .ref bhonours, .ref bused, .ref bsides, .ref blog])), (bmornings, aI g 8 f_12), (bhonours, aI g 8 f_14), (bused, aI g 8 f_16), (bsides, aI g 16 f_10)] := hD
    refine lv_aload_n hx hb dX9_addDuel_80 rfl (lv_at hl 0 rfl) ?_
    refine lv_dup hx hb dX9_addDuel_81 rfl ?_
    refine va_get (D := g.1) (ci := 9) (v := .int bduels) (C := RX9) (T := TX9) (N := 14) hx hb hT inF_X9 hown hK.1 hP 0 rfl rfl 5 (by decide) (hT _ bw_33) (fun _ h9 => h9) rfl dX9_addDuel_82 ?_
    refine lv_iconst (v := 1) hx hb dX9_addDuel_85 (by decide) ?_
    refine lv_iadd hx hb dX9_addDuel_86 ?_
    refine lv_topi (fun x_19 ex_19 => ?_)
    have fx_19 : x_19.toInt = bduels.toInt + 1 := by rw [ex_19]; exact I_add rfl (by decide : (1 : Int32).toInt = 1) (by omega) (by omega)
    refine va_put (D := g.1) (ci := 9) (v := .int x_19) (ty := .int) (C := RX9) (T := TX9) (N := 14) hx hb hT inF_X9 tyX9 tyX9_ok nmX9 hown hK.1 hP hD hS 0 rfl rfl 5 (by decide) (hT _ bw_33) (fun _ h9 => h9) rfl (by decide +kernel) rfl rfl (Nat.le_of_ble_eq_true rfl) dX9_addDuel_87 (fun H locs hP hD hS => ?_)
    have hP : va_P g.1 vwCl [(h, .inr (9, [.int bday, .int bseed, .int balive, .int bstruck, .int x_18, .int x_19, .int blines, .ref bcoins, .ref brented, .ref bmornings, .ref bhonours, .ref bused, .ref bsides, .ref blog])), (bmornings, aI g 8 f_12), (bhonours, aI g 8 f_14), (bused, aI g 8 f_16), (bsides, aI g 16 f_10)] H := hP
    have hD : va_D A [(h, .inr (9, [.int bday, .int bseed, .int balive, .int bstruck, .int x_18, .int x_19, .int blines, .ref bcoins, .ref brented, .ref bmornings, .ref bhonours, .ref bused, .ref bsides, .ref blog])), (bmornings, aI g 8 f_12), (bhonours, aI g 8 f_14), (bused, aI g 8 f_16), (bsides, aI g 16 f_10)] := hD
    have hP9 : va_P g.1 vwCl [(h, .inr (9, [.int bday, .int bseed, .int balive, .int bstruck, .int x_18, .int x_19, .int blines, .ref bcoins, .ref brented, .ref bmornings, .ref bhonours, .ref bused, .ref bsides, .ref blog])), (bmornings, aI g 8 f_12), (bhonours, aI g 8 f_14), (bused, aI g 8 f_16), (bsides, aI g 16 f_10)] H := hP.sub [0, 1, 2, 3, 4] rfl
    have hD9 : va_D A [(h, .inr (9, [.int bday, .int bseed, .int balive, .int bstruck, .int x_18, .int x_19, .int blines, .ref bcoins, .ref brented, .ref bmornings, .ref bhonours, .ref bused, .ref bsides, .ref blog])), (bmornings, aI g 8 f_12), (bhonours, aI g 8 f_14), (bused, aI g 8 f_16), (bsides, aI g 16 f_10)] := hD.sub [0, 1, 2, 3, 4] (by decide +kernel) rfl
    exact W.vret hx hb hr (fun t ht hW => ⟨⟨(x_18, x_19, f_12, f_14, f_16, f_10), rfl, ⟨(by first | with_reducible assumption | omega), gf_10⟩, by rw [ht]; exact hP9, by rw [hAe]; exact hD9⟩, hS.F ht⟩) hS.2.2 dX9_addDuel_90

theorem bw_72 : Cond.methodLink RX9 191 yX9_heirOf ∈ gT := gT_tb 1039 (by decide +kernel) (by decide +kernel)
theorem bw_73 : Cond.instanceMethod yX9_heirOf ∈ gT := gT_tb 966 (by decide +kernel) (by decide +kernel)
theorem bw_74 : Cond.selects RX9 yX9_heirOf yX9_heirOf ∈ gT := gT_tb 967 (by decide +kernel) (by decide +kernel)
theorem bw_75 : Cond.methodLink RX9 150 yX9_manOf ∈ gT := gT_tb 937 (by decide +kernel) (by decide +kernel)
theorem bw_76 : Cond.instanceMethod yX9_manOf ∈ gT := gT_tb 860 (by decide +kernel) (by decide +kernel)
theorem bw_77 : Cond.selects RX9 yX9_manOf yX9_manOf ∈ gT := gT_tb 861 (by decide +kernel) (by decide +kernel)
theorem bw_78 : Cond.methodLink RX9 194 yX9_haveOpenDuel ∈ gT := gT_tb 1040 (by decide +kernel) (by decide +kernel)
theorem bw_79 : Cond.instanceMethod yX9_haveOpenDuel ∈ gT := gT_tb 1022 (by decide +kernel) (by decide +kernel)
theorem bw_80 : Cond.selects RX9 yX9_haveOpenDuel yX9_haveOpenDuel ∈ gT := gT_tb 1023 (by decide +kernel) (by decide +kernel)
theorem bw_81 : Cond.code yX9_bury cX9_bury 7 none ∈ gT := gT_tb 1038 (by decide +kernel) (by decide +kernel)
theorem dX9_bury_0 : decode cX9_bury 0 = .ok (.aload_n 0, 1) := by decide +kernel
theorem dX9_bury_1 : decode cX9_bury 1 = .ok (.dup, 1) := by decide +kernel
theorem dX9_bury_2 : decode cX9_bury 2 = .ok (.getfield 54, 3) := by decide +kernel
theorem dX9_bury_5 : decode cX9_bury 5 = .ok (.iconst 1, 1) := by decide +kernel
theorem dX9_bury_6 : decode cX9_bury 6 = .ok (.iload_n 2, 1) := by decide +kernel
theorem dX9_bury_7 : decode cX9_bury 7 = .ok (.ishl, 1) := by decide +kernel
theorem dX9_bury_8 : decode cX9_bury 8 = .ok (.iconst (-1), 1) := by decide +kernel
theorem dX9_bury_9 : decode cX9_bury 9 = .ok (.ixor, 1) := by decide +kernel
theorem dX9_bury_10 : decode cX9_bury 10 = .ok (.iand, 1) := by decide +kernel
theorem dX9_bury_11 : decode cX9_bury 11 = .ok (.putfield 54, 3) := by decide +kernel
theorem dX9_bury_14 : decode cX9_bury 14 = .ok (.aload_n 0, 1) := by decide +kernel
theorem dX9_bury_15 : decode cX9_bury 15 = .ok (.aload_n 1, 1) := by decide +kernel
theorem dX9_bury_16 : decode cX9_bury 16 = .ok (.iload_n 2, 1) := by decide +kernel
theorem dX9_bury_17 : decode cX9_bury 17 = .ok (.invokevirtual 191, 3) := by decide +kernel
theorem dX9_bury_20 : decode cX9_bury 20 = .ok (.istore_n 3, 1) := by decide +kernel
theorem dX9_bury_21 : decode cX9_bury 21 = .ok (.iconst 0, 1) := by decide +kernel
theorem dX9_bury_22 : decode cX9_bury 22 = .ok (.istore 4, 2) := by decide +kernel
theorem dX9_bury_24 : decode cX9_bury 24 = .ok (.iload 4, 2) := by decide +kernel
theorem dX9_bury_26 : decode cX9_bury 26 = .ok (.aload_n 0, 1) := by decide +kernel
theorem dX9_bury_27 : decode cX9_bury 27 = .ok (.getfield 63, 3) := by decide +kernel
theorem dX9_bury_30 : decode cX9_bury 30 = .ok (.if_icmp .ge 97, 3) := by decide +kernel
theorem dX9_bury_33 : decode cX9_bury 33 = .ok (.aload_n 0, 1) := by decide +kernel
theorem dX9_bury_34 : decode cX9_bury 34 = .ok (.iload 4, 2) := by decide +kernel
theorem dX9_bury_36 : decode cX9_bury 36 = .ok (.iload_n 2, 1) := by decide +kernel
theorem dX9_bury_37 : decode cX9_bury 37 = .ok (.invokevirtual 97, 3) := by decide +kernel
theorem dX9_bury_40 : decode cX9_bury 40 = .ok (.istore 5, 2) := by decide +kernel
theorem dX9_bury_42 : decode cX9_bury 42 = .ok (.aload_n 0, 1) := by decide +kernel
theorem dX9_bury_43 : decode cX9_bury 43 = .ok (.iload 4, 2) := by decide +kernel
theorem dX9_bury_45 : decode cX9_bury 45 = .ok (.invokevirtual 93, 3) := by decide +kernel
theorem dX9_bury_48 : decode cX9_bury 48 = .ok (.ifCond .eq 73, 3) := by decide +kernel
theorem dX9_bury_51 : decode cX9_bury 51 = .ok (.iload 5, 2) := by decide +kernel
theorem dX9_bury_53 : decode cX9_bury 53 = .ok (.iconst (-1), 1) := by decide +kernel
theorem dX9_bury_54 : decode cX9_bury 54 = .ok (.if_icmp .eq 67, 3) := by decide +kernel
theorem dX9_bury_57 : decode cX9_bury 57 = .ok (.aload_n 0, 1) := by decide +kernel
theorem dX9_bury_58 : decode cX9_bury 58 = .ok (.iload 4, 2) := by decide +kernel
theorem dX9_bury_60 : decode cX9_bury 60 = .ok (.iconst 1, 1) := by decide +kernel
theorem dX9_bury_61 : decode cX9_bury 61 = .ok (.iload 5, 2) := by decide +kernel
theorem dX9_bury_63 : decode cX9_bury 63 = .ok (.isub, 1) := by decide +kernel
theorem dX9_bury_64 : decode cX9_bury 64 = .ok (.invokevirtual 150, 3) := by decide +kernel
theorem dX9_bury_67 : decode cX9_bury 67 = .ok (.istore 6, 2) := by decide +kernel
theorem dX9_bury_69 : decode cX9_bury 69 = .ok (.iload_n 3, 1) := by decide +kernel
theorem dX9_bury_70 : decode cX9_bury 70 = .ok (.iconst (-1), 1) := by decide +kernel
theorem dX9_bury_71 : decode cX9_bury 71 = .ok (.if_icmp .eq 19, 3) := by decide +kernel
theorem dX9_bury_74 : decode cX9_bury 74 = .ok (.iload_n 3, 1) := by decide +kernel
theorem dX9_bury_75 : decode cX9_bury 75 = .ok (.iload 6, 2) := by decide +kernel
theorem dX9_bury_77 : decode cX9_bury 77 = .ok (.if_icmp .eq 13, 3) := by decide +kernel
theorem dX9_bury_80 : decode cX9_bury 80 = .ok (.aload_n 0, 1) := by decide +kernel
theorem dX9_bury_81 : decode cX9_bury 81 = .ok (.iload_n 3, 1) := by decide +kernel
theorem dX9_bury_82 : decode cX9_bury 82 = .ok (.iload 6, 2) := by decide +kernel
theorem dX9_bury_84 : decode cX9_bury 84 = .ok (.invokevirtual 194, 3) := by decide +kernel
theorem dX9_bury_87 : decode cX9_bury 87 = .ok (.ifCond .eq 21, 3) := by decide +kernel
theorem dX9_bury_90 : decode cX9_bury 90 = .ok (.aload_n 0, 1) := by decide +kernel
theorem dX9_bury_91 : decode cX9_bury 91 = .ok (.dup, 1) := by decide +kernel
theorem dX9_bury_92 : decode cX9_bury 92 = .ok (.getfield 60, 3) := by decide +kernel
theorem dX9_bury_95 : decode cX9_bury 95 = .ok (.iconst 1, 1) := by decide +kernel
theorem dX9_bury_96 : decode cX9_bury 96 = .ok (.iload 4, 2) := by decide +kernel
theorem dX9_bury_98 : decode cX9_bury 98 = .ok (.ishl, 1) := by decide +kernel
theorem dX9_bury_99 : decode cX9_bury 99 = .ok (.iconst (-1), 1) := by decide +kernel
theorem dX9_bury_100 : decode cX9_bury 100 = .ok (.ixor, 1) := by decide +kernel
theorem dX9_bury_101 : decode cX9_bury 101 = .ok (.iand, 1) := by decide +kernel
theorem dX9_bury_102 : decode cX9_bury 102 = .ok (.putfield 60, 3) := by decide +kernel
theorem dX9_bury_105 : decode cX9_bury 105 = .ok (.goto 16, 3) := by decide +kernel
theorem dX9_bury_108 : decode cX9_bury 108 = .ok (.aload_n 0, 1) := by decide +kernel
theorem dX9_bury_109 : decode cX9_bury 109 = .ok (.getfield 27, 3) := by decide +kernel
theorem dX9_bury_112 : decode cX9_bury 112 = .ok (.iconst 2, 1) := by decide +kernel
theorem dX9_bury_113 : decode cX9_bury 113 = .ok (.iload 4, 2) := by decide +kernel
theorem dX9_bury_115 : decode cX9_bury 115 = .ok (.imul, 1) := by decide +kernel
theorem dX9_bury_116 : decode cX9_bury 116 = .ok (.iload 5, 2) := by decide +kernel
theorem dX9_bury_118 : decode cX9_bury 118 = .ok (.iadd, 1) := by decide +kernel
theorem dX9_bury_119 : decode cX9_bury 119 = .ok (.iload_n 3, 1) := by decide +kernel
theorem dX9_bury_120 : decode cX9_bury 120 = .ok (.iastore, 1) := by decide +kernel
theorem dX9_bury_121 : decode cX9_bury 121 = .ok (.iinc 4 1, 3) := by decide +kernel
theorem dX9_bury_124 : decode cX9_bury 124 = .ok (.goto (-100), 3) := by decide +kernel
theorem dX9_bury_127 : decode cX9_bury 127 = .ok (.return_, 1) := by decide +kernel
set_option maxHeartbeats 4000000 in
set_option maxRecDepth 100000 in
theorem s_X9_bury (l : Launch) (g : GG) (sz : Nat) (h : Nat) (bday : Int32) (bseed : Int32) (balive : Int32) (bstruck : Int32) (bopen : Int32) (bduels : Int32) (blines : Int32) (bcoins : Nat) (brented : Nat) (bmornings : Nat) (bhonours : Nat) (bused : Nat) (bsides : Nat) (Fbsides : Nat → Int32) (blog : Nat) (la : Nat) (dduels : Int32) (dduelSides : Nat) (dduelMornings : Nat) (dhonour : Int32) (ddraw : Int32) (dusesOfKind : Nat) (dmen : Nat) (dmen_count : Int32) (dmen_names : Nat) (dmen_dies : Nat) (dmen_coins : Nat) (dmen_fathers : Nat) (Fdmen_fathers : Nat → Int32) (dformulas : Nat) (dreasons : Nat) (p0 : Int32) (hh0 : 0 ≤ bseed.toInt ∧ bseed.toInt ≤ 999) (hh1 : 0 ≤ bduels.toInt ∧ bduels.toInt ≤ 8) (hh2 : 0 ≤ blines.toInt ∧ blines.toInt ≤ 60) (hh3 : Rg 16 0 5 Fbsides) (hh4 : 0 ≤ dduels.toInt ∧ dduels.toInt ≤ 6) (hh6 : 0 ≤ ddraw.toInt ∧ ddraw.toInt ≤ 999) (hh7 : 0 ≤ dmen_count.toInt ∧ dmen_count.toInt ≤ 6) : Met l yX9_bury (.code yX9_bury cX9_bury 7 none :: gT) ({ frames := 2, cells := 0, slots := 0, locals := 45 }) (va_Pc [.ref h, .ref la, .int p0] (Pst g sz [(h, .inr (9, [.int bday, .int bseed, .int balive, .int bstruck, .int bopen, .int bduels, .int blines, .ref bcoins, .ref brented, .ref bmornings, .ref bhonours, .ref bused, .ref bsides, .ref blog])), (bsides, aI g 16 Fbsides), (la, .inr (2, [.ref dmen, .ref dformulas, .ref dreasons, .int dduels, .ref dduelSides, .ref dduelMornings, .int dhonour, .int ddraw, .ref dusesOfKind])), (dmen, .inr (3, [.int dmen_count, .ref dmen_names, .ref dmen_dies, .ref dmen_coins, .ref dmen_fathers])), (dmen_fathers, aI g 6 Fdmen_fathers)] nX)) (va_Qv (fun ((o0_alive, o1_open, o2_F) : Int32 × Int32 × (Nat → Int32)) => Rg 16 0 5 o2_F) (Qst g [(h, .inr (9, [.int bday, .int bseed, .int balive, .int bstruck, .int bopen, .int bduels, .int blines, .ref bcoins, .ref brented, .ref bmornings, .ref bhonours, .ref bused, .ref bsides, .ref blog])), (bsides, aI g 16 Fbsides), (la, .inr (2, [.ref dmen, .ref dformulas, .ref dreasons, .int dduels, .ref dduelSides, .ref dduelMornings, .int dhonour, .int ddraw, .ref dusesOfKind])), (dmen, .inr (3, [.int dmen_count, .ref dmen_names, .ref dmen_dies, .ref dmen_coins, .ref dmen_fathers])), (dmen_fathers, aI g 6 Fdmen_fathers)] sz (fun ((o0_alive, o1_open, o2_F) : Int32 × Int32 × (Nat → Int32)) => [(h, .inr (9, [.int bday, .int bseed, .int o0_alive, .int bstruck, .int o1_open, .int bduels, .int blines, .ref bcoins, .ref brented, .ref bmornings, .ref bhonours, .ref bused, .ref bsides, .ref blog])), (bsides, aI g 16 o2_F), (la, .inr (2, [.ref dmen, .ref dformulas, .ref dreasons, .int dduels, .ref dduelSides, .ref dduelMornings, .int dhonour, .int ddraw, .ref dusesOfKind])), (dmen, .inr (3, [.int dmen_count, .ref dmen_names, .ref dmen_dies, .ref dmen_coins, .ref dmen_fathers])), (dmen_fathers, aI g 6 Fdmen_fathers)])) (va_A [(h, .inr (9, [.int bday, .int bseed, .int balive, .int bstruck, .int bopen, .int bduels, .int blines, .ref bcoins, .ref brented, .ref bmornings, .ref bhonours, .ref bused, .ref bsides, .ref blog])), (bsides, aI g 16 Fbsides), (la, .inr (2, [.ref dmen, .ref dformulas, .ref dreasons, .int dduels, .ref dduelSides, .ref dduelMornings, .int dhonour, .int ddraw, .ref dusesOfKind])), (dmen, .inr (3, [.int dmen_count, .ref dmen_names, .ref dmen_dies, .ref dmen_coins, .ref dmen_fathers])), (dmen_fathers, aI g 6 Fdmen_fathers)] sz)) 0 0 (va_A [(h, .inr (9, [.int bday, .int bseed, .int balive, .int bstruck, .int bopen, .int bduels, .int blines, .ref bcoins, .ref brented, .ref bmornings, .ref bhonours, .ref bused, .ref bsides, .ref blog])), (bsides, aI g 16 Fbsides), (la, .inr (2, [.ref dmen, .ref dformulas, .ref dreasons, .int dduels, .ref dduelSides, .ref dduelMornings, .int dhonour, .int ddraw, .ref dusesOfKind])), (dmen, .inr (3, [.int dmen_count, .ref dmen_names, .ref dmen_dies, .ref dmen_coins, .ref dmen_fathers])), (dmen_fathers, aI g 6 Fdmen_fathers)] sz) := by
  refine Met.ofW (cc := cX9_bury) (maxL := 7) (ret := none) (by decide) rfl ?_
  intro p e s m args below meth c s₁ B hml hv
  obtain ⟨rfl, hsz, hP, hK, hD0, hX⟩ := hv
  have hx := B.exec
  have hb := B.bytes
  have hr := B.returns
  have hT : ∀ w ∈ gT, w.before _ s = true := fun w h => atoms_spec (ws := .code yX9_bury cX9_bury 7 none :: gT) B.pre w (List.mem_cons_of_mem _ h)
  have hown : s.vm.findClass RX9 = some m.cls := findClass_of_methodNamed B.named
  have hlocks := B.notSynchronized
  subst hsz
  have hD := hD0.self (sz := s.heap.size)
  generalize hAe : va_A [(h, .inr (9, [.int bday, .int bseed, .int balive, .int bstruck, .int bopen, .int bduels, .int blines, .ref bcoins, .ref brented, .ref bmornings, .ref bhonours, .ref bused, .ref bsides, .ref blog])), (bsides, aI g 16 Fbsides), (la, .inr (2, [.ref dmen, .ref dformulas, .ref dreasons, .int dduels, .ref dduelSides, .ref dduelMornings, .int dhonour, .int ddraw, .ref dusesOfKind])), (dmen, .inr (3, [.int dmen_count, .ref dmen_names, .ref dmen_dies, .ref dmen_coins, .ref dmen_fathers])), (dmen_fathers, aI g 6 Fdmen_fathers)] s.heap.size = A at hD ⊢
  have hA : ∀ q : Nat, s.heap.size ≤ q → A q := fun q h => by rw [← hAe]; exact Or.inr h
  have hS : va_S A s.heap s.heap [] := va_S.rf
  have hl := lv_entry ([.ref h, .ref la, .int p0]) (n := 7) (Nat.le_of_ble_eq_true rfl)
  rw [lg_entry_eq]
  generalize (lg_sl ([.ref h, .ref la, .int p0]) ++ List.replicate (7 - (lg_sl ([.ref h, .ref la, .int p0])).length) Slot.unset).toArray = ls at hl ⊢
  have hl : lv_has ls 7 [(0, .ref h), (1, .ref la), (2, .int p0)] := hl
  refine p_nH (fun H hH => ?_)
  have hP : va_P g.1 vwCl [(h, .inr (9, [.int bday, .int bseed, .int balive, .int bstruck, .int bopen, .int bduels, .int blines, .ref bcoins, .ref brented, .ref bmornings, .ref bhonours, .ref bused, .ref bsides, .ref blog])), (bsides, aI g 16 Fbsides), (la, .inr (2, [.ref dmen, .ref dformulas, .ref dreasons, .int dduels, .ref dduelSides, .ref dduelMornings, .int dhonour, .int ddraw, .ref dusesOfKind])), (dmen, .inr (3, [.int dmen_count, .ref dmen_names, .ref dmen_dies, .ref dmen_coins, .ref dmen_fathers])), (dmen_fathers, aI g 6 Fdmen_fathers)] H := by rw [hH]; exact hP
  have hS : va_S A s.heap H [] := by rw [hH]; exact hS
  refine lv_aload_n hx hb dX9_bury_0 rfl (lv_at hl 0 rfl) ?_
  refine lv_dup hx hb dX9_bury_1 rfl ?_
  refine va_get (D := g.1) (ci := 9) (v := .int balive) (C := RX9) (T := TX9) (N := 14) hx hb hT inF_X9 hown hK.1 hP 0 rfl rfl 2 (by decide) (hT _ bw_27) (fun _ h9 => h9) rfl dX9_bury_2 ?_
  refine lv_iconst (v := 1) hx hb dX9_bury_5 (by decide) ?_
  refine lv_iload_n hx hb dX9_bury_6 rfl (lv_at hl 2 rfl) ?_
  refine lv_ishl hx hb dX9_bury_7 ?_
  refine lv_topi (fun x_1 ex_1 => ?_)
  refine lv_iconst (v := (-1)) hx hb dX9_bury_8 (by decide) ?_
  refine lv_ixor hx hb dX9_bury_9 ?_
  refine lv_topi (fun x_2 ex_2 => ?_)
  refine lv_iand hx hb dX9_bury_10 ?_
  refine lv_topi (fun x_3 ex_3 => ?_)
  refine va_put (D := g.1) (ci := 9) (v := .int x_3) (ty := .int) (C := RX9) (T := TX9) (N := 14) hx hb hT inF_X9 tyX9 tyX9_ok nmX9 hown hK.1 hP hD hS 0 rfl rfl 2 (by decide) (hT _ bw_27) (fun _ h9 => h9) rfl (by decide +kernel) rfl rfl (Nat.le_of_ble_eq_true rfl) dX9_bury_11 (fun H locs hP hD hS => ?_)
  have hP : va_P g.1 vwCl [(h, .inr (9, [.int bday, .int bseed, .int x_3, .int bstruck, .int bopen, .int bduels, .int blines, .ref bcoins, .ref brented, .ref bmornings, .ref bhonours, .ref bused, .ref bsides, .ref blog])), (bsides, aI g 16 Fbsides), (la, .inr (2, [.ref dmen, .ref dformulas, .ref dreasons, .int dduels, .ref dduelSides, .ref dduelMornings, .int dhonour, .int ddraw, .ref dusesOfKind])), (dmen, .inr (3, [.int dmen_count, .ref dmen_names, .ref dmen_dies, .ref dmen_coins, .ref dmen_fathers])), (dmen_fathers, aI g 6 Fdmen_fathers)] H := hP
  have hD : va_D A [(h, .inr (9, [.int bday, .int bseed, .int x_3, .int bstruck, .int bopen, .int bduels, .int blines, .ref bcoins, .ref brented, .ref bmornings, .ref bhonours, .ref bused, .ref bsides, .ref blog])), (bsides, aI g 16 Fbsides), (la, .inr (2, [.ref dmen, .ref dformulas, .ref dreasons, .int dduels, .ref dduelSides, .ref dduelMornings, .int dhonour, .int ddraw, .ref dusesOfKind])), (dmen, .inr (3, [.int dmen_count, .ref dmen_names, .ref dmen_dies, .ref dmen_coins, .ref dmen_fathers])), (dmen_fathers, aI g 6 Fdmen_fathers)] := hD
  refine lv_aload_n hx hb dX9_bury_14 rfl (lv_at hl 0 rfl) ?_
  refine lv_aload_n hx hb dX9_bury_15 rfl (lv_at hl 1 rfl) ?_
  refine lv_iload_n hx hb dX9_bury_16 rfl (lv_at hl 2 rfl) ?_
  refine k_iR (k_V (n := 2) ⟨hx, hb, hml, hown, hT⟩ hK hP hD [0, 2, 3, 4] rfl (by decide +kernel) (s_X9_heirOf l g H.size h bday bseed x_3 bstruck bopen bduels blines bcoins brented bmornings bhonours bused bsides blog la dduels dduelSides dduelMornings dhonour ddraw dusesOfKind dmen dmen_count dmen_names dmen_dies dmen_coins dmen_fathers Fdmen_fathers dformulas dreasons p0 (by first | with_reducible assumption | omega) (by first | with_reducible assumption | omega) (by first | with_reducible assumption | omega) (by first | with_reducible assumption | omega) (by first | with_reducible assumption | omega) (by first | with_reducible assumption | omega)) (gV bw_72 bw_73 bw_74 bw_46 bw_59) rfl rfl (by decide +kernel) ⟨by decide, by decide⟩ (ci := 9) (q0 := 0) rfl rfl (fun _ _ _ _ _ => trivial) (fun _ _ _ => trivial) rfl rfl hl.1 (Nat.le_of_ble_eq_true rfl) dX9_bury_17 ⟨by decide, by decide⟩) hP hS hA (fun r_4 _ H locs hw0 hP hS => ?_)
  have hw : (-1) ≤ r_4.toInt ∧ r_4.toInt ≤ 5 := hw0
  clear hw0
  have w_5 := hw
  refine lv_istore_n (lv' := [(3, .int r_4), (0, .ref h), (1, .ref la), (2, .int p0)]) hx hb dX9_bury_20 rfl hl (by decide) rfl (fun ls hl => ?_)
  refine lv_iconst (v := 0) hx hb dX9_bury_21 (by decide) ?_
  refine lv_istore (lv' := [(4, .int 0), (3, .int r_4), (0, .ref h), (1, .ref la), (2, .int p0)]) hx hb dX9_bury_22 hl (by decide) rfl (fun ls hl => ?_)
  refine k_floop 24 (fun n H locs ls => ∃ (L_6 : Int32) (L_7 : Int32) (f_8 : Nat → Int32), (0 ≤ L_6.toInt ∧ L_6.toInt ≤ 8) ∧ (Rg 16 0 5 f_8) ∧ 8 - L_6.toInt ≤ (n : Int) ∧ va_P g.1 vwCl [(h, .inr (9, [.int bday, .int bseed, .int x_3, .int bstruck, .int L_7, .int bduels, .int blines, .ref bcoins, .ref brented, .ref bmornings, .ref bhonours, .ref bused, .ref bsides, .ref blog])), (bsides, aI g 16 f_8), (la, .inr (2, [.ref dmen, .ref dformulas, .ref dreasons, .int dduels, .ref dduelSides, .ref dduelMornings, .int dhonour, .int ddraw, .ref dusesOfKind])), (dmen, .inr (3, [.int dmen_count, .ref dmen_names, .ref dmen_dies, .ref dmen_coins, .ref dmen_fathers])), (dmen_fathers, aI g 6 Fdmen_fathers)] H ∧ va_D A [(h, .inr (9, [.int bday, .int bseed, .int x_3, .int bstruck, .int L_7, .int bduels, .int blines, .ref bcoins, .ref brented, .ref bmornings, .ref bhonours, .ref bused, .ref bsides, .ref blog])), (bsides, aI g 16 f_8), (la, .inr (2, [.ref dmen, .ref dformulas, .ref dreasons, .int dduels, .ref dduelSides, .ref dduelMornings, .int dhonour, .int ddraw, .ref dusesOfKind])), (dmen, .inr (3, [.int dmen_count, .ref dmen_names, .ref dmen_dies, .ref dmen_coins, .ref dmen_fathers])), (dmen_fathers, aI g 6 Fdmen_fathers)] ∧ va_S A s.heap H locs ∧ lv_has ls 7 [(4, .int L_6), (3, .int r_4), (0, .ref h), (1, .ref la), (2, .int p0)]) (fun n H locs ls hI ih => ?_) ((8 - 0 : Int)).toNat ⟨0, bopen, Fbsides, by decide, hh3, by have k0 : (0 : Int32).toInt = 0 := (by decide); omega, hP, hD, hS, hl⟩
  refine hI.elim (fun L_6 hI => hI.elim (fun L_7 hI => hI.elim (fun f_8 hI => ?_)))
  have g_9 := hI.1
  have g_10 := hI.2.1
  have hm_11 := hI.2.2.1
  have hP := hI.2.2.2.1
  have hD := hI.2.2.2.2.1
  have hS := hI.2.2.2.2.2.1
  have hl := hI.2.2.2.2.2.2
  clear hI
  refine lv_iload hx hb dX9_bury_24 (lv_at hl 0 rfl) ?_
  refine lv_aload_n hx hb dX9_bury_26 rfl (lv_at hl 2 rfl) ?_
  refine va_get (D := g.1) (ci := 9) (v := .int bduels) (C := RX9) (T := TX9) (N := 14) hx hb hT inF_X9 hown hK.1 hP 0 rfl rfl 5 (by decide) (hT _ bw_33) (fun _ h9 => h9) rfl dX9_bury_27 ?_
  refine lv_icmp_ge (tgt := 127) hx hb dX9_bury_30 (by decide) (fun c_12 => ?_) (fun c_12 => ?_)
  · have f_13 := E_le (rfl : bduels.toInt = _) (rfl : L_6.toInt = _) c_12
    have hP9 : va_P g.1 vwCl [(h, .inr (9, [.int bday, .int bseed, .int x_3, .int bstruck, .int L_7, .int bduels, .int blines, .ref bcoins, .ref brented, .ref bmornings, .ref bhonours, .ref bused, .ref bsides, .ref blog])), (bsides, aI g 16 f_8), (la, .inr (2, [.ref dmen, .ref dformulas, .ref dreasons, .int dduels, .ref dduelSides, .ref dduelMornings, .int dhonour, .int ddraw, .ref dusesOfKind])), (dmen, .inr (3, [.int dmen_count, .ref dmen_names, .ref dmen_dies, .ref dmen_coins, .ref dmen_fathers])), (dmen_fathers, aI g 6 Fdmen_fathers)] H := hP.sub [0, 1, 2, 3, 4] rfl
    have hD9 : va_D A [(h, .inr (9, [.int bday, .int bseed, .int x_3, .int bstruck, .int L_7, .int bduels, .int blines, .ref bcoins, .ref brented, .ref bmornings, .ref bhonours, .ref bused, .ref bsides, .ref blog])), (bsides, aI g 16 f_8), (la, .inr (2, [.ref dmen, .ref dformulas, .ref dreasons, .int dduels, .ref dduelSides, .ref dduelMornings, .int dhonour, .int ddraw, .ref dusesOfKind])), (dmen, .inr (3, [.int dmen_count, .ref dmen_names, .ref dmen_dies, .ref dmen_coins, .ref dmen_fathers])), (dmen_fathers, aI g 6 Fdmen_fathers)] := hD.sub [0, 1, 2, 3, 4] (by decide +kernel) rfl
    exact W.vret hx hb hr (fun t ht hW => ⟨⟨(x_3, L_7, f_8), rfl, g_10, by rw [ht]; exact hP9, by rw [hAe]; exact hD9⟩, hS.F ht⟩) hS.2.2 dX9_bury_127
  · have f_14 := E_nle (rfl : bduels.toInt = _) (rfl : L_6.toInt = _) c_12
    refine lv_aload_n hx hb dX9_bury_33 rfl (lv_at hl 2 rfl) ?_
    refine lv_iload hx hb dX9_bury_34 (lv_at hl 0 rfl) ?_
    refine lv_iload_n hx hb dX9_bury_36 rfl (lv_at hl 4 rfl) ?_
    refine k_iR (k_V (n := 2) ⟨hx, hb, hml, hown, hT⟩ hK hP hD [0, 1] rfl (by decide +kernel) (s_X9_sideOf l g H.size h bday bseed x_3 bstruck L_7 bduels blines bcoins brented bmornings bhonours bused bsides f_8 blog L_6 p0 (by first | with_reducible assumption | omega) (by first | with_reducible assumption | omega) (by first | with_reducible assumption | omega) g_10 (by first | with_reducible assumption | omega)) (gV bw_47 bw_48 bw_49 bw_46 bw_37) rfl rfl (by decide +kernel) ⟨by decide, by decide⟩ (ci := 9) (q0 := 0) rfl rfl (fun _ _ _ _ _ => trivial) (fun _ _ _ => trivial) rfl rfl hl.1 (Nat.le_of_ble_eq_true rfl) dX9_bury_37 ⟨by decide, by decide⟩) hP hS hA (fun r_15 _ H locs hw0 hP hS => ?_)
    have hw : (-1) ≤ r_15.toInt ∧ r_15.toInt ≤ 1 := hw0
    clear hw0
    have w_16 := hw
    refine lv_istore (lv' := [(5, .int r_15), (4, .int L_6), (3, .int r_4), (0, .ref h), (1, .ref la), (2, .int p0)]) hx hb dX9_bury_40 hl (by decide) rfl (fun ls hl => ?_)
    refine lv_aload_n hx hb dX9_bury_42 rfl (lv_at hl 3 rfl) ?_
    refine lv_iload hx hb dX9_bury_43 (lv_at hl 1 rfl) ?_
    refine k_iR (k_V (n := 1) ⟨hx, hb, hml, hown, hT⟩ hK hP hD [0] rfl (by decide +kernel) (s_X9_isOpen l g H.size h bday bseed x_3 bstruck L_7 bduels blines bcoins brented bmornings bhonours bused bsides blog L_6 (by first | with_reducible assumption | omega) (by first | with_reducible assumption | omega) (by first | with_reducible assumption | omega)) (gV bw_43 bw_44 bw_45 bw_46 bw_32) rfl rfl (by decide +kernel) ⟨by decide, by decide⟩ (ci := 9) (q0 := 0) rfl rfl (fun _ _ _ _ _ => trivial) (fun _ _ _ => trivial) rfl rfl hl.1 (Nat.le_of_ble_eq_true rfl) dX9_bury_45 ⟨by decide, by decide⟩) hP hS hA (fun r_17 _ H locs hw0 hP hS => ?_)
    have hw : 0 ≤ r_17.toInt ∧ r_17.toInt ≤ 1 := hw0
    clear hw0
    have w_18 := hw
    refine lv_if_eq (tgt := 121) hx hb dX9_bury_48 (by decide) (fun c_19 => ?_) (fun c_19 => ?_)
    · have f_20 := E_eq (rfl : r_17.toInt = _) (by decide : (0 : Int32).toInt = 0) c_19
      obtain ⟨x_21, ex_21⟩ : ∃ y : Int32, y = L_6 + 1 := ⟨_, rfl⟩
      have fx_21 : x_21.toInt = L_6.toInt + 1 := by rw [ex_21]; exact I_add rfl (by decide) (by omega) (by omega)
      refine lv_iinc (v := x_21) (lv' := [(4, .int x_21), (5, .int r_15), (3, .int r_4), (0, .ref h), (1, .ref la), (2, .int p0)]) hx hb dX9_bury_121 hl (k := 1) rfl (by rw [ex_21]; rfl) (by decide) rfl (fun ls hl => ?_)
      refine lv_goto (tgt := 24) hx hb dX9_bury_124 (by decide) ?_
      exact ih (n - 1) (by omega) H locs ls ⟨x_21, L_7, f_8, (by first | with_reducible assumption | omega), g_10, by omega, hP.sub [0, 1, 2, 3, 4] rfl, hD.sub [0, 1, 2, 3, 4] (by decide +kernel) rfl, hS, lv_sub hl [0, 2, 3, 4, 5] rfl⟩
    · have f_22 := E_ne (rfl : r_17.toInt = _) (by decide : (0 : Int32).toInt = 0) c_19
      refine lv_iload hx hb dX9_bury_51 (lv_at hl 0 rfl) ?_
      refine lv_iconst (v := (-1)) hx hb dX9_bury_53 (by decide) ?_
      refine lv_icmp_eq (tgt := 121) hx hb dX9_bury_54 (by decide) (fun c_23 => ?_) (fun c_23 => ?_)
      · have f_24 := E_eq (rfl : r_15.toInt = _) (by decide : ((-1) : Int32).toInt = (-1)) c_23
        obtain ⟨x_25, ex_25⟩ : ∃ y : Int32, y = L_6 + 1 := ⟨_, rfl⟩
        have fx_25 : x_25.toInt = L_6.toInt + 1 := by rw [ex_25]; exact I_add rfl (by decide) (by omega) (by omega)
        refine lv_iinc (v := x_25) (lv' := [(4, .int x_25), (5, .int r_15), (3, .int r_4), (0, .ref h), (1, .ref la), (2, .int p0)]) hx hb dX9_bury_121 hl (k := 1) rfl (by rw [ex_25]; rfl) (by decide) rfl (fun ls hl => ?_)
        refine lv_goto (tgt := 24) hx hb dX9_bury_124 (by decide) ?_
        exact ih (n - 1) (by omega) H locs ls ⟨x_25, L_7, f_8, (by first | with_reducible assumption | omega), g_10, by omega, hP.sub [0, 1, 2, 3, 4] rfl, hD.sub [0, 1, 2, 3, 4] (by decide +kernel) rfl, hS, lv_sub hl [0, 2, 3, 4, 5] rfl⟩
      · have f_26 := E_ne (rfl : r_15.toInt = _) (by decide : ((-1) : Int32).toInt = (-1)) c_23
        refine lv_aload_n hx hb dX9_bury_57 rfl (lv_at hl 3 rfl) ?_
        refine lv_iload hx hb dX9_bury_58 (lv_at hl 1 rfl) ?_
        refine lv_iconst (v := 1) hx hb dX9_bury_60 (by decide) ?_
        refine lv_iload hx hb dX9_bury_61 (lv_at hl 0 rfl) ?_
        refine lv_isub hx hb dX9_bury_63 ?_
        refine lv_topi (fun x_27 ex_27 => ?_)
        have fx_27 : x_27.toInt = 1 - r_15.toInt := by rw [ex_27]; exact I_sub (by decide : (1 : Int32).toInt = 1) rfl (by omega) (by omega)
        refine k_iR (k_V (n := 2) ⟨hx, hb, hml, hown, hT⟩ hK hP hD [0, 1] rfl (by decide +kernel) (s_X9_manOf l g H.size h bday bseed x_3 bstruck L_7 bduels blines bcoins brented bmornings bhonours bused bsides f_8 blog L_6 x_27 (by first | with_reducible assumption | omega) (by first | with_reducible assumption | omega) (by first | with_reducible assumption | omega) g_10 (by first | with_reducible assumption | omega) (by first | with_reducible assumption | omega)) (gV bw_75 bw_76 bw_77 bw_46 bw_36) rfl rfl (by decide +kernel) ⟨by decide, by decide⟩ (ci := 9) (q0 := 0) rfl rfl (fun _ _ _ _ _ => trivial) (fun _ _ _ => trivial) rfl rfl hl.1 (Nat.le_of_ble_eq_true rfl) dX9_bury_64 ⟨by decide, by decide⟩) hP hS hA (fun r_28 _ H locs hw0 hP hS => ?_)
        have hw : 0 ≤ r_28.toInt ∧ r_28.toInt ≤ 5 := hw0
        clear hw0
        have w_29 := hw
        refine lv_istore (lv' := [(6, .int r_28), (5, .int r_15), (4, .int L_6), (3, .int r_4), (0, .ref h), (1, .ref la), (2, .int p0)]) hx hb dX9_bury_67 hl (by decide) rfl (fun ls hl => ?_)
        refine lv_iload_n hx hb dX9_bury_69 rfl (lv_at hl 3 rfl) ?_
        refine lv_iconst (v := (-1)) hx hb dX9_bury_70 (by decide) ?_
        refine lv_icmp_eq (tgt := 90) hx hb dX9_bury_71 (by decide) (fun c_30 => ?_) (fun c_30 => ?_)
        · have f_31 := E_eq (rfl : r_4.toInt = _) (by decide : ((-1) : Int32).toInt = (-1)) c_30
          refine lv_aload_n hx hb dX9_bury_90 rfl (lv_at hl 4 rfl) ?_
          refine lv_dup hx hb dX9_bury_91 rfl ?_
          refine va_get (D := g.1) (ci := 9) (v := .int L_7) (C := RX9) (T := TX9) (N := 14) hx hb hT inF_X9 hown hK.1 hP 0 rfl rfl 4 (by decide) (hT _ bw_31) (fun _ h9 => h9) rfl dX9_bury_92 ?_
          refine lv_iconst (v := 1) hx hb dX9_bury_95 (by decide) ?_
          refine lv_iload hx hb dX9_bury_96 (lv_at hl 2 rfl) ?_
          refine lv_ishl hx hb dX9_bury_98 ?_
          refine lv_topi (fun x_32 ex_32 => ?_)
          refine lv_iconst (v := (-1)) hx hb dX9_bury_99 (by decide) ?_
          refine lv_ixor hx hb dX9_bury_100 ?_
          refine lv_topi (fun x_33 ex_33 => ?_)
          refine lv_iand hx hb dX9_bury_101 ?_
          refine lv_topi (fun x_34 ex_34 => ?_)
          refine va_put (D := g.1) (ci := 9) (v := .int x_34) (ty := .int) (C := RX9) (T := TX9) (N := 14) hx hb hT inF_X9 tyX9 tyX9_ok nmX9 hown hK.1 hP hD hS 0 rfl rfl 4 (by decide) (hT _ bw_31) (fun _ h9 => h9) rfl (by decide +kernel) rfl rfl (Nat.le_of_ble_eq_true rfl) dX9_bury_102 (fun H locs hP hD hS => ?_)
          have hP : va_P g.1 vwCl [(h, .inr (9, [.int bday, .int bseed, .int x_3, .int bstruck, .int x_34, .int bduels, .int blines, .ref bcoins, .ref brented, .ref bmornings, .ref bhonours, .ref bused, .ref bsides, .ref blog])), (bsides, aI g 16 f_8), (la, .inr (2, [.ref dmen, .ref dformulas, .ref dreasons, .int dduels, .ref dduelSides, .ref dduelMornings, .int dhonour, .int ddraw, .ref dusesOfKind])), (dmen, .inr (3, [.int dmen_count, .ref dmen_names, .ref dmen_dies, .ref dmen_coins, .ref dmen_fathers])), (dmen_fathers, aI g 6 Fdmen_fathers)] H := hP
          have hD : va_D A [(h, .inr (9, [.int bday, .int bseed, .int x_3, .int bstruck, .int x_34, .int bduels, .int blines, .ref bcoins, .ref brented, .ref bmornings, .ref bhonours, .ref bused, .ref bsides, .ref blog])), (bsides, aI g 16 f_8), (la, .inr (2, [.ref dmen, .ref dformulas, .ref dreasons, .int dduels, .ref dduelSides, .ref dduelMornings, .int dhonour, .int ddraw, .ref dusesOfKind])), (dmen, .inr (3, [.int dmen_count, .ref dmen_names, .ref dmen_dies, .ref dmen_coins, .ref dmen_fathers])), (dmen_fathers, aI g 6 Fdmen_fathers)] := hD
          refine lv_goto (tgt := 121) hx hb dX9_bury_105 (by decide) ?_
          obtain ⟨x_35, ex_35⟩ : ∃ y : Int32, y = L_6 + 1 := ⟨_, rfl⟩
          have fx_35 : x_35.toInt = L_6.toInt + 1 := by rw [ex_35]; exact I_add rfl (by decide) (by omega) (by omega)
          refine lv_iinc (v := x_35) (lv' := [(4, .int x_35), (6, .int r_28), (5, .int r_15), (3, .int r_4), (0, .ref h), (1, .ref la), (2, .int p0)]) hx hb dX9_bury_121 hl (k := 2) rfl (by rw [ex_35]; rfl) (by decide) rfl (fun ls hl => ?_)
          refine lv_goto (tgt := 24) hx hb dX9_bury_124 (by decide) ?_
          exact ih (n - 1) (by omega) H locs ls ⟨x_35, x_34, f_8, (by first | with_reducible assumption | omega), g_10, by omega, hP.sub [0, 1, 2, 3, 4] rfl, hD.sub [0, 1, 2, 3, 4] (by decide +kernel) rfl, hS, lv_sub hl [0, 3, 4, 5, 6] rfl⟩
        · have f_36 := E_ne (rfl : r_4.toInt = _) (by decide : ((-1) : Int32).toInt = (-1)) c_30
          refine lv_iload_n hx hb dX9_bury_74 rfl (lv_at hl 3 rfl) ?_
          refine lv_iload hx hb dX9_bury_75 (lv_at hl 0 rfl) ?_
          refine lv_icmp_eq (tgt := 90) hx hb dX9_bury_77 (by decide) (fun c_37 => ?_) (fun c_37 => ?_)
          · have f_38 := E_eq (rfl : r_4.toInt = _) (rfl : r_28.toInt = _) c_37
            refine lv_aload_n hx hb dX9_bury_90 rfl (lv_at hl 4 rfl) ?_
            refine lv_dup hx hb dX9_bury_91 rfl ?_
            refine va_get (D := g.1) (ci := 9) (v := .int L_7) (C := RX9) (T := TX9) (N := 14) hx hb hT inF_X9 hown hK.1 hP 0 rfl rfl 4 (by decide) (hT _ bw_31) (fun _ h9 => h9) rfl dX9_bury_92 ?_
            refine lv_iconst (v := 1) hx hb dX9_bury_95 (by decide) ?_
            refine lv_iload hx hb dX9_bury_96 (lv_at hl 2 rfl) ?_
            refine lv_ishl hx hb dX9_bury_98 ?_
            refine lv_topi (fun x_39 ex_39 => ?_)
            refine lv_iconst (v := (-1)) hx hb dX9_bury_99 (by decide) ?_
            refine lv_ixor hx hb dX9_bury_100 ?_
            refine lv_topi (fun x_40 ex_40 => ?_)
            refine lv_iand hx hb dX9_bury_101 ?_
            refine lv_topi (fun x_41 ex_41 => ?_)
            refine va_put (D := g.1) (ci := 9) (v := .int x_41) (ty := .int) (C := RX9) (T := TX9) (N := 14) hx hb hT inF_X9 tyX9 tyX9_ok nmX9 hown hK.1 hP hD hS 0 rfl rfl 4 (by decide) (hT _ bw_31) (fun _ h9 => h9) rfl (by decide +kernel) rfl rfl (Nat.le_of_ble_eq_true rfl) dX9_bury_102 (fun H locs hP hD hS => ?_)
            have hP : va_P g.1 vwCl [(h, .inr (9, [.int bday, .int bseed, .int x_3, .int bstruck, .int x_41, .int bduels, .int blines, .ref bcoins, .ref brented, .ref bmornings, .ref bhonours, .ref bused, .ref bsides, .ref blog])), (bsides, aI g 16 f_8), (la, .inr (2, [.ref dmen, .ref dformulas, .ref dreasons, .int dduels, .ref dduelSides, .ref dduelMornings, .int dhonour, .int ddraw, .ref dusesOfKind])), (dmen, .inr (3, [.int dmen_count, .ref dmen_names, .ref dmen_dies, .ref dmen_coins, .ref dmen_fathers])), (dmen_fathers, aI g 6 Fdmen_fathers)] H := hP
            have hD : va_D A [(h, .inr (9, [.int bday, .int bseed, .int x_3, .int bstruck, .int x_41, .int bduels, .int blines, .ref bcoins, .ref brented, .ref bmornings, .ref bhonours, .ref bused, .ref bsides, .ref blog])), (bsides, aI g 16 f_8), (la, .inr (2, [.ref dmen, .ref dformulas, .ref dreasons, .int dduels, .ref dduelSides, .ref dduelMornings, .int dhonour, .int ddraw, .ref dusesOfKind])), (dmen, .inr (3, [.int dmen_count, .ref dmen_names, .ref dmen_dies, .ref dmen_coins, .ref dmen_fathers])), (dmen_fathers, aI g 6 Fdmen_fathers)] := hD
            refine lv_goto (tgt := 121) hx hb dX9_bury_105 (by decide) ?_
            obtain ⟨x_42, ex_42⟩ : ∃ y : Int32, y = L_6 + 1 := ⟨_, rfl⟩
            have fx_42 : x_42.toInt = L_6.toInt + 1 := by rw [ex_42]; exact I_add rfl (by decide) (by omega) (by omega)
            refine lv_iinc (v := x_42) (lv' := [(4, .int x_42), (6, .int r_28), (5, .int r_15), (3, .int r_4), (0, .ref h), (1, .ref la), (2, .int p0)]) hx hb dX9_bury_121 hl (k := 2) rfl (by rw [ex_42]; rfl) (by decide) rfl (fun ls hl => ?_)
            refine lv_goto (tgt := 24) hx hb dX9_bury_124 (by decide) ?_
            exact ih (n - 1) (by omega) H locs ls ⟨x_42, x_41, f_8, (by first | with_reducible assumption | omega), g_10, by omega, hP.sub [0, 1, 2, 3, 4] rfl, hD.sub [0, 1, 2, 3, 4] (by decide +kernel) rfl, hS, lv_sub hl [0, 3, 4, 5, 6] rfl⟩
          · have f_43 := E_ne (rfl : r_4.toInt = _) (rfl : r_28.toInt = _) c_37
            refine lv_aload_n hx hb dX9_bury_80 rfl (lv_at hl 4 rfl) ?_
            refine lv_iload_n hx hb dX9_bury_81 rfl (lv_at hl 3 rfl) ?_
            refine lv_iload hx hb dX9_bury_82 (lv_at hl 0 rfl) ?_
            refine k_iR (k_V (n := 2) ⟨hx, hb, hml, hown, hT⟩ hK hP hD [0, 1] rfl (by decide +kernel) (s_X9_haveOpenDuel l g H.size h bday bseed x_3 bstruck L_7 bduels blines bcoins brented bmornings bhonours bused bsides f_8 blog r_4 r_28 (by first | with_reducible assumption | omega) (by first | with_reducible assumption | omega) (by first | with_reducible assumption | omega) g_10) (gV bw_78 bw_79 bw_80 bw_46 bw_50) rfl rfl (by decide +kernel) ⟨by decide, by decide⟩ (ci := 9) (q0 := 0) rfl rfl (fun _ _ _ _ _ => trivial) (fun _ _ _ => trivial) rfl rfl hl.1 (Nat.le_of_ble_eq_true rfl) dX9_bury_84 ⟨by decide, by decide⟩) hP hS hA (fun r_44 _ H locs hw0 hP hS => ?_)
            have hw : 0 ≤ r_44.toInt ∧ r_44.toInt ≤ 1 := hw0
            clear hw0
            have w_45 := hw
            refine lv_if_eq (tgt := 108) hx hb dX9_bury_87 (by decide) (fun c_46 => ?_) (fun c_46 => ?_)
            · have f_47 := E_eq (rfl : r_44.toInt = _) (by decide : (0 : Int32).toInt = 0) c_46
              refine lv_aload_n hx hb dX9_bury_108 rfl (lv_at hl 4 rfl) ?_
              refine va_get (D := g.1) (ci := 9) (v := .ref bsides) (C := RX9) (T := TX9) (N := 14) hx hb hT inF_X9 hown hK.1 hP 0 rfl rfl 12 (by decide) (hT _ bw_35) (fun _ h9 => h9) rfl dX9_bury_109 ?_
              refine lv_iconst (v := 2) hx hb dX9_bury_112 (by decide) ?_
              refine lv_iload hx hb dX9_bury_113 (lv_at hl 2 rfl) ?_
              refine lv_imul hx hb dX9_bury_115 ?_
              refine lv_topi (fun x_48 ex_48 => ?_)
              have fx_48 : x_48.toInt = 2 * L_6.toInt := by rw [ex_48]; exact I_mul (by decide : (2 : Int32).toInt = 2) rfl (by omega) (by omega)
              refine lv_iload hx hb dX9_bury_116 (lv_at hl 1 rfl) ?_
              refine lv_iadd hx hb dX9_bury_118 ?_
              refine lv_topi (fun x_49 ex_49 => ?_)
              have fx_49 : x_49.toInt = x_48.toInt + r_15.toInt := by rw [ex_49]; exact I_add rfl rfl (by omega) (by omega)
              refine lv_iload_n hx hb dX9_bury_119 rfl (lv_at hl 3 rfl) ?_
              have h_50 : vp_in x_49 16 := vp_in_iff.mpr (by omega)
              refine va_iast hx hb hK.1 hP hD hS 1 1 rfl rfl (i := x_49) (x := r_4) h_50 dX9_bury_120 (fun H locs hP hD hS => ?_)
              have gf_51 : Rg 16 0 5 (upd f_8 (x_49 : Int32).toNatClampNeg r_4) := Rg.upd g_10 (by omega)
              generalize upd f_8 (x_49 : Int32).toNatClampNeg r_4 = f_51 at hP hD gf_51
              have hP : va_P g.1 vwCl [(h, .inr (9, [.int bday, .int bseed, .int x_3, .int bstruck, .int L_7, .int bduels, .int blines, .ref bcoins, .ref brented, .ref bmornings, .ref bhonours, .ref bused, .ref bsides, .ref blog])), (bsides, aI g 16 f_51), (la, .inr (2, [.ref dmen, .ref dformulas, .ref dreasons, .int dduels, .ref dduelSides, .ref dduelMornings, .int dhonour, .int ddraw, .ref dusesOfKind])), (dmen, .inr (3, [.int dmen_count, .ref dmen_names, .ref dmen_dies, .ref dmen_coins, .ref dmen_fathers])), (dmen_fathers, aI g 6 Fdmen_fathers)] H := hP
              have hD : va_D A [(h, .inr (9, [.int bday, .int bseed, .int x_3, .int bstruck, .int L_7, .int bduels, .int blines, .ref bcoins, .ref brented, .ref bmornings, .ref bhonours, .ref bused, .ref bsides, .ref blog])), (bsides, aI g 16 f_51), (la, .inr (2, [.ref dmen, .ref dformulas, .ref dreasons, .int dduels, .ref dduelSides, .ref dduelMornings, .int dhonour, .int ddraw, .ref dusesOfKind])), (dmen, .inr (3, [.int dmen_count, .ref dmen_names, .ref dmen_dies, .ref dmen_coins, .ref dmen_fathers])), (dmen_fathers, aI g 6 Fdmen_fathers)] := hD
              obtain ⟨x_52, ex_52⟩ : ∃ y : Int32, y = L_6 + 1 := ⟨_, rfl⟩
              have fx_52 : x_52.toInt = L_6.toInt + 1 := by rw [ex_52]; exact I_add rfl (by decide) (by omega) (by omega)
              refine lv_iinc (v := x_52) (lv' := [(4, .int x_52), (6, .int r_28), (5, .int r_15), (3, .int r_4), (0, .ref h), (1, .ref la), (2, .int p0)]) hx hb dX9_bury_121 hl (k := 2) rfl (by rw [ex_52]; rfl) (by decide) rfl (fun ls hl => ?_)
              refine lv_goto (tgt := 24) hx hb dX9_bury_124 (by decide) ?_
              exact ih (n - 1) (by omega) H locs ls ⟨x_52, L_7, f_51, (by first | with_reducible assumption | omega), gf_51, by omega, hP.sub [0, 1, 2, 3, 4] rfl, hD.sub [0, 1, 2, 3, 4] (by decide +kernel) rfl, hS, lv_sub hl [0, 3, 4, 5, 6] rfl⟩
            · have f_53 := E_ne (rfl : r_44.toInt = _) (by decide : (0 : Int32).toInt = 0) c_46
              refine lv_aload_n hx hb dX9_bury_90 rfl (lv_at hl 4 rfl) ?_
              refine lv_dup hx hb dX9_bury_91 rfl ?_
              refine va_get (D := g.1) (ci := 9) (v := .int L_7) (C := RX9) (T := TX9) (N := 14) hx hb hT inF_X9 hown hK.1 hP 0 rfl rfl 4 (by decide) (hT _ bw_31) (fun _ h9 => h9) rfl dX9_bury_92 ?_
              refine lv_iconst (v := 1) hx hb dX9_bury_95 (by decide) ?_
              refine lv_iload hx hb dX9_bury_96 (lv_at hl 2 rfl) ?_
              refine lv_ishl hx hb dX9_bury_98 ?_
              refine lv_topi (fun x_54 ex_54 => ?_)
              refine lv_iconst (v := (-1)) hx hb dX9_bury_99 (by decide) ?_
              refine lv_ixor hx hb dX9_bury_100 ?_
              refine lv_topi (fun x_55 ex_55 => ?_)
              refine lv_iand hx hb dX9_bury_101 ?_
              refine lv_topi (fun x_56 ex_56 => ?_)
              refine va_put (D := g.1) (ci := 9) (v := .int x_56) (ty := .int) (C := RX9) (T := TX9) (N := 14) hx hb hT inF_X9 tyX9 tyX9_ok nmX9 hown hK.1 hP hD hS 0 rfl rfl 4 (by decide) (hT _ bw_31) (fun _ h9 => h9) rfl (by decide +kernel) rfl rfl (Nat.le_of_ble_eq_true rfl) dX9_bury_102 (fun H locs hP hD hS => ?_)
              have hP : va_P g.1 vwCl [(h, .inr (9, [.int bday, .int bseed, .int x_3, .int bstruck, .int x_56, .int bduels, .int blines, .ref bcoins, .ref brented, .ref bmornings, .ref bhonours, .ref bused, .ref bsides, .ref blog])), (bsides, aI g 16 f_8), (la, .inr (2, [.ref dmen, .ref dformulas, .ref dreasons, .int dduels, .ref dduelSides, .ref dduelMornings, .int dhonour, .int ddraw, .ref dusesOfKind])), (dmen, .inr (3, [.int dmen_count, .ref dmen_names, .ref dmen_dies, .ref dmen_coins, .ref dmen_fathers])), (dmen_fathers, aI g 6 Fdmen_fathers)] H := hP
              have hD : va_D A [(h, .inr (9, [.int bday, .int bseed, .int x_3, .int bstruck, .int x_56, .int bduels, .int blines, .ref bcoins, .ref brented, .ref bmornings, .ref bhonours, .ref bused, .ref bsides, .ref blog])), (bsides, aI g 16 f_8), (la, .inr (2, [.ref dmen, .ref dformulas, .ref dreasons, .int dduels, .ref dduelSides, .ref dduelMornings, .int dhonour, .int ddraw, .ref dusesOfKind])), (dmen, .inr (3, [.int dmen_count, .ref dmen_names, .ref dmen_dies, .ref dmen_coins, .ref dmen_fathers])), (dmen_fathers, aI g 6 Fdmen_fathers)] := hD
              refine lv_goto (tgt := 121) hx hb dX9_bury_105 (by decide) ?_
              obtain ⟨x_57, ex_57⟩ : ∃ y : Int32, y = L_6 + 1 := ⟨_, rfl⟩
              have fx_57 : x_57.toInt = L_6.toInt + 1 := by rw [ex_57]; exact I_add rfl (by decide) (by omega) (by omega)
              refine lv_iinc (v := x_57) (lv' := [(4, .int x_57), (6, .int r_28), (5, .int r_15), (3, .int r_4), (0, .ref h), (1, .ref la), (2, .int p0)]) hx hb dX9_bury_121 hl (k := 2) rfl (by rw [ex_57]; rfl) (by decide) rfl (fun ls hl => ?_)
              refine lv_goto (tgt := 24) hx hb dX9_bury_124 (by decide) ?_
              exact ih (n - 1) (by omega) H locs ls ⟨x_57, x_56, f_8, (by first | with_reducible assumption | omega), g_10, by omega, hP.sub [0, 1, 2, 3, 4] rfl, hD.sub [0, 1, 2, 3, 4] (by decide +kernel) rfl, hS, lv_sub hl [0, 3, 4, 5, 6] rfl⟩
