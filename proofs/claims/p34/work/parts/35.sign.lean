theorem bw_554 : Cond.fieldLink RJ0 38 "java/lang/String" "COMPACT_STRINGS" "Z" ∈ gT := gT_tb 52 (by decide +kernel) (by decide +kernel)
theorem bw_555 : Cond.fieldLink RJ0 15 "java/lang/String" "coder" "B" ∈ gT := gT_tb 2074 (by decide +kernel) (by decide +kernel)
theorem bw_556 : Cond.code yJ0_coder_7d493 cJ0_coder_7d493 1 (some .byte) ∈ gT := gT_tb 51 (by decide +kernel) (by decide +kernel)
theorem dJ0_coder_7d493_0 : decode cJ0_coder_7d493 0 = .ok (.getstatic 38, 3) := by decide +kernel
theorem dJ0_coder_7d493_3 : decode cJ0_coder_7d493 3 = .ok (.ifCond .eq 10, 3) := by decide +kernel
theorem dJ0_coder_7d493_6 : decode cJ0_coder_7d493 6 = .ok (.aload_n 0, 1) := by decide +kernel
theorem dJ0_coder_7d493_7 : decode cJ0_coder_7d493 7 = .ok (.getfield 15, 3) := by decide +kernel
theorem dJ0_coder_7d493_10 : decode cJ0_coder_7d493 10 = .ok (.goto 4, 3) := by decide +kernel
theorem dJ0_coder_7d493_14 : decode cJ0_coder_7d493 14 = .ok (.ireturn, 1) := by decide +kernel
set_option maxHeartbeats 4000000 in
set_option maxRecDepth 100000 in
theorem s_J0_coder_7d493 (l : Launch) (g : GG) (sz : Nat) (aW : Nat) (fw : Nat → Int32) : Met l yJ0_coder_7d493 (.code yJ0_coder_7d493 cJ0_coder_7d493 1 (some .byte) :: gT) ({ frames := 0, cells := 0, slots := 0, locals := 0 }) (va_Pc [.ref g.2.2.2.2.2.2.2] (Pst g sz [] (sX g.2.2.2.2.2.2.2 11 aW fw (va_A [] sz)))) (va_Qi (fun (r : Int32) => fun (_ : Unit) => r = 0) (Qst g [] sz (fun _ => [])) (va_A [] sz)) 0 0 (va_A [] sz) := by
  refine Met.ofW (cc := cJ0_coder_7d493) (maxL := 1) (ret := (some .byte)) (by decide) rfl ?_
  intro p e s m args below meth c s₁ B hml hv
  obtain ⟨rfl, hsz, hP, hK, hD0, hX⟩ := hv
  have hx := B.exec
  have hb := B.bytes
  have hr := B.returns
  have hT : ∀ w ∈ gT, w.before _ s = true := fun w h => atoms_spec (ws := .code yJ0_coder_7d493 cJ0_coder_7d493 1 (some .byte) :: gT) B.pre w (List.mem_cons_of_mem _ h)
  have hown : s.vm.findClass RJ0 = some m.cls := findClass_of_methodNamed B.named
  have hlocks := B.notSynchronized
  subst hsz
  have hD := hD0
  generalize hAe : va_A [] s.heap.size = A at hX ⊢
  have hA : ∀ q : Nat, s.heap.size ≤ q → A q := fun q h => by rw [← hAe]; exact Or.inr h
  have hS : va_S A s.heap s.heap [] := va_S.rf
  have hl := lv_entry ([.ref g.2.2.2.2.2.2.2]) (n := 1) (Nat.le_of_ble_eq_true rfl)
  rw [lg_entry_eq]
  generalize (lg_sl ([.ref g.2.2.2.2.2.2.2]) ++ List.replicate (1 - (lg_sl ([.ref g.2.2.2.2.2.2.2])).length) Slot.unset).toArray = ls at hl ⊢
  have hl : lv_has ls 1 [(0, .ref g.2.2.2.2.2.2.2)] := hl
  refine p_nH (fun H hH => ?_)
  have hP : va_P g.1 vwCl [] H := by rw [hH]; exact hP
  have hS : va_S A s.heap H [] := by rw [hH]; exact hS
  refine va_gets hx hb hX.2.2.2.2.1 hS hown (hT _ bw_554) (fun _ h9 => h9) dJ0_coder_7d493_0 ?_
  refine lv_if_eq (tgt := 13) hx hb dJ0_coder_7d493_3 (by decide) (fun c9 => absurd c9 (by decide)) (fun _ => ?_)
  refine lv_aload_n hx hb dJ0_coder_7d493_6 rfl (lv_at hl 0 rfl) ?_
  refine vk_getf hx hb hX.2.1 hS hown (hT _ bw_555) (fun _ h9 => h9) dJ0_coder_7d493_7 ?_
  refine lv_goto (tgt := 14) hx hb dJ0_coder_7d493_10 (by decide) ?_
  have hP9 : va_P g.1 vwCl [] H := hP.sub [] rfl
  have hD9 : va_D A [] := ⟨fun i j p q h => by simp at h, fun k q h => by simp at h⟩
  exact W.zret (v := 0) (ty := .byte) hx hb hr rfl (fun t ht hW => ⟨⟨0, (), rfl, rfl, by rw [ht]; exact hP9, by rw [hAe]; exact hD9⟩, hS.F ht⟩) hS.2.2 dJ0_coder_7d493_14

theorem bw_557 : Cond.code yJ0_isLatin1_aae02 cJ0_isLatin1_aae02 1 (some .boolean) ∈ gT := gT_tb 61 (by decide +kernel) (by decide +kernel)
theorem dJ0_isLatin1_aae02_0 : decode cJ0_isLatin1_aae02 0 = .ok (.getstatic 38, 3) := by decide +kernel
theorem dJ0_isLatin1_aae02_3 : decode cJ0_isLatin1_aae02 3 = .ok (.ifCond .eq 14, 3) := by decide +kernel
theorem dJ0_isLatin1_aae02_6 : decode cJ0_isLatin1_aae02 6 = .ok (.aload_n 0, 1) := by decide +kernel
theorem dJ0_isLatin1_aae02_7 : decode cJ0_isLatin1_aae02 7 = .ok (.getfield 15, 3) := by decide +kernel
theorem dJ0_isLatin1_aae02_10 : decode cJ0_isLatin1_aae02 10 = .ok (.ifCond .ne 7, 3) := by decide +kernel
theorem dJ0_isLatin1_aae02_13 : decode cJ0_isLatin1_aae02 13 = .ok (.iconst 1, 1) := by decide +kernel
theorem dJ0_isLatin1_aae02_14 : decode cJ0_isLatin1_aae02 14 = .ok (.goto 4, 3) := by decide +kernel
theorem dJ0_isLatin1_aae02_18 : decode cJ0_isLatin1_aae02 18 = .ok (.ireturn, 1) := by decide +kernel
set_option maxHeartbeats 4000000 in
set_option maxRecDepth 100000 in
theorem s_J0_isLatin1_aae02 (l : Launch) (g : GG) (sz : Nat) (aW : Nat) (fw : Nat → Int32) : Met l yJ0_isLatin1_aae02 (.code yJ0_isLatin1_aae02 cJ0_isLatin1_aae02 1 (some .boolean) :: gT) ({ frames := 0, cells := 0, slots := 0, locals := 0 }) (va_Pc [.ref g.2.2.2.2.2.2.2] (Pst g sz [] (sX g.2.2.2.2.2.2.2 11 aW fw (va_A [] sz)))) (va_Qi (fun (r : Int32) => fun (_ : Unit) => r = 1) (Qst g [] sz (fun _ => [])) (va_A [] sz)) 0 0 (va_A [] sz) := by
  refine Met.ofW (cc := cJ0_isLatin1_aae02) (maxL := 1) (ret := (some .boolean)) (by decide) rfl ?_
  intro p e s m args below meth c s₁ B hml hv
  obtain ⟨rfl, hsz, hP, hK, hD0, hX⟩ := hv
  have hx := B.exec
  have hb := B.bytes
  have hr := B.returns
  have hT : ∀ w ∈ gT, w.before _ s = true := fun w h => atoms_spec (ws := .code yJ0_isLatin1_aae02 cJ0_isLatin1_aae02 1 (some .boolean) :: gT) B.pre w (List.mem_cons_of_mem _ h)
  have hown : s.vm.findClass RJ0 = some m.cls := findClass_of_methodNamed B.named
  have hlocks := B.notSynchronized
  subst hsz
  have hD := hD0
  generalize hAe : va_A [] s.heap.size = A at hX ⊢
  have hA : ∀ q : Nat, s.heap.size ≤ q → A q := fun q h => by rw [← hAe]; exact Or.inr h
  have hS : va_S A s.heap s.heap [] := va_S.rf
  have hl := lv_entry ([.ref g.2.2.2.2.2.2.2]) (n := 1) (Nat.le_of_ble_eq_true rfl)
  rw [lg_entry_eq]
  generalize (lg_sl ([.ref g.2.2.2.2.2.2.2]) ++ List.replicate (1 - (lg_sl ([.ref g.2.2.2.2.2.2.2])).length) Slot.unset).toArray = ls at hl ⊢
  have hl : lv_has ls 1 [(0, .ref g.2.2.2.2.2.2.2)] := hl
  refine p_nH (fun H hH => ?_)
  have hP : va_P g.1 vwCl [] H := by rw [hH]; exact hP
  have hS : va_S A s.heap H [] := by rw [hH]; exact hS
  refine va_gets hx hb hX.2.2.2.2.1 hS hown (hT _ bw_554) (fun _ h9 => h9) dJ0_isLatin1_aae02_0 ?_
  refine lv_if_eq (tgt := 17) hx hb dJ0_isLatin1_aae02_3 (by decide) (fun c9 => absurd c9 (by decide)) (fun _ => ?_)
  refine lv_aload_n hx hb dJ0_isLatin1_aae02_6 rfl (lv_at hl 0 rfl) ?_
  refine vk_getf hx hb hX.2.1 hS hown (hT _ bw_555) (fun _ h9 => h9) dJ0_isLatin1_aae02_7 ?_
  refine lv_if_ne (tgt := 17) hx hb dJ0_isLatin1_aae02_10 (by decide) (fun c9 => absurd (by decide) c9) (fun _ => ?_)
  refine lv_iconst (v := 1) hx hb dJ0_isLatin1_aae02_13 (by decide) ?_
  refine lv_goto (tgt := 18) hx hb dJ0_isLatin1_aae02_14 (by decide) ?_
  have hP9 : va_P g.1 vwCl [] H := hP.sub [] rfl
  have hD9 : va_D A [] := ⟨fun i j p q h => by simp at h, fun k q h => by simp at h⟩
  exact W.zret (v := 1) (ty := .boolean) hx hb hr rfl (fun t ht hW => ⟨⟨1, (), rfl, rfl, by rw [ht]; exact hP9, by rw [hAe]; exact hD9⟩, hS.F ht⟩) hS.2.2 dJ0_isLatin1_aae02_18

theorem bw_558 : Cond.fieldLink RJ0 9 "java/lang/String" "value" "[B" ∈ gT := gT_tb 2073 (by decide +kernel) (by decide +kernel)
theorem bw_559 : Cond.methodLink RJ0 335 yJ0_coder_7d493 ∈ gT := gT_tb 48 (by decide +kernel) (by decide +kernel)
theorem bw_560 : Cond.instanceMethod yJ0_coder_7d493 ∈ gT := gT_tb 49 (by decide +kernel) (by decide +kernel)
theorem bw_561 : Cond.selects RJ0 yJ0_coder_7d493 yJ0_coder_7d493 ∈ gT := gT_tb 50 (by decide +kernel) (by decide +kernel)
theorem bw_562 : Cond.initialized RJ0 ∈ gT := gT_tb 4 (by decide +kernel) (by decide +kernel)
theorem bw_563 : Cond.code yJ0_length_8abf5 cJ0_length_8abf5 1 (some .int) ∈ gT := gT_tb 47 (by decide +kernel) (by decide +kernel)
theorem dJ0_length_8abf5_0 : decode cJ0_length_8abf5 0 = .ok (.aload_n 0, 1) := by decide +kernel
theorem dJ0_length_8abf5_1 : decode cJ0_length_8abf5 1 = .ok (.getfield 9, 3) := by decide +kernel
theorem dJ0_length_8abf5_4 : decode cJ0_length_8abf5 4 = .ok (.arraylength, 1) := by decide +kernel
theorem dJ0_length_8abf5_5 : decode cJ0_length_8abf5 5 = .ok (.aload_n 0, 1) := by decide +kernel
theorem dJ0_length_8abf5_6 : decode cJ0_length_8abf5 6 = .ok (.invokevirtual 335, 3) := by decide +kernel
theorem dJ0_length_8abf5_9 : decode cJ0_length_8abf5 9 = .ok (.ishr, 1) := by decide +kernel
theorem dJ0_length_8abf5_10 : decode cJ0_length_8abf5 10 = .ok (.ireturn, 1) := by decide +kernel
set_option maxHeartbeats 4000000 in
set_option maxRecDepth 100000 in
theorem s_J0_length_8abf5 (l : Launch) (g : GG) (sz : Nat) (aW : Nat) (fw : Nat → Int32) : Met l yJ0_length_8abf5 (.code yJ0_length_8abf5 cJ0_length_8abf5 1 (some .int) :: gT) ({ frames := 1, cells := 0, slots := 0, locals := 20 }) (va_Pc [.ref g.2.2.2.2.2.2.2] (Pst g sz [] (sX g.2.2.2.2.2.2.2 11 aW fw (va_A [] sz)))) (va_Qi (fun (r : Int32) => fun (_ : Unit) => r = 11) (Qst g [] sz (fun _ => [])) (va_A [] sz)) 0 0 (va_A [] sz) := by
  refine Met.ofW (cc := cJ0_length_8abf5) (maxL := 1) (ret := (some .int)) (by decide) rfl ?_
  intro p e s m args below meth c s₁ B hml hv
  obtain ⟨rfl, hsz, hP, hK, hD0, hX⟩ := hv
  have hx := B.exec
  have hb := B.bytes
  have hr := B.returns
  have hT : ∀ w ∈ gT, w.before _ s = true := fun w h => atoms_spec (ws := .code yJ0_length_8abf5 cJ0_length_8abf5 1 (some .int) :: gT) B.pre w (List.mem_cons_of_mem _ h)
  have hown : s.vm.findClass RJ0 = some m.cls := findClass_of_methodNamed B.named
  have hlocks := B.notSynchronized
  subst hsz
  have hD := hD0
  generalize hAe : va_A [] s.heap.size = A at hX ⊢
  have hA : ∀ q : Nat, s.heap.size ≤ q → A q := fun q h => by rw [← hAe]; exact Or.inr h
  have hS : va_S A s.heap s.heap [] := va_S.rf
  have hl := lv_entry ([.ref g.2.2.2.2.2.2.2]) (n := 1) (Nat.le_of_ble_eq_true rfl)
  rw [lg_entry_eq]
  generalize (lg_sl ([.ref g.2.2.2.2.2.2.2]) ++ List.replicate (1 - (lg_sl ([.ref g.2.2.2.2.2.2.2])).length) Slot.unset).toArray = ls at hl ⊢
  have hl : lv_has ls 1 [(0, .ref g.2.2.2.2.2.2.2)] := hl
  refine p_nH (fun H hH => ?_)
  have hP : va_P g.1 vwCl [] H := by rw [hH]; exact hP
  have hS : va_S A s.heap H [] := by rw [hH]; exact hS
  refine lv_aload_n hx hb dJ0_length_8abf5_0 rfl (lv_at hl 0 rfl) ?_
  refine vk_getf hx hb hX.2.2.1 hS hown (hT _ bw_558) (fun _ h9 => h9) dJ0_length_8abf5_1 ?_
  refine va_tlen (v := 11) hx hb hX.2.2.2.1 hS (by decide) dJ0_length_8abf5_4 ?_
  refine lv_aload_n hx hb dJ0_length_8abf5_5 rfl (lv_at hl 0 rfl) ?_
  refine k_iR (k_Vs (n := 0) ⟨hx, hb, hml, hown, hT⟩ hK hP hD [] rfl (by decide +kernel) (s_J0_coder_7d493 l g H.size aW fw) (gV bw_559 bw_560 bw_561 bw_562 bw_556) rfl rfl (by decide +kernel) ⟨by decide, by decide⟩ (s_recv hX hS) sX.calling (sE.go hX hS (va_A0 hS hA)) rfl rfl hl.1 (Nat.le_of_ble_eq_true rfl) dJ0_length_8abf5_6 ⟨by decide, by decide⟩) hP hS hA (fun r_1 _ H locs hw0 hP hS => ?_)
  have hw : r_1 = 0 := hw0
  clear hw0
  have w_2 := hw
  subst w_2
  refine lv_ishr hx hb dJ0_length_8abf5_9 ?_
  refine p_ti (v := 11) (by decide +kernel) ?_
  have hP9 : va_P g.1 vwCl [] H := hP.sub [] rfl
  have hD9 : va_D A [] := ⟨fun i j p q h => by simp at h, fun k q h => by simp at h⟩
  exact W.iret (v := 11) hx hb hr (fun t ht hW => ⟨⟨11, (), rfl, rfl, by rw [ht]; exact hP9, by rw [hAe]; exact hD9⟩, hS.F ht⟩) hS.2.2 dJ0_length_8abf5_10

theorem bw_564 : Cond.code yJ1_canEncode_9a6ad cJ1_canEncode_9a6ad 1 (some .boolean) ∈ gT := gT_tb 643 (by decide +kernel) (by decide +kernel)
theorem dJ1_canEncode_9a6ad_0 : decode cJ1_canEncode_9a6ad 0 = .ok (.iload_n 0, 1) := by decide +kernel
theorem dJ1_canEncode_9a6ad_1 : decode cJ1_canEncode_9a6ad 1 = .ok (.ifCond .lt 14, 3) := by decide +kernel
theorem dJ1_canEncode_9a6ad_4 : decode cJ1_canEncode_9a6ad 4 = .ok (.iload_n 0, 1) := by decide +kernel
theorem dJ1_canEncode_9a6ad_5 : decode cJ1_canEncode_9a6ad 5 = .ok (.sipush 255, 3) := by decide +kernel
theorem dJ1_canEncode_9a6ad_8 : decode cJ1_canEncode_9a6ad 8 = .ok (.if_icmp .gt 7, 3) := by decide +kernel
theorem dJ1_canEncode_9a6ad_11 : decode cJ1_canEncode_9a6ad 11 = .ok (.iconst 1, 1) := by decide +kernel
theorem dJ1_canEncode_9a6ad_12 : decode cJ1_canEncode_9a6ad 12 = .ok (.goto 4, 3) := by decide +kernel
theorem dJ1_canEncode_9a6ad_15 : decode cJ1_canEncode_9a6ad 15 = .ok (.iconst 0, 1) := by decide +kernel
theorem dJ1_canEncode_9a6ad_16 : decode cJ1_canEncode_9a6ad 16 = .ok (.ireturn, 1) := by decide +kernel
set_option maxHeartbeats 4000000 in
set_option maxRecDepth 100000 in
theorem s_J1_canEncode_9a6ad (l : Launch) (g : GG) (sz : Nat) (p0 : Int32) : Met l yJ1_canEncode_9a6ad (.code yJ1_canEncode_9a6ad cJ1_canEncode_9a6ad 1 (some .boolean) :: gT) ({ frames := 0, cells := 0, slots := 0, locals := 0 }) (va_Pc [.int p0] (Pst g sz [] nX)) (va_Qi (fun (r : Int32) => fun (_ : Unit) => 0 ≤ r.toInt ∧ r.toInt ≤ 1) (Qst g [] sz (fun _ => [])) (va_A [] sz)) 0 0 (va_A [] sz) := by
  refine Met.ofW (cc := cJ1_canEncode_9a6ad) (maxL := 1) (ret := (some .boolean)) (by decide) rfl ?_
  intro p e s m args below meth c s₁ B hml hv
  obtain ⟨rfl, hsz, hP, hK, hD0, hX⟩ := hv
  have hx := B.exec
  have hb := B.bytes
  have hr := B.returns
  have hT : ∀ w ∈ gT, w.before _ s = true := fun w h => atoms_spec (ws := .code yJ1_canEncode_9a6ad cJ1_canEncode_9a6ad 1 (some .boolean) :: gT) B.pre w (List.mem_cons_of_mem _ h)
  have hown : s.vm.findClass RJ1 = some m.cls := findClass_of_methodNamed B.named
  have hlocks := B.notSynchronized
  subst hsz
  have hD := hD0
  generalize hAe : va_A [] s.heap.size = A at ⊢
  have hA : ∀ q : Nat, s.heap.size ≤ q → A q := fun q h => by rw [← hAe]; exact Or.inr h
  have hS : va_S A s.heap s.heap [] := va_S.rf
  have hl := lv_entry ([.int p0]) (n := 1) (Nat.le_of_ble_eq_true rfl)
  rw [lg_entry_eq]
  generalize (lg_sl ([.int p0]) ++ List.replicate (1 - (lg_sl ([.int p0])).length) Slot.unset).toArray = ls at hl ⊢
  have hl : lv_has ls 1 [(0, .int p0)] := hl
  refine p_nH (fun H hH => ?_)
  have hP : va_P g.1 vwCl [] H := by rw [hH]; exact hP
  have hS : va_S A s.heap H [] := by rw [hH]; exact hS
  refine lv_iload_n hx hb dJ1_canEncode_9a6ad_0 rfl (lv_at hl 0 rfl) ?_
  refine lv_if_lt (tgt := 15) hx hb dJ1_canEncode_9a6ad_1 (by decide) (fun c_1 => ?_) (fun c_1 => ?_)
  · have f_2 := E_lt (rfl : p0.toInt = _) (by decide : (0 : Int32).toInt = 0) c_1
    refine lv_iconst (v := 0) hx hb dJ1_canEncode_9a6ad_15 (by decide) ?_
    have hP9 : va_P g.1 vwCl [] H := hP.sub [] rfl
    have hD9 : va_D A [] := ⟨fun i j p q h => by simp at h, fun k q h => by simp at h⟩
    exact W.zret (v := 0) (ty := .boolean) hx hb hr rfl (fun t ht hW => ⟨⟨0, (), rfl, ⟨by decide, by decide⟩, by rw [ht]; exact hP9, by rw [hAe]; exact hD9⟩, hS.F ht⟩) hS.2.2 dJ1_canEncode_9a6ad_16
  · have f_3 := E_nlt (rfl : p0.toInt = _) (by decide : (0 : Int32).toInt = 0) c_1
    refine lv_iload_n hx hb dJ1_canEncode_9a6ad_4 rfl (lv_at hl 0 rfl) ?_
    refine lv_sipush (v := 255) hx hb dJ1_canEncode_9a6ad_5 (by decide) ?_
    refine lv_icmp_gt (tgt := 15) hx hb dJ1_canEncode_9a6ad_8 (by decide) (fun c_4 => ?_) (fun c_4 => ?_)
    · have f_5 := E_lt (by decide : (255 : Int32).toInt = 255) (rfl : p0.toInt = _) c_4
      refine lv_iconst (v := 0) hx hb dJ1_canEncode_9a6ad_15 (by decide) ?_
      have hP9 : va_P g.1 vwCl [] H := hP.sub [] rfl
      have hD9 : va_D A [] := ⟨fun i j p q h => by simp at h, fun k q h => by simp at h⟩
      exact W.zret (v := 0) (ty := .boolean) hx hb hr rfl (fun t ht hW => ⟨⟨0, (), rfl, ⟨by decide, by decide⟩, by rw [ht]; exact hP9, by rw [hAe]; exact hD9⟩, hS.F ht⟩) hS.2.2 dJ1_canEncode_9a6ad_16
    · have f_6 := E_nlt (by decide : (255 : Int32).toInt = 255) (rfl : p0.toInt = _) c_4
      refine lv_iconst (v := 1) hx hb dJ1_canEncode_9a6ad_11 (by decide) ?_
      refine lv_goto (tgt := 16) hx hb dJ1_canEncode_9a6ad_12 (by decide) ?_
      have hP9 : va_P g.1 vwCl [] H := hP.sub [] rfl
      have hD9 : va_D A [] := ⟨fun i j p q h => by simp at h, fun k q h => by simp at h⟩
      exact W.zret (v := 1) (ty := .boolean) hx hb hr rfl (fun t ht hW => ⟨⟨1, (), rfl, ⟨by decide, by decide⟩, by rw [ht]; exact hP9, by rw [hAe]; exact hD9⟩, hS.F ht⟩) hS.2.2 dJ1_canEncode_9a6ad_16

theorem bw_565 : Cond.code yJ1_indexOfChar_4cfef cJ1_indexOfChar_4cfef 6 (some .int) ∈ gT := gT_tb 650 (by decide +kernel) (by decide +kernel)
theorem dJ1_indexOfChar_4cfef_0 : decode cJ1_indexOfChar_4cfef 0 = .ok (.iload_n 1, 1) := by decide +kernel
theorem dJ1_indexOfChar_4cfef_1 : decode cJ1_indexOfChar_4cfef 1 = .ok (.i2b, 1) := by decide +kernel
theorem dJ1_indexOfChar_4cfef_2 : decode cJ1_indexOfChar_4cfef 2 = .ok (.istore 4, 2) := by decide +kernel
theorem dJ1_indexOfChar_4cfef_4 : decode cJ1_indexOfChar_4cfef 4 = .ok (.iload_n 2, 1) := by decide +kernel
theorem dJ1_indexOfChar_4cfef_5 : decode cJ1_indexOfChar_4cfef 5 = .ok (.istore 5, 2) := by decide +kernel
theorem dJ1_indexOfChar_4cfef_7 : decode cJ1_indexOfChar_4cfef 7 = .ok (.iload 5, 2) := by decide +kernel
theorem dJ1_indexOfChar_4cfef_9 : decode cJ1_indexOfChar_4cfef 9 = .ok (.iload_n 3, 1) := by decide +kernel
theorem dJ1_indexOfChar_4cfef_10 : decode cJ1_indexOfChar_4cfef 10 = .ok (.if_icmp .ge 21, 3) := by decide +kernel
theorem dJ1_indexOfChar_4cfef_13 : decode cJ1_indexOfChar_4cfef 13 = .ok (.aload_n 0, 1) := by decide +kernel
theorem dJ1_indexOfChar_4cfef_14 : decode cJ1_indexOfChar_4cfef 14 = .ok (.iload 5, 2) := by decide +kernel
theorem dJ1_indexOfChar_4cfef_16 : decode cJ1_indexOfChar_4cfef 16 = .ok (.baload, 1) := by decide +kernel
theorem dJ1_indexOfChar_4cfef_17 : decode cJ1_indexOfChar_4cfef 17 = .ok (.iload 4, 2) := by decide +kernel
theorem dJ1_indexOfChar_4cfef_19 : decode cJ1_indexOfChar_4cfef 19 = .ok (.if_icmp .ne 6, 3) := by decide +kernel
theorem dJ1_indexOfChar_4cfef_22 : decode cJ1_indexOfChar_4cfef 22 = .ok (.iload 5, 2) := by decide +kernel
theorem dJ1_indexOfChar_4cfef_24 : decode cJ1_indexOfChar_4cfef 24 = .ok (.ireturn, 1) := by decide +kernel
theorem dJ1_indexOfChar_4cfef_25 : decode cJ1_indexOfChar_4cfef 25 = .ok (.iinc 5 1, 3) := by decide +kernel
theorem dJ1_indexOfChar_4cfef_28 : decode cJ1_indexOfChar_4cfef 28 = .ok (.goto (-21), 3) := by decide +kernel
theorem dJ1_indexOfChar_4cfef_31 : decode cJ1_indexOfChar_4cfef 31 = .ok (.iconst (-1), 1) := by decide +kernel
theorem dJ1_indexOfChar_4cfef_32 : decode cJ1_indexOfChar_4cfef 32 = .ok (.ireturn, 1) := by decide +kernel
set_option maxHeartbeats 4000000 in
set_option maxRecDepth 100000 in
theorem s_J1_indexOfChar_4cfef (l : Launch) (g : GG) (sz : Nat) (aW : Nat) (p0 : Int32) (fw : Nat → Int32) : Met l yJ1_indexOfChar_4cfef (.code yJ1_indexOfChar_4cfef cJ1_indexOfChar_4cfef 6 (some .int) :: gT) ({ frames := 0, cells := 0, slots := 0, locals := 0 }) (va_Pc [.ref aW, .int p0, .int 0, .int 11] (Pst g sz [] (sX g.2.2.2.2.2.2.2 11 aW fw (va_A [] sz)))) (va_Qi (fun (r : Int32) => fun (_ : Unit) => (-1) ≤ r.toInt ∧ r.toInt ≤ 10) (Qst g [] sz (fun _ => [])) (va_A [] sz)) 0 0 (va_A [] sz) := by
  refine Met.ofW (cc := cJ1_indexOfChar_4cfef) (maxL := 6) (ret := (some .int)) (by decide) rfl ?_
  intro p e s m args below meth c s₁ B hml hv
  obtain ⟨rfl, hsz, hP, hK, hD0, hX⟩ := hv
  have hx := B.exec
  have hb := B.bytes
  have hr := B.returns
  have hT : ∀ w ∈ gT, w.before _ s = true := fun w h => atoms_spec (ws := .code yJ1_indexOfChar_4cfef cJ1_indexOfChar_4cfef 6 (some .int) :: gT) B.pre w (List.mem_cons_of_mem _ h)
  have hown : s.vm.findClass RJ1 = some m.cls := findClass_of_methodNamed B.named
  have hlocks := B.notSynchronized
  subst hsz
  have hD := hD0
  generalize hAe : va_A [] s.heap.size = A at hX ⊢
  have hA : ∀ q : Nat, s.heap.size ≤ q → A q := fun q h => by rw [← hAe]; exact Or.inr h
  have hS : va_S A s.heap s.heap [] := va_S.rf
  have hl := lv_entry ([.ref aW, .int p0, .int 0, .int 11]) (n := 6) (Nat.le_of_ble_eq_true rfl)
  rw [lg_entry_eq]
  generalize (lg_sl ([.ref aW, .int p0, .int 0, .int 11]) ++ List.replicate (6 - (lg_sl ([.ref aW, .int p0, .int 0, .int 11])).length) Slot.unset).toArray = ls at hl ⊢
  have hl : lv_has ls 6 [(0, .ref aW), (1, .int p0), (2, .int 0), (3, .int 11)] := hl
  refine p_nH (fun H hH => ?_)
  have hP : va_P g.1 vwCl [] H := by rw [hH]; exact hP
  have hS : va_S A s.heap H [] := by rw [hH]; exact hS
  refine lv_iload_n hx hb dJ1_indexOfChar_4cfef_0 rfl (lv_at hl 1 rfl) ?_
  obtain ⟨x_1, ex_1⟩ : ∃ y : Int32, p0.toInt8.toInt32 = y := ⟨_, rfl⟩
  refine lv_i2b (v := x_1) hx hb dJ1_indexOfChar_4cfef_1 ex_1 ?_
  refine lv_istore (lv' := [(4, .int x_1), (0, .ref aW), (1, .int p0), (2, .int 0), (3, .int 11)]) hx hb dJ1_indexOfChar_4cfef_2 hl (by decide) rfl (fun ls hl => ?_)
  refine lv_iload_n hx hb dJ1_indexOfChar_4cfef_4 rfl (lv_at hl 3 rfl) ?_
  refine lv_istore (lv' := [(5, .int 0), (4, .int x_1), (0, .ref aW), (1, .int p0), (2, .int 0), (3, .int 11)]) hx hb dJ1_indexOfChar_4cfef_5 hl (by decide) rfl (fun ls hl => ?_)
  refine k_floop 7 (fun n H locs ls => ∃ (L_2 : Int32), (0 ≤ L_2.toInt ∧ L_2.toInt ≤ 11) ∧ 11 - L_2.toInt ≤ (n : Int) ∧ va_P g.1 vwCl [] H ∧ va_S A s.heap H locs ∧ lv_has ls 6 [(5, .int L_2), (4, .int x_1), (0, .ref aW), (1, .int p0), (2, .int 0), (3, .int 11)]) (fun n H locs ls hI ih => ?_) ((11 - 0 : Int)).toNat ⟨0, by decide, by have k0 : (0 : Int32).toInt = 0 := (by decide); omega, hP, hS, hl⟩
  refine hI.elim (fun L_2 hI => ?_)
  have g_3 := hI.1
  have hm_4 := hI.2.1
  have hP := hI.2.2.1
  have hS := hI.2.2.2.1
  have hl := hI.2.2.2.2
  clear hI
  refine lv_iload hx hb dJ1_indexOfChar_4cfef_7 (lv_at hl 0 rfl) ?_
  refine lv_iload_n hx hb dJ1_indexOfChar_4cfef_9 rfl (lv_at hl 5 rfl) ?_
  refine lv_icmp_ge (tgt := 31) hx hb dJ1_indexOfChar_4cfef_10 (by decide) (fun c_5 => ?_) (fun c_5 => ?_)
  · have f_6 := E_le (by decide : (11 : Int32).toInt = 11) (rfl : L_2.toInt = _) c_5
    refine lv_iconst (v := (-1)) hx hb dJ1_indexOfChar_4cfef_31 (by decide) ?_
    have hP9 : va_P g.1 vwCl [] H := hP.sub [] rfl
    have hD9 : va_D A [] := ⟨fun i j p q h => by simp at h, fun k q h => by simp at h⟩
    exact W.iret (v := (-1)) hx hb hr (fun t ht hW => ⟨⟨(-1), (), rfl, ⟨by decide, by decide⟩, by rw [ht]; exact hP9, by rw [hAe]; exact hD9⟩, hS.F ht⟩) hS.2.2 dJ1_indexOfChar_4cfef_32
  · have f_7 := E_nle (by decide : (11 : Int32).toInt = 11) (rfl : L_2.toInt = _) c_5
    refine lv_aload_n hx hb dJ1_indexOfChar_4cfef_13 rfl (lv_at hl 2 rfl) ?_
    refine lv_iload hx hb dJ1_indexOfChar_4cfef_14 (lv_at hl 0 rfl) ?_
    refine va_tb hx hb hX.2.2.2.1 hS (vp_in_iff.mpr (by omega)) rfl dJ1_indexOfChar_4cfef_16 ?_
    refine lv_topi (fun x_8 ex_8 => ?_)
    refine lv_iload hx hb dJ1_indexOfChar_4cfef_17 (lv_at hl 1 rfl) ?_
    refine lv_icmp_ne (tgt := 25) hx hb dJ1_indexOfChar_4cfef_19 (by decide) (fun c_9 => ?_) (fun c_9 => ?_)
    · have f_10 := E_ne (rfl : x_8.toInt = _) (rfl : x_1.toInt = _) c_9
      obtain ⟨x_11, ex_11⟩ : ∃ y : Int32, y = L_2 + 1 := ⟨_, rfl⟩
      have fx_11 : x_11.toInt = L_2.toInt + 1 := by rw [ex_11]; exact I_add rfl (by decide) (by omega) (by omega)
      refine lv_iinc (v := x_11) (lv' := [(5, .int x_11), (4, .int x_1), (0, .ref aW), (1, .int p0), (2, .int 0), (3, .int 11)]) hx hb dJ1_indexOfChar_4cfef_25 hl (k := 0) rfl (by rw [ex_11]; rfl) (by decide) rfl (fun ls hl => ?_)
      refine lv_goto (tgt := 7) hx hb dJ1_indexOfChar_4cfef_28 (by decide) ?_
      exact ih (n - 1) (by omega) H locs ls ⟨x_11, (by first | with_reducible assumption | omega), by omega, hP.sub [] rfl, hS, lv_sub hl [0, 1, 2, 3, 4, 5] rfl⟩
    · have f_12 := E_eq (rfl : x_8.toInt = _) (rfl : x_1.toInt = _) c_9
      refine lv_iload hx hb dJ1_indexOfChar_4cfef_22 (lv_at hl 0 rfl) ?_
      have hP9 : va_P g.1 vwCl [] H := hP.sub [] rfl
      have hD9 : va_D A [] := ⟨fun i j p q h => by simp at h, fun k q h => by simp at h⟩
      exact W.iret (v := L_2) hx hb hr (fun t ht hW => ⟨⟨L_2, (), rfl, (by first | with_reducible assumption | omega), by rw [ht]; exact hP9, by rw [hAe]; exact hD9⟩, hS.F ht⟩) hS.2.2 dJ1_indexOfChar_4cfef_24

theorem bw_566 : Cond.methodLink RJ1 88 yJ1_canEncode_9a6ad ∈ gT := gT_tb 641 (by decide +kernel) (by decide +kernel)
theorem bw_567 : Cond.static yJ1_canEncode_9a6ad ∈ gT := gT_tb 642 (by decide +kernel) (by decide +kernel)
theorem bw_568 : Cond.initialized yJ1_canEncode_9a6ad.cls ∈ gT := gT_tb 5 (by decide +kernel) (by decide +kernel)
theorem bw_569 : Cond.methodLink RJ1 92 Lib.Math.max.name ∈ gT := gT_tb 644 (by decide +kernel) (by decide +kernel)
theorem bw_570 : Cond.methodLink RJ1 38 Lib.Math.min.name ∈ gT := gT_tb 647 (by decide +kernel) (by decide +kernel)
theorem bw_571 : Cond.methodLink RJ1 95 yJ1_indexOfChar_4cfef ∈ gT := gT_tb 648 (by decide +kernel) (by decide +kernel)
theorem bw_572 : Cond.static yJ1_indexOfChar_4cfef ∈ gT := gT_tb 649 (by decide +kernel) (by decide +kernel)
theorem bw_573 : Cond.initialized yJ1_indexOfChar_4cfef.cls ∈ gT := gT_tb 5 (by decide +kernel) (by decide +kernel)
theorem bw_574 : Cond.code yJ1_indexOf_4cfef cJ1_indexOf_4cfef 4 (some .int) ∈ gT := gT_tb 640 (by decide +kernel) (by decide +kernel)
theorem dJ1_indexOf_4cfef_0 : decode cJ1_indexOf_4cfef 0 = .ok (.iload_n 1, 1) := by decide +kernel
theorem dJ1_indexOf_4cfef_1 : decode cJ1_indexOf_4cfef 1 = .ok (.invokestatic 88, 3) := by decide +kernel
theorem dJ1_indexOf_4cfef_4 : decode cJ1_indexOf_4cfef 4 = .ok (.ifCond .ne 5, 3) := by decide +kernel
theorem dJ1_indexOf_4cfef_7 : decode cJ1_indexOf_4cfef 7 = .ok (.iconst (-1), 1) := by decide +kernel
theorem dJ1_indexOf_4cfef_8 : decode cJ1_indexOf_4cfef 8 = .ok (.ireturn, 1) := by decide +kernel
theorem dJ1_indexOf_4cfef_9 : decode cJ1_indexOf_4cfef 9 = .ok (.iload_n 2, 1) := by decide +kernel
theorem dJ1_indexOf_4cfef_10 : decode cJ1_indexOf_4cfef 10 = .ok (.iconst 0, 1) := by decide +kernel
theorem dJ1_indexOf_4cfef_11 : decode cJ1_indexOf_4cfef 11 = .ok (.invokestatic 92, 3) := by decide +kernel
theorem dJ1_indexOf_4cfef_14 : decode cJ1_indexOf_4cfef 14 = .ok (.istore_n 2, 1) := by decide +kernel
theorem dJ1_indexOf_4cfef_15 : decode cJ1_indexOf_4cfef 15 = .ok (.iload_n 3, 1) := by decide +kernel
theorem dJ1_indexOf_4cfef_16 : decode cJ1_indexOf_4cfef 16 = .ok (.aload_n 0, 1) := by decide +kernel
theorem dJ1_indexOf_4cfef_17 : decode cJ1_indexOf_4cfef 17 = .ok (.arraylength, 1) := by decide +kernel
theorem dJ1_indexOf_4cfef_18 : decode cJ1_indexOf_4cfef 18 = .ok (.invokestatic 38, 3) := by decide +kernel
theorem dJ1_indexOf_4cfef_21 : decode cJ1_indexOf_4cfef 21 = .ok (.istore_n 3, 1) := by decide +kernel
theorem dJ1_indexOf_4cfef_22 : decode cJ1_indexOf_4cfef 22 = .ok (.iload_n 2, 1) := by decide +kernel
theorem dJ1_indexOf_4cfef_23 : decode cJ1_indexOf_4cfef 23 = .ok (.iload_n 3, 1) := by decide +kernel
theorem dJ1_indexOf_4cfef_24 : decode cJ1_indexOf_4cfef 24 = .ok (.if_icmp .lt 5, 3) := by decide +kernel
theorem dJ1_indexOf_4cfef_29 : decode cJ1_indexOf_4cfef 29 = .ok (.aload_n 0, 1) := by decide +kernel
theorem dJ1_indexOf_4cfef_30 : decode cJ1_indexOf_4cfef 30 = .ok (.iload_n 1, 1) := by decide +kernel
theorem dJ1_indexOf_4cfef_31 : decode cJ1_indexOf_4cfef 31 = .ok (.iload_n 2, 1) := by decide +kernel
theorem dJ1_indexOf_4cfef_32 : decode cJ1_indexOf_4cfef 32 = .ok (.iload_n 3, 1) := by decide +kernel
theorem dJ1_indexOf_4cfef_33 : decode cJ1_indexOf_4cfef 33 = .ok (.invokestatic 95, 3) := by decide +kernel
theorem dJ1_indexOf_4cfef_36 : decode cJ1_indexOf_4cfef 36 = .ok (.ireturn, 1) := by decide +kernel
set_option maxHeartbeats 4000000 in
set_option maxRecDepth 100000 in
theorem s_J1_indexOf_4cfef (l : Launch) (g : GG) (sz : Nat) (aW : Nat) (p0 : Int32) (fw : Nat → Int32) : Met l yJ1_indexOf_4cfef (.code yJ1_indexOf_4cfef cJ1_indexOf_4cfef 4 (some .int) :: gT) ({ frames := 1, cells := 0, slots := 0, locals := 60 }) (va_Pc [.ref aW, .int p0, .int 0, .int 11] (Pst g sz [] (sX g.2.2.2.2.2.2.2 11 aW fw (va_A [] sz)))) (va_Qi (fun (r : Int32) => fun (_ : Unit) => (-1) ≤ r.toInt ∧ r.toInt ≤ 10) (Qst g [] sz (fun _ => [])) (va_A [] sz)) 0 0 (va_A [] sz) := by
  refine Met.ofW (cc := cJ1_indexOf_4cfef) (maxL := 4) (ret := (some .int)) (by decide) rfl ?_
  intro p e s m args below meth c s₁ B hml hv
  obtain ⟨rfl, hsz, hP, hK, hD0, hX⟩ := hv
  have hx := B.exec
  have hb := B.bytes
  have hr := B.returns
  have hT : ∀ w ∈ gT, w.before _ s = true := fun w h => atoms_spec (ws := .code yJ1_indexOf_4cfef cJ1_indexOf_4cfef 4 (some .int) :: gT) B.pre w (List.mem_cons_of_mem _ h)
  have hown : s.vm.findClass RJ1 = some m.cls := findClass_of_methodNamed B.named
  have hlocks := B.notSynchronized
  subst hsz
  have hD := hD0
  generalize hAe : va_A [] s.heap.size = A at hX ⊢
  have hA : ∀ q : Nat, s.heap.size ≤ q → A q := fun q h => by rw [← hAe]; exact Or.inr h
  have hS : va_S A s.heap s.heap [] := va_S.rf
  have hl := lv_entry ([.ref aW, .int p0, .int 0, .int 11]) (n := 4) (Nat.le_of_ble_eq_true rfl)
  rw [lg_entry_eq]
  generalize (lg_sl ([.ref aW, .int p0, .int 0, .int 11]) ++ List.replicate (4 - (lg_sl ([.ref aW, .int p0, .int 0, .int 11])).length) Slot.unset).toArray = ls at hl ⊢
  have hl : lv_has ls 4 [(0, .ref aW), (1, .int p0), (2, .int 0), (3, .int 11)] := hl
  refine p_nH (fun H hH => ?_)
  have hP : va_P g.1 vwCl [] H := by rw [hH]; exact hP
  have hS : va_S A s.heap H [] := by rw [hH]; exact hS
  refine lv_iload_n hx hb dJ1_indexOf_4cfef_0 rfl (lv_at hl 1 rfl) ?_
  refine k_iR (k_S (n := 1) ⟨hx, hb, hml, hown, hT⟩ hK hP hD [] rfl (by decide +kernel) (s_J1_canEncode_9a6ad l g H.size p0) (gS bw_566 bw_567 bw_568 bw_564) rfl rfl (by decide +kernel) ⟨by decide, by decide⟩ (fun _ _ _ _ _ => trivial) (fun _ _ _ => trivial) rfl rfl hl.1 (Nat.le_of_ble_eq_true rfl) dJ1_indexOf_4cfef_1 ⟨by decide, by decide⟩) hP hS hA (fun r_1 _ H locs hw0 hP hS => ?_)
  have hw : 0 ≤ r_1.toInt ∧ r_1.toInt ≤ 1 := hw0
  clear hw0
  have w_2 := hw
  refine lv_if_ne (tgt := 9) hx hb dJ1_indexOf_4cfef_4 (by decide) (fun c_3 => ?_) (fun c_3 => ?_)
  · have f_4 := E_ne (rfl : r_1.toInt = _) (by decide : (0 : Int32).toInt = 0) c_3
    refine lv_iload_n hx hb dJ1_indexOf_4cfef_9 rfl (lv_at hl 2 rfl) ?_
    refine lv_iconst (v := 0) hx hb dJ1_indexOf_4cfef_10 (by decide) ?_
    refine va_mmax hx hb (hml.trans hl.1.symm) hown (hT _ bw_569) (hT _ bw_164) (hT _ bw_161) (hT _ bw_163) (Nat.le_of_ble_eq_true rfl) (Nat.le_of_ble_eq_true rfl) (Nat.le_of_ble_eq_true rfl) (Nat.le_of_ble_eq_true rfl) dJ1_indexOf_4cfef_11 ?_
    refine p_ti (v := 0) (by decide +kernel) ?_
    refine lv_istore_n (lv' := [(2, .int 0), (0, .ref aW), (1, .int p0), (3, .int 11)]) hx hb dJ1_indexOf_4cfef_14 rfl hl (by decide) rfl (fun ls hl => ?_)
    refine lv_iload_n hx hb dJ1_indexOf_4cfef_15 rfl (lv_at hl 3 rfl) ?_
    refine lv_aload_n hx hb dJ1_indexOf_4cfef_16 rfl (lv_at hl 1 rfl) ?_
    refine va_tlen (v := 11) hx hb hX.2.2.2.1 hS (by decide) dJ1_indexOf_4cfef_17 ?_
    refine va_mmin hx hb (hml.trans hl.1.symm) hown (hT _ bw_570) (hT _ bw_160) (hT _ bw_161) (hT _ bw_159) (Nat.le_of_ble_eq_true rfl) (Nat.le_of_ble_eq_true rfl) (Nat.le_of_ble_eq_true rfl) (Nat.le_of_ble_eq_true rfl) dJ1_indexOf_4cfef_18 ?_
    refine p_ti (v := 11) (by decide +kernel) ?_
    refine lv_istore_n (lv' := [(3, .int 11), (2, .int 0), (0, .ref aW), (1, .int p0)]) hx hb dJ1_indexOf_4cfef_21 rfl hl (by decide) rfl (fun ls hl => ?_)
    refine lv_iload_n hx hb dJ1_indexOf_4cfef_22 rfl (lv_at hl 1 rfl) ?_
    refine lv_iload_n hx hb dJ1_indexOf_4cfef_23 rfl (lv_at hl 0 rfl) ?_
    refine lv_icmp_lt (tgt := 29) hx hb dJ1_indexOf_4cfef_24 (by decide) (fun _ => ?_) (fun c9 => absurd (by decide) c9)
    refine lv_aload_n hx hb dJ1_indexOf_4cfef_29 rfl (lv_at hl 2 rfl) ?_
    refine lv_iload_n hx hb dJ1_indexOf_4cfef_30 rfl (lv_at hl 3 rfl) ?_
    refine lv_iload_n hx hb dJ1_indexOf_4cfef_31 rfl (lv_at hl 1 rfl) ?_
    refine lv_iload_n hx hb dJ1_indexOf_4cfef_32 rfl (lv_at hl 0 rfl) ?_
    refine k_iR (k_S (n := 4) ⟨hx, hb, hml, hown, hT⟩ hK hP hD [] rfl (by decide +kernel) (s_J1_indexOfChar_4cfef l g H.size aW p0 fw) (gS bw_571 bw_572 bw_573 bw_565) rfl rfl (by decide +kernel) ⟨by decide, by decide⟩ sX.calling (sE.go hX hS (va_A0 hS hA)) rfl rfl hl.1 (Nat.le_of_ble_eq_true rfl) dJ1_indexOf_4cfef_33 ⟨by decide, by decide⟩) hP hS hA (fun r_5 _ H locs hw0 hP hS => ?_)
    have hw : (-1) ≤ r_5.toInt ∧ r_5.toInt ≤ 10 := hw0
    clear hw0
    have w_6 := hw
    have hP9 : va_P g.1 vwCl [] H := hP.sub [] rfl
    have hD9 : va_D A [] := ⟨fun i j p q h => by simp at h, fun k q h => by simp at h⟩
    exact W.iret (v := r_5) hx hb hr (fun t ht hW => ⟨⟨r_5, (), rfl, (by first | with_reducible assumption | omega), by rw [ht]; exact hP9, by rw [hAe]; exact hD9⟩, hS.F ht⟩) hS.2.2 dJ1_indexOf_4cfef_36
  · have f_7 := E_eq (rfl : r_1.toInt = _) (by decide : (0 : Int32).toInt = 0) c_3
    refine lv_iconst (v := (-1)) hx hb dJ1_indexOf_4cfef_7 (by decide) ?_
    have hP9 : va_P g.1 vwCl [] H := hP.sub [] rfl
    have hD9 : va_D A [] := ⟨fun i j p q h => by simp at h, fun k q h => by simp at h⟩
    exact W.iret (v := (-1)) hx hb hr (fun t ht hW => ⟨⟨(-1), (), rfl, ⟨by decide, by decide⟩, by rw [ht]; exact hP9, by rw [hAe]; exact hD9⟩, hS.F ht⟩) hS.2.2 dJ1_indexOf_4cfef_8

theorem bw_575 : Cond.methodLink RJ0 492 yJ0_isLatin1_aae02 ∈ gT := gT_tb 58 (by decide +kernel) (by decide +kernel)
theorem bw_576 : Cond.instanceMethod yJ0_isLatin1_aae02 ∈ gT := gT_tb 59 (by decide +kernel) (by decide +kernel)
theorem bw_577 : Cond.selects RJ0 yJ0_isLatin1_aae02 yJ0_isLatin1_aae02 ∈ gT := gT_tb 60 (by decide +kernel) (by decide +kernel)
theorem bw_578 : Cond.methodLink RJ0 505 yJ0_length_8abf5 ∈ gT := gT_tb 637 (by decide +kernel) (by decide +kernel)
theorem bw_579 : Cond.instanceMethod yJ0_length_8abf5 ∈ gT := gT_tb 45 (by decide +kernel) (by decide +kernel)
theorem bw_580 : Cond.selects RJ0 yJ0_length_8abf5 yJ0_length_8abf5 ∈ gT := gT_tb 46 (by decide +kernel) (by decide +kernel)
theorem bw_581 : Cond.methodLink RJ0 637 yJ1_indexOf_4cfef ∈ gT := gT_tb 638 (by decide +kernel) (by decide +kernel)
theorem bw_582 : Cond.static yJ1_indexOf_4cfef ∈ gT := gT_tb 639 (by decide +kernel) (by decide +kernel)
theorem bw_583 : Cond.initialized yJ1_indexOf_4cfef.cls ∈ gT := gT_tb 5 (by decide +kernel) (by decide +kernel)
theorem bw_584 : Cond.code yJ0_indexOf_7cf53 cJ0_indexOf_7cf53 3 (some .int) ∈ gT := gT_tb 636 (by decide +kernel) (by decide +kernel)
theorem dJ0_indexOf_7cf53_0 : decode cJ0_indexOf_7cf53 0 = .ok (.aload_n 0, 1) := by decide +kernel
theorem dJ0_indexOf_7cf53_1 : decode cJ0_indexOf_7cf53 1 = .ok (.invokevirtual 492, 3) := by decide +kernel
theorem dJ0_indexOf_7cf53_4 : decode cJ0_indexOf_7cf53 4 = .ok (.ifCond .eq 19, 3) := by decide +kernel
theorem dJ0_indexOf_7cf53_7 : decode cJ0_indexOf_7cf53 7 = .ok (.aload_n 0, 1) := by decide +kernel
theorem dJ0_indexOf_7cf53_8 : decode cJ0_indexOf_7cf53 8 = .ok (.getfield 9, 3) := by decide +kernel
theorem dJ0_indexOf_7cf53_11 : decode cJ0_indexOf_7cf53 11 = .ok (.iload_n 1, 1) := by decide +kernel
theorem dJ0_indexOf_7cf53_12 : decode cJ0_indexOf_7cf53 12 = .ok (.iload_n 2, 1) := by decide +kernel
theorem dJ0_indexOf_7cf53_13 : decode cJ0_indexOf_7cf53 13 = .ok (.aload_n 0, 1) := by decide +kernel
theorem dJ0_indexOf_7cf53_14 : decode cJ0_indexOf_7cf53 14 = .ok (.invokevirtual 505, 3) := by decide +kernel
theorem dJ0_indexOf_7cf53_17 : decode cJ0_indexOf_7cf53 17 = .ok (.invokestatic 637, 3) := by decide +kernel
theorem dJ0_indexOf_7cf53_20 : decode cJ0_indexOf_7cf53 20 = .ok (.goto 16, 3) := by decide +kernel
theorem dJ0_indexOf_7cf53_36 : decode cJ0_indexOf_7cf53 36 = .ok (.ireturn, 1) := by decide +kernel
set_option maxHeartbeats 4000000 in
set_option maxRecDepth 100000 in
theorem s_J0_indexOf_7cf53 (l : Launch) (g : GG) (sz : Nat) (p0 : Int32) (aW : Nat) (fw : Nat → Int32) : Met l yJ0_indexOf_7cf53 (.code yJ0_indexOf_7cf53 cJ0_indexOf_7cf53 3 (some .int) :: gT) ({ frames := 2, cells := 0, slots := 0, locals := 83 }) (va_Pc [.ref g.2.2.2.2.2.2.2, .int p0, .int 0] (Pst g sz [] (sX g.2.2.2.2.2.2.2 11 aW fw (va_A [] sz)))) (va_Qi (fun (r : Int32) => fun (_ : Unit) => (-1) ≤ r.toInt ∧ r.toInt ≤ 10) (Qst g [] sz (fun _ => [])) (va_A [] sz)) 0 0 (va_A [] sz) := by
  refine Met.ofW (cc := cJ0_indexOf_7cf53) (maxL := 3) (ret := (some .int)) (by decide) rfl ?_
  intro p e s m args below meth c s₁ B hml hv
  obtain ⟨rfl, hsz, hP, hK, hD0, hX⟩ := hv
  have hx := B.exec
  have hb := B.bytes
  have hr := B.returns
  have hT : ∀ w ∈ gT, w.before _ s = true := fun w h => atoms_spec (ws := .code yJ0_indexOf_7cf53 cJ0_indexOf_7cf53 3 (some .int) :: gT) B.pre w (List.mem_cons_of_mem _ h)
  have hown : s.vm.findClass RJ0 = some m.cls := findClass_of_methodNamed B.named
  have hlocks := B.notSynchronized
  subst hsz
  have hD := hD0
  generalize hAe : va_A [] s.heap.size = A at hX ⊢
  have hA : ∀ q : Nat, s.heap.size ≤ q → A q := fun q h => by rw [← hAe]; exact Or.inr h
  have hS : va_S A s.heap s.heap [] := va_S.rf
  have hl := lv_entry ([.ref g.2.2.2.2.2.2.2, .int p0, .int 0]) (n := 3) (Nat.le_of_ble_eq_true rfl)
  rw [lg_entry_eq]
  generalize (lg_sl ([.ref g.2.2.2.2.2.2.2, .int p0, .int 0]) ++ List.replicate (3 - (lg_sl ([.ref g.2.2.2.2.2.2.2, .int p0, .int 0])).length) Slot.unset).toArray = ls at hl ⊢
  have hl : lv_has ls 3 [(0, .ref g.2.2.2.2.2.2.2), (1, .int p0), (2, .int 0)] := hl
  refine p_nH (fun H hH => ?_)
  have hP : va_P g.1 vwCl [] H := by rw [hH]; exact hP
  have hS : va_S A s.heap H [] := by rw [hH]; exact hS
  refine lv_aload_n hx hb dJ0_indexOf_7cf53_0 rfl (lv_at hl 0 rfl) ?_
  refine k_iR (k_Vs (n := 0) ⟨hx, hb, hml, hown, hT⟩ hK hP hD [] rfl (by decide +kernel) (s_J0_isLatin1_aae02 l g H.size aW fw) (gV bw_575 bw_576 bw_577 bw_562 bw_557) rfl rfl (by decide +kernel) ⟨by decide, by decide⟩ (s_recv hX hS) sX.calling (sE.go hX hS (va_A0 hS hA)) rfl rfl hl.1 (Nat.le_of_ble_eq_true rfl) dJ0_indexOf_7cf53_1 ⟨by decide, by decide⟩) hP hS hA (fun r_1 _ H locs hw0 hP hS => ?_)
  have hw : r_1 = 1 := hw0
  clear hw0
  have w_2 := hw
  subst w_2
  refine lv_if_eq (tgt := 23) hx hb dJ0_indexOf_7cf53_4 (by decide) (fun c9 => absurd c9 (by decide)) (fun _ => ?_)
  refine lv_aload_n hx hb dJ0_indexOf_7cf53_7 rfl (lv_at hl 0 rfl) ?_
  refine vk_getf hx hb hX.2.2.1 hS hown (hT _ bw_558) (fun _ h9 => h9) dJ0_indexOf_7cf53_8 ?_
  refine lv_iload_n hx hb dJ0_indexOf_7cf53_11 rfl (lv_at hl 1 rfl) ?_
  refine lv_iload_n hx hb dJ0_indexOf_7cf53_12 rfl (lv_at hl 2 rfl) ?_
  refine lv_aload_n hx hb dJ0_indexOf_7cf53_13 rfl (lv_at hl 0 rfl) ?_
  refine k_iR (k_Vs (n := 0) ⟨hx, hb, hml, hown, hT⟩ hK hP hD [] rfl (by decide +kernel) (s_J0_length_8abf5 l g H.size aW fw) (gV bw_578 bw_579 bw_580 bw_562 bw_563) rfl rfl (by decide +kernel) ⟨by decide, by decide⟩ (s_recv hX hS) sX.calling (sE.go hX hS (va_A0 hS hA)) rfl rfl hl.1 (Nat.le_of_ble_eq_true rfl) dJ0_indexOf_7cf53_14 ⟨by decide, by decide⟩) hP hS hA (fun r_3 _ H locs hw0 hP hS => ?_)
  have hw : r_3 = 11 := hw0
  clear hw0
  have w_4 := hw
  subst w_4
  refine k_iR (k_S (n := 4) ⟨hx, hb, hml, hown, hT⟩ hK hP hD [] rfl (by decide +kernel) (s_J1_indexOf_4cfef l g H.size aW p0 fw) (gS bw_581 bw_582 bw_583 bw_574) rfl rfl (by decide +kernel) ⟨by decide, by decide⟩ sX.calling (sE.go hX hS (va_A0 hS hA)) rfl rfl hl.1 (Nat.le_of_ble_eq_true rfl) dJ0_indexOf_7cf53_17 ⟨by decide, by decide⟩) hP hS hA (fun r_5 _ H locs hw0 hP hS => ?_)
  have hw : (-1) ≤ r_5.toInt ∧ r_5.toInt ≤ 10 := hw0
  clear hw0
  have w_6 := hw
  refine lv_goto (tgt := 36) hx hb dJ0_indexOf_7cf53_20 (by decide) ?_
  have hP9 : va_P g.1 vwCl [] H := hP.sub [] rfl
  have hD9 : va_D A [] := ⟨fun i j p q h => by simp at h, fun k q h => by simp at h⟩
  exact W.iret (v := r_5) hx hb hr (fun t ht hW => ⟨⟨r_5, (), rfl, (by first | with_reducible assumption | omega), by rw [ht]; exact hP9, by rw [hAe]; exact hD9⟩, hS.F ht⟩) hS.2.2 dJ0_indexOf_7cf53_36

theorem bw_585 : Cond.methodLink RJ0 633 yJ0_indexOf_7cf53 ∈ gT := gT_tb 633 (by decide +kernel) (by decide +kernel)
theorem bw_586 : Cond.instanceMethod yJ0_indexOf_7cf53 ∈ gT := gT_tb 634 (by decide +kernel) (by decide +kernel)
theorem bw_587 : Cond.selects RJ0 yJ0_indexOf_7cf53 yJ0_indexOf_7cf53 ∈ gT := gT_tb 635 (by decide +kernel) (by decide +kernel)
theorem bw_588 : Cond.code yJ0_indexOf_0f7a4 cJ0_indexOf_0f7a4 2 (some .int) ∈ gT := gT_tb 632 (by decide +kernel) (by decide +kernel)
theorem dJ0_indexOf_0f7a4_0 : decode cJ0_indexOf_0f7a4 0 = .ok (.aload_n 0, 1) := by decide +kernel
theorem dJ0_indexOf_0f7a4_1 : decode cJ0_indexOf_0f7a4 1 = .ok (.iload_n 1, 1) := by decide +kernel
theorem dJ0_indexOf_0f7a4_2 : decode cJ0_indexOf_0f7a4 2 = .ok (.iconst 0, 1) := by decide +kernel
theorem dJ0_indexOf_0f7a4_3 : decode cJ0_indexOf_0f7a4 3 = .ok (.invokevirtual 633, 3) := by decide +kernel
theorem dJ0_indexOf_0f7a4_6 : decode cJ0_indexOf_0f7a4 6 = .ok (.ireturn, 1) := by decide +kernel
set_option maxHeartbeats 4000000 in
set_option maxRecDepth 100000 in
theorem s_J0_indexOf_0f7a4 (l : Launch) (g : GG) (sz : Nat) (p0 : Int32) (aW : Nat) (fw : Nat → Int32) : Met l yJ0_indexOf_0f7a4 (.code yJ0_indexOf_0f7a4 cJ0_indexOf_0f7a4 2 (some .int) :: gT) ({ frames := 3, cells := 0, slots := 0, locals := 105 }) (va_Pc [.ref g.2.2.2.2.2.2.2, .int p0] (Pst g sz [] (sX g.2.2.2.2.2.2.2 11 aW fw (va_A [] sz)))) (va_Qi (fun (r : Int32) => fun (_ : Unit) => (-1) ≤ r.toInt ∧ r.toInt ≤ 10) (Qst g [] sz (fun _ => [])) (va_A [] sz)) 0 0 (va_A [] sz) := by
  refine Met.ofW (cc := cJ0_indexOf_0f7a4) (maxL := 2) (ret := (some .int)) (by decide) rfl ?_
  intro p e s m args below meth c s₁ B hml hv
  obtain ⟨rfl, hsz, hP, hK, hD0, hX⟩ := hv
  have hx := B.exec
  have hb := B.bytes
  have hr := B.returns
  have hT : ∀ w ∈ gT, w.before _ s = true := fun w h => atoms_spec (ws := .code yJ0_indexOf_0f7a4 cJ0_indexOf_0f7a4 2 (some .int) :: gT) B.pre w (List.mem_cons_of_mem _ h)
  have hown : s.vm.findClass RJ0 = some m.cls := findClass_of_methodNamed B.named
  have hlocks := B.notSynchronized
  subst hsz
  have hD := hD0
  generalize hAe : va_A [] s.heap.size = A at hX ⊢
  have hA : ∀ q : Nat, s.heap.size ≤ q → A q := fun q h => by rw [← hAe]; exact Or.inr h
  have hS : va_S A s.heap s.heap [] := va_S.rf
  have hl := lv_entry ([.ref g.2.2.2.2.2.2.2, .int p0]) (n := 2) (Nat.le_of_ble_eq_true rfl)
  rw [lg_entry_eq]
  generalize (lg_sl ([.ref g.2.2.2.2.2.2.2, .int p0]) ++ List.replicate (2 - (lg_sl ([.ref g.2.2.2.2.2.2.2, .int p0])).length) Slot.unset).toArray = ls at hl ⊢
  have hl : lv_has ls 2 [(0, .ref g.2.2.2.2.2.2.2), (1, .int p0)] := hl
  refine p_nH (fun H hH => ?_)
  have hP : va_P g.1 vwCl [] H := by rw [hH]; exact hP
  have hS : va_S A s.heap H [] := by rw [hH]; exact hS
  refine lv_aload_n hx hb dJ0_indexOf_0f7a4_0 rfl (lv_at hl 0 rfl) ?_
  refine lv_iload_n hx hb dJ0_indexOf_0f7a4_1 rfl (lv_at hl 1 rfl) ?_
  refine lv_iconst (v := 0) hx hb dJ0_indexOf_0f7a4_2 (by decide) ?_
  refine k_iR (k_Vs (n := 2) ⟨hx, hb, hml, hown, hT⟩ hK hP hD [] rfl (by decide +kernel) (s_J0_indexOf_7cf53 l g H.size p0 aW fw) (gV bw_585 bw_586 bw_587 bw_562 bw_584) rfl rfl (by decide +kernel) ⟨by decide, by decide⟩ (s_recv hX hS) sX.calling (sE.go hX hS (va_A0 hS hA)) rfl rfl hl.1 (Nat.le_of_ble_eq_true rfl) dJ0_indexOf_0f7a4_3 ⟨by decide, by decide⟩) hP hS hA (fun r_1 _ H locs hw0 hP hS => ?_)
  have hw : (-1) ≤ r_1.toInt ∧ r_1.toInt ≤ 10 := hw0
  clear hw0
  have w_2 := hw
  have hP9 : va_P g.1 vwCl [] H := hP.sub [] rfl
  have hD9 : va_D A [] := ⟨fun i j p q h => by simp at h, fun k q h => by simp at h⟩
  exact W.iret (v := r_1) hx hb hr (fun t ht hW => ⟨⟨r_1, (), rfl, (by first | with_reducible assumption | omega), by rw [ht]; exact hP9, by rw [hAe]; exact hD9⟩, hS.F ht⟩) hS.2.2 dJ0_indexOf_0f7a4_6
