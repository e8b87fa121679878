theorem bw_589 : Cond.code yX11_indexOf cX11_indexOf 5 (some .int) ∈ gT := gT_tb 616 (by decide +kernel) (by decide +kernel)
theorem dX11_indexOf_0 : decode cX11_indexOf 0 = .ok (.iconst 0, 1) := by decide +kernel
theorem dX11_indexOf_1 : decode cX11_indexOf 1 = .ok (.istore 4, 2) := by decide +kernel
theorem dX11_indexOf_3 : decode cX11_indexOf 3 = .ok (.iload 4, 2) := by decide +kernel
theorem dX11_indexOf_5 : decode cX11_indexOf 5 = .ok (.iload_n 1, 1) := by decide +kernel
theorem dX11_indexOf_6 : decode cX11_indexOf 6 = .ok (.if_icmp .ge 21, 3) := by decide +kernel
theorem dX11_indexOf_9 : decode cX11_indexOf 9 = .ok (.aload_n 0, 1) := by decide +kernel
theorem dX11_indexOf_10 : decode cX11_indexOf 10 = .ok (.iload 4, 2) := by decide +kernel
theorem dX11_indexOf_12 : decode cX11_indexOf 12 = .ok (.laload, 1) := by decide +kernel
theorem dX11_indexOf_13 : decode cX11_indexOf 13 = .ok (.lload_n 2, 1) := by decide +kernel
theorem dX11_indexOf_14 : decode cX11_indexOf 14 = .ok (.lcmp, 1) := by decide +kernel
theorem dX11_indexOf_15 : decode cX11_indexOf 15 = .ok (.ifCond .ne 6, 3) := by decide +kernel
theorem dX11_indexOf_18 : decode cX11_indexOf 18 = .ok (.iload 4, 2) := by decide +kernel
theorem dX11_indexOf_20 : decode cX11_indexOf 20 = .ok (.ireturn, 1) := by decide +kernel
theorem dX11_indexOf_21 : decode cX11_indexOf 21 = .ok (.iinc 4 1, 3) := by decide +kernel
theorem dX11_indexOf_24 : decode cX11_indexOf 24 = .ok (.goto (-21), 3) := by decide +kernel
theorem dX11_indexOf_27 : decode cX11_indexOf 27 = .ok (.iconst (-1), 1) := by decide +kernel
theorem dX11_indexOf_28 : decode cX11_indexOf 28 = .ok (.ireturn, 1) := by decide +kernel
set_option maxHeartbeats 4000000 in
set_option maxRecDepth 100000 in
theorem s_X11_indexOf_24 (l : Launch) (g : GG) (sz : Nat) (na : Nat) (Fna : Nat → Int64) (z9 : Int64) : Met l yX11_indexOf (.code yX11_indexOf cX11_indexOf 5 (some .int) :: gT) ({ frames := 0, cells := 0, slots := 0, locals := 0 }) (va_Pc [.ref na, .int 24, .long z9] (Pst g sz [(na, aJ g 24 Fna)] nX)) (va_Qi (fun (r : Int32) => fun (_ : Unit) => ((-1) ≤ r.toInt ∧ r.toInt ≤ 23) ∧ (Ix Fna 24 r z9)) (Qst g [] sz (fun _ => [])) (va_A [] sz)) 0 0 (va_A [] sz) := by
  refine Met.ofW (cc := cX11_indexOf) (maxL := 5) (ret := (some .int)) (by decide) rfl ?_
  intro p e s m args below meth c s₁ B hml hv
  obtain ⟨rfl, hsz, hP, hK, hD0, hX⟩ := hv
  have hx := B.exec
  have hb := B.bytes
  have hr := B.returns
  have hT : ∀ w ∈ gT, w.before _ s = true := fun w h => atoms_spec (ws := .code yX11_indexOf cX11_indexOf 5 (some .int) :: gT) B.pre w (List.mem_cons_of_mem _ h)
  have hown : s.vm.findClass RX11 = some m.cls := findClass_of_methodNamed B.named
  have hlocks := B.notSynchronized
  subst hsz
  have hD := hD0
  generalize hAe : va_A [] s.heap.size = A at ⊢
  have hA : ∀ q : Nat, s.heap.size ≤ q → A q := fun q h => by rw [← hAe]; exact Or.inr h
  have hS : va_S A s.heap s.heap [] := va_S.rf
  have hl := lv_entry ([.ref na, .int 24, .long z9]) (n := 5) (Nat.le_of_ble_eq_true rfl)
  rw [lg_entry_eq]
  generalize (lg_sl ([.ref na, .int 24, .long z9]) ++ List.replicate (5 - (lg_sl ([.ref na, .int 24, .long z9])).length) Slot.unset).toArray = ls at hl ⊢
  have hl : lv_has ls 5 [(0, .ref na), (1, .int 24), (2, .long z9)] := hl
  refine p_nH (fun H hH => ?_)
  have hP : va_P g.1 vwCl [(na, aJ g 24 Fna)] H := by rw [hH]; exact hP
  have hS : va_S A s.heap H [] := by rw [hH]; exact hS
  refine lv_iconst (v := 0) hx hb dX11_indexOf_0 (by decide) ?_
  refine lv_istore (lv' := [(4, .int 0), (0, .ref na), (1, .int 24), (2, .long z9)]) hx hb dX11_indexOf_1 hl (by decide) rfl (fun ls hl => ?_)
  refine k_floop 3 (fun n H locs ls => ∃ (L_1 : Int32), (0 ≤ L_1.toInt ∧ L_1.toInt ≤ 24) ∧ (Iq Fna L_1 z9) ∧ 24 - L_1.toInt ≤ (n : Int) ∧ va_P g.1 vwCl [(na, aJ g 24 Fna)] H ∧ va_S A s.heap H locs ∧ lv_has ls 5 [(4, .int L_1), (0, .ref na), (1, .int 24), (2, .long z9)]) (fun n H locs ls hI ih => ?_) ((24 - 0 : Int)).toNat ⟨0, by decide, Iq.z, by have k0 : (0 : Int32).toInt = 0 := (by decide); omega, hP, hS, hl⟩
  refine hI.elim (fun L_1 hI => ?_)
  have g_2 := hI.1
  have w_3 := hI.2.1
  have hm_4 := hI.2.2.1
  have hP := hI.2.2.2.1
  have hS := hI.2.2.2.2.1
  have hl := hI.2.2.2.2.2
  clear hI
  refine lv_iload hx hb dX11_indexOf_3 (lv_at hl 0 rfl) ?_
  refine lv_iload_n hx hb dX11_indexOf_5 rfl (lv_at hl 2 rfl) ?_
  refine lv_icmp_ge (tgt := 27) hx hb dX11_indexOf_6 (by decide) (fun c_5 => ?_) (fun c_5 => ?_)
  · have f_6 := E_le (by decide : (24 : Int32).toInt = 24) (rfl : L_1.toInt = _) c_5
    refine lv_iconst (v := (-1)) hx hb dX11_indexOf_27 (by decide) ?_
    have hP9 : va_P g.1 vwCl [] H := hP.sub [] rfl
    have hD9 : va_D A [] := ⟨fun i j p q h => by simp at h, fun k q h => by simp at h⟩
    exact W.iret (v := (-1)) hx hb hr (fun t ht hW => ⟨⟨(-1), (), rfl, ⟨⟨by decide, by decide⟩, (Ix.no w_3 (by have k9 : (24 : Int32).toInt = 24 := (by decide); omega))⟩, by rw [ht]; exact hP9, by rw [hAe]; exact hD9⟩, hS.F ht⟩) hS.2.2 dX11_indexOf_28
  · have f_7 := E_nle (by decide : (24 : Int32).toInt = 24) (rfl : L_1.toInt = _) c_5
    refine lv_aload_n hx hb dX11_indexOf_9 rfl (lv_at hl 1 rfl) ?_
    refine lv_iload hx hb dX11_indexOf_10 (lv_at hl 0 rfl) ?_
    have h_8 : vp_in L_1 24 := vp_in_iff.mpr (by omega)
    refine va_lald hx hb hK.1 hP 0 2 rfl rfl (i := L_1) h_8 dX11_indexOf_12 ?_
    refine lv_topl (fun x_9 ex_9 => ?_)
    refine lv_lload_n hx hb dX11_indexOf_13 rfl (lv_at hl 3 rfl) ?_
    refine W.lcmp hx hb dX11_indexOf_14 ?_
    refine lv_topi (fun x_10 ex_10 => ?_)
    refine lv_if_ne (tgt := 21) hx hb dX11_indexOf_15 (by decide) (fun c_11 => ?_) (fun c_11 => ?_)
    · have f_12 := E_ne (rfl : x_10.toInt = _) (by decide : (0 : Int32).toInt = 0) c_11
      obtain ⟨x_13, ex_13⟩ : ∃ y : Int32, y = L_1 + 1 := ⟨_, rfl⟩
      have fx_13 : x_13.toInt = L_1.toInt + 1 := by rw [ex_13]; exact I_add rfl (by decide) (by omega) (by omega)
      refine lv_iinc (v := x_13) (lv' := [(4, .int x_13), (0, .ref na), (1, .int 24), (2, .long z9)]) hx hb dX11_indexOf_21 hl (k := 0) rfl (by rw [ex_13]; rfl) (by decide) rfl (fun ls hl => ?_)
      refine lv_goto (tgt := 3) hx hb dX11_indexOf_24 (by decide) ?_
      exact ih (n - 1) (by omega) H locs ls ⟨x_13, (by first | with_reducible assumption | omega), (Iq.s w_3 (by omega) (by omega) ex_9 ex_10 (by omega)), by omega, hP.sub [0] rfl, hS, lv_sub hl [0, 1, 2, 3] rfl⟩
    · have f_14 := E_eq (rfl : x_10.toInt = _) (by decide : (0 : Int32).toInt = 0) c_11
      refine lv_iload hx hb dX11_indexOf_18 (lv_at hl 0 rfl) ?_
      have hP9 : va_P g.1 vwCl [] H := hP.sub [] rfl
      have hD9 : va_D A [] := ⟨fun i j p q h => by simp at h, fun k q h => by simp at h⟩
      exact W.iret (v := L_1) hx hb hr (fun t ht hW => ⟨⟨L_1, (), rfl, ⟨(by first | with_reducible assumption | omega), (Ix.yes (by omega) (by have k9 : (24 : Int32).toInt = 24 := (by decide); omega) ex_9 ex_10 (by omega))⟩, by rw [ht]; exact hP9, by rw [hAe]; exact hD9⟩, hS.F ht⟩) hS.2.2 dX11_indexOf_20

set_option maxHeartbeats 4000000 in
set_option maxRecDepth 100000 in
theorem s_X11_indexOf_4 (l : Launch) (g : GG) (sz : Nat) (na : Nat) (Fna : Nat → Int64) (p1 : Int32) (z9 : Int64) (hh0 : 0 ≤ p1.toInt ∧ p1.toInt ≤ 4) : Met l yX11_indexOf (.code yX11_indexOf cX11_indexOf 5 (some .int) :: gT) ({ frames := 0, cells := 0, slots := 0, locals := 0 }) (va_Pc [.ref na, .int p1, .long z9] (Pst g sz [(na, aJ g 4 Fna)] nX)) (va_Qi (fun (r : Int32) => fun (_ : Unit) => ((-1) ≤ r.toInt ∧ r.toInt ≤ 3) ∧ (Ix Fna p1 r z9)) (Qst g [] sz (fun _ => [])) (va_A [] sz)) 0 0 (va_A [] sz) := by
  refine Met.ofW (cc := cX11_indexOf) (maxL := 5) (ret := (some .int)) (by decide) rfl ?_
  intro p e s m args below meth c s₁ B hml hv
  obtain ⟨rfl, hsz, hP, hK, hD0, hX⟩ := hv
  have hx := B.exec
  have hb := B.bytes
  have hr := B.returns
  have hT : ∀ w ∈ gT, w.before _ s = true := fun w h => atoms_spec (ws := .code yX11_indexOf cX11_indexOf 5 (some .int) :: gT) B.pre w (List.mem_cons_of_mem _ h)
  have hown : s.vm.findClass RX11 = some m.cls := findClass_of_methodNamed B.named
  have hlocks := B.notSynchronized
  subst hsz
  have hD := hD0
  generalize hAe : va_A [] s.heap.size = A at ⊢
  have hA : ∀ q : Nat, s.heap.size ≤ q → A q := fun q h => by rw [← hAe]; exact Or.inr h
  have hS : va_S A s.heap s.heap [] := va_S.rf
  have hl := lv_entry ([.ref na, .int p1, .long z9]) (n := 5) (Nat.le_of_ble_eq_true rfl)
  rw [lg_entry_eq]
  generalize (lg_sl ([.ref na, .int p1, .long z9]) ++ List.replicate (5 - (lg_sl ([.ref na, .int p1, .long z9])).length) Slot.unset).toArray = ls at hl ⊢
  have hl : lv_has ls 5 [(0, .ref na), (1, .int p1), (2, .long z9)] := hl
  refine p_nH (fun H hH => ?_)
  have hP : va_P g.1 vwCl [(na, aJ g 4 Fna)] H := by rw [hH]; exact hP
  have hS : va_S A s.heap H [] := by rw [hH]; exact hS
  refine lv_iconst (v := 0) hx hb dX11_indexOf_0 (by decide) ?_
  refine lv_istore (lv' := [(4, .int 0), (0, .ref na), (1, .int p1), (2, .long z9)]) hx hb dX11_indexOf_1 hl (by decide) rfl (fun ls hl => ?_)
  refine k_floop 3 (fun n H locs ls => ∃ (L_1 : Int32), (0 ≤ L_1.toInt ∧ L_1.toInt ≤ 4) ∧ (Iq Fna L_1 z9) ∧ 4 - L_1.toInt ≤ (n : Int) ∧ va_P g.1 vwCl [(na, aJ g 4 Fna)] H ∧ va_S A s.heap H locs ∧ lv_has ls 5 [(4, .int L_1), (0, .ref na), (1, .int p1), (2, .long z9)]) (fun n H locs ls hI ih => ?_) ((4 - 0 : Int)).toNat ⟨0, by decide, Iq.z, by have k0 : (0 : Int32).toInt = 0 := (by decide); omega, hP, hS, hl⟩
  refine hI.elim (fun L_1 hI => ?_)
  have g_2 := hI.1
  have w_3 := hI.2.1
  have hm_4 := hI.2.2.1
  have hP := hI.2.2.2.1
  have hS := hI.2.2.2.2.1
  have hl := hI.2.2.2.2.2
  clear hI
  refine lv_iload hx hb dX11_indexOf_3 (lv_at hl 0 rfl) ?_
  refine lv_iload_n hx hb dX11_indexOf_5 rfl (lv_at hl 2 rfl) ?_
  refine lv_icmp_ge (tgt := 27) hx hb dX11_indexOf_6 (by decide) (fun c_5 => ?_) (fun c_5 => ?_)
  · have f_6 := E_le (rfl : p1.toInt = _) (rfl : L_1.toInt = _) c_5
    refine lv_iconst (v := (-1)) hx hb dX11_indexOf_27 (by decide) ?_
    have hP9 : va_P g.1 vwCl [] H := hP.sub [] rfl
    have hD9 : va_D A [] := ⟨fun i j p q h => by simp at h, fun k q h => by simp at h⟩
    exact W.iret (v := (-1)) hx hb hr (fun t ht hW => ⟨⟨(-1), (), rfl, ⟨⟨by decide, by decide⟩, (Ix.no w_3 (by have k9 : (24 : Int32).toInt = 24 := (by decide); omega))⟩, by rw [ht]; exact hP9, by rw [hAe]; exact hD9⟩, hS.F ht⟩) hS.2.2 dX11_indexOf_28
  · have f_7 := E_nle (rfl : p1.toInt = _) (rfl : L_1.toInt = _) c_5
    refine lv_aload_n hx hb dX11_indexOf_9 rfl (lv_at hl 1 rfl) ?_
    refine lv_iload hx hb dX11_indexOf_10 (lv_at hl 0 rfl) ?_
    have h_8 : vp_in L_1 4 := vp_in_iff.mpr (by omega)
    refine va_lald hx hb hK.1 hP 0 2 rfl rfl (i := L_1) h_8 dX11_indexOf_12 ?_
    refine lv_topl (fun x_9 ex_9 => ?_)
    refine lv_lload_n hx hb dX11_indexOf_13 rfl (lv_at hl 3 rfl) ?_
    refine W.lcmp hx hb dX11_indexOf_14 ?_
    refine lv_topi (fun x_10 ex_10 => ?_)
    refine lv_if_ne (tgt := 21) hx hb dX11_indexOf_15 (by decide) (fun c_11 => ?_) (fun c_11 => ?_)
    · have f_12 := E_ne (rfl : x_10.toInt = _) (by decide : (0 : Int32).toInt = 0) c_11
      obtain ⟨x_13, ex_13⟩ : ∃ y : Int32, y = L_1 + 1 := ⟨_, rfl⟩
      have fx_13 : x_13.toInt = L_1.toInt + 1 := by rw [ex_13]; exact I_add rfl (by decide) (by omega) (by omega)
      refine lv_iinc (v := x_13) (lv' := [(4, .int x_13), (0, .ref na), (1, .int p1), (2, .long z9)]) hx hb dX11_indexOf_21 hl (k := 0) rfl (by rw [ex_13]; rfl) (by decide) rfl (fun ls hl => ?_)
      refine lv_goto (tgt := 3) hx hb dX11_indexOf_24 (by decide) ?_
      exact ih (n - 1) (by omega) H locs ls ⟨x_13, (by first | with_reducible assumption | omega), (Iq.s w_3 (by omega) (by omega) ex_9 ex_10 (by omega)), by omega, hP.sub [0] rfl, hS, lv_sub hl [0, 1, 2, 3] rfl⟩
    · have f_14 := E_eq (rfl : x_10.toInt = _) (by decide : (0 : Int32).toInt = 0) c_11
      refine lv_iload hx hb dX11_indexOf_18 (lv_at hl 0 rfl) ?_
      have hP9 : va_P g.1 vwCl [] H := hP.sub [] rfl
      have hD9 : va_D A [] := ⟨fun i j p q h => by simp at h, fun k q h => by simp at h⟩
      exact W.iret (v := L_1) hx hb hr (fun t ht hW => ⟨⟨L_1, (), rfl, ⟨(by first | with_reducible assumption | omega), (Ix.yes (by omega) (by have k9 : (24 : Int32).toInt = 24 := (by decide); omega) ex_9 ex_10 (by omega))⟩, by rw [ht]; exact hP9, by rw [hAe]; exact hD9⟩, hS.F ht⟩) hS.2.2 dX11_indexOf_20

set_option maxHeartbeats 4000000 in
set_option maxRecDepth 100000 in
theorem s_X11_indexOf_6 (l : Launch) (g : GG) (sz : Nat) (na : Nat) (Fna : Nat → Int64) (p1 : Int32) (z9 : Int64) (hh0 : 0 ≤ p1.toInt ∧ p1.toInt ≤ 6) : Met l yX11_indexOf (.code yX11_indexOf cX11_indexOf 5 (some .int) :: gT) ({ frames := 0, cells := 0, slots := 0, locals := 0 }) (va_Pc [.ref na, .int p1, .long z9] (Pst g sz [(na, aJ g 6 Fna)] nX)) (va_Qi (fun (r : Int32) => fun (_ : Unit) => ((-1) ≤ r.toInt ∧ r.toInt ≤ 5) ∧ (Ix Fna p1 r z9)) (Qst g [] sz (fun _ => [])) (va_A [] sz)) 0 0 (va_A [] sz) := by
  refine Met.ofW (cc := cX11_indexOf) (maxL := 5) (ret := (some .int)) (by decide) rfl ?_
  intro p e s m args below meth c s₁ B hml hv
  obtain ⟨rfl, hsz, hP, hK, hD0, hX⟩ := hv
  have hx := B.exec
  have hb := B.bytes
  have hr := B.returns
  have hT : ∀ w ∈ gT, w.before _ s = true := fun w h => atoms_spec (ws := .code yX11_indexOf cX11_indexOf 5 (some .int) :: gT) B.pre w (List.mem_cons_of_mem _ h)
  have hown : s.vm.findClass RX11 = some m.cls := findClass_of_methodNamed B.named
  have hlocks := B.notSynchronized
  subst hsz
  have hD := hD0
  generalize hAe : va_A [] s.heap.size = A at ⊢
  have hA : ∀ q : Nat, s.heap.size ≤ q → A q := fun q h => by rw [← hAe]; exact Or.inr h
  have hS : va_S A s.heap s.heap [] := va_S.rf
  have hl := lv_entry ([.ref na, .int p1, .long z9]) (n := 5) (Nat.le_of_ble_eq_true rfl)
  rw [lg_entry_eq]
  generalize (lg_sl ([.ref na, .int p1, .long z9]) ++ List.replicate (5 - (lg_sl ([.ref na, .int p1, .long z9])).length) Slot.unset).toArray = ls at hl ⊢
  have hl : lv_has ls 5 [(0, .ref na), (1, .int p1), (2, .long z9)] := hl
  refine p_nH (fun H hH => ?_)
  have hP : va_P g.1 vwCl [(na, aJ g 6 Fna)] H := by rw [hH]; exact hP
  have hS : va_S A s.heap H [] := by rw [hH]; exact hS
  refine lv_iconst (v := 0) hx hb dX11_indexOf_0 (by decide) ?_
  refine lv_istore (lv' := [(4, .int 0), (0, .ref na), (1, .int p1), (2, .long z9)]) hx hb dX11_indexOf_1 hl (by decide) rfl (fun ls hl => ?_)
  refine k_floop 3 (fun n H locs ls => ∃ (L_1 : Int32), (0 ≤ L_1.toInt ∧ L_1.toInt ≤ 6) ∧ (Iq Fna L_1 z9) ∧ 6 - L_1.toInt ≤ (n : Int) ∧ va_P g.1 vwCl [(na, aJ g 6 Fna)] H ∧ va_S A s.heap H locs ∧ lv_has ls 5 [(4, .int L_1), (0, .ref na), (1, .int p1), (2, .long z9)]) (fun n H locs ls hI ih => ?_) ((6 - 0 : Int)).toNat ⟨0, by decide, Iq.z, by have k0 : (0 : Int32).toInt = 0 := (by decide); omega, hP, hS, hl⟩
  refine hI.elim (fun L_1 hI => ?_)
  have g_2 := hI.1
  have w_3 := hI.2.1
  have hm_4 := hI.2.2.1
  have hP := hI.2.2.2.1
  have hS := hI.2.2.2.2.1
  have hl := hI.2.2.2.2.2
  clear hI
  refine lv_iload hx hb dX11_indexOf_3 (lv_at hl 0 rfl) ?_
  refine lv_iload_n hx hb dX11_indexOf_5 rfl (lv_at hl 2 rfl) ?_
  refine lv_icmp_ge (tgt := 27) hx hb dX11_indexOf_6 (by decide) (fun c_5 => ?_) (fun c_5 => ?_)
  · have f_6 := E_le (rfl : p1.toInt = _) (rfl : L_1.toInt = _) c_5
    refine lv_iconst (v := (-1)) hx hb dX11_indexOf_27 (by decide) ?_
    have hP9 : va_P g.1 vwCl [] H := hP.sub [] rfl
    have hD9 : va_D A [] := ⟨fun i j p q h => by simp at h, fun k q h => by simp at h⟩
    exact W.iret (v := (-1)) hx hb hr (fun t ht hW => ⟨⟨(-1), (), rfl, ⟨⟨by decide, by decide⟩, (Ix.no w_3 (by have k9 : (24 : Int32).toInt = 24 := (by decide); omega))⟩, by rw [ht]; exact hP9, by rw [hAe]; exact hD9⟩, hS.F ht⟩) hS.2.2 dX11_indexOf_28
  · have f_7 := E_nle (rfl : p1.toInt = _) (rfl : L_1.toInt = _) c_5
    refine lv_aload_n hx hb dX11_indexOf_9 rfl (lv_at hl 1 rfl) ?_
    refine lv_iload hx hb dX11_indexOf_10 (lv_at hl 0 rfl) ?_
    have h_8 : vp_in L_1 6 := vp_in_iff.mpr (by omega)
    refine va_lald hx hb hK.1 hP 0 2 rfl rfl (i := L_1) h_8 dX11_indexOf_12 ?_
    refine lv_topl (fun x_9 ex_9 => ?_)
    refine lv_lload_n hx hb dX11_indexOf_13 rfl (lv_at hl 3 rfl) ?_
    refine W.lcmp hx hb dX11_indexOf_14 ?_
    refine lv_topi (fun x_10 ex_10 => ?_)
    refine lv_if_ne (tgt := 21) hx hb dX11_indexOf_15 (by decide) (fun c_11 => ?_) (fun c_11 => ?_)
    · have f_12 := E_ne (rfl : x_10.toInt = _) (by decide : (0 : Int32).toInt = 0) c_11
      obtain ⟨x_13, ex_13⟩ : ∃ y : Int32, y = L_1 + 1 := ⟨_, rfl⟩
      have fx_13 : x_13.toInt = L_1.toInt + 1 := by rw [ex_13]; exact I_add rfl (by decide) (by omega) (by omega)
      refine lv_iinc (v := x_13) (lv' := [(4, .int x_13), (0, .ref na), (1, .int p1), (2, .long z9)]) hx hb dX11_indexOf_21 hl (k := 0) rfl (by rw [ex_13]; rfl) (by decide) rfl (fun ls hl => ?_)
      refine lv_goto (tgt := 3) hx hb dX11_indexOf_24 (by decide) ?_
      exact ih (n - 1) (by omega) H locs ls ⟨x_13, (by first | with_reducible assumption | omega), (Iq.s w_3 (by omega) (by omega) ex_9 ex_10 (by omega)), by omega, hP.sub [0] rfl, hS, lv_sub hl [0, 1, 2, 3] rfl⟩
    · have f_14 := E_eq (rfl : x_10.toInt = _) (by decide : (0 : Int32).toInt = 0) c_11
      refine lv_iload hx hb dX11_indexOf_18 (lv_at hl 0 rfl) ?_
      have hP9 : va_P g.1 vwCl [] H := hP.sub [] rfl
      have hD9 : va_D A [] := ⟨fun i j p q h => by simp at h, fun k q h => by simp at h⟩
      exact W.iret (v := L_1) hx hb hr (fun t ht hW => ⟨⟨L_1, (), rfl, ⟨(by first | with_reducible assumption | omega), (Ix.yes (by omega) (by have k9 : (24 : Int32).toInt = 24 := (by decide); omega) ex_9 ex_10 (by omega))⟩, by rw [ht]; exact hP9, by rw [hAe]; exact hD9⟩, hS.F ht⟩) hS.2.2 dX11_indexOf_20

set_option maxHeartbeats 4000000 in
set_option maxRecDepth 100000 in
theorem s_X11_indexOf_8 (l : Launch) (g : GG) (sz : Nat) (na : Nat) (Fna : Nat → Int64) (p1 : Int32) (z9 : Int64) (hh0 : 0 ≤ p1.toInt ∧ p1.toInt ≤ 8) : Met l yX11_indexOf (.code yX11_indexOf cX11_indexOf 5 (some .int) :: gT) ({ frames := 0, cells := 0, slots := 0, locals := 0 }) (va_Pc [.ref na, .int p1, .long z9] (Pst g sz [(na, aJ g 8 Fna)] nX)) (va_Qi (fun (r : Int32) => fun (_ : Unit) => ((-1) ≤ r.toInt ∧ r.toInt ≤ 7) ∧ (Ix Fna p1 r z9)) (Qst g [] sz (fun _ => [])) (va_A [] sz)) 0 0 (va_A [] sz) := by
  refine Met.ofW (cc := cX11_indexOf) (maxL := 5) (ret := (some .int)) (by decide) rfl ?_
  intro p e s m args below meth c s₁ B hml hv
  obtain ⟨rfl, hsz, hP, hK, hD0, hX⟩ := hv
  have hx := B.exec
  have hb := B.bytes
  have hr := B.returns
  have hT : ∀ w ∈ gT, w.before _ s = true := fun w h => atoms_spec (ws := .code yX11_indexOf cX11_indexOf 5 (some .int) :: gT) B.pre w (List.mem_cons_of_mem _ h)
  have hown : s.vm.findClass RX11 = some m.cls := findClass_of_methodNamed B.named
  have hlocks := B.notSynchronized
  subst hsz
  have hD := hD0
  generalize hAe : va_A [] s.heap.size = A at ⊢
  have hA : ∀ q : Nat, s.heap.size ≤ q → A q := fun q h => by rw [← hAe]; exact Or.inr h
  have hS : va_S A s.heap s.heap [] := va_S.rf
  have hl := lv_entry ([.ref na, .int p1, .long z9]) (n := 5) (Nat.le_of_ble_eq_true rfl)
  rw [lg_entry_eq]
  generalize (lg_sl ([.ref na, .int p1, .long z9]) ++ List.replicate (5 - (lg_sl ([.ref na, .int p1, .long z9])).length) Slot.unset).toArray = ls at hl ⊢
  have hl : lv_has ls 5 [(0, .ref na), (1, .int p1), (2, .long z9)] := hl
  refine p_nH (fun H hH => ?_)
  have hP : va_P g.1 vwCl [(na, aJ g 8 Fna)] H := by rw [hH]; exact hP
  have hS : va_S A s.heap H [] := by rw [hH]; exact hS
  refine lv_iconst (v := 0) hx hb dX11_indexOf_0 (by decide) ?_
  refine lv_istore (lv' := [(4, .int 0), (0, .ref na), (1, .int p1), (2, .long z9)]) hx hb dX11_indexOf_1 hl (by decide) rfl (fun ls hl => ?_)
  refine k_floop 3 (fun n H locs ls => ∃ (L_1 : Int32), (0 ≤ L_1.toInt ∧ L_1.toInt ≤ 8) ∧ (Iq Fna L_1 z9) ∧ 8 - L_1.toInt ≤ (n : Int) ∧ va_P g.1 vwCl [(na, aJ g 8 Fna)] H ∧ va_S A s.heap H locs ∧ lv_has ls 5 [(4, .int L_1), (0, .ref na), (1, .int p1), (2, .long z9)]) (fun n H locs ls hI ih => ?_) ((8 - 0 : Int)).toNat ⟨0, by decide, Iq.z, by have k0 : (0 : Int32).toInt = 0 := (by decide); omega, hP, hS, hl⟩
  refine hI.elim (fun L_1 hI => ?_)
  have g_2 := hI.1
  have w_3 := hI.2.1
  have hm_4 := hI.2.2.1
  have hP := hI.2.2.2.1
  have hS := hI.2.2.2.2.1
  have hl := hI.2.2.2.2.2
  clear hI
  refine lv_iload hx hb dX11_indexOf_3 (lv_at hl 0 rfl) ?_
  refine lv_iload_n hx hb dX11_indexOf_5 rfl (lv_at hl 2 rfl) ?_
  refine lv_icmp_ge (tgt := 27) hx hb dX11_indexOf_6 (by decide) (fun c_5 => ?_) (fun c_5 => ?_)
  · have f_6 := E_le (rfl : p1.toInt = _) (rfl : L_1.toInt = _) c_5
    refine lv_iconst (v := (-1)) hx hb dX11_indexOf_27 (by decide) ?_
    have hP9 : va_P g.1 vwCl [] H := hP.sub [] rfl
    have hD9 : va_D A [] := ⟨fun i j p q h => by simp at h, fun k q h => by simp at h⟩
    exact W.iret (v := (-1)) hx hb hr (fun t ht hW => ⟨⟨(-1), (), rfl, ⟨⟨by decide, by decide⟩, (Ix.no w_3 (by have k9 : (24 : Int32).toInt = 24 := (by decide); omega))⟩, by rw [ht]; exact hP9, by rw [hAe]; exact hD9⟩, hS.F ht⟩) hS.2.2 dX11_indexOf_28
  · have f_7 := E_nle (rfl : p1.toInt = _) (rfl : L_1.toInt = _) c_5
    refine lv_aload_n hx hb dX11_indexOf_9 rfl (lv_at hl 1 rfl) ?_
    refine lv_iload hx hb dX11_indexOf_10 (lv_at hl 0 rfl) ?_
    have h_8 : vp_in L_1 8 := vp_in_iff.mpr (by omega)
    refine va_lald hx hb hK.1 hP 0 2 rfl rfl (i := L_1) h_8 dX11_indexOf_12 ?_
    refine lv_topl (fun x_9 ex_9 => ?_)
    refine lv_lload_n hx hb dX11_indexOf_13 rfl (lv_at hl 3 rfl) ?_
    refine W.lcmp hx hb dX11_indexOf_14 ?_
    refine lv_topi (fun x_10 ex_10 => ?_)
    refine lv_if_ne (tgt := 21) hx hb dX11_indexOf_15 (by decide) (fun c_11 => ?_) (fun c_11 => ?_)
    · have f_12 := E_ne (rfl : x_10.toInt = _) (by decide : (0 : Int32).toInt = 0) c_11
      obtain ⟨x_13, ex_13⟩ : ∃ y : Int32, y = L_1 + 1 := ⟨_, rfl⟩
      have fx_13 : x_13.toInt = L_1.toInt + 1 := by rw [ex_13]; exact I_add rfl (by decide) (by omega) (by omega)
      refine lv_iinc (v := x_13) (lv' := [(4, .int x_13), (0, .ref na), (1, .int p1), (2, .long z9)]) hx hb dX11_indexOf_21 hl (k := 0) rfl (by rw [ex_13]; rfl) (by decide) rfl (fun ls hl => ?_)
      refine lv_goto (tgt := 3) hx hb dX11_indexOf_24 (by decide) ?_
      exact ih (n - 1) (by omega) H locs ls ⟨x_13, (by first | with_reducible assumption | omega), (Iq.s w_3 (by omega) (by omega) ex_9 ex_10 (by omega)), by omega, hP.sub [0] rfl, hS, lv_sub hl [0, 1, 2, 3] rfl⟩
    · have f_14 := E_eq (rfl : x_10.toInt = _) (by decide : (0 : Int32).toInt = 0) c_11
      refine lv_iload hx hb dX11_indexOf_18 (lv_at hl 0 rfl) ?_
      have hP9 : va_P g.1 vwCl [] H := hP.sub [] rfl
      have hD9 : va_D A [] := ⟨fun i j p q h => by simp at h, fun k q h => by simp at h⟩
      exact W.iret (v := L_1) hx hb hr (fun t ht hW => ⟨⟨L_1, (), rfl, ⟨(by first | with_reducible assumption | omega), (Ix.yes (by omega) (by have k9 : (24 : Int32).toInt = 24 := (by decide); omega) ex_9 ex_10 (by omega))⟩, by rw [ht]; exact hP9, by rw [hAe]; exact hD9⟩, hS.F ht⟩) hS.2.2 dX11_indexOf_20

theorem bw_590 : Cond.fieldLink RX10 44 "DuelDelays$Tokens" "following" "I" ∈ gT := gT_tb 106 (by decide +kernel) (by decide +kernel)
theorem bw_591 : Cond.fieldLink RX10 41 "DuelDelays$Tokens" "length" "I" ∈ gT := gT_tb 105 (by decide +kernel) (by decide +kernel)
theorem bw_592 : Cond.fieldLink RX10 9 "DuelDelays$Tokens" "words" "[J" ∈ gT := gT_tb 107 (by decide +kernel) (by decide +kernel)
theorem bw_593 : Cond.fieldLink RX10 60 "DuelDelays$Tokens" "name" "J" ∈ gT := gT_tb 102 (by decide +kernel) (by decide +kernel)
theorem bw_594 : Cond.initialized yX11_indexOf.cls ∈ gT := gT_tb 1 (by decide +kernel) (by decide +kernel)
theorem bw_595 : Cond.static yX11_indexOf ∈ gT := gT_tb 615 (by decide +kernel) (by decide +kernel)
theorem bw_596 : Cond.fieldLink RX10 54 "DuelDelays$Tokens" "place" "I" ∈ gT := gT_tb 99 (by decide +kernel) (by decide +kernel)
theorem bw_597 : Cond.fieldLink RX10 31 "DuelDelays$Tokens" "text" "[B" ∈ gT := gT_tb 104 (by decide +kernel) (by decide +kernel)
theorem bw_598 : Cond.methodLink RX10 67 yX10_isLetter ∈ gT := gT_tb 607 (by decide +kernel) (by decide +kernel)
theorem bw_599 : Cond.static yX10_isLetter ∈ gT := gT_tb 608 (by decide +kernel) (by decide +kernel)
theorem bw_600 : Cond.initialized yX10_isLetter.cls ∈ gT := gT_tb 3 (by decide +kernel) (by decide +kernel)
theorem bw_601 : Cond.methodLink RX10 27 yX10_withLetter ∈ gT := gT_tb 92 (by decide +kernel) (by decide +kernel)
theorem bw_602 : Cond.static yX10_withLetter ∈ gT := gT_tb 93 (by decide +kernel) (by decide +kernel)
theorem bw_603 : Cond.initialized yX10_withLetter.cls ∈ gT := gT_tb 3 (by decide +kernel) (by decide +kernel)
theorem bw_604 : Cond.code yX10_takeLetters cX10_takeLetters 2 none ∈ gT := gT_tb 613 (by decide +kernel) (by decide +kernel)
theorem dX10_takeLetters_0 : decode cX10_takeLetters 0 = .ok (.aload_n 0, 1) := by decide +kernel
theorem dX10_takeLetters_1 : decode cX10_takeLetters 1 = .ok (.getfield 44, 3) := by decide +kernel
theorem dX10_takeLetters_4 : decode cX10_takeLetters 4 = .ok (.aload_n 0, 1) := by decide +kernel
theorem dX10_takeLetters_5 : decode cX10_takeLetters 5 = .ok (.getfield 41, 3) := by decide +kernel
theorem dX10_takeLetters_8 : decode cX10_takeLetters 8 = .ok (.if_icmp .ge 51, 3) := by decide +kernel
theorem dX10_takeLetters_11 : decode cX10_takeLetters 11 = .ok (.aload_n 0, 1) := by decide +kernel
theorem dX10_takeLetters_12 : decode cX10_takeLetters 12 = .ok (.getfield 31, 3) := by decide +kernel
theorem dX10_takeLetters_15 : decode cX10_takeLetters 15 = .ok (.aload_n 0, 1) := by decide +kernel
theorem dX10_takeLetters_16 : decode cX10_takeLetters 16 = .ok (.getfield 44, 3) := by decide +kernel
theorem dX10_takeLetters_19 : decode cX10_takeLetters 19 = .ok (.baload, 1) := by decide +kernel
theorem dX10_takeLetters_20 : decode cX10_takeLetters 20 = .ok (.invokestatic 67, 3) := by decide +kernel
theorem dX10_takeLetters_23 : decode cX10_takeLetters 23 = .ok (.ifCond .eq 36, 3) := by decide +kernel
theorem dX10_takeLetters_26 : decode cX10_takeLetters 26 = .ok (.aload_n 0, 1) := by decide +kernel
theorem dX10_takeLetters_27 : decode cX10_takeLetters 27 = .ok (.aload_n 0, 1) := by decide +kernel
theorem dX10_takeLetters_28 : decode cX10_takeLetters 28 = .ok (.getfield 60, 3) := by decide +kernel
theorem dX10_takeLetters_31 : decode cX10_takeLetters 31 = .ok (.aload_n 0, 1) := by decide +kernel
theorem dX10_takeLetters_32 : decode cX10_takeLetters 32 = .ok (.getfield 31, 3) := by decide +kernel
theorem dX10_takeLetters_35 : decode cX10_takeLetters 35 = .ok (.aload_n 0, 1) := by decide +kernel
theorem dX10_takeLetters_36 : decode cX10_takeLetters 36 = .ok (.getfield 44, 3) := by decide +kernel
theorem dX10_takeLetters_39 : decode cX10_takeLetters 39 = .ok (.baload, 1) := by decide +kernel
theorem dX10_takeLetters_40 : decode cX10_takeLetters 40 = .ok (.invokestatic 27, 3) := by decide +kernel
theorem dX10_takeLetters_43 : decode cX10_takeLetters 43 = .ok (.putfield 60, 3) := by decide +kernel
theorem dX10_takeLetters_46 : decode cX10_takeLetters 46 = .ok (.aload_n 0, 1) := by decide +kernel
theorem dX10_takeLetters_47 : decode cX10_takeLetters 47 = .ok (.dup, 1) := by decide +kernel
theorem dX10_takeLetters_48 : decode cX10_takeLetters 48 = .ok (.getfield 44, 3) := by decide +kernel
theorem dX10_takeLetters_51 : decode cX10_takeLetters 51 = .ok (.iconst 1, 1) := by decide +kernel
theorem dX10_takeLetters_52 : decode cX10_takeLetters 52 = .ok (.iadd, 1) := by decide +kernel
theorem dX10_takeLetters_53 : decode cX10_takeLetters 53 = .ok (.putfield 44, 3) := by decide +kernel
theorem dX10_takeLetters_56 : decode cX10_takeLetters 56 = .ok (.goto (-56), 3) := by decide +kernel
theorem dX10_takeLetters_59 : decode cX10_takeLetters 59 = .ok (.aload_n 0, 1) := by decide +kernel
theorem dX10_takeLetters_60 : decode cX10_takeLetters 60 = .ok (.getfield 9, 3) := by decide +kernel
theorem dX10_takeLetters_63 : decode cX10_takeLetters 63 = .ok (.bipush 24, 2) := by decide +kernel
theorem dX10_takeLetters_65 : decode cX10_takeLetters 65 = .ok (.aload_n 0, 1) := by decide +kernel
theorem dX10_takeLetters_66 : decode cX10_takeLetters 66 = .ok (.getfield 60, 3) := by decide +kernel
theorem dX10_takeLetters_69 : decode cX10_takeLetters 69 = .ok (.invokestatic 82, 3) := by decide +kernel
theorem dX10_takeLetters_72 : decode cX10_takeLetters 72 = .ok (.istore_n 1, 1) := by decide +kernel
theorem dX10_takeLetters_73 : decode cX10_takeLetters 73 = .ok (.aload_n 0, 1) := by decide +kernel
theorem dX10_takeLetters_74 : decode cX10_takeLetters 74 = .ok (.getfield 44, 3) := by decide +kernel
theorem dX10_takeLetters_77 : decode cX10_takeLetters 77 = .ok (.aload_n 0, 1) := by decide +kernel
theorem dX10_takeLetters_78 : decode cX10_takeLetters 78 = .ok (.getfield 54, 3) := by decide +kernel
theorem dX10_takeLetters_81 : decode cX10_takeLetters 81 = .ok (.isub, 1) := by decide +kernel
theorem dX10_takeLetters_82 : decode cX10_takeLetters 82 = .ok (.bipush 8, 2) := by decide +kernel
theorem dX10_takeLetters_84 : decode cX10_takeLetters 84 = .ok (.if_icmp .le 11, 3) := by decide +kernel
theorem dX10_takeLetters_87 : decode cX10_takeLetters 87 = .ok (.aload_n 0, 1) := by decide +kernel
theorem dX10_takeLetters_88 : decode cX10_takeLetters 88 = .ok (.iconst 1, 1) := by decide +kernel
theorem dX10_takeLetters_89 : decode cX10_takeLetters 89 = .ok (.putfield 64, 3) := by decide +kernel
theorem dX10_takeLetters_92 : decode cX10_takeLetters 92 = .ok (.goto 26, 3) := by decide +kernel
theorem dX10_takeLetters_95 : decode cX10_takeLetters 95 = .ok (.iload_n 1, 1) := by decide +kernel
theorem dX10_takeLetters_96 : decode cX10_takeLetters 96 = .ok (.iconst (-1), 1) := by decide +kernel
theorem dX10_takeLetters_97 : decode cX10_takeLetters 97 = .ok (.if_icmp .eq 16, 3) := by decide +kernel
theorem dX10_takeLetters_100 : decode cX10_takeLetters 100 = .ok (.aload_n 0, 1) := by decide +kernel
theorem dX10_takeLetters_101 : decode cX10_takeLetters 101 = .ok (.iconst 3, 1) := by decide +kernel
theorem dX10_takeLetters_102 : decode cX10_takeLetters 102 = .ok (.putfield 64, 3) := by decide +kernel
theorem dX10_takeLetters_105 : decode cX10_takeLetters 105 = .ok (.aload_n 0, 1) := by decide +kernel
theorem dX10_takeLetters_106 : decode cX10_takeLetters 106 = .ok (.iload_n 1, 1) := by decide +kernel
theorem dX10_takeLetters_107 : decode cX10_takeLetters 107 = .ok (.putfield 57, 3) := by decide +kernel
theorem dX10_takeLetters_110 : decode cX10_takeLetters 110 = .ok (.goto 8, 3) := by decide +kernel
theorem dX10_takeLetters_113 : decode cX10_takeLetters 113 = .ok (.aload_n 0, 1) := by decide +kernel
theorem dX10_takeLetters_114 : decode cX10_takeLetters 114 = .ok (.iconst 2, 1) := by decide +kernel
theorem dX10_takeLetters_115 : decode cX10_takeLetters 115 = .ok (.putfield 64, 3) := by decide +kernel
theorem dX10_takeLetters_118 : decode cX10_takeLetters 118 = .ok (.return_, 1) := by decide +kernel
set_option maxHeartbeats 4000000 in
set_option maxRecDepth 100000 in
theorem s_X10_takeLetters (l : Launch) (g : GG) (sz : Nat) (h : Nat) (bsort : Int32) (bplace : Int32) (bvalue : Int32) (bname : Int64) (btext : Nat) (Fbtext : Nat → Int32) (blength : Int32) (bfollowing : Int32) (bwords : Nat) (Fbwords : Nat → Int64) (hh0 : 0 ≤ bsort.toInt ∧ bsort.toInt ≤ 5) (hh1 : 0 ≤ blength.toInt ∧ blength.toInt ≤ 1600) (hh2 : 0 ≤ bfollowing.toInt ∧ bfollowing.toInt ≤ 1600) : Met l yX10_takeLetters (.code yX10_takeLetters cX10_takeLetters 2 none :: gT) ({ frames := 1, cells := 0, slots := 0, locals := 24 }) (va_Pc [.ref h] (Pst g sz [(h, .inr (10, [.int bsort, .int bplace, .int bvalue, .long bname, .ref btext, .int blength, .int bfollowing, .ref bwords])), (btext, aB g 1600 Fbtext), (bwords, aJ g 24 Fbwords)] nX)) (va_Qv (fun ((o0_sort, o1_value, o2_name, o3_following) : Int32 × Int32 × Int64 × Int32) => (0 ≤ o0_sort.toInt ∧ o0_sort.toInt ≤ 5) ∧ (0 ≤ o3_following.toInt ∧ o3_following.toInt ≤ 1600)) (Qst g [(h, .inr (10, [.int bsort, .int bplace, .int bvalue, .long bname, .ref btext, .int blength, .int bfollowing, .ref bwords])), (btext, aB g 1600 Fbtext), (bwords, aJ g 24 Fbwords)] sz (fun ((o0_sort, o1_value, o2_name, o3_following) : Int32 × Int32 × Int64 × Int32) => [(h, .inr (10, [.int o0_sort, .int bplace, .int o1_value, .long o2_name, .ref btext, .int blength, .int o3_following, .ref bwords])), (btext, aB g 1600 Fbtext), (bwords, aJ g 24 Fbwords)])) (va_A [(h, .inr (10, [.int bsort, .int bplace, .int bvalue, .long bname, .ref btext, .int blength, .int bfollowing, .ref bwords])), (btext, aB g 1600 Fbtext), (bwords, aJ g 24 Fbwords)] sz)) 0 0 (va_A [(h, .inr (10, [.int bsort, .int bplace, .int bvalue, .long bname, .ref btext, .int blength, .int bfollowing, .ref bwords])), (btext, aB g 1600 Fbtext), (bwords, aJ g 24 Fbwords)] sz) := by
  refine Met.ofW (cc := cX10_takeLetters) (maxL := 2) (ret := none) (by decide) rfl ?_
  intro p e s m args below meth c s₁ B hml hv
  obtain ⟨rfl, hsz, hP, hK, hD0, hX⟩ := hv
  have hx := B.exec
  have hb := B.bytes
  have hr := B.returns
  have hT : ∀ w ∈ gT, w.before _ s = true := fun w h => atoms_spec (ws := .code yX10_takeLetters cX10_takeLetters 2 none :: gT) B.pre w (List.mem_cons_of_mem _ h)
  have hown : s.vm.findClass RX10 = some m.cls := findClass_of_methodNamed B.named
  have hlocks := B.notSynchronized
  subst hsz
  have hD := hD0.self (sz := s.heap.size)
  generalize hAe : va_A [(h, .inr (10, [.int bsort, .int bplace, .int bvalue, .long bname, .ref btext, .int blength, .int bfollowing, .ref bwords])), (btext, aB g 1600 Fbtext), (bwords, aJ g 24 Fbwords)] s.heap.size = A at hD ⊢
  have hA : ∀ q : Nat, s.heap.size ≤ q → A q := fun q h => by rw [← hAe]; exact Or.inr h
  have hS : va_S A s.heap s.heap [] := va_S.rf
  have hl := lv_entry ([.ref h]) (n := 2) (Nat.le_of_ble_eq_true rfl)
  rw [lg_entry_eq]
  generalize (lg_sl ([.ref h]) ++ List.replicate (2 - (lg_sl ([.ref h])).length) Slot.unset).toArray = ls at hl ⊢
  have hl : lv_has ls 2 [(0, .ref h)] := hl
  refine p_nH (fun H hH => ?_)
  have hP : va_P g.1 vwCl [(h, .inr (10, [.int bsort, .int bplace, .int bvalue, .long bname, .ref btext, .int blength, .int bfollowing, .ref bwords])), (btext, aB g 1600 Fbtext), (bwords, aJ g 24 Fbwords)] H := by rw [hH]; exact hP
  have hS : va_S A s.heap H [] := by rw [hH]; exact hS
  refine k_floop 0 (fun n H locs ls => ∃ (L_1 : Int32) (L_2 : Int64), (0 ≤ L_1.toInt ∧ L_1.toInt ≤ 1600) ∧ 1600 - L_1.toInt ≤ (n : Int) ∧ va_P g.1 vwCl [(h, .inr (10, [.int bsort, .int bplace, .int bvalue, .long L_2, .ref btext, .int blength, .int L_1, .ref bwords])), (btext, aB g 1600 Fbtext), (bwords, aJ g 24 Fbwords)] H ∧ va_D A [(h, .inr (10, [.int bsort, .int bplace, .int bvalue, .long L_2, .ref btext, .int blength, .int L_1, .ref bwords])), (btext, aB g 1600 Fbtext), (bwords, aJ g 24 Fbwords)] ∧ va_S A s.heap H locs ∧ lv_has ls 2 [(0, .ref h)]) (fun n H locs ls hI ih => ?_) ((1600 - bfollowing.toInt : Int)).toNat ⟨bfollowing, bname, (by first | with_reducible assumption | omega), by omega, hP, hD, hS, hl⟩
  refine hI.elim (fun L_1 hI => hI.elim (fun L_2 hI => ?_))
  have g_3 := hI.1
  have hm_4 := hI.2.1
  have hP := hI.2.2.1
  have hD := hI.2.2.2.1
  have hS := hI.2.2.2.2.1
  have hl := hI.2.2.2.2.2
  clear hI
  refine lv_aload_n hx hb dX10_takeLetters_0 rfl (lv_at hl 0 rfl) ?_
  refine va_get (D := g.1) (ci := 10) (v := .int L_1) (C := RX10) (T := TX10) (N := 8) hx hb hT inF_X10 hown hK.1 hP 0 rfl rfl 6 (by decide) (hT _ bw_590) (fun _ h9 => h9) rfl dX10_takeLetters_1 ?_
  refine lv_aload_n hx hb dX10_takeLetters_4 rfl (lv_at hl 0 rfl) ?_
  refine va_get (D := g.1) (ci := 10) (v := .int blength) (C := RX10) (T := TX10) (N := 8) hx hb hT inF_X10 hown hK.1 hP 0 rfl rfl 5 (by decide) (hT _ bw_591) (fun _ h9 => h9) rfl dX10_takeLetters_5 ?_
  refine lv_icmp_ge (tgt := 59) hx hb dX10_takeLetters_8 (by decide) (fun c_5 => ?_) (fun c_5 => ?_)
  · have f_6 := E_le (rfl : blength.toInt = _) (rfl : L_1.toInt = _) c_5
    refine lv_aload_n hx hb dX10_takeLetters_59 rfl (lv_at hl 0 rfl) ?_
    refine va_get (D := g.1) (ci := 10) (v := .ref bwords) (C := RX10) (T := TX10) (N := 8) hx hb hT inF_X10 hown hK.1 hP 0 rfl rfl 7 (by decide) (hT _ bw_592) (fun _ h9 => h9) rfl dX10_takeLetters_60 ?_
    refine lv_bipush (v := 24) hx hb dX10_takeLetters_63 (by decide) ?_
    refine lv_aload_n hx hb dX10_takeLetters_65 rfl (lv_at hl 0 rfl) ?_
    refine va_get (D := g.1) (ci := 10) (v := .long L_2) (C := RX10) (T := TX10) (N := 8) hx hb hT inF_X10 hown hK.1 hP 0 rfl rfl 3 (by decide) (hT _ bw_593) (fun _ h9 => h9) rfl dX10_takeLetters_66 ?_
    refine k_iR (k_SN (n := 3) ⟨hx, hb, hml, hown, hT⟩ hK hP hD [2] rfl (by decide +kernel) (s_X11_indexOf_24 l g H.size bwords Fbwords L_2) (gI bw_589) bw_594 (eW_X10_82 hK.2) bw_595 rfl rfl (by decide +kernel) ⟨by decide, by decide⟩ (fun _ _ _ _ _ => trivial) (fun _ _ _ => trivial) rfl rfl hl.1 (Nat.le_of_ble_eq_true rfl) dX10_takeLetters_69 ⟨by decide, by decide⟩) hP hS hA (fun r_7 _ H locs hw0 hP hS => ?_)
    have hw : ((-1) ≤ r_7.toInt ∧ r_7.toInt ≤ 23) ∧ (Ix Fbwords 24 r_7 L_2) := hw0
    clear hw0
    have w_8 := hw.1
    have w_9 := hw.2
    clear hw
    refine lv_istore_n (lv' := [(1, .int r_7), (0, .ref h)]) hx hb dX10_takeLetters_72 rfl hl (by decide) rfl (fun ls hl => ?_)
    refine lv_aload_n hx hb dX10_takeLetters_73 rfl (lv_at hl 1 rfl) ?_
    refine va_get (D := g.1) (ci := 10) (v := .int L_1) (C := RX10) (T := TX10) (N := 8) hx hb hT inF_X10 hown hK.1 hP 0 rfl rfl 6 (by decide) (hT _ bw_590) (fun _ h9 => h9) rfl dX10_takeLetters_74 ?_
    refine lv_aload_n hx hb dX10_takeLetters_77 rfl (lv_at hl 1 rfl) ?_
    refine va_get (D := g.1) (ci := 10) (v := .int bplace) (C := RX10) (T := TX10) (N := 8) hx hb hT inF_X10 hown hK.1 hP 0 rfl rfl 1 (by decide) (hT _ bw_596) (fun _ h9 => h9) rfl dX10_takeLetters_78 ?_
    refine lv_isub hx hb dX10_takeLetters_81 ?_
    refine lv_topi (fun x_10 ex_10 => ?_)
    refine lv_bipush (v := 8) hx hb dX10_takeLetters_82 (by decide) ?_
    refine lv_icmp_le (tgt := 95) hx hb dX10_takeLetters_84 (by decide) (fun c_11 => ?_) (fun c_11 => ?_)
    · have f_12 := E_le (rfl : x_10.toInt = _) (by decide : (8 : Int32).toInt = 8) c_11
      refine lv_iload_n hx hb dX10_takeLetters_95 rfl (lv_at hl 0 rfl) ?_
      refine lv_iconst (v := (-1)) hx hb dX10_takeLetters_96 (by decide) ?_
      refine lv_icmp_eq (tgt := 113) hx hb dX10_takeLetters_97 (by decide) (fun c_13 => ?_) (fun c_13 => ?_)
      · have f_14 := E_eq (rfl : r_7.toInt = _) (by decide : ((-1) : Int32).toInt = (-1)) c_13
        refine lv_aload_n hx hb dX10_takeLetters_113 rfl (lv_at hl 1 rfl) ?_
        refine lv_iconst (v := 2) hx hb dX10_takeLetters_114 (by decide) ?_
        refine va_put (D := g.1) (ci := 10) (v := .int 2) (ty := .int) (C := RX10) (T := TX10) (N := 8) hx hb hT inF_X10 tyX10 tyX10_ok nmX10 hown hK.1 hP hD hS 0 rfl rfl 0 (by decide) (hT _ bw_409) (fun _ h9 => h9) rfl (by decide +kernel) rfl rfl (Nat.le_of_ble_eq_true rfl) dX10_takeLetters_115 (fun H locs hP hD hS => ?_)
        have hP : va_P g.1 vwCl [(h, .inr (10, [.int 2, .int bplace, .int bvalue, .long L_2, .ref btext, .int blength, .int L_1, .ref bwords])), (btext, aB g 1600 Fbtext), (bwords, aJ g 24 Fbwords)] H := hP
        have hD : va_D A [(h, .inr (10, [.int 2, .int bplace, .int bvalue, .long L_2, .ref btext, .int blength, .int L_1, .ref bwords])), (btext, aB g 1600 Fbtext), (bwords, aJ g 24 Fbwords)] := hD
        have hP9 : va_P g.1 vwCl [(h, .inr (10, [.int 2, .int bplace, .int bvalue, .long L_2, .ref btext, .int blength, .int L_1, .ref bwords])), (btext, aB g 1600 Fbtext), (bwords, aJ g 24 Fbwords)] H := hP.sub [0, 1, 2] rfl
        have hD9 : va_D A [(h, .inr (10, [.int 2, .int bplace, .int bvalue, .long L_2, .ref btext, .int blength, .int L_1, .ref bwords])), (btext, aB g 1600 Fbtext), (bwords, aJ g 24 Fbwords)] := hD.sub [0, 1, 2] (by decide +kernel) rfl
        exact W.vret hx hb hr (fun t ht hW => ⟨⟨(2, bvalue, L_2, L_1), rfl, ⟨⟨by decide, by decide⟩, (by first | with_reducible assumption | omega)⟩, by rw [ht]; exact hP9, by rw [hAe]; exact hD9⟩, hS.F ht⟩) hS.2.2 dX10_takeLetters_118
      · have f_15 := E_ne (rfl : r_7.toInt = _) (by decide : ((-1) : Int32).toInt = (-1)) c_13
        refine lv_aload_n hx hb dX10_takeLetters_100 rfl (lv_at hl 1 rfl) ?_
        refine lv_iconst (v := 3) hx hb dX10_takeLetters_101 (by decide) ?_
        refine va_put (D := g.1) (ci := 10) (v := .int 3) (ty := .int) (C := RX10) (T := TX10) (N := 8) hx hb hT inF_X10 tyX10 tyX10_ok nmX10 hown hK.1 hP hD hS 0 rfl rfl 0 (by decide) (hT _ bw_409) (fun _ h9 => h9) rfl (by decide +kernel) rfl rfl (Nat.le_of_ble_eq_true rfl) dX10_takeLetters_102 (fun H locs hP hD hS => ?_)
        have hP : va_P g.1 vwCl [(h, .inr (10, [.int 3, .int bplace, .int bvalue, .long L_2, .ref btext, .int blength, .int L_1, .ref bwords])), (btext, aB g 1600 Fbtext), (bwords, aJ g 24 Fbwords)] H := hP
        have hD : va_D A [(h, .inr (10, [.int 3, .int bplace, .int bvalue, .long L_2, .ref btext, .int blength, .int L_1, .ref bwords])), (btext, aB g 1600 Fbtext), (bwords, aJ g 24 Fbwords)] := hD
        refine lv_aload_n hx hb dX10_takeLetters_105 rfl (lv_at hl 1 rfl) ?_
        refine lv_iload_n hx hb dX10_takeLetters_106 rfl (lv_at hl 0 rfl) ?_
        refine va_put (D := g.1) (ci := 10) (v := .int r_7) (ty := .int) (C := RX10) (T := TX10) (N := 8) hx hb hT inF_X10 tyX10 tyX10_ok nmX10 hown hK.1 hP hD hS 0 rfl rfl 2 (by decide) (hT _ bw_410) (fun _ h9 => h9) rfl (by decide +kernel) rfl rfl (Nat.le_of_ble_eq_true rfl) dX10_takeLetters_107 (fun H locs hP hD hS => ?_)
        have hP : va_P g.1 vwCl [(h, .inr (10, [.int 3, .int bplace, .int r_7, .long L_2, .ref btext, .int blength, .int L_1, .ref bwords])), (btext, aB g 1600 Fbtext), (bwords, aJ g 24 Fbwords)] H := hP
        have hD : va_D A [(h, .inr (10, [.int 3, .int bplace, .int r_7, .long L_2, .ref btext, .int blength, .int L_1, .ref bwords])), (btext, aB g 1600 Fbtext), (bwords, aJ g 24 Fbwords)] := hD
        refine lv_goto (tgt := 118) hx hb dX10_takeLetters_110 (by decide) ?_
        have hP9 : va_P g.1 vwCl [(h, .inr (10, [.int 3, .int bplace, .int r_7, .long L_2, .ref btext, .int blength, .int L_1, .ref bwords])), (btext, aB g 1600 Fbtext), (bwords, aJ g 24 Fbwords)] H := hP.sub [0, 1, 2] rfl
        have hD9 : va_D A [(h, .inr (10, [.int 3, .int bplace, .int r_7, .long L_2, .ref btext, .int blength, .int L_1, .ref bwords])), (btext, aB g 1600 Fbtext), (bwords, aJ g 24 Fbwords)] := hD.sub [0, 1, 2] (by decide +kernel) rfl
        exact W.vret hx hb hr (fun t ht hW => ⟨⟨(3, r_7, L_2, L_1), rfl, ⟨⟨by decide, by decide⟩, (by first | with_reducible assumption | omega)⟩, by rw [ht]; exact hP9, by rw [hAe]; exact hD9⟩, hS.F ht⟩) hS.2.2 dX10_takeLetters_118
    · have f_16 := E_nle (rfl : x_10.toInt = _) (by decide : (8 : Int32).toInt = 8) c_11
      refine lv_aload_n hx hb dX10_takeLetters_87 rfl (lv_at hl 1 rfl) ?_
      refine lv_iconst (v := 1) hx hb dX10_takeLetters_88 (by decide) ?_
      refine va_put (D := g.1) (ci := 10) (v := .int 1) (ty := .int) (C := RX10) (T := TX10) (N := 8) hx hb hT inF_X10 tyX10 tyX10_ok nmX10 hown hK.1 hP hD hS 0 rfl rfl 0 (by decide) (hT _ bw_409) (fun _ h9 => h9) rfl (by decide +kernel) rfl rfl (Nat.le_of_ble_eq_true rfl) dX10_takeLetters_89 (fun H locs hP hD hS => ?_)
      have hP : va_P g.1 vwCl [(h, .inr (10, [.int 1, .int bplace, .int bvalue, .long L_2, .ref btext, .int blength, .int L_1, .ref bwords])), (btext, aB g 1600 Fbtext), (bwords, aJ g 24 Fbwords)] H := hP
      have hD : va_D A [(h, .inr (10, [.int 1, .int bplace, .int bvalue, .long L_2, .ref btext, .int blength, .int L_1, .ref bwords])), (btext, aB g 1600 Fbtext), (bwords, aJ g 24 Fbwords)] := hD
      refine lv_goto (tgt := 118) hx hb dX10_takeLetters_92 (by decide) ?_
      have hP9 : va_P g.1 vwCl [(h, .inr (10, [.int 1, .int bplace, .int bvalue, .long L_2, .ref btext, .int blength, .int L_1, .ref bwords])), (btext, aB g 1600 Fbtext), (bwords, aJ g 24 Fbwords)] H := hP.sub [0, 1, 2] rfl
      have hD9 : va_D A [(h, .inr (10, [.int 1, .int bplace, .int bvalue, .long L_2, .ref btext, .int blength, .int L_1, .ref bwords])), (btext, aB g 1600 Fbtext), (bwords, aJ g 24 Fbwords)] := hD.sub [0, 1, 2] (by decide +kernel) rfl
      exact W.vret hx hb hr (fun t ht hW => ⟨⟨(1, bvalue, L_2, L_1), rfl, ⟨⟨by decide, by decide⟩, (by first | with_reducible assumption | omega)⟩, by rw [ht]; exact hP9, by rw [hAe]; exact hD9⟩, hS.F ht⟩) hS.2.2 dX10_takeLetters_118
  · have f_17 := E_nle (rfl : blength.toInt = _) (rfl : L_1.toInt = _) c_5
    refine lv_aload_n hx hb dX10_takeLetters_11 rfl (lv_at hl 0 rfl) ?_
    refine va_get (D := g.1) (ci := 10) (v := .ref btext) (C := RX10) (T := TX10) (N := 8) hx hb hT inF_X10 hown hK.1 hP 0 rfl rfl 4 (by decide) (hT _ bw_597) (fun _ h9 => h9) rfl dX10_takeLetters_12 ?_
    refine lv_aload_n hx hb dX10_takeLetters_15 rfl (lv_at hl 0 rfl) ?_
    refine va_get (D := g.1) (ci := 10) (v := .int L_1) (C := RX10) (T := TX10) (N := 8) hx hb hT inF_X10 hown hK.1 hP 0 rfl rfl 6 (by decide) (hT _ bw_590) (fun _ h9 => h9) rfl dX10_takeLetters_16 ?_
    have h_18 : vp_in L_1 1600 := vp_in_iff.mpr (by omega)
    refine va_bald hx hb hK.1 hP 1 0 rfl rfl (i := L_1) h_18 dX10_takeLetters_19 ?_
    refine lv_topi (fun x_19 ex_19 => ?_)
    have ux_19 := congrArg Int32.toInt ex_19
    refine k_iR (k_S (n := 1) ⟨hx, hb, hml, hown, hT⟩ hK hP hD [] rfl (by decide +kernel) (s_X10_isLetter l g H.size x_19) (gS bw_598 bw_599 bw_600 bw_405) rfl rfl (by decide +kernel) ⟨by decide, by decide⟩ (fun _ _ _ _ _ => trivial) (fun _ _ _ => trivial) rfl rfl hl.1 (Nat.le_of_ble_eq_true rfl) dX10_takeLetters_20 ⟨by decide, by decide⟩) hP hS hA (fun r_20 _ H locs hw0 hP hS => ?_)
    have hw : 0 ≤ r_20.toInt ∧ r_20.toInt ≤ 1 := hw0
    clear hw0
    have w_21 := hw
    refine lv_if_eq (tgt := 59) hx hb dX10_takeLetters_23 (by decide) (fun c_22 => ?_) (fun c_22 => ?_)
    · have f_23 := E_eq (rfl : r_20.toInt = _) (by decide : (0 : Int32).toInt = 0) c_22
      refine lv_aload_n hx hb dX10_takeLetters_59 rfl (lv_at hl 0 rfl) ?_
      refine va_get (D := g.1) (ci := 10) (v := .ref bwords) (C := RX10) (T := TX10) (N := 8) hx hb hT inF_X10 hown hK.1 hP 0 rfl rfl 7 (by decide) (hT _ bw_592) (fun _ h9 => h9) rfl dX10_takeLetters_60 ?_
      refine lv_bipush (v := 24) hx hb dX10_takeLetters_63 (by decide) ?_
      refine lv_aload_n hx hb dX10_takeLetters_65 rfl (lv_at hl 0 rfl) ?_
      refine va_get (D := g.1) (ci := 10) (v := .long L_2) (C := RX10) (T := TX10) (N := 8) hx hb hT inF_X10 hown hK.1 hP 0 rfl rfl 3 (by decide) (hT _ bw_593) (fun _ h9 => h9) rfl dX10_takeLetters_66 ?_
      refine k_iR (k_SN (n := 3) ⟨hx, hb, hml, hown, hT⟩ hK hP hD [2] rfl (by decide +kernel) (s_X11_indexOf_24 l g H.size bwords Fbwords L_2) (gI bw_589) bw_594 (eW_X10_82 hK.2) bw_595 rfl rfl (by decide +kernel) ⟨by decide, by decide⟩ (fun _ _ _ _ _ => trivial) (fun _ _ _ => trivial) rfl rfl hl.1 (Nat.le_of_ble_eq_true rfl) dX10_takeLetters_69 ⟨by decide, by decide⟩) hP hS hA (fun r_24 _ H locs hw0 hP hS => ?_)
      have hw : ((-1) ≤ r_24.toInt ∧ r_24.toInt ≤ 23) ∧ (Ix Fbwords 24 r_24 L_2) := hw0
      clear hw0
      have w_25 := hw.1
      have w_26 := hw.2
      clear hw
      refine lv_istore_n (lv' := [(1, .int r_24), (0, .ref h)]) hx hb dX10_takeLetters_72 rfl hl (by decide) rfl (fun ls hl => ?_)
      refine lv_aload_n hx hb dX10_takeLetters_73 rfl (lv_at hl 1 rfl) ?_
      refine va_get (D := g.1) (ci := 10) (v := .int L_1) (C := RX10) (T := TX10) (N := 8) hx hb hT inF_X10 hown hK.1 hP 0 rfl rfl 6 (by decide) (hT _ bw_590) (fun _ h9 => h9) rfl dX10_takeLetters_74 ?_
      refine lv_aload_n hx hb dX10_takeLetters_77 rfl (lv_at hl 1 rfl) ?_
      refine va_get (D := g.1) (ci := 10) (v := .int bplace) (C := RX10) (T := TX10) (N := 8) hx hb hT inF_X10 hown hK.1 hP 0 rfl rfl 1 (by decide) (hT _ bw_596) (fun _ h9 => h9) rfl dX10_takeLetters_78 ?_
      refine lv_isub hx hb dX10_takeLetters_81 ?_
      refine lv_topi (fun x_27 ex_27 => ?_)
      refine lv_bipush (v := 8) hx hb dX10_takeLetters_82 (by decide) ?_
      refine lv_icmp_le (tgt := 95) hx hb dX10_takeLetters_84 (by decide) (fun c_28 => ?_) (fun c_28 => ?_)
      · have f_29 := E_le (rfl : x_27.toInt = _) (by decide : (8 : Int32).toInt = 8) c_28
        refine lv_iload_n hx hb dX10_takeLetters_95 rfl (lv_at hl 0 rfl) ?_
        refine lv_iconst (v := (-1)) hx hb dX10_takeLetters_96 (by decide) ?_
        refine lv_icmp_eq (tgt := 113) hx hb dX10_takeLetters_97 (by decide) (fun c_30 => ?_) (fun c_30 => ?_)
        · have f_31 := E_eq (rfl : r_24.toInt = _) (by decide : ((-1) : Int32).toInt = (-1)) c_30
          refine lv_aload_n hx hb dX10_takeLetters_113 rfl (lv_at hl 1 rfl) ?_
          refine lv_iconst (v := 2) hx hb dX10_takeLetters_114 (by decide) ?_
          refine va_put (D := g.1) (ci := 10) (v := .int 2) (ty := .int) (C := RX10) (T := TX10) (N := 8) hx hb hT inF_X10 tyX10 tyX10_ok nmX10 hown hK.1 hP hD hS 0 rfl rfl 0 (by decide) (hT _ bw_409) (fun _ h9 => h9) rfl (by decide +kernel) rfl rfl (Nat.le_of_ble_eq_true rfl) dX10_takeLetters_115 (fun H locs hP hD hS => ?_)
          have hP : va_P g.1 vwCl [(h, .inr (10, [.int 2, .int bplace, .int bvalue, .long L_2, .ref btext, .int blength, .int L_1, .ref bwords])), (btext, aB g 1600 Fbtext), (bwords, aJ g 24 Fbwords)] H := hP
          have hD : va_D A [(h, .inr (10, [.int 2, .int bplace, .int bvalue, .long L_2, .ref btext, .int blength, .int L_1, .ref bwords])), (btext, aB g 1600 Fbtext), (bwords, aJ g 24 Fbwords)] := hD
          have hP9 : va_P g.1 vwCl [(h, .inr (10, [.int 2, .int bplace, .int bvalue, .long L_2, .ref btext, .int blength, .int L_1, .ref bwords])), (btext, aB g 1600 Fbtext), (bwords, aJ g 24 Fbwords)] H := hP.sub [0, 1, 2] rfl
          have hD9 : va_D A [(h, .inr (10, [.int 2, .int bplace, .int bvalue, .long L_2, .ref btext, .int blength, .int L_1, .ref bwords])), (btext, aB g 1600 Fbtext), (bwords, aJ g 24 Fbwords)] := hD.sub [0, 1, 2] (by decide +kernel) rfl
          exact W.vret hx hb hr (fun t ht hW => ⟨⟨(2, bvalue, L_2, L_1), rfl, ⟨⟨by decide, by decide⟩, (by first | with_reducible assumption | omega)⟩, by rw [ht]; exact hP9, by rw [hAe]; exact hD9⟩, hS.F ht⟩) hS.2.2 dX10_takeLetters_118
        · have f_32 := E_ne (rfl : r_24.toInt = _) (by decide : ((-1) : Int32).toInt = (-1)) c_30
          refine lv_aload_n hx hb dX10_takeLetters_100 rfl (lv_at hl 1 rfl) ?_
          refine lv_iconst (v := 3) hx hb dX10_takeLetters_101 (by decide) ?_
          refine va_put (D := g.1) (ci := 10) (v := .int 3) (ty := .int) (C := RX10) (T := TX10) (N := 8) hx hb hT inF_X10 tyX10 tyX10_ok nmX10 hown hK.1 hP hD hS 0 rfl rfl 0 (by decide) (hT _ bw_409) (fun _ h9 => h9) rfl (by decide +kernel) rfl rfl (Nat.le_of_ble_eq_true rfl) dX10_takeLetters_102 (fun H locs hP hD hS => ?_)
          have hP : va_P g.1 vwCl [(h, .inr (10, [.int 3, .int bplace, .int bvalue, .long L_2, .ref btext, .int blength, .int L_1, .ref bwords])), (btext, aB g 1600 Fbtext), (bwords, aJ g 24 Fbwords)] H := hP
          have hD : va_D A [(h, .inr (10, [.int 3, .int bplace, .int bvalue, .long L_2, .ref btext, .int blength, .int L_1, .ref bwords])), (btext, aB g 1600 Fbtext), (bwords, aJ g 24 Fbwords)] := hD
          refine lv_aload_n hx hb dX10_takeLetters_105 rfl (lv_at hl 1 rfl) ?_
          refine lv_iload_n hx hb dX10_takeLetters_106 rfl (lv_at hl 0 rfl) ?_
          refine va_put (D := g.1) (ci := 10) (v := .int r_24) (ty := .int) (C := RX10) (T := TX10) (N := 8) hx hb hT inF_X10 tyX10 tyX10_ok nmX10 hown hK.1 hP hD hS 0 rfl rfl 2 (by decide) (hT _ bw_410) (fun _ h9 => h9) rfl (by decide +kernel) rfl rfl (Nat.le_of_ble_eq_true rfl) dX10_takeLetters_107 (fun H locs hP hD hS => ?_)
          have hP : va_P g.1 vwCl [(h, .inr (10, [.int 3, .int bplace, .int r_24, .long L_2, .ref btext, .int blength, .int L_1, .ref bwords])), (btext, aB g 1600 Fbtext), (bwords, aJ g 24 Fbwords)] H := hP
          have hD : va_D A [(h, .inr (10, [.int 3, .int bplace, .int r_24, .long L_2, .ref btext, .int blength, .int L_1, .ref bwords])), (btext, aB g 1600 Fbtext), (bwords, aJ g 24 Fbwords)] := hD
          refine lv_goto (tgt := 118) hx hb dX10_takeLetters_110 (by decide) ?_
          have hP9 : va_P g.1 vwCl [(h, .inr (10, [.int 3, .int bplace, .int r_24, .long L_2, .ref btext, .int blength, .int L_1, .ref bwords])), (btext, aB g 1600 Fbtext), (bwords, aJ g 24 Fbwords)] H := hP.sub [0, 1, 2] rfl
          have hD9 : va_D A [(h, .inr (10, [.int 3, .int bplace, .int r_24, .long L_2, .ref btext, .int blength, .int L_1, .ref bwords])), (btext, aB g 1600 Fbtext), (bwords, aJ g 24 Fbwords)] := hD.sub [0, 1, 2] (by decide +kernel) rfl
          exact W.vret hx hb hr (fun t ht hW => ⟨⟨(3, r_24, L_2, L_1), rfl, ⟨⟨by decide, by decide⟩, (by first | with_reducible assumption | omega)⟩, by rw [ht]; exact hP9, by rw [hAe]; exact hD9⟩, hS.F ht⟩) hS.2.2 dX10_takeLetters_118
      · have f_33 := E_nle (rfl : x_27.toInt = _) (by decide : (8 : Int32).toInt = 8) c_28
        refine lv_aload_n hx hb dX10_takeLetters_87 rfl (lv_at hl 1 rfl) ?_
        refine lv_iconst (v := 1) hx hb dX10_takeLetters_88 (by decide) ?_
        refine va_put (D := g.1) (ci := 10) (v := .int 1) (ty := .int) (C := RX10) (T := TX10) (N := 8) hx hb hT inF_X10 tyX10 tyX10_ok nmX10 hown hK.1 hP hD hS 0 rfl rfl 0 (by decide) (hT _ bw_409) (fun _ h9 => h9) rfl (by decide +kernel) rfl rfl (Nat.le_of_ble_eq_true rfl) dX10_takeLetters_89 (fun H locs hP hD hS => ?_)
        have hP : va_P g.1 vwCl [(h, .inr (10, [.int 1, .int bplace, .int bvalue, .long L_2, .ref btext, .int blength, .int L_1, .ref bwords])), (btext, aB g 1600 Fbtext), (bwords, aJ g 24 Fbwords)] H := hP
        have hD : va_D A [(h, .inr (10, [.int 1, .int bplace, .int bvalue, .long L_2, .ref btext, .int blength, .int L_1, .ref bwords])), (btext, aB g 1600 Fbtext), (bwords, aJ g 24 Fbwords)] := hD
        refine lv_goto (tgt := 118) hx hb dX10_takeLetters_92 (by decide) ?_
        have hP9 : va_P g.1 vwCl [(h, .inr (10, [.int 1, .int bplace, .int bvalue, .long L_2, .ref btext, .int blength, .int L_1, .ref bwords])), (btext, aB g 1600 Fbtext), (bwords, aJ g 24 Fbwords)] H := hP.sub [0, 1, 2] rfl
        have hD9 : va_D A [(h, .inr (10, [.int 1, .int bplace, .int bvalue, .long L_2, .ref btext, .int blength, .int L_1, .ref bwords])), (btext, aB g 1600 Fbtext), (bwords, aJ g 24 Fbwords)] := hD.sub [0, 1, 2] (by decide +kernel) rfl
        exact W.vret hx hb hr (fun t ht hW => ⟨⟨(1, bvalue, L_2, L_1), rfl, ⟨⟨by decide, by decide⟩, (by first | with_reducible assumption | omega)⟩, by rw [ht]; exact hP9, by rw [hAe]; exact hD9⟩, hS.F ht⟩) hS.2.2 dX10_takeLetters_118
    · have f_34 := E_ne (rfl : r_20.toInt = _) (by decide : (0 : Int32).toInt = 0) c_22
      refine lv_aload_n hx hb dX10_takeLetters_26 rfl (lv_at hl 0 rfl) ?_
      refine lv_aload_n hx hb dX10_takeLetters_27 rfl (lv_at hl 0 rfl) ?_
      refine va_get (D := g.1) (ci := 10) (v := .long L_2) (C := RX10) (T := TX10) (N := 8) hx hb hT inF_X10 hown hK.1 hP 0 rfl rfl 3 (by decide) (hT _ bw_593) (fun _ h9 => h9) rfl dX10_takeLetters_28 ?_
      refine lv_aload_n hx hb dX10_takeLetters_31 rfl (lv_at hl 0 rfl) ?_
      refine va_get (D := g.1) (ci := 10) (v := .ref btext) (C := RX10) (T := TX10) (N := 8) hx hb hT inF_X10 hown hK.1 hP 0 rfl rfl 4 (by decide) (hT _ bw_597) (fun _ h9 => h9) rfl dX10_takeLetters_32 ?_
      refine lv_aload_n hx hb dX10_takeLetters_35 rfl (lv_at hl 0 rfl) ?_
      refine va_get (D := g.1) (ci := 10) (v := .int L_1) (C := RX10) (T := TX10) (N := 8) hx hb hT inF_X10 hown hK.1 hP 0 rfl rfl 6 (by decide) (hT _ bw_590) (fun _ h9 => h9) rfl dX10_takeLetters_36 ?_
      have h_35 : vp_in L_1 1600 := vp_in_iff.mpr (by omega)
      refine va_bald hx hb hK.1 hP 1 0 rfl rfl (i := L_1) h_35 dX10_takeLetters_39 ?_
      refine lv_topi (fun x_36 ex_36 => ?_)
      have ux_36 := congrArg Int32.toInt ex_36
      refine k_lR (k_S (n := 2) ⟨hx, hb, hml, hown, hT⟩ hK hP hD [] rfl (by decide +kernel) (s_X10_withLetter l g H.size L_2 x_36) (gS bw_601 bw_602 bw_603 bw_408) rfl rfl (by decide +kernel) ⟨by decide, by decide⟩ (fun _ _ _ _ _ => trivial) (fun _ _ _ => trivial) rfl rfl hl.1 (Nat.le_of_ble_eq_true rfl) dX10_takeLetters_40 ⟨by decide, by decide⟩) hP hS hA (fun r_37 _ H locs hw0 hP hS => ?_)
      refine va_put (D := g.1) (ci := 10) (v := .long r_37) (ty := .long) (C := RX10) (T := TX10) (N := 8) hx hb hT inF_X10 tyX10 tyX10_ok nmX10 hown hK.1 hP hD hS 0 rfl rfl 3 (by decide) (hT _ bw_593) (fun _ h9 => h9) rfl (by decide +kernel) rfl rfl (Nat.le_of_ble_eq_true rfl) dX10_takeLetters_43 (fun H locs hP hD hS => ?_)
      have hP : va_P g.1 vwCl [(h, .inr (10, [.int bsort, .int bplace, .int bvalue, .long r_37, .ref btext, .int blength, .int L_1, .ref bwords])), (btext, aB g 1600 Fbtext), (bwords, aJ g 24 Fbwords)] H := hP
      have hD : va_D A [(h, .inr (10, [.int bsort, .int bplace, .int bvalue, .long r_37, .ref btext, .int blength, .int L_1, .ref bwords])), (btext, aB g 1600 Fbtext), (bwords, aJ g 24 Fbwords)] := hD
      refine lv_aload_n hx hb dX10_takeLetters_46 rfl (lv_at hl 0 rfl) ?_
      refine lv_dup hx hb dX10_takeLetters_47 rfl ?_
      refine va_get (D := g.1) (ci := 10) (v := .int L_1) (C := RX10) (T := TX10) (N := 8) hx hb hT inF_X10 hown hK.1 hP 0 rfl rfl 6 (by decide) (hT _ bw_590) (fun _ h9 => h9) rfl dX10_takeLetters_48 ?_
      refine lv_iconst (v := 1) hx hb dX10_takeLetters_51 (by decide) ?_
      refine lv_iadd hx hb dX10_takeLetters_52 ?_
      refine lv_topi (fun x_38 ex_38 => ?_)
      have fx_38 : x_38.toInt = L_1.toInt + 1 := by rw [ex_38]; exact I_add rfl (by decide : (1 : Int32).toInt = 1) (by omega) (by omega)
      refine va_put (D := g.1) (ci := 10) (v := .int x_38) (ty := .int) (C := RX10) (T := TX10) (N := 8) hx hb hT inF_X10 tyX10 tyX10_ok nmX10 hown hK.1 hP hD hS 0 rfl rfl 6 (by decide) (hT _ bw_590) (fun _ h9 => h9) rfl (by decide +kernel) rfl rfl (Nat.le_of_ble_eq_true rfl) dX10_takeLetters_53 (fun H locs hP hD hS => ?_)
      have hP : va_P g.1 vwCl [(h, .inr (10, [.int bsort, .int bplace, .int bvalue, .long r_37, .ref btext, .int blength, .int x_38, .ref bwords])), (btext, aB g 1600 Fbtext), (bwords, aJ g 24 Fbwords)] H := hP
      have hD : va_D A [(h, .inr (10, [.int bsort, .int bplace, .int bvalue, .long r_37, .ref btext, .int blength, .int x_38, .ref bwords])), (btext, aB g 1600 Fbtext), (bwords, aJ g 24 Fbwords)] := hD
      refine lv_goto (tgt := 0) hx hb dX10_takeLetters_56 (by decide) ?_
      exact ih (n - 1) (by omega) H locs ls ⟨x_38, r_37, (by first | with_reducible assumption | omega), by omega, hP.sub [0, 1, 2] rfl, hD.sub [0, 1, 2] (by decide +kernel) rfl, hS, lv_sub hl [0] rfl⟩

theorem bw_605 : Cond.methodLink RX10 73 yX10_isDigit ∈ gT := gT_tb 617 (by decide +kernel) (by decide +kernel)
theorem bw_606 : Cond.static yX10_isDigit ∈ gT := gT_tb 618 (by decide +kernel) (by decide +kernel)
theorem bw_607 : Cond.initialized yX10_isDigit.cls ∈ gT := gT_tb 3 (by decide +kernel) (by decide +kernel)
theorem bw_608 : Cond.code yX10_takeDigits cX10_takeDigits 2 none ∈ gT := gT_tb 623 (by decide +kernel) (by decide +kernel)
theorem dX10_takeDigits_0 : decode cX10_takeDigits 0 = .ok (.aload_n 0, 1) := by decide +kernel
theorem dX10_takeDigits_1 : decode cX10_takeDigits 1 = .ok (.getfield 44, 3) := by decide +kernel
theorem dX10_takeDigits_4 : decode cX10_takeDigits 4 = .ok (.aload_n 0, 1) := by decide +kernel
theorem dX10_takeDigits_5 : decode cX10_takeDigits 5 = .ok (.getfield 41, 3) := by decide +kernel
theorem dX10_takeDigits_8 : decode cX10_takeDigits 8 = .ok (.if_icmp .ge 55, 3) := by decide +kernel
theorem dX10_takeDigits_11 : decode cX10_takeDigits 11 = .ok (.aload_n 0, 1) := by decide +kernel
theorem dX10_takeDigits_12 : decode cX10_takeDigits 12 = .ok (.getfield 31, 3) := by decide +kernel
theorem dX10_takeDigits_15 : decode cX10_takeDigits 15 = .ok (.aload_n 0, 1) := by decide +kernel
theorem dX10_takeDigits_16 : decode cX10_takeDigits 16 = .ok (.getfield 44, 3) := by decide +kernel
theorem dX10_takeDigits_19 : decode cX10_takeDigits 19 = .ok (.baload, 1) := by decide +kernel
theorem dX10_takeDigits_20 : decode cX10_takeDigits 20 = .ok (.invokestatic 73, 3) := by decide +kernel
theorem dX10_takeDigits_23 : decode cX10_takeDigits 23 = .ok (.ifCond .eq 40, 3) := by decide +kernel
theorem dX10_takeDigits_26 : decode cX10_takeDigits 26 = .ok (.aload_n 0, 1) := by decide +kernel
theorem dX10_takeDigits_27 : decode cX10_takeDigits 27 = .ok (.aload_n 0, 1) := by decide +kernel
theorem dX10_takeDigits_28 : decode cX10_takeDigits 28 = .ok (.getfield 57, 3) := by decide +kernel
theorem dX10_takeDigits_31 : decode cX10_takeDigits 31 = .ok (.bipush 10, 2) := by decide +kernel
theorem dX10_takeDigits_33 : decode cX10_takeDigits 33 = .ok (.imul, 1) := by decide +kernel
theorem dX10_takeDigits_34 : decode cX10_takeDigits 34 = .ok (.aload_n 0, 1) := by decide +kernel
theorem dX10_takeDigits_35 : decode cX10_takeDigits 35 = .ok (.getfield 31, 3) := by decide +kernel
theorem dX10_takeDigits_38 : decode cX10_takeDigits 38 = .ok (.aload_n 0, 1) := by decide +kernel
theorem dX10_takeDigits_39 : decode cX10_takeDigits 39 = .ok (.getfield 44, 3) := by decide +kernel
theorem dX10_takeDigits_42 : decode cX10_takeDigits 42 = .ok (.baload, 1) := by decide +kernel
theorem dX10_takeDigits_43 : decode cX10_takeDigits 43 = .ok (.iadd, 1) := by decide +kernel
theorem dX10_takeDigits_44 : decode cX10_takeDigits 44 = .ok (.bipush 48, 2) := by decide +kernel
theorem dX10_takeDigits_46 : decode cX10_takeDigits 46 = .ok (.isub, 1) := by decide +kernel
theorem dX10_takeDigits_47 : decode cX10_takeDigits 47 = .ok (.putfield 57, 3) := by decide +kernel
theorem dX10_takeDigits_50 : decode cX10_takeDigits 50 = .ok (.aload_n 0, 1) := by decide +kernel
theorem dX10_takeDigits_51 : decode cX10_takeDigits 51 = .ok (.dup, 1) := by decide +kernel
theorem dX10_takeDigits_52 : decode cX10_takeDigits 52 = .ok (.getfield 44, 3) := by decide +kernel
theorem dX10_takeDigits_55 : decode cX10_takeDigits 55 = .ok (.iconst 1, 1) := by decide +kernel
theorem dX10_takeDigits_56 : decode cX10_takeDigits 56 = .ok (.iadd, 1) := by decide +kernel
theorem dX10_takeDigits_57 : decode cX10_takeDigits 57 = .ok (.putfield 44, 3) := by decide +kernel
theorem dX10_takeDigits_60 : decode cX10_takeDigits 60 = .ok (.goto (-60), 3) := by decide +kernel
theorem dX10_takeDigits_63 : decode cX10_takeDigits 63 = .ok (.aload_n 0, 1) := by decide +kernel
theorem dX10_takeDigits_64 : decode cX10_takeDigits 64 = .ok (.getfield 44, 3) := by decide +kernel
theorem dX10_takeDigits_67 : decode cX10_takeDigits 67 = .ok (.aload_n 0, 1) := by decide +kernel
theorem dX10_takeDigits_68 : decode cX10_takeDigits 68 = .ok (.getfield 41, 3) := by decide +kernel
theorem dX10_takeDigits_71 : decode cX10_takeDigits 71 = .ok (.if_icmp .ge 22, 3) := by decide +kernel
theorem dX10_takeDigits_74 : decode cX10_takeDigits 74 = .ok (.aload_n 0, 1) := by decide +kernel
theorem dX10_takeDigits_75 : decode cX10_takeDigits 75 = .ok (.getfield 31, 3) := by decide +kernel
theorem dX10_takeDigits_78 : decode cX10_takeDigits 78 = .ok (.aload_n 0, 1) := by decide +kernel
theorem dX10_takeDigits_79 : decode cX10_takeDigits 79 = .ok (.getfield 44, 3) := by decide +kernel
theorem dX10_takeDigits_82 : decode cX10_takeDigits 82 = .ok (.baload, 1) := by decide +kernel
theorem dX10_takeDigits_83 : decode cX10_takeDigits 83 = .ok (.invokestatic 67, 3) := by decide +kernel
theorem dX10_takeDigits_86 : decode cX10_takeDigits 86 = .ok (.ifCond .eq 7, 3) := by decide +kernel
theorem dX10_takeDigits_89 : decode cX10_takeDigits 89 = .ok (.iconst 1, 1) := by decide +kernel
theorem dX10_takeDigits_90 : decode cX10_takeDigits 90 = .ok (.goto 4, 3) := by decide +kernel
theorem dX10_takeDigits_93 : decode cX10_takeDigits 93 = .ok (.iconst 0, 1) := by decide +kernel
theorem dX10_takeDigits_94 : decode cX10_takeDigits 94 = .ok (.istore_n 1, 1) := by decide +kernel
theorem dX10_takeDigits_95 : decode cX10_takeDigits 95 = .ok (.aload_n 0, 1) := by decide +kernel
theorem dX10_takeDigits_96 : decode cX10_takeDigits 96 = .ok (.aload_n 0, 1) := by decide +kernel
theorem dX10_takeDigits_97 : decode cX10_takeDigits 97 = .ok (.getfield 44, 3) := by decide +kernel
theorem dX10_takeDigits_100 : decode cX10_takeDigits 100 = .ok (.aload_n 0, 1) := by decide +kernel
theorem dX10_takeDigits_101 : decode cX10_takeDigits 101 = .ok (.getfield 54, 3) := by decide +kernel
theorem dX10_takeDigits_104 : decode cX10_takeDigits 104 = .ok (.isub, 1) := by decide +kernel
theorem dX10_takeDigits_105 : decode cX10_takeDigits 105 = .ok (.iconst 4, 1) := by decide +kernel
theorem dX10_takeDigits_106 : decode cX10_takeDigits 106 = .ok (.if_icmp .gt 7, 3) := by decide +kernel
theorem dX10_takeDigits_109 : decode cX10_takeDigits 109 = .ok (.iload_n 1, 1) := by decide +kernel
theorem dX10_takeDigits_110 : decode cX10_takeDigits 110 = .ok (.ifCond .eq 7, 3) := by decide +kernel
theorem dX10_takeDigits_113 : decode cX10_takeDigits 113 = .ok (.iconst 1, 1) := by decide +kernel
theorem dX10_takeDigits_114 : decode cX10_takeDigits 114 = .ok (.goto 4, 3) := by decide +kernel
theorem dX10_takeDigits_117 : decode cX10_takeDigits 117 = .ok (.iconst 4, 1) := by decide +kernel
theorem dX10_takeDigits_118 : decode cX10_takeDigits 118 = .ok (.putfield 64, 3) := by decide +kernel
theorem dX10_takeDigits_121 : decode cX10_takeDigits 121 = .ok (.return_, 1) := by decide +kernel
set_option maxHeartbeats 4000000 in
set_option maxRecDepth 100000 in
theorem s_X10_takeDigits (l : Launch) (g : GG) (sz : Nat) (h : Nat) (bsort : Int32) (bplace : Int32) (bvalue : Int32) (bname : Int64) (btext : Nat) (Fbtext : Nat → Int32) (blength : Int32) (bfollowing : Int32) (bwords : Nat) (hh0 : 0 ≤ bsort.toInt ∧ bsort.toInt ≤ 5) (hh1 : 0 ≤ blength.toInt ∧ blength.toInt ≤ 1600) (hh2 : 0 ≤ bfollowing.toInt ∧ bfollowing.toInt ≤ 1600) : Met l yX10_takeDigits (.code yX10_takeDigits cX10_takeDigits 2 none :: gT) ({ frames := 1, cells := 0, slots := 0, locals := 20 }) (va_Pc [.ref h] (Pst g sz [(h, .inr (10, [.int bsort, .int bplace, .int bvalue, .long bname, .ref btext, .int blength, .int bfollowing, .ref bwords])), (btext, aB g 1600 Fbtext)] nX)) (va_Qv (fun ((o0_sort, o1_value, o2_following) : Int32 × Int32 × Int32) => (0 ≤ o0_sort.toInt ∧ o0_sort.toInt ≤ 5) ∧ (0 ≤ o2_following.toInt ∧ o2_following.toInt ≤ 1600)) (Qst g [(h, .inr (10, [.int bsort, .int bplace, .int bvalue, .long bname, .ref btext, .int blength, .int bfollowing, .ref bwords])), (btext, aB g 1600 Fbtext)] sz (fun ((o0_sort, o1_value, o2_following) : Int32 × Int32 × Int32) => [(h, .inr (10, [.int o0_sort, .int bplace, .int o1_value, .long bname, .ref btext, .int blength, .int o2_following, .ref bwords])), (btext, aB g 1600 Fbtext)])) (va_A [(h, .inr (10, [.int bsort, .int bplace, .int bvalue, .long bname, .ref btext, .int blength, .int bfollowing, .ref bwords])), (btext, aB g 1600 Fbtext)] sz)) 0 0 (va_A [(h, .inr (10, [.int bsort, .int bplace, .int bvalue, .long bname, .ref btext, .int blength, .int bfollowing, .ref bwords])), (btext, aB g 1600 Fbtext)] sz) := by
  refine Met.ofW (cc := cX10_takeDigits) (maxL := 2) (ret := none) (by decide) rfl ?_
  intro p e s m args below meth c s₁ B hml hv
  obtain ⟨rfl, hsz, hP, hK, hD0, hX⟩ := hv
  have hx := B.exec
  have hb := B.bytes
  have hr := B.returns
  have hT : ∀ w ∈ gT, w.before _ s = true := fun w h => atoms_spec (ws := .code yX10_takeDigits cX10_takeDigits 2 none :: gT) B.pre w (List.mem_cons_of_mem _ h)
  have hown : s.vm.findClass RX10 = some m.cls := findClass_of_methodNamed B.named
  have hlocks := B.notSynchronized
  subst hsz
  have hD := hD0.self (sz := s.heap.size)
  generalize hAe : va_A [(h, .inr (10, [.int bsort, .int bplace, .int bvalue, .long bname, .ref btext, .int blength, .int bfollowing, .ref bwords])), (btext, aB g 1600 Fbtext)] s.heap.size = A at hD ⊢
  have hA : ∀ q : Nat, s.heap.size ≤ q → A q := fun q h => by rw [← hAe]; exact Or.inr h
  have hS : va_S A s.heap s.heap [] := va_S.rf
  have hl := lv_entry ([.ref h]) (n := 2) (Nat.le_of_ble_eq_true rfl)
  rw [lg_entry_eq]
  generalize (lg_sl ([.ref h]) ++ List.replicate (2 - (lg_sl ([.ref h])).length) Slot.unset).toArray = ls at hl ⊢
  have hl : lv_has ls 2 [(0, .ref h)] := hl
  refine p_nH (fun H hH => ?_)
  have hP : va_P g.1 vwCl [(h, .inr (10, [.int bsort, .int bplace, .int bvalue, .long bname, .ref btext, .int blength, .int bfollowing, .ref bwords])), (btext, aB g 1600 Fbtext)] H := by rw [hH]; exact hP
  have hS : va_S A s.heap H [] := by rw [hH]; exact hS
  refine k_floop 0 (fun n H locs ls => ∃ (L_1 : Int32) (L_2 : Int32), (0 ≤ L_1.toInt ∧ L_1.toInt ≤ 1600) ∧ 1600 - L_1.toInt ≤ (n : Int) ∧ va_P g.1 vwCl [(h, .inr (10, [.int bsort, .int bplace, .int L_2, .long bname, .ref btext, .int blength, .int L_1, .ref bwords])), (btext, aB g 1600 Fbtext)] H ∧ va_D A [(h, .inr (10, [.int bsort, .int bplace, .int L_2, .long bname, .ref btext, .int blength, .int L_1, .ref bwords])), (btext, aB g 1600 Fbtext)] ∧ va_S A s.heap H locs ∧ lv_has ls 2 [(0, .ref h)]) (fun n H locs ls hI ih => ?_) ((1600 - bfollowing.toInt : Int)).toNat ⟨bfollowing, bvalue, (by first | with_reducible assumption | omega), by omega, hP, hD, hS, hl⟩
  refine hI.elim (fun L_1 hI => hI.elim (fun L_2 hI => ?_))
  have g_3 := hI.1
  have hm_4 := hI.2.1
  have hP := hI.2.2.1
  have hD := hI.2.2.2.1
  have hS := hI.2.2.2.2.1
  have hl := hI.2.2.2.2.2
  clear hI
  refine lv_aload_n hx hb dX10_takeDigits_0 rfl (lv_at hl 0 rfl) ?_
  refine va_get (D := g.1) (ci := 10) (v := .int L_1) (C := RX10) (T := TX10) (N := 8) hx hb hT inF_X10 hown hK.1 hP 0 rfl rfl 6 (by decide) (hT _ bw_590) (fun _ h9 => h9) rfl dX10_takeDigits_1 ?_
  refine lv_aload_n hx hb dX10_takeDigits_4 rfl (lv_at hl 0 rfl) ?_
  refine va_get (D := g.1) (ci := 10) (v := .int blength) (C := RX10) (T := TX10) (N := 8) hx hb hT inF_X10 hown hK.1 hP 0 rfl rfl 5 (by decide) (hT _ bw_591) (fun _ h9 => h9) rfl dX10_takeDigits_5 ?_
  refine lv_icmp_ge (tgt := 63) hx hb dX10_takeDigits_8 (by decide) (fun c_5 => ?_) (fun c_5 => ?_)
  · have f_6 := E_le (rfl : blength.toInt = _) (rfl : L_1.toInt = _) c_5
    refine lv_aload_n hx hb dX10_takeDigits_63 rfl (lv_at hl 0 rfl) ?_
    refine va_get (D := g.1) (ci := 10) (v := .int L_1) (C := RX10) (T := TX10) (N := 8) hx hb hT inF_X10 hown hK.1 hP 0 rfl rfl 6 (by decide) (hT _ bw_590) (fun _ h9 => h9) rfl dX10_takeDigits_64 ?_
    refine lv_aload_n hx hb dX10_takeDigits_67 rfl (lv_at hl 0 rfl) ?_
    refine va_get (D := g.1) (ci := 10) (v := .int blength) (C := RX10) (T := TX10) (N := 8) hx hb hT inF_X10 hown hK.1 hP 0 rfl rfl 5 (by decide) (hT _ bw_591) (fun _ h9 => h9) rfl dX10_takeDigits_68 ?_
    refine lv_icmp_ge (tgt := 93) hx hb dX10_takeDigits_71 (by decide) (fun c_7 => ?_) (fun c_7 => ?_)
    · have f_8 := E_le (rfl : blength.toInt = _) (rfl : L_1.toInt = _) c_7
      refine lv_iconst (v := 0) hx hb dX10_takeDigits_93 (by decide) ?_
      refine lv_istore_n (lv' := [(1, .int 0), (0, .ref h)]) hx hb dX10_takeDigits_94 rfl hl (by decide) rfl (fun ls hl => ?_)
      refine lv_aload_n hx hb dX10_takeDigits_95 rfl (lv_at hl 1 rfl) ?_
      refine lv_aload_n hx hb dX10_takeDigits_96 rfl (lv_at hl 1 rfl) ?_
      refine va_get (D := g.1) (ci := 10) (v := .int L_1) (C := RX10) (T := TX10) (N := 8) hx hb hT inF_X10 hown hK.1 hP 0 rfl rfl 6 (by decide) (hT _ bw_590) (fun _ h9 => h9) rfl dX10_takeDigits_97 ?_
      refine lv_aload_n hx hb dX10_takeDigits_100 rfl (lv_at hl 1 rfl) ?_
      refine va_get (D := g.1) (ci := 10) (v := .int bplace) (C := RX10) (T := TX10) (N := 8) hx hb hT inF_X10 hown hK.1 hP 0 rfl rfl 1 (by decide) (hT _ bw_596) (fun _ h9 => h9) rfl dX10_takeDigits_101 ?_
      refine lv_isub hx hb dX10_takeDigits_104 ?_
      refine lv_topi (fun x_9 ex_9 => ?_)
      refine lv_iconst (v := 4) hx hb dX10_takeDigits_105 (by decide) ?_
      refine lv_icmp_gt (tgt := 113) hx hb dX10_takeDigits_106 (by decide) (fun c_10 => ?_) (fun c_10 => ?_)
      · have f_11 := E_lt (by decide : (4 : Int32).toInt = 4) (rfl : x_9.toInt = _) c_10
        refine lv_iconst (v := 1) hx hb dX10_takeDigits_113 (by decide) ?_
        refine lv_goto (tgt := 118) hx hb dX10_takeDigits_114 (by decide) ?_
        refine va_put (D := g.1) (ci := 10) (v := .int 1) (ty := .int) (C := RX10) (T := TX10) (N := 8) hx hb hT inF_X10 tyX10 tyX10_ok nmX10 hown hK.1 hP hD hS 0 rfl rfl 0 (by decide) (hT _ bw_409) (fun _ h9 => h9) rfl (by decide +kernel) rfl rfl (Nat.le_of_ble_eq_true rfl) dX10_takeDigits_118 (fun H locs hP hD hS => ?_)
        have hP : va_P g.1 vwCl [(h, .inr (10, [.int 1, .int bplace, .int L_2, .long bname, .ref btext, .int blength, .int L_1, .ref bwords])), (btext, aB g 1600 Fbtext)] H := hP
        have hD : va_D A [(h, .inr (10, [.int 1, .int bplace, .int L_2, .long bname, .ref btext, .int blength, .int L_1, .ref bwords])), (btext, aB g 1600 Fbtext)] := hD
        have hP9 : va_P g.1 vwCl [(h, .inr (10, [.int 1, .int bplace, .int L_2, .long bname, .ref btext, .int blength, .int L_1, .ref bwords])), (btext, aB g 1600 Fbtext)] H := hP.sub [0, 1] rfl
        have hD9 : va_D A [(h, .inr (10, [.int 1, .int bplace, .int L_2, .long bname, .ref btext, .int blength, .int L_1, .ref bwords])), (btext, aB g 1600 Fbtext)] := hD.sub [0, 1] (by decide +kernel) rfl
        exact W.vret hx hb hr (fun t ht hW => ⟨⟨(1, L_2, L_1), rfl, ⟨⟨by decide, by decide⟩, (by first | with_reducible assumption | omega)⟩, by rw [ht]; exact hP9, by rw [hAe]; exact hD9⟩, hS.F ht⟩) hS.2.2 dX10_takeDigits_121
      · have f_12 := E_nlt (by decide : (4 : Int32).toInt = 4) (rfl : x_9.toInt = _) c_10
        refine lv_iload_n hx hb dX10_takeDigits_109 rfl (lv_at hl 0 rfl) ?_
        refine lv_if_eq (tgt := 117) hx hb dX10_takeDigits_110 (by decide) (fun _ => ?_) (fun c9 => absurd (by decide) c9)
        refine lv_iconst (v := 4) hx hb dX10_takeDigits_117 (by decide) ?_
        refine va_put (D := g.1) (ci := 10) (v := .int 4) (ty := .int) (C := RX10) (T := TX10) (N := 8) hx hb hT inF_X10 tyX10 tyX10_ok nmX10 hown hK.1 hP hD hS 0 rfl rfl 0 (by decide) (hT _ bw_409) (fun _ h9 => h9) rfl (by decide +kernel) rfl rfl (Nat.le_of_ble_eq_true rfl) dX10_takeDigits_118 (fun H locs hP hD hS => ?_)
        have hP : va_P g.1 vwCl [(h, .inr (10, [.int 4, .int bplace, .int L_2, .long bname, .ref btext, .int blength, .int L_1, .ref bwords])), (btext, aB g 1600 Fbtext)] H := hP
        have hD : va_D A [(h, .inr (10, [.int 4, .int bplace, .int L_2, .long bname, .ref btext, .int blength, .int L_1, .ref bwords])), (btext, aB g 1600 Fbtext)] := hD
        have hP9 : va_P g.1 vwCl [(h, .inr (10, [.int 4, .int bplace, .int L_2, .long bname, .ref btext, .int blength, .int L_1, .ref bwords])), (btext, aB g 1600 Fbtext)] H := hP.sub [0, 1] rfl
        have hD9 : va_D A [(h, .inr (10, [.int 4, .int bplace, .int L_2, .long bname, .ref btext, .int blength, .int L_1, .ref bwords])), (btext, aB g 1600 Fbtext)] := hD.sub [0, 1] (by decide +kernel) rfl
        exact W.vret hx hb hr (fun t ht hW => ⟨⟨(4, L_2, L_1), rfl, ⟨⟨by decide, by decide⟩, (by first | with_reducible assumption | omega)⟩, by rw [ht]; exact hP9, by rw [hAe]; exact hD9⟩, hS.F ht⟩) hS.2.2 dX10_takeDigits_121
    · have f_13 := E_nle (rfl : blength.toInt = _) (rfl : L_1.toInt = _) c_7
      refine lv_aload_n hx hb dX10_takeDigits_74 rfl (lv_at hl 0 rfl) ?_
      refine va_get (D := g.1) (ci := 10) (v := .ref btext) (C := RX10) (T := TX10) (N := 8) hx hb hT inF_X10 hown hK.1 hP 0 rfl rfl 4 (by decide) (hT _ bw_597) (fun _ h9 => h9) rfl dX10_takeDigits_75 ?_
      refine lv_aload_n hx hb dX10_takeDigits_78 rfl (lv_at hl 0 rfl) ?_
      refine va_get (D := g.1) (ci := 10) (v := .int L_1) (C := RX10) (T := TX10) (N := 8) hx hb hT inF_X10 hown hK.1 hP 0 rfl rfl 6 (by decide) (hT _ bw_590) (fun _ h9 => h9) rfl dX10_takeDigits_79 ?_
      have h_14 : vp_in L_1 1600 := vp_in_iff.mpr (by omega)
      refine va_bald hx hb hK.1 hP 1 0 rfl rfl (i := L_1) h_14 dX10_takeDigits_82 ?_
      refine lv_topi (fun x_15 ex_15 => ?_)
      have ux_15 := congrArg Int32.toInt ex_15
      refine k_iR (k_S (n := 1) ⟨hx, hb, hml, hown, hT⟩ hK hP hD [] rfl (by decide +kernel) (s_X10_isLetter l g H.size x_15) (gS bw_598 bw_599 bw_600 bw_405) rfl rfl (by decide +kernel) ⟨by decide, by decide⟩ (fun _ _ _ _ _ => trivial) (fun _ _ _ => trivial) rfl rfl hl.1 (Nat.le_of_ble_eq_true rfl) dX10_takeDigits_83 ⟨by decide, by decide⟩) hP hS hA (fun r_16 _ H locs hw0 hP hS => ?_)
      have hw : 0 ≤ r_16.toInt ∧ r_16.toInt ≤ 1 := hw0
      clear hw0
      have w_17 := hw
      refine lv_if_eq (tgt := 93) hx hb dX10_takeDigits_86 (by decide) (fun c_18 => ?_) (fun c_18 => ?_)
      · have f_19 := E_eq (rfl : r_16.toInt = _) (by decide : (0 : Int32).toInt = 0) c_18
        refine lv_iconst (v := 0) hx hb dX10_takeDigits_93 (by decide) ?_
        refine lv_istore_n (lv' := [(1, .int 0), (0, .ref h)]) hx hb dX10_takeDigits_94 rfl hl (by decide) rfl (fun ls hl => ?_)
        refine lv_aload_n hx hb dX10_takeDigits_95 rfl (lv_at hl 1 rfl) ?_
        refine lv_aload_n hx hb dX10_takeDigits_96 rfl (lv_at hl 1 rfl) ?_
        refine va_get (D := g.1) (ci := 10) (v := .int L_1) (C := RX10) (T := TX10) (N := 8) hx hb hT inF_X10 hown hK.1 hP 0 rfl rfl 6 (by decide) (hT _ bw_590) (fun _ h9 => h9) rfl dX10_takeDigits_97 ?_
        refine lv_aload_n hx hb dX10_takeDigits_100 rfl (lv_at hl 1 rfl) ?_
        refine va_get (D := g.1) (ci := 10) (v := .int bplace) (C := RX10) (T := TX10) (N := 8) hx hb hT inF_X10 hown hK.1 hP 0 rfl rfl 1 (by decide) (hT _ bw_596) (fun _ h9 => h9) rfl dX10_takeDigits_101 ?_
        refine lv_isub hx hb dX10_takeDigits_104 ?_
        refine lv_topi (fun x_20 ex_20 => ?_)
        refine lv_iconst (v := 4) hx hb dX10_takeDigits_105 (by decide) ?_
        refine lv_icmp_gt (tgt := 113) hx hb dX10_takeDigits_106 (by decide) (fun c_21 => ?_) (fun c_21 => ?_)
        · have f_22 := E_lt (by decide : (4 : Int32).toInt = 4) (rfl : x_20.toInt = _) c_21
          refine lv_iconst (v := 1) hx hb dX10_takeDigits_113 (by decide) ?_
          refine lv_goto (tgt := 118) hx hb dX10_takeDigits_114 (by decide) ?_
          refine va_put (D := g.1) (ci := 10) (v := .int 1) (ty := .int) (C := RX10) (T := TX10) (N := 8) hx hb hT inF_X10 tyX10 tyX10_ok nmX10 hown hK.1 hP hD hS 0 rfl rfl 0 (by decide) (hT _ bw_409) (fun _ h9 => h9) rfl (by decide +kernel) rfl rfl (Nat.le_of_ble_eq_true rfl) dX10_takeDigits_118 (fun H locs hP hD hS => ?_)
          have hP : va_P g.1 vwCl [(h, .inr (10, [.int 1, .int bplace, .int L_2, .long bname, .ref btext, .int blength, .int L_1, .ref bwords])), (btext, aB g 1600 Fbtext)] H := hP
          have hD : va_D A [(h, .inr (10, [.int 1, .int bplace, .int L_2, .long bname, .ref btext, .int blength, .int L_1, .ref bwords])), (btext, aB g 1600 Fbtext)] := hD
          have hP9 : va_P g.1 vwCl [(h, .inr (10, [.int 1, .int bplace, .int L_2, .long bname, .ref btext, .int blength, .int L_1, .ref bwords])), (btext, aB g 1600 Fbtext)] H := hP.sub [0, 1] rfl
          have hD9 : va_D A [(h, .inr (10, [.int 1, .int bplace, .int L_2, .long bname, .ref btext, .int blength, .int L_1, .ref bwords])), (btext, aB g 1600 Fbtext)] := hD.sub [0, 1] (by decide +kernel) rfl
          exact W.vret hx hb hr (fun t ht hW => ⟨⟨(1, L_2, L_1), rfl, ⟨⟨by decide, by decide⟩, (by first | with_reducible assumption | omega)⟩, by rw [ht]; exact hP9, by rw [hAe]; exact hD9⟩, hS.F ht⟩) hS.2.2 dX10_takeDigits_121
        · have f_23 := E_nlt (by decide : (4 : Int32).toInt = 4) (rfl : x_20.toInt = _) c_21
          refine lv_iload_n hx hb dX10_takeDigits_109 rfl (lv_at hl 0 rfl) ?_
          refine lv_if_eq (tgt := 117) hx hb dX10_takeDigits_110 (by decide) (fun _ => ?_) (fun c9 => absurd (by decide) c9)
          refine lv_iconst (v := 4) hx hb dX10_takeDigits_117 (by decide) ?_
          refine va_put (D := g.1) (ci := 10) (v := .int 4) (ty := .int) (C := RX10) (T := TX10) (N := 8) hx hb hT inF_X10 tyX10 tyX10_ok nmX10 hown hK.1 hP hD hS 0 rfl rfl 0 (by decide) (hT _ bw_409) (fun _ h9 => h9) rfl (by decide +kernel) rfl rfl (Nat.le_of_ble_eq_true rfl) dX10_takeDigits_118 (fun H locs hP hD hS => ?_)
          have hP : va_P g.1 vwCl [(h, .inr (10, [.int 4, .int bplace, .int L_2, .long bname, .ref btext, .int blength, .int L_1, .ref bwords])), (btext, aB g 1600 Fbtext)] H := hP
          have hD : va_D A [(h, .inr (10, [.int 4, .int bplace, .int L_2, .long bname, .ref btext, .int blength, .int L_1, .ref bwords])), (btext, aB g 1600 Fbtext)] := hD
          have hP9 : va_P g.1 vwCl [(h, .inr (10, [.int 4, .int bplace, .int L_2, .long bname, .ref btext, .int blength, .int L_1, .ref bwords])), (btext, aB g 1600 Fbtext)] H := hP.sub [0, 1] rfl
          have hD9 : va_D A [(h, .inr (10, [.int 4, .int bplace, .int L_2, .long bname, .ref btext, .int blength, .int L_1, .ref bwords])), (btext, aB g 1600 Fbtext)] := hD.sub [0, 1] (by decide +kernel) rfl
          exact W.vret hx hb hr (fun t ht hW => ⟨⟨(4, L_2, L_1), rfl, ⟨⟨by decide, by decide⟩, (by first | with_reducible assumption | omega)⟩, by rw [ht]; exact hP9, by rw [hAe]; exact hD9⟩, hS.F ht⟩) hS.2.2 dX10_takeDigits_121
      · have f_24 := E_ne (rfl : r_16.toInt = _) (by decide : (0 : Int32).toInt = 0) c_18
        refine lv_iconst (v := 1) hx hb dX10_takeDigits_89 (by decide) ?_
        refine lv_goto (tgt := 94) hx hb dX10_takeDigits_90 (by decide) ?_
        refine lv_istore_n (lv' := [(1, .int 1), (0, .ref h)]) hx hb dX10_takeDigits_94 rfl hl (by decide) rfl (fun ls hl => ?_)
        refine lv_aload_n hx hb dX10_takeDigits_95 rfl (lv_at hl 1 rfl) ?_
        refine lv_aload_n hx hb dX10_takeDigits_96 rfl (lv_at hl 1 rfl) ?_
        refine va_get (D := g.1) (ci := 10) (v := .int L_1) (C := RX10) (T := TX10) (N := 8) hx hb hT inF_X10 hown hK.1 hP 0 rfl rfl 6 (by decide) (hT _ bw_590) (fun _ h9 => h9) rfl dX10_takeDigits_97 ?_
        refine lv_aload_n hx hb dX10_takeDigits_100 rfl (lv_at hl 1 rfl) ?_
        refine va_get (D := g.1) (ci := 10) (v := .int bplace) (C := RX10) (T := TX10) (N := 8) hx hb hT inF_X10 hown hK.1 hP 0 rfl rfl 1 (by decide) (hT _ bw_596) (fun _ h9 => h9) rfl dX10_takeDigits_101 ?_
        refine lv_isub hx hb dX10_takeDigits_104 ?_
        refine lv_topi (fun x_25 ex_25 => ?_)
        refine lv_iconst (v := 4) hx hb dX10_takeDigits_105 (by decide) ?_
        refine lv_icmp_gt (tgt := 113) hx hb dX10_takeDigits_106 (by decide) (fun c_26 => ?_) (fun c_26 => ?_)
        · have f_27 := E_lt (by decide : (4 : Int32).toInt = 4) (rfl : x_25.toInt = _) c_26
          refine lv_iconst (v := 1) hx hb dX10_takeDigits_113 (by decide) ?_
          refine lv_goto (tgt := 118) hx hb dX10_takeDigits_114 (by decide) ?_
          refine va_put (D := g.1) (ci := 10) (v := .int 1) (ty := .int) (C := RX10) (T := TX10) (N := 8) hx hb hT inF_X10 tyX10 tyX10_ok nmX10 hown hK.1 hP hD hS 0 rfl rfl 0 (by decide) (hT _ bw_409) (fun _ h9 => h9) rfl (by decide +kernel) rfl rfl (Nat.le_of_ble_eq_true rfl) dX10_takeDigits_118 (fun H locs hP hD hS => ?_)
          have hP : va_P g.1 vwCl [(h, .inr (10, [.int 1, .int bplace, .int L_2, .long bname, .ref btext, .int blength, .int L_1, .ref bwords])), (btext, aB g 1600 Fbtext)] H := hP
          have hD : va_D A [(h, .inr (10, [.int 1, .int bplace, .int L_2, .long bname, .ref btext, .int blength, .int L_1, .ref bwords])), (btext, aB g 1600 Fbtext)] := hD
          have hP9 : va_P g.1 vwCl [(h, .inr (10, [.int 1, .int bplace, .int L_2, .long bname, .ref btext, .int blength, .int L_1, .ref bwords])), (btext, aB g 1600 Fbtext)] H := hP.sub [0, 1] rfl
          have hD9 : va_D A [(h, .inr (10, [.int 1, .int bplace, .int L_2, .long bname, .ref btext, .int blength, .int L_1, .ref bwords])), (btext, aB g 1600 Fbtext)] := hD.sub [0, 1] (by decide +kernel) rfl
          exact W.vret hx hb hr (fun t ht hW => ⟨⟨(1, L_2, L_1), rfl, ⟨⟨by decide, by decide⟩, (by first | with_reducible assumption | omega)⟩, by rw [ht]; exact hP9, by rw [hAe]; exact hD9⟩, hS.F ht⟩) hS.2.2 dX10_takeDigits_121
        · have f_28 := E_nlt (by decide : (4 : Int32).toInt = 4) (rfl : x_25.toInt = _) c_26
          refine lv_iload_n hx hb dX10_takeDigits_109 rfl (lv_at hl 0 rfl) ?_
          refine lv_if_eq (tgt := 117) hx hb dX10_takeDigits_110 (by decide) (fun c9 => absurd c9 (by decide)) (fun _ => ?_)
          refine lv_iconst (v := 1) hx hb dX10_takeDigits_113 (by decide) ?_
          refine lv_goto (tgt := 118) hx hb dX10_takeDigits_114 (by decide) ?_
          refine va_put (D := g.1) (ci := 10) (v := .int 1) (ty := .int) (C := RX10) (T := TX10) (N := 8) hx hb hT inF_X10 tyX10 tyX10_ok nmX10 hown hK.1 hP hD hS 0 rfl rfl 0 (by decide) (hT _ bw_409) (fun _ h9 => h9) rfl (by decide +kernel) rfl rfl (Nat.le_of_ble_eq_true rfl) dX10_takeDigits_118 (fun H locs hP hD hS => ?_)
          have hP : va_P g.1 vwCl [(h, .inr (10, [.int 1, .int bplace, .int L_2, .long bname, .ref btext, .int blength, .int L_1, .ref bwords])), (btext, aB g 1600 Fbtext)] H := hP
          have hD : va_D A [(h, .inr (10, [.int 1, .int bplace, .int L_2, .long bname, .ref btext, .int blength, .int L_1, .ref bwords])), (btext, aB g 1600 Fbtext)] := hD
          have hP9 : va_P g.1 vwCl [(h, .inr (10, [.int 1, .int bplace, .int L_2, .long bname, .ref btext, .int blength, .int L_1, .ref bwords])), (btext, aB g 1600 Fbtext)] H := hP.sub [0, 1] rfl
          have hD9 : va_D A [(h, .inr (10, [.int 1, .int bplace, .int L_2, .long bname, .ref btext, .int blength, .int L_1, .ref bwords])), (btext, aB g 1600 Fbtext)] := hD.sub [0, 1] (by decide +kernel) rfl
          exact W.vret hx hb hr (fun t ht hW => ⟨⟨(1, L_2, L_1), rfl, ⟨⟨by decide, by decide⟩, (by first | with_reducible assumption | omega)⟩, by rw [ht]; exact hP9, by rw [hAe]; exact hD9⟩, hS.F ht⟩) hS.2.2 dX10_takeDigits_121
  · have f_29 := E_nle (rfl : blength.toInt = _) (rfl : L_1.toInt = _) c_5
    refine lv_aload_n hx hb dX10_takeDigits_11 rfl (lv_at hl 0 rfl) ?_
    refine va_get (D := g.1) (ci := 10) (v := .ref btext) (C := RX10) (T := TX10) (N := 8) hx hb hT inF_X10 hown hK.1 hP 0 rfl rfl 4 (by decide) (hT _ bw_597) (fun _ h9 => h9) rfl dX10_takeDigits_12 ?_
    refine lv_aload_n hx hb dX10_takeDigits_15 rfl (lv_at hl 0 rfl) ?_
    refine va_get (D := g.1) (ci := 10) (v := .int L_1) (C := RX10) (T := TX10) (N := 8) hx hb hT inF_X10 hown hK.1 hP 0 rfl rfl 6 (by decide) (hT _ bw_590) (fun _ h9 => h9) rfl dX10_takeDigits_16 ?_
    have h_30 : vp_in L_1 1600 := vp_in_iff.mpr (by omega)
    refine va_bald hx hb hK.1 hP 1 0 rfl rfl (i := L_1) h_30 dX10_takeDigits_19 ?_
    refine lv_topi (fun x_31 ex_31 => ?_)
    have ux_31 := congrArg Int32.toInt ex_31
    refine k_iR (k_S (n := 1) ⟨hx, hb, hml, hown, hT⟩ hK hP hD [] rfl (by decide +kernel) (s_X10_isDigit l g H.size x_31) (gS bw_605 bw_606 bw_607 bw_406) rfl rfl (by decide +kernel) ⟨by decide, by decide⟩ (fun _ _ _ _ _ => trivial) (fun _ _ _ => trivial) rfl rfl hl.1 (Nat.le_of_ble_eq_true rfl) dX10_takeDigits_20 ⟨by decide, by decide⟩) hP hS hA (fun r_32 _ H locs hw0 hP hS => ?_)
    have hw : 0 ≤ r_32.toInt ∧ r_32.toInt ≤ 1 := hw0
    clear hw0
    have w_33 := hw
    refine lv_if_eq (tgt := 63) hx hb dX10_takeDigits_23 (by decide) (fun c_34 => ?_) (fun c_34 => ?_)
    · have f_35 := E_eq (rfl : r_32.toInt = _) (by decide : (0 : Int32).toInt = 0) c_34
      refine lv_aload_n hx hb dX10_takeDigits_63 rfl (lv_at hl 0 rfl) ?_
      refine va_get (D := g.1) (ci := 10) (v := .int L_1) (C := RX10) (T := TX10) (N := 8) hx hb hT inF_X10 hown hK.1 hP 0 rfl rfl 6 (by decide) (hT _ bw_590) (fun _ h9 => h9) rfl dX10_takeDigits_64 ?_
      refine lv_aload_n hx hb dX10_takeDigits_67 rfl (lv_at hl 0 rfl) ?_
      refine va_get (D := g.1) (ci := 10) (v := .int blength) (C := RX10) (T := TX10) (N := 8) hx hb hT inF_X10 hown hK.1 hP 0 rfl rfl 5 (by decide) (hT _ bw_591) (fun _ h9 => h9) rfl dX10_takeDigits_68 ?_
      refine lv_icmp_ge (tgt := 93) hx hb dX10_takeDigits_71 (by decide) (fun c_36 => ?_) (fun c_36 => ?_)
      · have f_37 := E_le (rfl : blength.toInt = _) (rfl : L_1.toInt = _) c_36
        refine lv_iconst (v := 0) hx hb dX10_takeDigits_93 (by decide) ?_
        refine lv_istore_n (lv' := [(1, .int 0), (0, .ref h)]) hx hb dX10_takeDigits_94 rfl hl (by decide) rfl (fun ls hl => ?_)
        refine lv_aload_n hx hb dX10_takeDigits_95 rfl (lv_at hl 1 rfl) ?_
        refine lv_aload_n hx hb dX10_takeDigits_96 rfl (lv_at hl 1 rfl) ?_
        refine va_get (D := g.1) (ci := 10) (v := .int L_1) (C := RX10) (T := TX10) (N := 8) hx hb hT inF_X10 hown hK.1 hP 0 rfl rfl 6 (by decide) (hT _ bw_590) (fun _ h9 => h9) rfl dX10_takeDigits_97 ?_
        refine lv_aload_n hx hb dX10_takeDigits_100 rfl (lv_at hl 1 rfl) ?_
        refine va_get (D := g.1) (ci := 10) (v := .int bplace) (C := RX10) (T := TX10) (N := 8) hx hb hT inF_X10 hown hK.1 hP 0 rfl rfl 1 (by decide) (hT _ bw_596) (fun _ h9 => h9) rfl dX10_takeDigits_101 ?_
        refine lv_isub hx hb dX10_takeDigits_104 ?_
        refine lv_topi (fun x_38 ex_38 => ?_)
        refine lv_iconst (v := 4) hx hb dX10_takeDigits_105 (by decide) ?_
        refine lv_icmp_gt (tgt := 113) hx hb dX10_takeDigits_106 (by decide) (fun c_39 => ?_) (fun c_39 => ?_)
        · have f_40 := E_lt (by decide : (4 : Int32).toInt = 4) (rfl : x_38.toInt = _) c_39
          refine lv_iconst (v := 1) hx hb dX10_takeDigits_113 (by decide) ?_
          refine lv_goto (tgt := 118) hx hb dX10_takeDigits_114 (by decide) ?_
          refine va_put (D := g.1) (ci := 10) (v := .int 1) (ty := .int) (C := RX10) (T := TX10) (N := 8) hx hb hT inF_X10 tyX10 tyX10_ok nmX10 hown hK.1 hP hD hS 0 rfl rfl 0 (by decide) (hT _ bw_409) (fun _ h9 => h9) rfl (by decide +kernel) rfl rfl (Nat.le_of_ble_eq_true rfl) dX10_takeDigits_118 (fun H locs hP hD hS => ?_)
          have hP : va_P g.1 vwCl [(h, .inr (10, [.int 1, .int bplace, .int L_2, .long bname, .ref btext, .int blength, .int L_1, .ref bwords])), (btext, aB g 1600 Fbtext)] H := hP
          have hD : va_D A [(h, .inr (10, [.int 1, .int bplace, .int L_2, .long bname, .ref btext, .int blength, .int L_1, .ref bwords])), (btext, aB g 1600 Fbtext)] := hD
          have hP9 : va_P g.1 vwCl [(h, .inr (10, [.int 1, .int bplace, .int L_2, .long bname, .ref btext, .int blength, .int L_1, .ref bwords])), (btext, aB g 1600 Fbtext)] H := hP.sub [0, 1] rfl
          have hD9 : va_D A [(h, .inr (10, [.int 1, .int bplace, .int L_2, .long bname, .ref btext, .int blength, .int L_1, .ref bwords])), (btext, aB g 1600 Fbtext)] := hD.sub [0, 1] (by decide +kernel) rfl
          exact W.vret hx hb hr (fun t ht hW => ⟨⟨(1, L_2, L_1), rfl, ⟨⟨by decide, by decide⟩, (by first | with_reducible assumption | omega)⟩, by rw [ht]; exact hP9, by rw [hAe]; exact hD9⟩, hS.F ht⟩) hS.2.2 dX10_takeDigits_121
        · have f_41 := E_nlt (by decide : (4 : Int32).toInt = 4) (rfl : x_38.toInt = _) c_39
          refine lv_iload_n hx hb dX10_takeDigits_109 rfl (lv_at hl 0 rfl) ?_
          refine lv_if_eq (tgt := 117) hx hb dX10_takeDigits_110 (by decide) (fun _ => ?_) (fun c9 => absurd (by decide) c9)
          refine lv_iconst (v := 4) hx hb dX10_takeDigits_117 (by decide) ?_
          refine va_put (D := g.1) (ci := 10) (v := .int 4) (ty := .int) (C := RX10) (T := TX10) (N := 8) hx hb hT inF_X10 tyX10 tyX10_ok nmX10 hown hK.1 hP hD hS 0 rfl rfl 0 (by decide) (hT _ bw_409) (fun _ h9 => h9) rfl (by decide +kernel) rfl rfl (Nat.le_of_ble_eq_true rfl) dX10_takeDigits_118 (fun H locs hP hD hS => ?_)
          have hP : va_P g.1 vwCl [(h, .inr (10, [.int 4, .int bplace, .int L_2, .long bname, .ref btext, .int blength, .int L_1, .ref bwords])), (btext, aB g 1600 Fbtext)] H := hP
          have hD : va_D A [(h, .inr (10, [.int 4, .int bplace, .int L_2, .long bname, .ref btext, .int blength, .int L_1, .ref bwords])), (btext, aB g 1600 Fbtext)] := hD
          have hP9 : va_P g.1 vwCl [(h, .inr (10, [.int 4, .int bplace, .int L_2, .long bname, .ref btext, .int blength, .int L_1, .ref bwords])), (btext, aB g 1600 Fbtext)] H := hP.sub [0, 1] rfl
          have hD9 : va_D A [(h, .inr (10, [.int 4, .int bplace, .int L_2, .long bname, .ref btext, .int blength, .int L_1, .ref bwords])), (btext, aB g 1600 Fbtext)] := hD.sub [0, 1] (by decide +kernel) rfl
          exact W.vret hx hb hr (fun t ht hW => ⟨⟨(4, L_2, L_1), rfl, ⟨⟨by decide, by decide⟩, (by first | with_reducible assumption | omega)⟩, by rw [ht]; exact hP9, by rw [hAe]; exact hD9⟩, hS.F ht⟩) hS.2.2 dX10_takeDigits_121
      · have f_42 := E_nle (rfl : blength.toInt = _) (rfl : L_1.toInt = _) c_36
        refine lv_aload_n hx hb dX10_takeDigits_74 rfl (lv_at hl 0 rfl) ?_
        refine va_get (D := g.1) (ci := 10) (v := .ref btext) (C := RX10) (T := TX10) (N := 8) hx hb hT inF_X10 hown hK.1 hP 0 rfl rfl 4 (by decide) (hT _ bw_597) (fun _ h9 => h9) rfl dX10_takeDigits_75 ?_
        refine lv_aload_n hx hb dX10_takeDigits_78 rfl (lv_at hl 0 rfl) ?_
        refine va_get (D := g.1) (ci := 10) (v := .int L_1) (C := RX10) (T := TX10) (N := 8) hx hb hT inF_X10 hown hK.1 hP 0 rfl rfl 6 (by decide) (hT _ bw_590) (fun _ h9 => h9) rfl dX10_takeDigits_79 ?_
        have h_43 : vp_in L_1 1600 := vp_in_iff.mpr (by omega)
        refine va_bald hx hb hK.1 hP 1 0 rfl rfl (i := L_1) h_43 dX10_takeDigits_82 ?_
        refine lv_topi (fun x_44 ex_44 => ?_)
        have ux_44 := congrArg Int32.toInt ex_44
        refine k_iR (k_S (n := 1) ⟨hx, hb, hml, hown, hT⟩ hK hP hD [] rfl (by decide +kernel) (s_X10_isLetter l g H.size x_44) (gS bw_598 bw_599 bw_600 bw_405) rfl rfl (by decide +kernel) ⟨by decide, by decide⟩ (fun _ _ _ _ _ => trivial) (fun _ _ _ => trivial) rfl rfl hl.1 (Nat.le_of_ble_eq_true rfl) dX10_takeDigits_83 ⟨by decide, by decide⟩) hP hS hA (fun r_45 _ H locs hw0 hP hS => ?_)
        have hw : 0 ≤ r_45.toInt ∧ r_45.toInt ≤ 1 := hw0
        clear hw0
        have w_46 := hw
        refine lv_if_eq (tgt := 93) hx hb dX10_takeDigits_86 (by decide) (fun c_47 => ?_) (fun c_47 => ?_)
        · have f_48 := E_eq (rfl : r_45.toInt = _) (by decide : (0 : Int32).toInt = 0) c_47
          refine lv_iconst (v := 0) hx hb dX10_takeDigits_93 (by decide) ?_
          refine lv_istore_n (lv' := [(1, .int 0), (0, .ref h)]) hx hb dX10_takeDigits_94 rfl hl (by decide) rfl (fun ls hl => ?_)
          refine lv_aload_n hx hb dX10_takeDigits_95 rfl (lv_at hl 1 rfl) ?_
          refine lv_aload_n hx hb dX10_takeDigits_96 rfl (lv_at hl 1 rfl) ?_
          refine va_get (D := g.1) (ci := 10) (v := .int L_1) (C := RX10) (T := TX10) (N := 8) hx hb hT inF_X10 hown hK.1 hP 0 rfl rfl 6 (by decide) (hT _ bw_590) (fun _ h9 => h9) rfl dX10_takeDigits_97 ?_
          refine lv_aload_n hx hb dX10_takeDigits_100 rfl (lv_at hl 1 rfl) ?_
          refine va_get (D := g.1) (ci := 10) (v := .int bplace) (C := RX10) (T := TX10) (N := 8) hx hb hT inF_X10 hown hK.1 hP 0 rfl rfl 1 (by decide) (hT _ bw_596) (fun _ h9 => h9) rfl dX10_takeDigits_101 ?_
          refine lv_isub hx hb dX10_takeDigits_104 ?_
          refine lv_topi (fun x_49 ex_49 => ?_)
          refine lv_iconst (v := 4) hx hb dX10_takeDigits_105 (by decide) ?_
          refine lv_icmp_gt (tgt := 113) hx hb dX10_takeDigits_106 (by decide) (fun c_50 => ?_) (fun c_50 => ?_)
          · have f_51 := E_lt (by decide : (4 : Int32).toInt = 4) (rfl : x_49.toInt = _) c_50
            refine lv_iconst (v := 1) hx hb dX10_takeDigits_113 (by decide) ?_
            refine lv_goto (tgt := 118) hx hb dX10_takeDigits_114 (by decide) ?_
            refine va_put (D := g.1) (ci := 10) (v := .int 1) (ty := .int) (C := RX10) (T := TX10) (N := 8) hx hb hT inF_X10 tyX10 tyX10_ok nmX10 hown hK.1 hP hD hS 0 rfl rfl 0 (by decide) (hT _ bw_409) (fun _ h9 => h9) rfl (by decide +kernel) rfl rfl (Nat.le_of_ble_eq_true rfl) dX10_takeDigits_118 (fun H locs hP hD hS => ?_)
            have hP : va_P g.1 vwCl [(h, .inr (10, [.int 1, .int bplace, .int L_2, .long bname, .ref btext, .int blength, .int L_1, .ref bwords])), (btext, aB g 1600 Fbtext)] H := hP
            have hD : va_D A [(h, .inr (10, [.int 1, .int bplace, .int L_2, .long bname, .ref btext, .int blength, .int L_1, .ref bwords])), (btext, aB g 1600 Fbtext)] := hD
            have hP9 : va_P g.1 vwCl [(h, .inr (10, [.int 1, .int bplace, .int L_2, .long bname, .ref btext, .int blength, .int L_1, .ref bwords])), (btext, aB g 1600 Fbtext)] H := hP.sub [0, 1] rfl
            have hD9 : va_D A [(h, .inr (10, [.int 1, .int bplace, .int L_2, .long bname, .ref btext, .int blength, .int L_1, .ref bwords])), (btext, aB g 1600 Fbtext)] := hD.sub [0, 1] (by decide +kernel) rfl
            exact W.vret hx hb hr (fun t ht hW => ⟨⟨(1, L_2, L_1), rfl, ⟨⟨by decide, by decide⟩, (by first | with_reducible assumption | omega)⟩, by rw [ht]; exact hP9, by rw [hAe]; exact hD9⟩, hS.F ht⟩) hS.2.2 dX10_takeDigits_121
          · have f_52 := E_nlt (by decide : (4 : Int32).toInt = 4) (rfl : x_49.toInt = _) c_50
            refine lv_iload_n hx hb dX10_takeDigits_109 rfl (lv_at hl 0 rfl) ?_
            refine lv_if_eq (tgt := 117) hx hb dX10_takeDigits_110 (by decide) (fun _ => ?_) (fun c9 => absurd (by decide) c9)
            refine lv_iconst (v := 4) hx hb dX10_takeDigits_117 (by decide) ?_
            refine va_put (D := g.1) (ci := 10) (v := .int 4) (ty := .int) (C := RX10) (T := TX10) (N := 8) hx hb hT inF_X10 tyX10 tyX10_ok nmX10 hown hK.1 hP hD hS 0 rfl rfl 0 (by decide) (hT _ bw_409) (fun _ h9 => h9) rfl (by decide +kernel) rfl rfl (Nat.le_of_ble_eq_true rfl) dX10_takeDigits_118 (fun H locs hP hD hS => ?_)
            have hP : va_P g.1 vwCl [(h, .inr (10, [.int 4, .int bplace, .int L_2, .long bname, .ref btext, .int blength, .int L_1, .ref bwords])), (btext, aB g 1600 Fbtext)] H := hP
            have hD : va_D A [(h, .inr (10, [.int 4, .int bplace, .int L_2, .long bname, .ref btext, .int blength, .int L_1, .ref bwords])), (btext, aB g 1600 Fbtext)] := hD
            have hP9 : va_P g.1 vwCl [(h, .inr (10, [.int 4, .int bplace, .int L_2, .long bname, .ref btext, .int blength, .int L_1, .ref bwords])), (btext, aB g 1600 Fbtext)] H := hP.sub [0, 1] rfl
            have hD9 : va_D A [(h, .inr (10, [.int 4, .int bplace, .int L_2, .long bname, .ref btext, .int blength, .int L_1, .ref bwords])), (btext, aB g 1600 Fbtext)] := hD.sub [0, 1] (by decide +kernel) rfl
            exact W.vret hx hb hr (fun t ht hW => ⟨⟨(4, L_2, L_1), rfl, ⟨⟨by decide, by decide⟩, (by first | with_reducible assumption | omega)⟩, by rw [ht]; exact hP9, by rw [hAe]; exact hD9⟩, hS.F ht⟩) hS.2.2 dX10_takeDigits_121
        · have f_53 := E_ne (rfl : r_45.toInt = _) (by decide : (0 : Int32).toInt = 0) c_47
          refine lv_iconst (v := 1) hx hb dX10_takeDigits_89 (by decide) ?_
          refine lv_goto (tgt := 94) hx hb dX10_takeDigits_90 (by decide) ?_
          refine lv_istore_n (lv' := [(1, .int 1), (0, .ref h)]) hx hb dX10_takeDigits_94 rfl hl (by decide) rfl (fun ls hl => ?_)
          refine lv_aload_n hx hb dX10_takeDigits_95 rfl (lv_at hl 1 rfl) ?_
          refine lv_aload_n hx hb dX10_takeDigits_96 rfl (lv_at hl 1 rfl) ?_
          refine va_get (D := g.1) (ci := 10) (v := .int L_1) (C := RX10) (T := TX10) (N := 8) hx hb hT inF_X10 hown hK.1 hP 0 rfl rfl 6 (by decide) (hT _ bw_590) (fun _ h9 => h9) rfl dX10_takeDigits_97 ?_
          refine lv_aload_n hx hb dX10_takeDigits_100 rfl (lv_at hl 1 rfl) ?_
          refine va_get (D := g.1) (ci := 10) (v := .int bplace) (C := RX10) (T := TX10) (N := 8) hx hb hT inF_X10 hown hK.1 hP 0 rfl rfl 1 (by decide) (hT _ bw_596) (fun _ h9 => h9) rfl dX10_takeDigits_101 ?_
          refine lv_isub hx hb dX10_takeDigits_104 ?_
          refine lv_topi (fun x_54 ex_54 => ?_)
          refine lv_iconst (v := 4) hx hb dX10_takeDigits_105 (by decide) ?_
          refine lv_icmp_gt (tgt := 113) hx hb dX10_takeDigits_106 (by decide) (fun c_55 => ?_) (fun c_55 => ?_)
          · have f_56 := E_lt (by decide : (4 : Int32).toInt = 4) (rfl : x_54.toInt = _) c_55
            refine lv_iconst (v := 1) hx hb dX10_takeDigits_113 (by decide) ?_
            refine lv_goto (tgt := 118) hx hb dX10_takeDigits_114 (by decide) ?_
            refine va_put (D := g.1) (ci := 10) (v := .int 1) (ty := .int) (C := RX10) (T := TX10) (N := 8) hx hb hT inF_X10 tyX10 tyX10_ok nmX10 hown hK.1 hP hD hS 0 rfl rfl 0 (by decide) (hT _ bw_409) (fun _ h9 => h9) rfl (by decide +kernel) rfl rfl (Nat.le_of_ble_eq_true rfl) dX10_takeDigits_118 (fun H locs hP hD hS => ?_)
            have hP : va_P g.1 vwCl [(h, .inr (10, [.int 1, .int bplace, .int L_2, .long bname, .ref btext, .int blength, .int L_1, .ref bwords])), (btext, aB g 1600 Fbtext)] H := hP
            have hD : va_D A [(h, .inr (10, [.int 1, .int bplace, .int L_2, .long bname, .ref btext, .int blength, .int L_1, .ref bwords])), (btext, aB g 1600 Fbtext)] := hD
            have hP9 : va_P g.1 vwCl [(h, .inr (10, [.int 1, .int bplace, .int L_2, .long bname, .ref btext, .int blength, .int L_1, .ref bwords])), (btext, aB g 1600 Fbtext)] H := hP.sub [0, 1] rfl
            have hD9 : va_D A [(h, .inr (10, [.int 1, .int bplace, .int L_2, .long bname, .ref btext, .int blength, .int L_1, .ref bwords])), (btext, aB g 1600 Fbtext)] := hD.sub [0, 1] (by decide +kernel) rfl
            exact W.vret hx hb hr (fun t ht hW => ⟨⟨(1, L_2, L_1), rfl, ⟨⟨by decide, by decide⟩, (by first | with_reducible assumption | omega)⟩, by rw [ht]; exact hP9, by rw [hAe]; exact hD9⟩, hS.F ht⟩) hS.2.2 dX10_takeDigits_121
          · have f_57 := E_nlt (by decide : (4 : Int32).toInt = 4) (rfl : x_54.toInt = _) c_55
            refine lv_iload_n hx hb dX10_takeDigits_109 rfl (lv_at hl 0 rfl) ?_
            refine lv_if_eq (tgt := 117) hx hb dX10_takeDigits_110 (by decide) (fun c9 => absurd c9 (by decide)) (fun _ => ?_)
            refine lv_iconst (v := 1) hx hb dX10_takeDigits_113 (by decide) ?_
            refine lv_goto (tgt := 118) hx hb dX10_takeDigits_114 (by decide) ?_
            refine va_put (D := g.1) (ci := 10) (v := .int 1) (ty := .int) (C := RX10) (T := TX10) (N := 8) hx hb hT inF_X10 tyX10 tyX10_ok nmX10 hown hK.1 hP hD hS 0 rfl rfl 0 (by decide) (hT _ bw_409) (fun _ h9 => h9) rfl (by decide +kernel) rfl rfl (Nat.le_of_ble_eq_true rfl) dX10_takeDigits_118 (fun H locs hP hD hS => ?_)
            have hP : va_P g.1 vwCl [(h, .inr (10, [.int 1, .int bplace, .int L_2, .long bname, .ref btext, .int blength, .int L_1, .ref bwords])), (btext, aB g 1600 Fbtext)] H := hP
            have hD : va_D A [(h, .inr (10, [.int 1, .int bplace, .int L_2, .long bname, .ref btext, .int blength, .int L_1, .ref bwords])), (btext, aB g 1600 Fbtext)] := hD
            have hP9 : va_P g.1 vwCl [(h, .inr (10, [.int 1, .int bplace, .int L_2, .long bname, .ref btext, .int blength, .int L_1, .ref bwords])), (btext, aB g 1600 Fbtext)] H := hP.sub [0, 1] rfl
            have hD9 : va_D A [(h, .inr (10, [.int 1, .int bplace, .int L_2, .long bname, .ref btext, .int blength, .int L_1, .ref bwords])), (btext, aB g 1600 Fbtext)] := hD.sub [0, 1] (by decide +kernel) rfl
            exact W.vret hx hb hr (fun t ht hW => ⟨⟨(1, L_2, L_1), rfl, ⟨⟨by decide, by decide⟩, (by first | with_reducible assumption | omega)⟩, by rw [ht]; exact hP9, by rw [hAe]; exact hD9⟩, hS.F ht⟩) hS.2.2 dX10_takeDigits_121
    · have f_58 := E_ne (rfl : r_32.toInt = _) (by decide : (0 : Int32).toInt = 0) c_34
      refine lv_aload_n hx hb dX10_takeDigits_26 rfl (lv_at hl 0 rfl) ?_
      refine lv_aload_n hx hb dX10_takeDigits_27 rfl (lv_at hl 0 rfl) ?_
      refine va_get (D := g.1) (ci := 10) (v := .int L_2) (C := RX10) (T := TX10) (N := 8) hx hb hT inF_X10 hown hK.1 hP 0 rfl rfl 2 (by decide) (hT _ bw_410) (fun _ h9 => h9) rfl dX10_takeDigits_28 ?_
      refine lv_bipush (v := 10) hx hb dX10_takeDigits_31 (by decide) ?_
      refine lv_imul hx hb dX10_takeDigits_33 ?_
      refine lv_topi (fun x_59 ex_59 => ?_)
      refine lv_aload_n hx hb dX10_takeDigits_34 rfl (lv_at hl 0 rfl) ?_
      refine va_get (D := g.1) (ci := 10) (v := .ref btext) (C := RX10) (T := TX10) (N := 8) hx hb hT inF_X10 hown hK.1 hP 0 rfl rfl 4 (by decide) (hT _ bw_597) (fun _ h9 => h9) rfl dX10_takeDigits_35 ?_
      refine lv_aload_n hx hb dX10_takeDigits_38 rfl (lv_at hl 0 rfl) ?_
      refine va_get (D := g.1) (ci := 10) (v := .int L_1) (C := RX10) (T := TX10) (N := 8) hx hb hT inF_X10 hown hK.1 hP 0 rfl rfl 6 (by decide) (hT _ bw_590) (fun _ h9 => h9) rfl dX10_takeDigits_39 ?_
      have h_60 : vp_in L_1 1600 := vp_in_iff.mpr (by omega)
      refine va_bald hx hb hK.1 hP 1 0 rfl rfl (i := L_1) h_60 dX10_takeDigits_42 ?_
      refine lv_topi (fun x_61 ex_61 => ?_)
      have ux_61 := congrArg Int32.toInt ex_61
      refine lv_iadd hx hb dX10_takeDigits_43 ?_
      refine lv_topi (fun x_62 ex_62 => ?_)
      refine lv_bipush (v := 48) hx hb dX10_takeDigits_44 (by decide) ?_
      refine lv_isub hx hb dX10_takeDigits_46 ?_
      refine lv_topi (fun x_63 ex_63 => ?_)
      refine va_put (D := g.1) (ci := 10) (v := .int x_63) (ty := .int) (C := RX10) (T := TX10) (N := 8) hx hb hT inF_X10 tyX10 tyX10_ok nmX10 hown hK.1 hP hD hS 0 rfl rfl 2 (by decide) (hT _ bw_410) (fun _ h9 => h9) rfl (by decide +kernel) rfl rfl (Nat.le_of_ble_eq_true rfl) dX10_takeDigits_47 (fun H locs hP hD hS => ?_)
      have hP : va_P g.1 vwCl [(h, .inr (10, [.int bsort, .int bplace, .int x_63, .long bname, .ref btext, .int blength, .int L_1, .ref bwords])), (btext, aB g 1600 Fbtext)] H := hP
      have hD : va_D A [(h, .inr (10, [.int bsort, .int bplace, .int x_63, .long bname, .ref btext, .int blength, .int L_1, .ref bwords])), (btext, aB g 1600 Fbtext)] := hD
      refine lv_aload_n hx hb dX10_takeDigits_50 rfl (lv_at hl 0 rfl) ?_
      refine lv_dup hx hb dX10_takeDigits_51 rfl ?_
      refine va_get (D := g.1) (ci := 10) (v := .int L_1) (C := RX10) (T := TX10) (N := 8) hx hb hT inF_X10 hown hK.1 hP 0 rfl rfl 6 (by decide) (hT _ bw_590) (fun _ h9 => h9) rfl dX10_takeDigits_52 ?_
      refine lv_iconst (v := 1) hx hb dX10_takeDigits_55 (by decide) ?_
      refine lv_iadd hx hb dX10_takeDigits_56 ?_
      refine lv_topi (fun x_64 ex_64 => ?_)
      have fx_64 : x_64.toInt = L_1.toInt + 1 := by rw [ex_64]; exact I_add rfl (by decide : (1 : Int32).toInt = 1) (by omega) (by omega)
      refine va_put (D := g.1) (ci := 10) (v := .int x_64) (ty := .int) (C := RX10) (T := TX10) (N := 8) hx hb hT inF_X10 tyX10 tyX10_ok nmX10 hown hK.1 hP hD hS 0 rfl rfl 6 (by decide) (hT _ bw_590) (fun _ h9 => h9) rfl (by decide +kernel) rfl rfl (Nat.le_of_ble_eq_true rfl) dX10_takeDigits_57 (fun H locs hP hD hS => ?_)
      have hP : va_P g.1 vwCl [(h, .inr (10, [.int bsort, .int bplace, .int x_63, .long bname, .ref btext, .int blength, .int x_64, .ref bwords])), (btext, aB g 1600 Fbtext)] H := hP
      have hD : va_D A [(h, .inr (10, [.int bsort, .int bplace, .int x_63, .long bname, .ref btext, .int blength, .int x_64, .ref bwords])), (btext, aB g 1600 Fbtext)] := hD
      refine lv_goto (tgt := 0) hx hb dX10_takeDigits_60 (by decide) ?_
      exact ih (n - 1) (by omega) H locs ls ⟨x_64, x_63, (by first | with_reducible assumption | omega), by omega, hP.sub [0, 1] rfl, hD.sub [0, 1] (by decide +kernel) rfl, hS, lv_sub hl [0] rfl⟩

theorem bw_609 : Cond.methodLink RX10 88 yJ0_indexOf_0f7a4 ∈ gT := gT_tb 629 (by decide +kernel) (by decide +kernel)
theorem bw_610 : Cond.instanceMethod yJ0_indexOf_0f7a4 ∈ gT := gT_tb 630 (by decide +kernel) (by decide +kernel)
theorem bw_611 : Cond.selects RJ0 yJ0_indexOf_0f7a4 yJ0_indexOf_0f7a4 ∈ gT := gT_tb 631 (by decide +kernel) (by decide +kernel)
theorem bw_612 : Cond.code yX10_takeSign cX10_takeSign 1 none ∈ gT := gT_tb 627 (by decide +kernel) (by decide +kernel)
theorem dX10_takeSign_0 : decode cX10_takeSign 0 = .ok (.aload_n 0, 1) := by decide +kernel
theorem dX10_takeSign_1 : decode cX10_takeSign 1 = .ok (.aload_n 0, 1) := by decide +kernel
theorem dX10_takeSign_2 : decode cX10_takeSign 2 = .ok (.getfield 31, 3) := by decide +kernel
theorem dX10_takeSign_5 : decode cX10_takeSign 5 = .ok (.aload_n 0, 1) := by decide +kernel
theorem dX10_takeSign_6 : decode cX10_takeSign 6 = .ok (.getfield 44, 3) := by decide +kernel
theorem dX10_takeSign_9 : decode cX10_takeSign 9 = .ok (.baload, 1) := by decide +kernel
theorem dX10_takeSign_10 : decode cX10_takeSign 10 = .ok (.sipush 255, 3) := by decide +kernel
theorem dX10_takeSign_13 : decode cX10_takeSign 13 = .ok (.iand, 1) := by decide +kernel
theorem dX10_takeSign_14 : decode cX10_takeSign 14 = .ok (.putfield 57, 3) := by decide +kernel
theorem dX10_takeSign_17 : decode cX10_takeSign 17 = .ok (.aload_n 0, 1) := by decide +kernel
theorem dX10_takeSign_18 : decode cX10_takeSign 18 = .ok (.ldc 86, 2) := by decide +kernel
theorem dX10_takeSign_20 : decode cX10_takeSign 20 = .ok (.aload_n 0, 1) := by decide +kernel
theorem dX10_takeSign_21 : decode cX10_takeSign 21 = .ok (.getfield 57, 3) := by decide +kernel
theorem dX10_takeSign_24 : decode cX10_takeSign 24 = .ok (.i2c, 1) := by decide +kernel
theorem dX10_takeSign_25 : decode cX10_takeSign 25 = .ok (.invokevirtual 88, 3) := by decide +kernel
theorem dX10_takeSign_28 : decode cX10_takeSign 28 = .ok (.ifCond .lt 7, 3) := by decide +kernel
theorem dX10_takeSign_31 : decode cX10_takeSign 31 = .ok (.iconst 5, 1) := by decide +kernel
theorem dX10_takeSign_32 : decode cX10_takeSign 32 = .ok (.goto 4, 3) := by decide +kernel
theorem dX10_takeSign_35 : decode cX10_takeSign 35 = .ok (.iconst 1, 1) := by decide +kernel
theorem dX10_takeSign_36 : decode cX10_takeSign 36 = .ok (.putfield 64, 3) := by decide +kernel
theorem dX10_takeSign_39 : decode cX10_takeSign 39 = .ok (.aload_n 0, 1) := by decide +kernel
theorem dX10_takeSign_40 : decode cX10_takeSign 40 = .ok (.dup, 1) := by decide +kernel
theorem dX10_takeSign_41 : decode cX10_takeSign 41 = .ok (.getfield 44, 3) := by decide +kernel
theorem dX10_takeSign_44 : decode cX10_takeSign 44 = .ok (.iconst 1, 1) := by decide +kernel
theorem dX10_takeSign_45 : decode cX10_takeSign 45 = .ok (.iadd, 1) := by decide +kernel
theorem dX10_takeSign_46 : decode cX10_takeSign 46 = .ok (.putfield 44, 3) := by decide +kernel
theorem dX10_takeSign_49 : decode cX10_takeSign 49 = .ok (.return_, 1) := by decide +kernel
set_option maxHeartbeats 4000000 in
set_option maxRecDepth 100000 in
theorem s_X10_takeSign (l : Launch) (g : GG) (sz : Nat) (h : Nat) (bsort : Int32) (bplace : Int32) (bvalue : Int32) (bname : Int64) (btext : Nat) (Fbtext : Nat → Int32) (blength : Int32) (bfollowing : Int32) (bwords : Nat) (aW : Nat) (fw : Nat → Int32) (hh0 : 0 ≤ bsort.toInt ∧ bsort.toInt ≤ 5) (hh1 : 0 ≤ blength.toInt ∧ blength.toInt ≤ 1600) (hh2 : 0 ≤ bfollowing.toInt ∧ bfollowing.toInt ≤ 1600) (hh3 : 0 ≤ bfollowing.toInt ∧ bfollowing.toInt ≤ 1599) : Met l yX10_takeSign (.code yX10_takeSign cX10_takeSign 1 none :: gT) ({ frames := 4, cells := 0, slots := 0, locals := 126 }) (va_Pc [.ref h] (Pst g sz [(h, .inr (10, [.int bsort, .int bplace, .int bvalue, .long bname, .ref btext, .int blength, .int bfollowing, .ref bwords])), (btext, aB g 1600 Fbtext)] (sX g.2.2.2.2.2.2.2 11 aW fw (va_A [(h, .inr (10, [.int bsort, .int bplace, .int bvalue, .long bname, .ref btext, .int blength, .int bfollowing, .ref bwords])), (btext, aB g 1600 Fbtext)] sz)))) (va_Qv (fun ((o0_sort, o1_value, o2_following) : Int32 × Int32 × Int32) => (0 ≤ o0_sort.toInt ∧ o0_sort.toInt ≤ 5) ∧ (0 ≤ o2_following.toInt ∧ o2_following.toInt ≤ 1600)) (Qst g [(h, .inr (10, [.int bsort, .int bplace, .int bvalue, .long bname, .ref btext, .int blength, .int bfollowing, .ref bwords])), (btext, aB g 1600 Fbtext)] sz (fun ((o0_sort, o1_value, o2_following) : Int32 × Int32 × Int32) => [(h, .inr (10, [.int o0_sort, .int bplace, .int o1_value, .long bname, .ref btext, .int blength, .int o2_following, .ref bwords])), (btext, aB g 1600 Fbtext)])) (va_A [(h, .inr (10, [.int bsort, .int bplace, .int bvalue, .long bname, .ref btext, .int blength, .int bfollowing, .ref bwords])), (btext, aB g 1600 Fbtext)] sz)) 0 0 (va_A [(h, .inr (10, [.int bsort, .int bplace, .int bvalue, .long bname, .ref btext, .int blength, .int bfollowing, .ref bwords])), (btext, aB g 1600 Fbtext)] sz) := by
  refine Met.ofW (cc := cX10_takeSign) (maxL := 1) (ret := none) (by decide) rfl ?_
  intro p e s m args below meth c s₁ B hml hv
  obtain ⟨rfl, hsz, hP, hK, hD0, hX⟩ := hv
  have hx := B.exec
  have hb := B.bytes
  have hr := B.returns
  have hT : ∀ w ∈ gT, w.before _ s = true := fun w h => atoms_spec (ws := .code yX10_takeSign cX10_takeSign 1 none :: gT) B.pre w (List.mem_cons_of_mem _ h)
  have hown : s.vm.findClass RX10 = some m.cls := findClass_of_methodNamed B.named
  have hlocks := B.notSynchronized
  subst hsz
  have hD := hD0.self (sz := s.heap.size)
  generalize hAe : va_A [(h, .inr (10, [.int bsort, .int bplace, .int bvalue, .long bname, .ref btext, .int blength, .int bfollowing, .ref bwords])), (btext, aB g 1600 Fbtext)] s.heap.size = A at hD hX ⊢
  have hA : ∀ q : Nat, s.heap.size ≤ q → A q := fun q h => by rw [← hAe]; exact Or.inr h
  have hS : va_S A s.heap s.heap [] := va_S.rf
  have hl := lv_entry ([.ref h]) (n := 1) (Nat.le_of_ble_eq_true rfl)
  rw [lg_entry_eq]
  generalize (lg_sl ([.ref h]) ++ List.replicate (1 - (lg_sl ([.ref h])).length) Slot.unset).toArray = ls at hl ⊢
  have hl : lv_has ls 1 [(0, .ref h)] := hl
  refine p_nH (fun H hH => ?_)
  have hP : va_P g.1 vwCl [(h, .inr (10, [.int bsort, .int bplace, .int bvalue, .long bname, .ref btext, .int blength, .int bfollowing, .ref bwords])), (btext, aB g 1600 Fbtext)] H := by rw [hH]; exact hP
  have hS : va_S A s.heap H [] := by rw [hH]; exact hS
  refine lv_aload_n hx hb dX10_takeSign_0 rfl (lv_at hl 0 rfl) ?_
  refine lv_aload_n hx hb dX10_takeSign_1 rfl (lv_at hl 0 rfl) ?_
  refine va_get (D := g.1) (ci := 10) (v := .ref btext) (C := RX10) (T := TX10) (N := 8) hx hb hT inF_X10 hown hK.1 hP 0 rfl rfl 4 (by decide) (hT _ bw_597) (fun _ h9 => h9) rfl dX10_takeSign_2 ?_
  refine lv_aload_n hx hb dX10_takeSign_5 rfl (lv_at hl 0 rfl) ?_
  refine va_get (D := g.1) (ci := 10) (v := .int bfollowing) (C := RX10) (T := TX10) (N := 8) hx hb hT inF_X10 hown hK.1 hP 0 rfl rfl 6 (by decide) (hT _ bw_590) (fun _ h9 => h9) rfl dX10_takeSign_6 ?_
  have h_1 : vp_in bfollowing 1600 := vp_in_iff.mpr (by omega)
  refine va_bald hx hb hK.1 hP 1 0 rfl rfl (i := bfollowing) h_1 dX10_takeSign_9 ?_
  refine lv_topi (fun x_2 ex_2 => ?_)
  have ux_2 := congrArg Int32.toInt ex_2
  refine lv_sipush (v := 255) hx hb dX10_takeSign_10 (by decide) ?_
  refine lv_iand hx hb dX10_takeSign_13 ?_
  refine lv_topi (fun x_3 ex_3 => ?_)
  have fx_3 : 0 ≤ x_3.toInt ∧ x_3.toInt ≤ 255 := by rw [ex_3]; exact I_and (by decide) (by decide)
  refine va_put (D := g.1) (ci := 10) (v := .int x_3) (ty := .int) (C := RX10) (T := TX10) (N := 8) hx hb hT inF_X10 tyX10 tyX10_ok nmX10 hown hK.1 hP hD hS 0 rfl rfl 2 (by decide) (hT _ bw_410) (fun _ h9 => h9) rfl (by decide +kernel) rfl rfl (Nat.le_of_ble_eq_true rfl) dX10_takeSign_14 (fun H locs hP hD hS => ?_)
  have hP : va_P g.1 vwCl [(h, .inr (10, [.int bsort, .int bplace, .int x_3, .long bname, .ref btext, .int blength, .int bfollowing, .ref bwords])), (btext, aB g 1600 Fbtext)] H := hP
  have hD : va_D A [(h, .inr (10, [.int bsort, .int bplace, .int x_3, .long bname, .ref btext, .int blength, .int bfollowing, .ref bwords])), (btext, aB g 1600 Fbtext)] := hD
  refine lv_aload_n hx hb dX10_takeSign_17 rfl (lv_at hl 0 rfl) ?_
  refine va_ldcS hx hb hown (eW_sg hK.2) dX10_takeSign_18 ?_
  refine lv_aload_n hx hb dX10_takeSign_20 rfl (lv_at hl 0 rfl) ?_
  refine va_get (D := g.1) (ci := 10) (v := .int x_3) (C := RX10) (T := TX10) (N := 8) hx hb hT inF_X10 hown hK.1 hP 0 rfl rfl 2 (by decide) (hT _ bw_410) (fun _ h9 => h9) rfl dX10_takeSign_21 ?_
  obtain ⟨x_4, ex_4⟩ : ∃ y : Int32, (x_3.toUInt32 % 65536).toInt32 = y := ⟨_, rfl⟩
  refine lv_i2c (v := x_4) hx hb dX10_takeSign_24 ex_4 ?_
  refine k_iR (k_Vs (n := 1) ⟨hx, hb, hml, hown, hT⟩ hK hP hD [] rfl (by decide +kernel) (s_J0_indexOf_0f7a4 l g H.size x_4 aW fw) (gV bw_609 bw_610 bw_611 bw_562 bw_588) rfl rfl (by decide +kernel) ⟨by decide, by decide⟩ (s_recv hX hS) sX.calling (sE.go hX hS (va_A0 hS hA)) rfl rfl hl.1 (Nat.le_of_ble_eq_true rfl) dX10_takeSign_25 ⟨by decide, by decide⟩) hP hS hA (fun r_5 _ H locs hw0 hP hS => ?_)
  have hw : (-1) ≤ r_5.toInt ∧ r_5.toInt ≤ 10 := hw0
  clear hw0
  have w_6 := hw
  refine lv_if_lt (tgt := 35) hx hb dX10_takeSign_28 (by decide) (fun c_7 => ?_) (fun c_7 => ?_)
  · have f_8 := E_lt (rfl : r_5.toInt = _) (by decide : (0 : Int32).toInt = 0) c_7
    refine lv_iconst (v := 1) hx hb dX10_takeSign_35 (by decide) ?_
    refine va_put (D := g.1) (ci := 10) (v := .int 1) (ty := .int) (C := RX10) (T := TX10) (N := 8) hx hb hT inF_X10 tyX10 tyX10_ok nmX10 hown hK.1 hP hD hS 0 rfl rfl 0 (by decide) (hT _ bw_409) (fun _ h9 => h9) rfl (by decide +kernel) rfl rfl (Nat.le_of_ble_eq_true rfl) dX10_takeSign_36 (fun H locs hP hD hS => ?_)
    have hP : va_P g.1 vwCl [(h, .inr (10, [.int 1, .int bplace, .int x_3, .long bname, .ref btext, .int blength, .int bfollowing, .ref bwords])), (btext, aB g 1600 Fbtext)] H := hP
    have hD : va_D A [(h, .inr (10, [.int 1, .int bplace, .int x_3, .long bname, .ref btext, .int blength, .int bfollowing, .ref bwords])), (btext, aB g 1600 Fbtext)] := hD
    refine lv_aload_n hx hb dX10_takeSign_39 rfl (lv_at hl 0 rfl) ?_
    refine lv_dup hx hb dX10_takeSign_40 rfl ?_
    refine va_get (D := g.1) (ci := 10) (v := .int bfollowing) (C := RX10) (T := TX10) (N := 8) hx hb hT inF_X10 hown hK.1 hP 0 rfl rfl 6 (by decide) (hT _ bw_590) (fun _ h9 => h9) rfl dX10_takeSign_41 ?_
    refine lv_iconst (v := 1) hx hb dX10_takeSign_44 (by decide) ?_
    refine lv_iadd hx hb dX10_takeSign_45 ?_
    refine lv_topi (fun x_9 ex_9 => ?_)
    have fx_9 : x_9.toInt = bfollowing.toInt + 1 := by rw [ex_9]; exact I_add rfl (by decide : (1 : Int32).toInt = 1) (by omega) (by omega)
    refine va_put (D := g.1) (ci := 10) (v := .int x_9) (ty := .int) (C := RX10) (T := TX10) (N := 8) hx hb hT inF_X10 tyX10 tyX10_ok nmX10 hown hK.1 hP hD hS 0 rfl rfl 6 (by decide) (hT _ bw_590) (fun _ h9 => h9) rfl (by decide +kernel) rfl rfl (Nat.le_of_ble_eq_true rfl) dX10_takeSign_46 (fun H locs hP hD hS => ?_)
    have hP : va_P g.1 vwCl [(h, .inr (10, [.int 1, .int bplace, .int x_3, .long bname, .ref btext, .int blength, .int x_9, .ref bwords])), (btext, aB g 1600 Fbtext)] H := hP
    have hD : va_D A [(h, .inr (10, [.int 1, .int bplace, .int x_3, .long bname, .ref btext, .int blength, .int x_9, .ref bwords])), (btext, aB g 1600 Fbtext)] := hD
    have hP9 : va_P g.1 vwCl [(h, .inr (10, [.int 1, .int bplace, .int x_3, .long bname, .ref btext, .int blength, .int x_9, .ref bwords])), (btext, aB g 1600 Fbtext)] H := hP.sub [0, 1] rfl
    have hD9 : va_D A [(h, .inr (10, [.int 1, .int bplace, .int x_3, .long bname, .ref btext, .int blength, .int x_9, .ref bwords])), (btext, aB g 1600 Fbtext)] := hD.sub [0, 1] (by decide +kernel) rfl
    exact W.vret hx hb hr (fun t ht hW => ⟨⟨(1, x_3, x_9), rfl, ⟨⟨by decide, by decide⟩, (by first | with_reducible assumption | omega)⟩, by rw [ht]; exact hP9, by rw [hAe]; exact hD9⟩, hS.F ht⟩) hS.2.2 dX10_takeSign_49
  · have f_10 := E_nlt (rfl : r_5.toInt = _) (by decide : (0 : Int32).toInt = 0) c_7
    refine lv_iconst (v := 5) hx hb dX10_takeSign_31 (by decide) ?_
    refine lv_goto (tgt := 36) hx hb dX10_takeSign_32 (by decide) ?_
    refine va_put (D := g.1) (ci := 10) (v := .int 5) (ty := .int) (C := RX10) (T := TX10) (N := 8) hx hb hT inF_X10 tyX10 tyX10_ok nmX10 hown hK.1 hP hD hS 0 rfl rfl 0 (by decide) (hT _ bw_409) (fun _ h9 => h9) rfl (by decide +kernel) rfl rfl (Nat.le_of_ble_eq_true rfl) dX10_takeSign_36 (fun H locs hP hD hS => ?_)
    have hP : va_P g.1 vwCl [(h, .inr (10, [.int 5, .int bplace, .int x_3, .long bname, .ref btext, .int blength, .int bfollowing, .ref bwords])), (btext, aB g 1600 Fbtext)] H := hP
    have hD : va_D A [(h, .inr (10, [.int 5, .int bplace, .int x_3, .long bname, .ref btext, .int blength, .int bfollowing, .ref bwords])), (btext, aB g 1600 Fbtext)] := hD
    refine lv_aload_n hx hb dX10_takeSign_39 rfl (lv_at hl 0 rfl) ?_
    refine lv_dup hx hb dX10_takeSign_40 rfl ?_
    refine va_get (D := g.1) (ci := 10) (v := .int bfollowing) (C := RX10) (T := TX10) (N := 8) hx hb hT inF_X10 hown hK.1 hP 0 rfl rfl 6 (by decide) (hT _ bw_590) (fun _ h9 => h9) rfl dX10_takeSign_41 ?_
    refine lv_iconst (v := 1) hx hb dX10_takeSign_44 (by decide) ?_
    refine lv_iadd hx hb dX10_takeSign_45 ?_
    refine lv_topi (fun x_11 ex_11 => ?_)
    have fx_11 : x_11.toInt = bfollowing.toInt + 1 := by rw [ex_11]; exact I_add rfl (by decide : (1 : Int32).toInt = 1) (by omega) (by omega)
    refine va_put (D := g.1) (ci := 10) (v := .int x_11) (ty := .int) (C := RX10) (T := TX10) (N := 8) hx hb hT inF_X10 tyX10 tyX10_ok nmX10 hown hK.1 hP hD hS 0 rfl rfl 6 (by decide) (hT _ bw_590) (fun _ h9 => h9) rfl (by decide +kernel) rfl rfl (Nat.le_of_ble_eq_true rfl) dX10_takeSign_46 (fun H locs hP hD hS => ?_)
    have hP : va_P g.1 vwCl [(h, .inr (10, [.int 5, .int bplace, .int x_3, .long bname, .ref btext, .int blength, .int x_11, .ref bwords])), (btext, aB g 1600 Fbtext)] H := hP
    have hD : va_D A [(h, .inr (10, [.int 5, .int bplace, .int x_3, .long bname, .ref btext, .int blength, .int x_11, .ref bwords])), (btext, aB g 1600 Fbtext)] := hD
    have hP9 : va_P g.1 vwCl [(h, .inr (10, [.int 5, .int bplace, .int x_3, .long bname, .ref btext, .int blength, .int x_11, .ref bwords])), (btext, aB g 1600 Fbtext)] H := hP.sub [0, 1] rfl
    have hD9 : va_D A [(h, .inr (10, [.int 5, .int bplace, .int x_3, .long bname, .ref btext, .int blength, .int x_11, .ref bwords])), (btext, aB g 1600 Fbtext)] := hD.sub [0, 1] (by decide +kernel) rfl
    exact W.vret hx hb hr (fun t ht hW => ⟨⟨(5, x_3, x_11), rfl, ⟨⟨by decide, by decide⟩, (by first | with_reducible assumption | omega)⟩, by rw [ht]; exact hP9, by rw [hAe]; exact hD9⟩, hS.F ht⟩) hS.2.2 dX10_takeSign_49

theorem bw_613 : Cond.methodLink RX10 79 yX10_takeSign ∈ gT := gT_tb 624 (by decide +kernel) (by decide +kernel)
theorem bw_614 : Cond.instanceMethod yX10_takeSign ∈ gT := gT_tb 626 (by decide +kernel) (by decide +kernel)
theorem bw_615 : Cond.selects RX10 yX10_takeSign yX10_takeSign ∈ gT := gT_sl 3 (by decide +kernel) (by decide +kernel)
theorem bw_616 : Cond.initialized RX10 ∈ gT := gT_tb 3 (by decide +kernel) (by decide +kernel)
theorem bw_617 : Cond.methodLink RX10 76 yX10_takeDigits ∈ gT := gT_tb 620 (by decide +kernel) (by decide +kernel)
theorem bw_618 : Cond.instanceMethod yX10_takeDigits ∈ gT := gT_tb 622 (by decide +kernel) (by decide +kernel)
theorem bw_619 : Cond.selects RX10 yX10_takeDigits yX10_takeDigits ∈ gT := gT_sl 2 (by decide +kernel) (by decide +kernel)
theorem bw_620 : Cond.methodLink RX10 70 yX10_takeLetters ∈ gT := gT_tb 610 (by decide +kernel) (by decide +kernel)
theorem bw_621 : Cond.instanceMethod yX10_takeLetters ∈ gT := gT_tb 612 (by decide +kernel) (by decide +kernel)
theorem bw_622 : Cond.selects RX10 yX10_takeLetters yX10_takeLetters ∈ gT := gT_sl 1 (by decide +kernel) (by decide +kernel)
theorem bw_623 : Cond.methodLink RX10 50 yX10_isBlank ∈ gT := gT_tb 604 (by decide +kernel) (by decide +kernel)
theorem bw_624 : Cond.static yX10_isBlank ∈ gT := gT_tb 605 (by decide +kernel) (by decide +kernel)
theorem bw_625 : Cond.initialized yX10_isBlank.cls ∈ gT := gT_tb 3 (by decide +kernel) (by decide +kernel)
theorem bw_626 : Cond.code yX10_advance cX10_advance 1 none ∈ gT := gT_tb 603 (by decide +kernel) (by decide +kernel)
theorem dX10_advance_0 : decode cX10_advance 0 = .ok (.aload_n 0, 1) := by decide +kernel
theorem dX10_advance_1 : decode cX10_advance 1 = .ok (.getfield 44, 3) := by decide +kernel
theorem dX10_advance_4 : decode cX10_advance 4 = .ok (.aload_n 0, 1) := by decide +kernel
theorem dX10_advance_5 : decode cX10_advance 5 = .ok (.getfield 41, 3) := by decide +kernel
theorem dX10_advance_8 : decode cX10_advance 8 = .ok (.if_icmp .ge 31, 3) := by decide +kernel
theorem dX10_advance_11 : decode cX10_advance 11 = .ok (.aload_n 0, 1) := by decide +kernel
theorem dX10_advance_12 : decode cX10_advance 12 = .ok (.getfield 31, 3) := by decide +kernel
theorem dX10_advance_15 : decode cX10_advance 15 = .ok (.aload_n 0, 1) := by decide +kernel
theorem dX10_advance_16 : decode cX10_advance 16 = .ok (.getfield 44, 3) := by decide +kernel
theorem dX10_advance_19 : decode cX10_advance 19 = .ok (.baload, 1) := by decide +kernel
theorem dX10_advance_20 : decode cX10_advance 20 = .ok (.invokestatic 50, 3) := by decide +kernel
theorem dX10_advance_23 : decode cX10_advance 23 = .ok (.ifCond .eq 16, 3) := by decide +kernel
theorem dX10_advance_26 : decode cX10_advance 26 = .ok (.aload_n 0, 1) := by decide +kernel
theorem dX10_advance_27 : decode cX10_advance 27 = .ok (.dup, 1) := by decide +kernel
theorem dX10_advance_28 : decode cX10_advance 28 = .ok (.getfield 44, 3) := by decide +kernel
theorem dX10_advance_31 : decode cX10_advance 31 = .ok (.iconst 1, 1) := by decide +kernel
theorem dX10_advance_32 : decode cX10_advance 32 = .ok (.iadd, 1) := by decide +kernel
theorem dX10_advance_33 : decode cX10_advance 33 = .ok (.putfield 44, 3) := by decide +kernel
theorem dX10_advance_36 : decode cX10_advance 36 = .ok (.goto (-36), 3) := by decide +kernel
theorem dX10_advance_39 : decode cX10_advance 39 = .ok (.aload_n 0, 1) := by decide +kernel
theorem dX10_advance_40 : decode cX10_advance 40 = .ok (.aload_n 0, 1) := by decide +kernel
theorem dX10_advance_41 : decode cX10_advance 41 = .ok (.getfield 44, 3) := by decide +kernel
theorem dX10_advance_44 : decode cX10_advance 44 = .ok (.putfield 54, 3) := by decide +kernel
theorem dX10_advance_47 : decode cX10_advance 47 = .ok (.aload_n 0, 1) := by decide +kernel
theorem dX10_advance_48 : decode cX10_advance 48 = .ok (.iconst 0, 1) := by decide +kernel
theorem dX10_advance_49 : decode cX10_advance 49 = .ok (.putfield 57, 3) := by decide +kernel
theorem dX10_advance_52 : decode cX10_advance 52 = .ok (.aload_n 0, 1) := by decide +kernel
theorem dX10_advance_53 : decode cX10_advance 53 = .ok (.lconst 0, 1) := by decide +kernel
theorem dX10_advance_54 : decode cX10_advance 54 = .ok (.putfield 60, 3) := by decide +kernel
theorem dX10_advance_57 : decode cX10_advance 57 = .ok (.aload_n 0, 1) := by decide +kernel
theorem dX10_advance_58 : decode cX10_advance 58 = .ok (.getfield 44, 3) := by decide +kernel
theorem dX10_advance_61 : decode cX10_advance 61 = .ok (.aload_n 0, 1) := by decide +kernel
theorem dX10_advance_62 : decode cX10_advance 62 = .ok (.getfield 41, 3) := by decide +kernel
theorem dX10_advance_65 : decode cX10_advance 65 = .ok (.if_icmp .lt 11, 3) := by decide +kernel
theorem dX10_advance_68 : decode cX10_advance 68 = .ok (.aload_n 0, 1) := by decide +kernel
theorem dX10_advance_69 : decode cX10_advance 69 = .ok (.iconst 0, 1) := by decide +kernel
theorem dX10_advance_70 : decode cX10_advance 70 = .ok (.putfield 64, 3) := by decide +kernel
theorem dX10_advance_73 : decode cX10_advance 73 = .ok (.goto 51, 3) := by decide +kernel
theorem dX10_advance_76 : decode cX10_advance 76 = .ok (.aload_n 0, 1) := by decide +kernel
theorem dX10_advance_77 : decode cX10_advance 77 = .ok (.getfield 31, 3) := by decide +kernel
theorem dX10_advance_80 : decode cX10_advance 80 = .ok (.aload_n 0, 1) := by decide +kernel
theorem dX10_advance_81 : decode cX10_advance 81 = .ok (.getfield 44, 3) := by decide +kernel
theorem dX10_advance_84 : decode cX10_advance 84 = .ok (.baload, 1) := by decide +kernel
theorem dX10_advance_85 : decode cX10_advance 85 = .ok (.invokestatic 67, 3) := by decide +kernel
theorem dX10_advance_88 : decode cX10_advance 88 = .ok (.ifCond .eq 10, 3) := by decide +kernel
theorem dX10_advance_91 : decode cX10_advance 91 = .ok (.aload_n 0, 1) := by decide +kernel
theorem dX10_advance_92 : decode cX10_advance 92 = .ok (.invokevirtual 70, 3) := by decide +kernel
theorem dX10_advance_95 : decode cX10_advance 95 = .ok (.goto 29, 3) := by decide +kernel
theorem dX10_advance_98 : decode cX10_advance 98 = .ok (.aload_n 0, 1) := by decide +kernel
theorem dX10_advance_99 : decode cX10_advance 99 = .ok (.getfield 31, 3) := by decide +kernel
theorem dX10_advance_102 : decode cX10_advance 102 = .ok (.aload_n 0, 1) := by decide +kernel
theorem dX10_advance_103 : decode cX10_advance 103 = .ok (.getfield 44, 3) := by decide +kernel
theorem dX10_advance_106 : decode cX10_advance 106 = .ok (.baload, 1) := by decide +kernel
theorem dX10_advance_107 : decode cX10_advance 107 = .ok (.invokestatic 73, 3) := by decide +kernel
theorem dX10_advance_110 : decode cX10_advance 110 = .ok (.ifCond .eq 10, 3) := by decide +kernel
theorem dX10_advance_113 : decode cX10_advance 113 = .ok (.aload_n 0, 1) := by decide +kernel
theorem dX10_advance_114 : decode cX10_advance 114 = .ok (.invokevirtual 76, 3) := by decide +kernel
theorem dX10_advance_117 : decode cX10_advance 117 = .ok (.goto 7, 3) := by decide +kernel
theorem dX10_advance_120 : decode cX10_advance 120 = .ok (.aload_n 0, 1) := by decide +kernel
theorem dX10_advance_121 : decode cX10_advance 121 = .ok (.invokevirtual 79, 3) := by decide +kernel
theorem dX10_advance_124 : decode cX10_advance 124 = .ok (.return_, 1) := by decide +kernel
set_option maxHeartbeats 4000000 in
set_option maxRecDepth 100000 in
theorem s_X10_advance (l : Launch) (g : GG) (sz : Nat) (h : Nat) (bsort : Int32) (bplace : Int32) (bvalue : Int32) (bname : Int64) (btext : Nat) (Fbtext : Nat → Int32) (blength : Int32) (bfollowing : Int32) (bwords : Nat) (Fbwords : Nat → Int64) (aW : Nat) (fw : Nat → Int32) (hh0 : 0 ≤ bsort.toInt ∧ bsort.toInt ≤ 5) (hh1 : 0 ≤ blength.toInt ∧ blength.toInt ≤ 1600) (hh2 : 0 ≤ bfollowing.toInt ∧ bfollowing.toInt ≤ 1600) : Met l yX10_advance (.code yX10_advance cX10_advance 1 none :: gT) ({ frames := 5, cells := 0, slots := 0, locals := 146 }) (va_Pc [.ref h] (Pst g sz [(h, .inr (10, [.int bsort, .int bplace, .int bvalue, .long bname, .ref btext, .int blength, .int bfollowing, .ref bwords])), (btext, aB g 1600 Fbtext), (bwords, aJ g 24 Fbwords)] (sX g.2.2.2.2.2.2.2 11 aW fw (va_A [(h, .inr (10, [.int bsort, .int bplace, .int bvalue, .long bname, .ref btext, .int blength, .int bfollowing, .ref bwords])), (btext, aB g 1600 Fbtext), (bwords, aJ g 24 Fbwords)] sz)))) (va_Qv (fun ((o0_sort, o1_place, o2_value, o3_name, o4_following) : Int32 × Int32 × Int32 × Int64 × Int32) => (0 ≤ o0_sort.toInt ∧ o0_sort.toInt ≤ 5) ∧ (0 ≤ o4_following.toInt ∧ o4_following.toInt ≤ 1600)) (Qst g [(h, .inr (10, [.int bsort, .int bplace, .int bvalue, .long bname, .ref btext, .int blength, .int bfollowing, .ref bwords])), (btext, aB g 1600 Fbtext), (bwords, aJ g 24 Fbwords)] sz (fun ((o0_sort, o1_place, o2_value, o3_name, o4_following) : Int32 × Int32 × Int32 × Int64 × Int32) => [(h, .inr (10, [.int o0_sort, .int o1_place, .int o2_value, .long o3_name, .ref btext, .int blength, .int o4_following, .ref bwords])), (btext, aB g 1600 Fbtext), (bwords, aJ g 24 Fbwords)])) (va_A [(h, .inr (10, [.int bsort, .int bplace, .int bvalue, .long bname, .ref btext, .int blength, .int bfollowing, .ref bwords])), (btext, aB g 1600 Fbtext), (bwords, aJ g 24 Fbwords)] sz)) 0 0 (va_A [(h, .inr (10, [.int bsort, .int bplace, .int bvalue, .long bname, .ref btext, .int blength, .int bfollowing, .ref bwords])), (btext, aB g 1600 Fbtext), (bwords, aJ g 24 Fbwords)] sz) := by
  refine Met.ofW (cc := cX10_advance) (maxL := 1) (ret := none) (by decide) rfl ?_
  intro p e s m args below meth c s₁ B hml hv
  obtain ⟨rfl, hsz, hP, hK, hD0, hX⟩ := hv
  have hx := B.exec
  have hb := B.bytes
  have hr := B.returns
  have hT : ∀ w ∈ gT, w.before _ s = true := fun w h => atoms_spec (ws := .code yX10_advance cX10_advance 1 none :: gT) B.pre w (List.mem_cons_of_mem _ h)
  have hown : s.vm.findClass RX10 = some m.cls := findClass_of_methodNamed B.named
  have hlocks := B.notSynchronized
  subst hsz
  have hD := hD0.self (sz := s.heap.size)
  generalize hAe : va_A [(h, .inr (10, [.int bsort, .int bplace, .int bvalue, .long bname, .ref btext, .int blength, .int bfollowing, .ref bwords])), (btext, aB g 1600 Fbtext), (bwords, aJ g 24 Fbwords)] s.heap.size = A at hD hX ⊢
  have hA : ∀ q : Nat, s.heap.size ≤ q → A q := fun q h => by rw [← hAe]; exact Or.inr h
  have hS : va_S A s.heap s.heap [] := va_S.rf
  have hl := lv_entry ([.ref h]) (n := 1) (Nat.le_of_ble_eq_true rfl)
  rw [lg_entry_eq]
  generalize (lg_sl ([.ref h]) ++ List.replicate (1 - (lg_sl ([.ref h])).length) Slot.unset).toArray = ls at hl ⊢
  have hl : lv_has ls 1 [(0, .ref h)] := hl
  refine p_nH (fun H hH => ?_)
  have hP : va_P g.1 vwCl [(h, .inr (10, [.int bsort, .int bplace, .int bvalue, .long bname, .ref btext, .int blength, .int bfollowing, .ref bwords])), (btext, aB g 1600 Fbtext), (bwords, aJ g 24 Fbwords)] H := by rw [hH]; exact hP
  have hS : va_S A s.heap H [] := by rw [hH]; exact hS
  refine k_floop 0 (fun n H locs ls => ∃ (L_1 : Int32), (0 ≤ L_1.toInt ∧ L_1.toInt ≤ 1600) ∧ 1600 - L_1.toInt ≤ (n : Int) ∧ va_P g.1 vwCl [(h, .inr (10, [.int bsort, .int bplace, .int bvalue, .long bname, .ref btext, .int blength, .int L_1, .ref bwords])), (btext, aB g 1600 Fbtext), (bwords, aJ g 24 Fbwords)] H ∧ va_D A [(h, .inr (10, [.int bsort, .int bplace, .int bvalue, .long bname, .ref btext, .int blength, .int L_1, .ref bwords])), (btext, aB g 1600 Fbtext), (bwords, aJ g 24 Fbwords)] ∧ va_S A s.heap H locs ∧ lv_has ls 1 [(0, .ref h)]) (fun n H locs ls hI ih => ?_) ((1600 - bfollowing.toInt : Int)).toNat ⟨bfollowing, (by first | with_reducible assumption | omega), by omega, hP, hD, hS, hl⟩
  refine hI.elim (fun L_1 hI => ?_)
  have g_2 := hI.1
  have hm_3 := hI.2.1
  have hP := hI.2.2.1
  have hD := hI.2.2.2.1
  have hS := hI.2.2.2.2.1
  have hl := hI.2.2.2.2.2
  clear hI
  refine lv_aload_n hx hb dX10_advance_0 rfl (lv_at hl 0 rfl) ?_
  refine va_get (D := g.1) (ci := 10) (v := .int L_1) (C := RX10) (T := TX10) (N := 8) hx hb hT inF_X10 hown hK.1 hP 0 rfl rfl 6 (by decide) (hT _ bw_590) (fun _ h9 => h9) rfl dX10_advance_1 ?_
  refine lv_aload_n hx hb dX10_advance_4 rfl (lv_at hl 0 rfl) ?_
  refine va_get (D := g.1) (ci := 10) (v := .int blength) (C := RX10) (T := TX10) (N := 8) hx hb hT inF_X10 hown hK.1 hP 0 rfl rfl 5 (by decide) (hT _ bw_591) (fun _ h9 => h9) rfl dX10_advance_5 ?_
  refine lv_icmp_ge (tgt := 39) hx hb dX10_advance_8 (by decide) (fun c_4 => ?_) (fun c_4 => ?_)
  · have f_5 := E_le (rfl : blength.toInt = _) (rfl : L_1.toInt = _) c_4
    refine lv_aload_n hx hb dX10_advance_39 rfl (lv_at hl 0 rfl) ?_
    refine lv_aload_n hx hb dX10_advance_40 rfl (lv_at hl 0 rfl) ?_
    refine va_get (D := g.1) (ci := 10) (v := .int L_1) (C := RX10) (T := TX10) (N := 8) hx hb hT inF_X10 hown hK.1 hP 0 rfl rfl 6 (by decide) (hT _ bw_590) (fun _ h9 => h9) rfl dX10_advance_41 ?_
    refine va_put (D := g.1) (ci := 10) (v := .int L_1) (ty := .int) (C := RX10) (T := TX10) (N := 8) hx hb hT inF_X10 tyX10 tyX10_ok nmX10 hown hK.1 hP hD hS 0 rfl rfl 1 (by decide) (hT _ bw_596) (fun _ h9 => h9) rfl (by decide +kernel) rfl rfl (Nat.le_of_ble_eq_true rfl) dX10_advance_44 (fun H locs hP hD hS => ?_)
    have hP : va_P g.1 vwCl [(h, .inr (10, [.int bsort, .int L_1, .int bvalue, .long bname, .ref btext, .int blength, .int L_1, .ref bwords])), (btext, aB g 1600 Fbtext), (bwords, aJ g 24 Fbwords)] H := hP
    have hD : va_D A [(h, .inr (10, [.int bsort, .int L_1, .int bvalue, .long bname, .ref btext, .int blength, .int L_1, .ref bwords])), (btext, aB g 1600 Fbtext), (bwords, aJ g 24 Fbwords)] := hD
    refine lv_aload_n hx hb dX10_advance_47 rfl (lv_at hl 0 rfl) ?_
    refine lv_iconst (v := 0) hx hb dX10_advance_48 (by decide) ?_
    refine va_put (D := g.1) (ci := 10) (v := .int 0) (ty := .int) (C := RX10) (T := TX10) (N := 8) hx hb hT inF_X10 tyX10 tyX10_ok nmX10 hown hK.1 hP hD hS 0 rfl rfl 2 (by decide) (hT _ bw_410) (fun _ h9 => h9) rfl (by decide +kernel) rfl rfl (Nat.le_of_ble_eq_true rfl) dX10_advance_49 (fun H locs hP hD hS => ?_)
    have hP : va_P g.1 vwCl [(h, .inr (10, [.int bsort, .int L_1, .int 0, .long bname, .ref btext, .int blength, .int L_1, .ref bwords])), (btext, aB g 1600 Fbtext), (bwords, aJ g 24 Fbwords)] H := hP
    have hD : va_D A [(h, .inr (10, [.int bsort, .int L_1, .int 0, .long bname, .ref btext, .int blength, .int L_1, .ref bwords])), (btext, aB g 1600 Fbtext), (bwords, aJ g 24 Fbwords)] := hD
    refine lv_aload_n hx hb dX10_advance_52 rfl (lv_at hl 0 rfl) ?_
    refine lv_lconst (v := 0) hx hb dX10_advance_53 (by decide) ?_
    refine va_put (D := g.1) (ci := 10) (v := .long 0) (ty := .long) (C := RX10) (T := TX10) (N := 8) hx hb hT inF_X10 tyX10 tyX10_ok nmX10 hown hK.1 hP hD hS 0 rfl rfl 3 (by decide) (hT _ bw_593) (fun _ h9 => h9) rfl (by decide +kernel) rfl rfl (Nat.le_of_ble_eq_true rfl) dX10_advance_54 (fun H locs hP hD hS => ?_)
    have hP : va_P g.1 vwCl [(h, .inr (10, [.int bsort, .int L_1, .int 0, .long 0, .ref btext, .int blength, .int L_1, .ref bwords])), (btext, aB g 1600 Fbtext), (bwords, aJ g 24 Fbwords)] H := hP
    have hD : va_D A [(h, .inr (10, [.int bsort, .int L_1, .int 0, .long 0, .ref btext, .int blength, .int L_1, .ref bwords])), (btext, aB g 1600 Fbtext), (bwords, aJ g 24 Fbwords)] := hD
    refine lv_aload_n hx hb dX10_advance_57 rfl (lv_at hl 0 rfl) ?_
    refine va_get (D := g.1) (ci := 10) (v := .int L_1) (C := RX10) (T := TX10) (N := 8) hx hb hT inF_X10 hown hK.1 hP 0 rfl rfl 6 (by decide) (hT _ bw_590) (fun _ h9 => h9) rfl dX10_advance_58 ?_
    refine lv_aload_n hx hb dX10_advance_61 rfl (lv_at hl 0 rfl) ?_
    refine va_get (D := g.1) (ci := 10) (v := .int blength) (C := RX10) (T := TX10) (N := 8) hx hb hT inF_X10 hown hK.1 hP 0 rfl rfl 5 (by decide) (hT _ bw_591) (fun _ h9 => h9) rfl dX10_advance_62 ?_
    refine lv_icmp_lt (tgt := 76) hx hb dX10_advance_65 (by decide) (fun c_6 => ?_) (fun c_6 => ?_)
    · have f_7 := E_lt (rfl : L_1.toInt = _) (rfl : blength.toInt = _) c_6
      refine lv_aload_n hx hb dX10_advance_76 rfl (lv_at hl 0 rfl) ?_
      refine va_get (D := g.1) (ci := 10) (v := .ref btext) (C := RX10) (T := TX10) (N := 8) hx hb hT inF_X10 hown hK.1 hP 0 rfl rfl 4 (by decide) (hT _ bw_597) (fun _ h9 => h9) rfl dX10_advance_77 ?_
      refine lv_aload_n hx hb dX10_advance_80 rfl (lv_at hl 0 rfl) ?_
      refine va_get (D := g.1) (ci := 10) (v := .int L_1) (C := RX10) (T := TX10) (N := 8) hx hb hT inF_X10 hown hK.1 hP 0 rfl rfl 6 (by decide) (hT _ bw_590) (fun _ h9 => h9) rfl dX10_advance_81 ?_
      have h_8 : vp_in L_1 1600 := vp_in_iff.mpr (by omega)
      refine va_bald hx hb hK.1 hP 1 0 rfl rfl (i := L_1) h_8 dX10_advance_84 ?_
      refine lv_topi (fun x_9 ex_9 => ?_)
      have ux_9 := congrArg Int32.toInt ex_9
      refine k_iR (k_S (n := 1) ⟨hx, hb, hml, hown, hT⟩ hK hP hD [] rfl (by decide +kernel) (s_X10_isLetter l g H.size x_9) (gS bw_598 bw_599 bw_600 bw_405) rfl rfl (by decide +kernel) ⟨by decide, by decide⟩ (fun _ _ _ _ _ => trivial) (fun _ _ _ => trivial) rfl rfl hl.1 (Nat.le_of_ble_eq_true rfl) dX10_advance_85 ⟨by decide, by decide⟩) hP hS hA (fun r_10 _ H locs hw0 hP hS => ?_)
      have hw : 0 ≤ r_10.toInt ∧ r_10.toInt ≤ 1 := hw0
      clear hw0
      have w_11 := hw
      refine lv_if_eq (tgt := 98) hx hb dX10_advance_88 (by decide) (fun c_12 => ?_) (fun c_12 => ?_)
      · have f_13 := E_eq (rfl : r_10.toInt = _) (by decide : (0 : Int32).toInt = 0) c_12
        refine lv_aload_n hx hb dX10_advance_98 rfl (lv_at hl 0 rfl) ?_
        refine va_get (D := g.1) (ci := 10) (v := .ref btext) (C := RX10) (T := TX10) (N := 8) hx hb hT inF_X10 hown hK.1 hP 0 rfl rfl 4 (by decide) (hT _ bw_597) (fun _ h9 => h9) rfl dX10_advance_99 ?_
        refine lv_aload_n hx hb dX10_advance_102 rfl (lv_at hl 0 rfl) ?_
        refine va_get (D := g.1) (ci := 10) (v := .int L_1) (C := RX10) (T := TX10) (N := 8) hx hb hT inF_X10 hown hK.1 hP 0 rfl rfl 6 (by decide) (hT _ bw_590) (fun _ h9 => h9) rfl dX10_advance_103 ?_
        have h_14 : vp_in L_1 1600 := vp_in_iff.mpr (by omega)
        refine va_bald hx hb hK.1 hP 1 0 rfl rfl (i := L_1) h_14 dX10_advance_106 ?_
        refine lv_topi (fun x_15 ex_15 => ?_)
        have ux_15 := congrArg Int32.toInt ex_15
        refine k_iR (k_S (n := 1) ⟨hx, hb, hml, hown, hT⟩ hK hP hD [] rfl (by decide +kernel) (s_X10_isDigit l g H.size x_15) (gS bw_605 bw_606 bw_607 bw_406) rfl rfl (by decide +kernel) ⟨by decide, by decide⟩ (fun _ _ _ _ _ => trivial) (fun _ _ _ => trivial) rfl rfl hl.1 (Nat.le_of_ble_eq_true rfl) dX10_advance_107 ⟨by decide, by decide⟩) hP hS hA (fun r_16 _ H locs hw0 hP hS => ?_)
        have hw : 0 ≤ r_16.toInt ∧ r_16.toInt ≤ 1 := hw0
        clear hw0
        have w_17 := hw
        refine lv_if_eq (tgt := 120) hx hb dX10_advance_110 (by decide) (fun c_18 => ?_) (fun c_18 => ?_)
        · have f_19 := E_eq (rfl : r_16.toInt = _) (by decide : (0 : Int32).toInt = 0) c_18
          refine lv_aload_n hx hb dX10_advance_120 rfl (lv_at hl 0 rfl) ?_
          refine k_v (wr := [(bwords, aJ g 24 Fbwords)]) (k_V (n := 0) ⟨hx, hb, hml, hown, hT⟩ hK hP hD [0, 1] rfl (by decide +kernel) (s_X10_takeSign l g H.size h bsort L_1 0 0 btext Fbtext blength L_1 bwords aW fw (by first | with_reducible assumption | omega) (by first | with_reducible assumption | omega) (by first | with_reducible assumption | omega) (by first | with_reducible assumption | omega)) (gV bw_613 bw_614 bw_615 bw_616 bw_612) rfl rfl (by decide +kernel) ⟨by decide, by decide⟩ (ci := 10) (q0 := 0) rfl rfl sX.calling (sE.go hX hS (va_free (wc := [(h, .inr (10, [.int bsort, .int L_1, .int 0, .long 0, .ref btext, .int blength, .int L_1, .ref bwords])), (btext, aB g 1600 Fbtext)]) hD hS hA [0, 1] rfl)) rfl rfl hl.1 (Nat.le_of_ble_eq_true rfl) dX10_advance_121 ⟨by decide, by decide⟩) hP hD hS hA [0, 1] [2] rfl rfl (by decide +kernel) (by decide +kernel) (pr_all fun y_20 => pr_all fun y_21 => fun y_22 H locs hw0 hP hD hS => ?_)
          have hP : va_P g.1 vwCl [(bwords, aJ g 24 Fbwords), (h, .inr (10, [.int y_20, .int L_1, .int y_21, .long 0, .ref btext, .int blength, .int y_22, .ref bwords])), (btext, aB g 1600 Fbtext)] H := hP
          have hD : va_D A [(bwords, aJ g 24 Fbwords), (h, .inr (10, [.int y_20, .int L_1, .int y_21, .long 0, .ref btext, .int blength, .int y_22, .ref bwords])), (btext, aB g 1600 Fbtext)] := hD
          have hw : (0 ≤ y_20.toInt ∧ y_20.toInt ≤ 5) ∧ (0 ≤ y_22.toInt ∧ y_22.toInt ≤ 1600) := hw0
          clear hw0
          have w_23 := hw.1
          have w_24 := hw.2
          clear hw
          have hP9 : va_P g.1 vwCl [(h, .inr (10, [.int y_20, .int L_1, .int y_21, .long 0, .ref btext, .int blength, .int y_22, .ref bwords])), (btext, aB g 1600 Fbtext), (bwords, aJ g 24 Fbwords)] H := hP.sub [1, 2, 0] rfl
          have hD9 : va_D A [(h, .inr (10, [.int y_20, .int L_1, .int y_21, .long 0, .ref btext, .int blength, .int y_22, .ref bwords])), (btext, aB g 1600 Fbtext), (bwords, aJ g 24 Fbwords)] := hD.sub [1, 2, 0] (by decide +kernel) rfl
          exact W.vret hx hb hr (fun t ht hW => ⟨⟨(y_20, L_1, y_21, 0, y_22), rfl, ⟨(by first | with_reducible assumption | omega), (by first | with_reducible assumption | omega)⟩, by rw [ht]; exact hP9, by rw [hAe]; exact hD9⟩, hS.F ht⟩) hS.2.2 dX10_advance_124
        · have f_25 := E_ne (rfl : r_16.toInt = _) (by decide : (0 : Int32).toInt = 0) c_18
          refine lv_aload_n hx hb dX10_advance_113 rfl (lv_at hl 0 rfl) ?_
          refine k_v (wr := [(bwords, aJ g 24 Fbwords)]) (k_V (n := 0) ⟨hx, hb, hml, hown, hT⟩ hK hP hD [0, 1] rfl (by decide +kernel) (s_X10_takeDigits l g H.size h bsort L_1 0 0 btext Fbtext blength L_1 bwords (by first | with_reducible assumption | omega) (by first | with_reducible assumption | omega) (by first | with_reducible assumption | omega)) (gV bw_617 bw_618 bw_619 bw_616 bw_608) rfl rfl (by decide +kernel) ⟨by decide, by decide⟩ (ci := 10) (q0 := 0) rfl rfl (fun _ _ _ _ _ => trivial) (fun _ _ _ => trivial) rfl rfl hl.1 (Nat.le_of_ble_eq_true rfl) dX10_advance_114 ⟨by decide, by decide⟩) hP hD hS hA [0, 1] [2] rfl rfl (by decide +kernel) (by decide +kernel) (pr_all fun y_26 => pr_all fun y_27 => fun y_28 H locs hw0 hP hD hS => ?_)
          have hP : va_P g.1 vwCl [(bwords, aJ g 24 Fbwords), (h, .inr (10, [.int y_26, .int L_1, .int y_27, .long 0, .ref btext, .int blength, .int y_28, .ref bwords])), (btext, aB g 1600 Fbtext)] H := hP
          have hD : va_D A [(bwords, aJ g 24 Fbwords), (h, .inr (10, [.int y_26, .int L_1, .int y_27, .long 0, .ref btext, .int blength, .int y_28, .ref bwords])), (btext, aB g 1600 Fbtext)] := hD
          have hw : (0 ≤ y_26.toInt ∧ y_26.toInt ≤ 5) ∧ (0 ≤ y_28.toInt ∧ y_28.toInt ≤ 1600) := hw0
          clear hw0
          have w_29 := hw.1
          have w_30 := hw.2
          clear hw
          refine lv_goto (tgt := 124) hx hb dX10_advance_117 (by decide) ?_
          have hP9 : va_P g.1 vwCl [(h, .inr (10, [.int y_26, .int L_1, .int y_27, .long 0, .ref btext, .int blength, .int y_28, .ref bwords])), (btext, aB g 1600 Fbtext), (bwords, aJ g 24 Fbwords)] H := hP.sub [1, 2, 0] rfl
          have hD9 : va_D A [(h, .inr (10, [.int y_26, .int L_1, .int y_27, .long 0, .ref btext, .int blength, .int y_28, .ref bwords])), (btext, aB g 1600 Fbtext), (bwords, aJ g 24 Fbwords)] := hD.sub [1, 2, 0] (by decide +kernel) rfl
          exact W.vret hx hb hr (fun t ht hW => ⟨⟨(y_26, L_1, y_27, 0, y_28), rfl, ⟨(by first | with_reducible assumption | omega), (by first | with_reducible assumption | omega)⟩, by rw [ht]; exact hP9, by rw [hAe]; exact hD9⟩, hS.F ht⟩) hS.2.2 dX10_advance_124
      · have f_31 := E_ne (rfl : r_10.toInt = _) (by decide : (0 : Int32).toInt = 0) c_12
        refine lv_aload_n hx hb dX10_advance_91 rfl (lv_at hl 0 rfl) ?_
        refine k_v (wr := []) (k_V (n := 0) ⟨hx, hb, hml, hown, hT⟩ hK hP hD [0, 1, 2] rfl (by decide +kernel) (s_X10_takeLetters l g H.size h bsort L_1 0 0 btext Fbtext blength L_1 bwords Fbwords (by first | with_reducible assumption | omega) (by first | with_reducible assumption | omega) (by first | with_reducible assumption | omega)) (gV bw_620 bw_621 bw_622 bw_616 bw_604) rfl rfl (by decide +kernel) ⟨by decide, by decide⟩ (ci := 10) (q0 := 0) rfl rfl (fun _ _ _ _ _ => trivial) (fun _ _ _ => trivial) rfl rfl hl.1 (Nat.le_of_ble_eq_true rfl) dX10_advance_92 ⟨by decide, by decide⟩) hP hD hS hA [0, 1, 2] [] rfl rfl (by decide +kernel) (by decide +kernel) (pr_all fun y_32 => pr_all fun y_33 => pr_all fun z_34 => fun y_35 H locs hw0 hP hD hS => ?_)
        have hP : va_P g.1 vwCl [(h, .inr (10, [.int y_32, .int L_1, .int y_33, .long z_34, .ref btext, .int blength, .int y_35, .ref bwords])), (btext, aB g 1600 Fbtext), (bwords, aJ g 24 Fbwords)] H := hP
        have hD : va_D A [(h, .inr (10, [.int y_32, .int L_1, .int y_33, .long z_34, .ref btext, .int blength, .int y_35, .ref bwords])), (btext, aB g 1600 Fbtext), (bwords, aJ g 24 Fbwords)] := hD
        have hw : (0 ≤ y_32.toInt ∧ y_32.toInt ≤ 5) ∧ (0 ≤ y_35.toInt ∧ y_35.toInt ≤ 1600) := hw0
        clear hw0
        have w_36 := hw.1
        have w_37 := hw.2
        clear hw
        refine lv_goto (tgt := 124) hx hb dX10_advance_95 (by decide) ?_
        have hP9 : va_P g.1 vwCl [(h, .inr (10, [.int y_32, .int L_1, .int y_33, .long z_34, .ref btext, .int blength, .int y_35, .ref bwords])), (btext, aB g 1600 Fbtext), (bwords, aJ g 24 Fbwords)] H := hP.sub [0, 1, 2] rfl
        have hD9 : va_D A [(h, .inr (10, [.int y_32, .int L_1, .int y_33, .long z_34, .ref btext, .int blength, .int y_35, .ref bwords])), (btext, aB g 1600 Fbtext), (bwords, aJ g 24 Fbwords)] := hD.sub [0, 1, 2] (by decide +kernel) rfl
        exact W.vret hx hb hr (fun t ht hW => ⟨⟨(y_32, L_1, y_33, z_34, y_35), rfl, ⟨(by first | with_reducible assumption | omega), (by first | with_reducible assumption | omega)⟩, by rw [ht]; exact hP9, by rw [hAe]; exact hD9⟩, hS.F ht⟩) hS.2.2 dX10_advance_124
    · have f_38 := E_nlt (rfl : L_1.toInt = _) (rfl : blength.toInt = _) c_6
      refine lv_aload_n hx hb dX10_advance_68 rfl (lv_at hl 0 rfl) ?_
      refine lv_iconst (v := 0) hx hb dX10_advance_69 (by decide) ?_
      refine va_put (D := g.1) (ci := 10) (v := .int 0) (ty := .int) (C := RX10) (T := TX10) (N := 8) hx hb hT inF_X10 tyX10 tyX10_ok nmX10 hown hK.1 hP hD hS 0 rfl rfl 0 (by decide) (hT _ bw_409) (fun _ h9 => h9) rfl (by decide +kernel) rfl rfl (Nat.le_of_ble_eq_true rfl) dX10_advance_70 (fun H locs hP hD hS => ?_)
      have hP : va_P g.1 vwCl [(h, .inr (10, [.int 0, .int L_1, .int 0, .long 0, .ref btext, .int blength, .int L_1, .ref bwords])), (btext, aB g 1600 Fbtext), (bwords, aJ g 24 Fbwords)] H := hP
      have hD : va_D A [(h, .inr (10, [.int 0, .int L_1, .int 0, .long 0, .ref btext, .int blength, .int L_1, .ref bwords])), (btext, aB g 1600 Fbtext), (bwords, aJ g 24 Fbwords)] := hD
      refine lv_goto (tgt := 124) hx hb dX10_advance_73 (by decide) ?_
      have hP9 : va_P g.1 vwCl [(h, .inr (10, [.int 0, .int L_1, .int 0, .long 0, .ref btext, .int blength, .int L_1, .ref bwords])), (btext, aB g 1600 Fbtext), (bwords, aJ g 24 Fbwords)] H := hP.sub [0, 1, 2] rfl
      have hD9 : va_D A [(h, .inr (10, [.int 0, .int L_1, .int 0, .long 0, .ref btext, .int blength, .int L_1, .ref bwords])), (btext, aB g 1600 Fbtext), (bwords, aJ g 24 Fbwords)] := hD.sub [0, 1, 2] (by decide +kernel) rfl
      exact W.vret hx hb hr (fun t ht hW => ⟨⟨(0, L_1, 0, 0, L_1), rfl, ⟨⟨by decide, by decide⟩, (by first | with_reducible assumption | omega)⟩, by rw [ht]; exact hP9, by rw [hAe]; exact hD9⟩, hS.F ht⟩) hS.2.2 dX10_advance_124
  · have f_39 := E_nle (rfl : blength.toInt = _) (rfl : L_1.toInt = _) c_4
    refine lv_aload_n hx hb dX10_advance_11 rfl (lv_at hl 0 rfl) ?_
    refine va_get (D := g.1) (ci := 10) (v := .ref btext) (C := RX10) (T := TX10) (N := 8) hx hb hT inF_X10 hown hK.1 hP 0 rfl rfl 4 (by decide) (hT _ bw_597) (fun _ h9 => h9) rfl dX10_advance_12 ?_
    refine lv_aload_n hx hb dX10_advance_15 rfl (lv_at hl 0 rfl) ?_
    refine va_get (D := g.1) (ci := 10) (v := .int L_1) (C := RX10) (T := TX10) (N := 8) hx hb hT inF_X10 hown hK.1 hP 0 rfl rfl 6 (by decide) (hT _ bw_590) (fun _ h9 => h9) rfl dX10_advance_16 ?_
    have h_40 : vp_in L_1 1600 := vp_in_iff.mpr (by omega)
    refine va_bald hx hb hK.1 hP 1 0 rfl rfl (i := L_1) h_40 dX10_advance_19 ?_
    refine lv_topi (fun x_41 ex_41 => ?_)
    have ux_41 := congrArg Int32.toInt ex_41
    refine k_iR (k_S (n := 1) ⟨hx, hb, hml, hown, hT⟩ hK hP hD [] rfl (by decide +kernel) (s_X10_isBlank l g H.size x_41) (gS bw_623 bw_624 bw_625 bw_404) rfl rfl (by decide +kernel) ⟨by decide, by decide⟩ (fun _ _ _ _ _ => trivial) (fun _ _ _ => trivial) rfl rfl hl.1 (Nat.le_of_ble_eq_true rfl) dX10_advance_20 ⟨by decide, by decide⟩) hP hS hA (fun r_42 _ H locs hw0 hP hS => ?_)
    have hw : 0 ≤ r_42.toInt ∧ r_42.toInt ≤ 1 := hw0
    clear hw0
    have w_43 := hw
    refine lv_if_eq (tgt := 39) hx hb dX10_advance_23 (by decide) (fun c_44 => ?_) (fun c_44 => ?_)
    · have f_45 := E_eq (rfl : r_42.toInt = _) (by decide : (0 : Int32).toInt = 0) c_44
      refine lv_aload_n hx hb dX10_advance_39 rfl (lv_at hl 0 rfl) ?_
      refine lv_aload_n hx hb dX10_advance_40 rfl (lv_at hl 0 rfl) ?_
      refine va_get (D := g.1) (ci := 10) (v := .int L_1) (C := RX10) (T := TX10) (N := 8) hx hb hT inF_X10 hown hK.1 hP 0 rfl rfl 6 (by decide) (hT _ bw_590) (fun _ h9 => h9) rfl dX10_advance_41 ?_
      refine va_put (D := g.1) (ci := 10) (v := .int L_1) (ty := .int) (C := RX10) (T := TX10) (N := 8) hx hb hT inF_X10 tyX10 tyX10_ok nmX10 hown hK.1 hP hD hS 0 rfl rfl 1 (by decide) (hT _ bw_596) (fun _ h9 => h9) rfl (by decide +kernel) rfl rfl (Nat.le_of_ble_eq_true rfl) dX10_advance_44 (fun H locs hP hD hS => ?_)
      have hP : va_P g.1 vwCl [(h, .inr (10, [.int bsort, .int L_1, .int bvalue, .long bname, .ref btext, .int blength, .int L_1, .ref bwords])), (btext, aB g 1600 Fbtext), (bwords, aJ g 24 Fbwords)] H := hP
      have hD : va_D A [(h, .inr (10, [.int bsort, .int L_1, .int bvalue, .long bname, .ref btext, .int blength, .int L_1, .ref bwords])), (btext, aB g 1600 Fbtext), (bwords, aJ g 24 Fbwords)] := hD
      refine lv_aload_n hx hb dX10_advance_47 rfl (lv_at hl 0 rfl) ?_
      refine lv_iconst (v := 0) hx hb dX10_advance_48 (by decide) ?_
      refine va_put (D := g.1) (ci := 10) (v := .int 0) (ty := .int) (C := RX10) (T := TX10) (N := 8) hx hb hT inF_X10 tyX10 tyX10_ok nmX10 hown hK.1 hP hD hS 0 rfl rfl 2 (by decide) (hT _ bw_410) (fun _ h9 => h9) rfl (by decide +kernel) rfl rfl (Nat.le_of_ble_eq_true rfl) dX10_advance_49 (fun H locs hP hD hS => ?_)
      have hP : va_P g.1 vwCl [(h, .inr (10, [.int bsort, .int L_1, .int 0, .long bname, .ref btext, .int blength, .int L_1, .ref bwords])), (btext, aB g 1600 Fbtext), (bwords, aJ g 24 Fbwords)] H := hP
      have hD : va_D A [(h, .inr (10, [.int bsort, .int L_1, .int 0, .long bname, .ref btext, .int blength, .int L_1, .ref bwords])), (btext, aB g 1600 Fbtext), (bwords, aJ g 24 Fbwords)] := hD
      refine lv_aload_n hx hb dX10_advance_52 rfl (lv_at hl 0 rfl) ?_
      refine lv_lconst (v := 0) hx hb dX10_advance_53 (by decide) ?_
      refine va_put (D := g.1) (ci := 10) (v := .long 0) (ty := .long) (C := RX10) (T := TX10) (N := 8) hx hb hT inF_X10 tyX10 tyX10_ok nmX10 hown hK.1 hP hD hS 0 rfl rfl 3 (by decide) (hT _ bw_593) (fun _ h9 => h9) rfl (by decide +kernel) rfl rfl (Nat.le_of_ble_eq_true rfl) dX10_advance_54 (fun H locs hP hD hS => ?_)
      have hP : va_P g.1 vwCl [(h, .inr (10, [.int bsort, .int L_1, .int 0, .long 0, .ref btext, .int blength, .int L_1, .ref bwords])), (btext, aB g 1600 Fbtext), (bwords, aJ g 24 Fbwords)] H := hP
      have hD : va_D A [(h, .inr (10, [.int bsort, .int L_1, .int 0, .long 0, .ref btext, .int blength, .int L_1, .ref bwords])), (btext, aB g 1600 Fbtext), (bwords, aJ g 24 Fbwords)] := hD
      refine lv_aload_n hx hb dX10_advance_57 rfl (lv_at hl 0 rfl) ?_
      refine va_get (D := g.1) (ci := 10) (v := .int L_1) (C := RX10) (T := TX10) (N := 8) hx hb hT inF_X10 hown hK.1 hP 0 rfl rfl 6 (by decide) (hT _ bw_590) (fun _ h9 => h9) rfl dX10_advance_58 ?_
      refine lv_aload_n hx hb dX10_advance_61 rfl (lv_at hl 0 rfl) ?_
      refine va_get (D := g.1) (ci := 10) (v := .int blength) (C := RX10) (T := TX10) (N := 8) hx hb hT inF_X10 hown hK.1 hP 0 rfl rfl 5 (by decide) (hT _ bw_591) (fun _ h9 => h9) rfl dX10_advance_62 ?_
      refine lv_icmp_lt (tgt := 76) hx hb dX10_advance_65 (by decide) (fun c_46 => ?_) (fun c_46 => ?_)
      · have f_47 := E_lt (rfl : L_1.toInt = _) (rfl : blength.toInt = _) c_46
        refine lv_aload_n hx hb dX10_advance_76 rfl (lv_at hl 0 rfl) ?_
        refine va_get (D := g.1) (ci := 10) (v := .ref btext) (C := RX10) (T := TX10) (N := 8) hx hb hT inF_X10 hown hK.1 hP 0 rfl rfl 4 (by decide) (hT _ bw_597) (fun _ h9 => h9) rfl dX10_advance_77 ?_
        refine lv_aload_n hx hb dX10_advance_80 rfl (lv_at hl 0 rfl) ?_
        refine va_get (D := g.1) (ci := 10) (v := .int L_1) (C := RX10) (T := TX10) (N := 8) hx hb hT inF_X10 hown hK.1 hP 0 rfl rfl 6 (by decide) (hT _ bw_590) (fun _ h9 => h9) rfl dX10_advance_81 ?_
        have h_48 : vp_in L_1 1600 := vp_in_iff.mpr (by omega)
        refine va_bald hx hb hK.1 hP 1 0 rfl rfl (i := L_1) h_48 dX10_advance_84 ?_
        refine lv_topi (fun x_49 ex_49 => ?_)
        have ux_49 := congrArg Int32.toInt ex_49
        refine k_iR (k_S (n := 1) ⟨hx, hb, hml, hown, hT⟩ hK hP hD [] rfl (by decide +kernel) (s_X10_isLetter l g H.size x_49) (gS bw_598 bw_599 bw_600 bw_405) rfl rfl (by decide +kernel) ⟨by decide, by decide⟩ (fun _ _ _ _ _ => trivial) (fun _ _ _ => trivial) rfl rfl hl.1 (Nat.le_of_ble_eq_true rfl) dX10_advance_85 ⟨by decide, by decide⟩) hP hS hA (fun r_50 _ H locs hw0 hP hS => ?_)
        have hw : 0 ≤ r_50.toInt ∧ r_50.toInt ≤ 1 := hw0
        clear hw0
        have w_51 := hw
        refine lv_if_eq (tgt := 98) hx hb dX10_advance_88 (by decide) (fun c_52 => ?_) (fun c_52 => ?_)
        · have f_53 := E_eq (rfl : r_50.toInt = _) (by decide : (0 : Int32).toInt = 0) c_52
          refine lv_aload_n hx hb dX10_advance_98 rfl (lv_at hl 0 rfl) ?_
          refine va_get (D := g.1) (ci := 10) (v := .ref btext) (C := RX10) (T := TX10) (N := 8) hx hb hT inF_X10 hown hK.1 hP 0 rfl rfl 4 (by decide) (hT _ bw_597) (fun _ h9 => h9) rfl dX10_advance_99 ?_
          refine lv_aload_n hx hb dX10_advance_102 rfl (lv_at hl 0 rfl) ?_
          refine va_get (D := g.1) (ci := 10) (v := .int L_1) (C := RX10) (T := TX10) (N := 8) hx hb hT inF_X10 hown hK.1 hP 0 rfl rfl 6 (by decide) (hT _ bw_590) (fun _ h9 => h9) rfl dX10_advance_103 ?_
          have h_54 : vp_in L_1 1600 := vp_in_iff.mpr (by omega)
          refine va_bald hx hb hK.1 hP 1 0 rfl rfl (i := L_1) h_54 dX10_advance_106 ?_
          refine lv_topi (fun x_55 ex_55 => ?_)
          have ux_55 := congrArg Int32.toInt ex_55
          refine k_iR (k_S (n := 1) ⟨hx, hb, hml, hown, hT⟩ hK hP hD [] rfl (by decide +kernel) (s_X10_isDigit l g H.size x_55) (gS bw_605 bw_606 bw_607 bw_406) rfl rfl (by decide +kernel) ⟨by decide, by decide⟩ (fun _ _ _ _ _ => trivial) (fun _ _ _ => trivial) rfl rfl hl.1 (Nat.le_of_ble_eq_true rfl) dX10_advance_107 ⟨by decide, by decide⟩) hP hS hA (fun r_56 _ H locs hw0 hP hS => ?_)
          have hw : 0 ≤ r_56.toInt ∧ r_56.toInt ≤ 1 := hw0
          clear hw0
          have w_57 := hw
          refine lv_if_eq (tgt := 120) hx hb dX10_advance_110 (by decide) (fun c_58 => ?_) (fun c_58 => ?_)
          · have f_59 := E_eq (rfl : r_56.toInt = _) (by decide : (0 : Int32).toInt = 0) c_58
            refine lv_aload_n hx hb dX10_advance_120 rfl (lv_at hl 0 rfl) ?_
            refine k_v (wr := [(bwords, aJ g 24 Fbwords)]) (k_V (n := 0) ⟨hx, hb, hml, hown, hT⟩ hK hP hD [0, 1] rfl (by decide +kernel) (s_X10_takeSign l g H.size h bsort L_1 0 0 btext Fbtext blength L_1 bwords aW fw (by first | with_reducible assumption | omega) (by first | with_reducible assumption | omega) (by first | with_reducible assumption | omega) (by first | with_reducible assumption | omega)) (gV bw_613 bw_614 bw_615 bw_616 bw_612) rfl rfl (by decide +kernel) ⟨by decide, by decide⟩ (ci := 10) (q0 := 0) rfl rfl sX.calling (sE.go hX hS (va_free (wc := [(h, .inr (10, [.int bsort, .int L_1, .int 0, .long 0, .ref btext, .int blength, .int L_1, .ref bwords])), (btext, aB g 1600 Fbtext)]) hD hS hA [0, 1] rfl)) rfl rfl hl.1 (Nat.le_of_ble_eq_true rfl) dX10_advance_121 ⟨by decide, by decide⟩) hP hD hS hA [0, 1] [2] rfl rfl (by decide +kernel) (by decide +kernel) (pr_all fun y_60 => pr_all fun y_61 => fun y_62 H locs hw0 hP hD hS => ?_)
            have hP : va_P g.1 vwCl [(bwords, aJ g 24 Fbwords), (h, .inr (10, [.int y_60, .int L_1, .int y_61, .long 0, .ref btext, .int blength, .int y_62, .ref bwords])), (btext, aB g 1600 Fbtext)] H := hP
            have hD : va_D A [(bwords, aJ g 24 Fbwords), (h, .inr (10, [.int y_60, .int L_1, .int y_61, .long 0, .ref btext, .int blength, .int y_62, .ref bwords])), (btext, aB g 1600 Fbtext)] := hD
            have hw : (0 ≤ y_60.toInt ∧ y_60.toInt ≤ 5) ∧ (0 ≤ y_62.toInt ∧ y_62.toInt ≤ 1600) := hw0
            clear hw0
            have w_63 := hw.1
            have w_64 := hw.2
            clear hw
            have hP9 : va_P g.1 vwCl [(h, .inr (10, [.int y_60, .int L_1, .int y_61, .long 0, .ref btext, .int blength, .int y_62, .ref bwords])), (btext, aB g 1600 Fbtext), (bwords, aJ g 24 Fbwords)] H := hP.sub [1, 2, 0] rfl
            have hD9 : va_D A [(h, .inr (10, [.int y_60, .int L_1, .int y_61, .long 0, .ref btext, .int blength, .int y_62, .ref bwords])), (btext, aB g 1600 Fbtext), (bwords, aJ g 24 Fbwords)] := hD.sub [1, 2, 0] (by decide +kernel) rfl
            exact W.vret hx hb hr (fun t ht hW => ⟨⟨(y_60, L_1, y_61, 0, y_62), rfl, ⟨(by first | with_reducible assumption | omega), (by first | with_reducible assumption | omega)⟩, by rw [ht]; exact hP9, by rw [hAe]; exact hD9⟩, hS.F ht⟩) hS.2.2 dX10_advance_124
          · have f_65 := E_ne (rfl : r_56.toInt = _) (by decide : (0 : Int32).toInt = 0) c_58
            refine lv_aload_n hx hb dX10_advance_113 rfl (lv_at hl 0 rfl) ?_
            refine k_v (wr := [(bwords, aJ g 24 Fbwords)]) (k_V (n := 0) ⟨hx, hb, hml, hown, hT⟩ hK hP hD [0, 1] rfl (by decide +kernel) (s_X10_takeDigits l g H.size h bsort L_1 0 0 btext Fbtext blength L_1 bwords (by first | with_reducible assumption | omega) (by first | with_reducible assumption | omega) (by first | with_reducible assumption | omega)) (gV bw_617 bw_618 bw_619 bw_616 bw_608) rfl rfl (by decide +kernel) ⟨by decide, by decide⟩ (ci := 10) (q0 := 0) rfl rfl (fun _ _ _ _ _ => trivial) (fun _ _ _ => trivial) rfl rfl hl.1 (Nat.le_of_ble_eq_true rfl) dX10_advance_114 ⟨by decide, by decide⟩) hP hD hS hA [0, 1] [2] rfl rfl (by decide +kernel) (by decide +kernel) (pr_all fun y_66 => pr_all fun y_67 => fun y_68 H locs hw0 hP hD hS => ?_)
            have hP : va_P g.1 vwCl [(bwords, aJ g 24 Fbwords), (h, .inr (10, [.int y_66, .int L_1, .int y_67, .long 0, .ref btext, .int blength, .int y_68, .ref bwords])), (btext, aB g 1600 Fbtext)] H := hP
            have hD : va_D A [(bwords, aJ g 24 Fbwords), (h, .inr (10, [.int y_66, .int L_1, .int y_67, .long 0, .ref btext, .int blength, .int y_68, .ref bwords])), (btext, aB g 1600 Fbtext)] := hD
            have hw : (0 ≤ y_66.toInt ∧ y_66.toInt ≤ 5) ∧ (0 ≤ y_68.toInt ∧ y_68.toInt ≤ 1600) := hw0
            clear hw0
            have w_69 := hw.1
            have w_70 := hw.2
            clear hw
            refine lv_goto (tgt := 124) hx hb dX10_advance_117 (by decide) ?_
            have hP9 : va_P g.1 vwCl [(h, .inr (10, [.int y_66, .int L_1, .int y_67, .long 0, .ref btext, .int blength, .int y_68, .ref bwords])), (btext, aB g 1600 Fbtext), (bwords, aJ g 24 Fbwords)] H := hP.sub [1, 2, 0] rfl
            have hD9 : va_D A [(h, .inr (10, [.int y_66, .int L_1, .int y_67, .long 0, .ref btext, .int blength, .int y_68, .ref bwords])), (btext, aB g 1600 Fbtext), (bwords, aJ g 24 Fbwords)] := hD.sub [1, 2, 0] (by decide +kernel) rfl
            exact W.vret hx hb hr (fun t ht hW => ⟨⟨(y_66, L_1, y_67, 0, y_68), rfl, ⟨(by first | with_reducible assumption | omega), (by first | with_reducible assumption | omega)⟩, by rw [ht]; exact hP9, by rw [hAe]; exact hD9⟩, hS.F ht⟩) hS.2.2 dX10_advance_124
        · have f_71 := E_ne (rfl : r_50.toInt = _) (by decide : (0 : Int32).toInt = 0) c_52
          refine lv_aload_n hx hb dX10_advance_91 rfl (lv_at hl 0 rfl) ?_
          refine k_v (wr := []) (k_V (n := 0) ⟨hx, hb, hml, hown, hT⟩ hK hP hD [0, 1, 2] rfl (by decide +kernel) (s_X10_takeLetters l g H.size h bsort L_1 0 0 btext Fbtext blength L_1 bwords Fbwords (by first | with_reducible assumption | omega) (by first | with_reducible assumption | omega) (by first | with_reducible assumption | omega)) (gV bw_620 bw_621 bw_622 bw_616 bw_604) rfl rfl (by decide +kernel) ⟨by decide, by decide⟩ (ci := 10) (q0 := 0) rfl rfl (fun _ _ _ _ _ => trivial) (fun _ _ _ => trivial) rfl rfl hl.1 (Nat.le_of_ble_eq_true rfl) dX10_advance_92 ⟨by decide, by decide⟩) hP hD hS hA [0, 1, 2] [] rfl rfl (by decide +kernel) (by decide +kernel) (pr_all fun y_72 => pr_all fun y_73 => pr_all fun z_74 => fun y_75 H locs hw0 hP hD hS => ?_)
          have hP : va_P g.1 vwCl [(h, .inr (10, [.int y_72, .int L_1, .int y_73, .long z_74, .ref btext, .int blength, .int y_75, .ref bwords])), (btext, aB g 1600 Fbtext), (bwords, aJ g 24 Fbwords)] H := hP
          have hD : va_D A [(h, .inr (10, [.int y_72, .int L_1, .int y_73, .long z_74, .ref btext, .int blength, .int y_75, .ref bwords])), (btext, aB g 1600 Fbtext), (bwords, aJ g 24 Fbwords)] := hD
          have hw : (0 ≤ y_72.toInt ∧ y_72.toInt ≤ 5) ∧ (0 ≤ y_75.toInt ∧ y_75.toInt ≤ 1600) := hw0
          clear hw0
          have w_76 := hw.1
          have w_77 := hw.2
          clear hw
          refine lv_goto (tgt := 124) hx hb dX10_advance_95 (by decide) ?_
          have hP9 : va_P g.1 vwCl [(h, .inr (10, [.int y_72, .int L_1, .int y_73, .long z_74, .ref btext, .int blength, .int y_75, .ref bwords])), (btext, aB g 1600 Fbtext), (bwords, aJ g 24 Fbwords)] H := hP.sub [0, 1, 2] rfl
          have hD9 : va_D A [(h, .inr (10, [.int y_72, .int L_1, .int y_73, .long z_74, .ref btext, .int blength, .int y_75, .ref bwords])), (btext, aB g 1600 Fbtext), (bwords, aJ g 24 Fbwords)] := hD.sub [0, 1, 2] (by decide +kernel) rfl
          exact W.vret hx hb hr (fun t ht hW => ⟨⟨(y_72, L_1, y_73, z_74, y_75), rfl, ⟨(by first | with_reducible assumption | omega), (by first | with_reducible assumption | omega)⟩, by rw [ht]; exact hP9, by rw [hAe]; exact hD9⟩, hS.F ht⟩) hS.2.2 dX10_advance_124
      · have f_78 := E_nlt (rfl : L_1.toInt = _) (rfl : blength.toInt = _) c_46
        refine lv_aload_n hx hb dX10_advance_68 rfl (lv_at hl 0 rfl) ?_
        refine lv_iconst (v := 0) hx hb dX10_advance_69 (by decide) ?_
        refine va_put (D := g.1) (ci := 10) (v := .int 0) (ty := .int) (C := RX10) (T := TX10) (N := 8) hx hb hT inF_X10 tyX10 tyX10_ok nmX10 hown hK.1 hP hD hS 0 rfl rfl 0 (by decide) (hT _ bw_409) (fun _ h9 => h9) rfl (by decide +kernel) rfl rfl (Nat.le_of_ble_eq_true rfl) dX10_advance_70 (fun H locs hP hD hS => ?_)
        have hP : va_P g.1 vwCl [(h, .inr (10, [.int 0, .int L_1, .int 0, .long 0, .ref btext, .int blength, .int L_1, .ref bwords])), (btext, aB g 1600 Fbtext), (bwords, aJ g 24 Fbwords)] H := hP
        have hD : va_D A [(h, .inr (10, [.int 0, .int L_1, .int 0, .long 0, .ref btext, .int blength, .int L_1, .ref bwords])), (btext, aB g 1600 Fbtext), (bwords, aJ g 24 Fbwords)] := hD
        refine lv_goto (tgt := 124) hx hb dX10_advance_73 (by decide) ?_
        have hP9 : va_P g.1 vwCl [(h, .inr (10, [.int 0, .int L_1, .int 0, .long 0, .ref btext, .int blength, .int L_1, .ref bwords])), (btext, aB g 1600 Fbtext), (bwords, aJ g 24 Fbwords)] H := hP.sub [0, 1, 2] rfl
        have hD9 : va_D A [(h, .inr (10, [.int 0, .int L_1, .int 0, .long 0, .ref btext, .int blength, .int L_1, .ref bwords])), (btext, aB g 1600 Fbtext), (bwords, aJ g 24 Fbwords)] := hD.sub [0, 1, 2] (by decide +kernel) rfl
        exact W.vret hx hb hr (fun t ht hW => ⟨⟨(0, L_1, 0, 0, L_1), rfl, ⟨⟨by decide, by decide⟩, (by first | with_reducible assumption | omega)⟩, by rw [ht]; exact hP9, by rw [hAe]; exact hD9⟩, hS.F ht⟩) hS.2.2 dX10_advance_124
    · have f_79 := E_ne (rfl : r_42.toInt = _) (by decide : (0 : Int32).toInt = 0) c_44
      refine lv_aload_n hx hb dX10_advance_26 rfl (lv_at hl 0 rfl) ?_
      refine lv_dup hx hb dX10_advance_27 rfl ?_
      refine va_get (D := g.1) (ci := 10) (v := .int L_1) (C := RX10) (T := TX10) (N := 8) hx hb hT inF_X10 hown hK.1 hP 0 rfl rfl 6 (by decide) (hT _ bw_590) (fun _ h9 => h9) rfl dX10_advance_28 ?_
      refine lv_iconst (v := 1) hx hb dX10_advance_31 (by decide) ?_
      refine lv_iadd hx hb dX10_advance_32 ?_
      refine lv_topi (fun x_80 ex_80 => ?_)
      have fx_80 : x_80.toInt = L_1.toInt + 1 := by rw [ex_80]; exact I_add rfl (by decide : (1 : Int32).toInt = 1) (by omega) (by omega)
      refine va_put (D := g.1) (ci := 10) (v := .int x_80) (ty := .int) (C := RX10) (T := TX10) (N := 8) hx hb hT inF_X10 tyX10 tyX10_ok nmX10 hown hK.1 hP hD hS 0 rfl rfl 6 (by decide) (hT _ bw_590) (fun _ h9 => h9) rfl (by decide +kernel) rfl rfl (Nat.le_of_ble_eq_true rfl) dX10_advance_33 (fun H locs hP hD hS => ?_)
      have hP : va_P g.1 vwCl [(h, .inr (10, [.int bsort, .int bplace, .int bvalue, .long bname, .ref btext, .int blength, .int x_80, .ref bwords])), (btext, aB g 1600 Fbtext), (bwords, aJ g 24 Fbwords)] H := hP
      have hD : va_D A [(h, .inr (10, [.int bsort, .int bplace, .int bvalue, .long bname, .ref btext, .int blength, .int x_80, .ref bwords])), (btext, aB g 1600 Fbtext), (bwords, aJ g 24 Fbwords)] := hD
      refine lv_goto (tgt := 0) hx hb dX10_advance_36 (by decide) ?_
      exact ih (n - 1) (by omega) H locs ls ⟨x_80, (by first | with_reducible assumption | omega), by omega, hP.sub [0, 1, 2] rfl, hD.sub [0, 1, 2] (by decide +kernel) rfl, hS, lv_sub hl [0] rfl⟩

theorem bw_627 : Cond.methodLink RX10 35 Lib.Math.min.name ∈ gT := gT_tb 597 (by decide +kernel) (by decide +kernel)
theorem bw_628 : Cond.methodLink RX10 47 yX10_advance ∈ gT := gT_tb 600 (by decide +kernel) (by decide +kernel)
theorem bw_629 : Cond.instanceMethod yX10_advance ∈ gT := gT_tb 601 (by decide +kernel) (by decide +kernel)
theorem bw_630 : Cond.selects RX10 yX10_advance yX10_advance ∈ gT := gT_tb 602 (by decide +kernel) (by decide +kernel)
theorem bw_631 : Cond.code yX10_open cX10_open 3 none ∈ gT := gT_tb 596 (by decide +kernel) (by decide +kernel)
theorem dX10_open_0 : decode cX10_open 0 = .ok (.aload_n 0, 1) := by decide +kernel
theorem dX10_open_1 : decode cX10_open 1 = .ok (.aload_n 1, 1) := by decide +kernel
theorem dX10_open_2 : decode cX10_open 2 = .ok (.putfield 31, 3) := by decide +kernel
theorem dX10_open_5 : decode cX10_open 5 = .ok (.aload_n 0, 1) := by decide +kernel
theorem dX10_open_6 : decode cX10_open 6 = .ok (.aload_n 1, 1) := by decide +kernel
theorem dX10_open_7 : decode cX10_open 7 = .ok (.ifnonnull 7, 3) := by decide +kernel
theorem dX10_open_14 : decode cX10_open 14 = .ok (.iload_n 2, 1) := by decide +kernel
theorem dX10_open_15 : decode cX10_open 15 = .ok (.aload_n 1, 1) := by decide +kernel
theorem dX10_open_16 : decode cX10_open 16 = .ok (.arraylength, 1) := by decide +kernel
theorem dX10_open_17 : decode cX10_open 17 = .ok (.invokestatic 35, 3) := by decide +kernel
theorem dX10_open_20 : decode cX10_open 20 = .ok (.putfield 41, 3) := by decide +kernel
theorem dX10_open_23 : decode cX10_open 23 = .ok (.aload_n 0, 1) := by decide +kernel
theorem dX10_open_24 : decode cX10_open 24 = .ok (.iconst 0, 1) := by decide +kernel
theorem dX10_open_25 : decode cX10_open 25 = .ok (.putfield 44, 3) := by decide +kernel
theorem dX10_open_28 : decode cX10_open 28 = .ok (.aload_n 0, 1) := by decide +kernel
theorem dX10_open_29 : decode cX10_open 29 = .ok (.invokevirtual 47, 3) := by decide +kernel
theorem dX10_open_32 : decode cX10_open 32 = .ok (.return_, 1) := by decide +kernel
set_option maxHeartbeats 4000000 in
set_option maxRecDepth 100000 in
theorem s_X10_open (l : Launch) (g : GG) (sz : Nat) (h : Nat) (bsort : Int32) (bplace : Int32) (bvalue : Int32) (bname : Int64) (btext : Value) (blength : Int32) (bfollowing : Int32) (bwords : Nat) (Fbwords : Nat → Int64) (tx : Nat) (Ftx : Nat → Int32) (p0 : Int32) (aW : Nat) (fw : Nat → Int32) (hh0 : 0 ≤ bsort.toInt ∧ bsort.toInt ≤ 5) (hh1 : 0 ≤ blength.toInt ∧ blength.toInt ≤ 1600) (hh2 : 0 ≤ bfollowing.toInt ∧ bfollowing.toInt ≤ 1600) (hh3 : 0 ≤ p0.toInt ∧ p0.toInt ≤ 1600) : Met l yX10_open (.code yX10_open cX10_open 3 none :: gT) ({ frames := 6, cells := 0, slots := 0, locals := 166 }) (va_Pc [.ref h, .ref tx, .int p0] (Pst g sz [(h, .inr (10, [.int bsort, .int bplace, .int bvalue, .long bname, btext, .int blength, .int bfollowing, .ref bwords])), (bwords, aJ g 24 Fbwords), (tx, aB g 1600 Ftx)] (sX g.2.2.2.2.2.2.2 11 aW fw (va_A [(h, .inr (10, [.int bsort, .int bplace, .int bvalue, .long bname, btext, .int blength, .int bfollowing, .ref bwords])), (bwords, aJ g 24 Fbwords), (tx, aB g 1600 Ftx)] sz)))) (va_Qv (fun ((o0_sort, o1_place, o2_value, o3_name, o4_length, o5_following) : Int32 × Int32 × Int32 × Int64 × Int32 × Int32) => (0 ≤ o0_sort.toInt ∧ o0_sort.toInt ≤ 5) ∧ (0 ≤ o4_length.toInt ∧ o4_length.toInt ≤ 1600) ∧ (0 ≤ o5_following.toInt ∧ o5_following.toInt ≤ 1600)) (Qst g [(h, .inr (10, [.int bsort, .int bplace, .int bvalue, .long bname, btext, .int blength, .int bfollowing, .ref bwords])), (bwords, aJ g 24 Fbwords), (tx, aB g 1600 Ftx)] sz (fun ((o0_sort, o1_place, o2_value, o3_name, o4_length, o5_following) : Int32 × Int32 × Int32 × Int64 × Int32 × Int32) => [(h, .inr (10, [.int o0_sort, .int o1_place, .int o2_value, .long o3_name, .ref tx, .int o4_length, .int o5_following, .ref bwords])), (bwords, aJ g 24 Fbwords), (tx, aB g 1600 Ftx)])) (va_A [(h, .inr (10, [.int bsort, .int bplace, .int bvalue, .long bname, btext, .int blength, .int bfollowing, .ref bwords])), (bwords, aJ g 24 Fbwords), (tx, aB g 1600 Ftx)] sz)) 0 0 (va_A [(h, .inr (10, [.int bsort, .int bplace, .int bvalue, .long bname, btext, .int blength, .int bfollowing, .ref bwords])), (bwords, aJ g 24 Fbwords), (tx, aB g 1600 Ftx)] sz) := by
  refine Met.ofW (cc := cX10_open) (maxL := 3) (ret := none) (by decide) rfl ?_
  intro p e s m args below meth c s₁ B hml hv
  obtain ⟨rfl, hsz, hP, hK, hD0, hX⟩ := hv
  have hx := B.exec
  have hb := B.bytes
  have hr := B.returns
  have hT : ∀ w ∈ gT, w.before _ s = true := fun w h => atoms_spec (ws := .code yX10_open cX10_open 3 none :: gT) B.pre w (List.mem_cons_of_mem _ h)
  have hown : s.vm.findClass RX10 = some m.cls := findClass_of_methodNamed B.named
  have hlocks := B.notSynchronized
  subst hsz
  have hD := hD0.self (sz := s.heap.size)
  generalize hAe : va_A [(h, .inr (10, [.int bsort, .int bplace, .int bvalue, .long bname, btext, .int blength, .int bfollowing, .ref bwords])), (bwords, aJ g 24 Fbwords), (tx, aB g 1600 Ftx)] s.heap.size = A at hD hX ⊢
  have hA : ∀ q : Nat, s.heap.size ≤ q → A q := fun q h => by rw [← hAe]; exact Or.inr h
  have hS : va_S A s.heap s.heap [] := va_S.rf
  have hl := lv_entry ([.ref h, .ref tx, .int p0]) (n := 3) (Nat.le_of_ble_eq_true rfl)
  rw [lg_entry_eq]
  generalize (lg_sl ([.ref h, .ref tx, .int p0]) ++ List.replicate (3 - (lg_sl ([.ref h, .ref tx, .int p0])).length) Slot.unset).toArray = ls at hl ⊢
  have hl : lv_has ls 3 [(0, .ref h), (1, .ref tx), (2, .int p0)] := hl
  refine p_nH (fun H hH => ?_)
  have hP : va_P g.1 vwCl [(h, .inr (10, [.int bsort, .int bplace, .int bvalue, .long bname, btext, .int blength, .int bfollowing, .ref bwords])), (bwords, aJ g 24 Fbwords), (tx, aB g 1600 Ftx)] H := by rw [hH]; exact hP
  have hS : va_S A s.heap H [] := by rw [hH]; exact hS
  refine lv_aload_n hx hb dX10_open_0 rfl (lv_at hl 0 rfl) ?_
  refine lv_aload_n hx hb dX10_open_1 rfl (lv_at hl 1 rfl) ?_
  refine va_put (D := g.1) (ci := 10) (v := .ref tx) (ty := .array .byte) (C := RX10) (T := TX10) (N := 8) hx hb hT inF_X10 tyX10 tyX10_ok nmX10 hown hK.1 hP hD hS 0 rfl rfl 4 (by decide) (hT _ bw_597) (fun _ h9 => h9) rfl (by decide +kernel) rfl rfl (Nat.le_of_ble_eq_true rfl) dX10_open_2 (fun H locs hP hD hS => ?_)
  have hP : va_P g.1 vwCl [(h, .inr (10, [.int bsort, .int bplace, .int bvalue, .long bname, .ref tx, .int blength, .int bfollowing, .ref bwords])), (bwords, aJ g 24 Fbwords), (tx, aB g 1600 Ftx)] H := hP
  have hD : va_D A [(h, .inr (10, [.int bsort, .int bplace, .int bvalue, .long bname, .ref tx, .int blength, .int bfollowing, .ref bwords])), (bwords, aJ g 24 Fbwords), (tx, aB g 1600 Ftx)] := hD
  refine lv_aload_n hx hb dX10_open_5 rfl (lv_at hl 0 rfl) ?_
  refine lv_aload_n hx hb dX10_open_6 rfl (lv_at hl 1 rfl) ?_
  refine lv_ifnonnull (tgt := 14) hx hb dX10_open_7 (by decide) ?_
  refine lv_iload_n hx hb dX10_open_14 rfl (lv_at hl 2 rfl) ?_
  refine lv_aload_n hx hb dX10_open_15 rfl (lv_at hl 1 rfl) ?_
  refine va_alen (v := 1600) hx hb hK.1 hP 2 0 rfl rfl rfl dX10_open_16 ?_
  refine va_mmin hx hb (hml.trans hl.1.symm) hown (hT _ bw_627) (hT _ bw_160) (hT _ bw_161) (hT _ bw_159) (Nat.le_of_ble_eq_true rfl) (Nat.le_of_ble_eq_true rfl) (Nat.le_of_ble_eq_true rfl) (Nat.le_of_ble_eq_true rfl) dX10_open_17 ?_
  refine lv_topi (fun x_1 ex_1 => ?_)
  have fx_1 : x_1.toInt = min p0.toInt 1600 := by rw [ex_1]; exact I_min rfl (by decide : (1600 : Int32).toInt = 1600)
  refine va_put (D := g.1) (ci := 10) (v := .int x_1) (ty := .int) (C := RX10) (T := TX10) (N := 8) hx hb hT inF_X10 tyX10 tyX10_ok nmX10 hown hK.1 hP hD hS 0 rfl rfl 5 (by decide) (hT _ bw_591) (fun _ h9 => h9) rfl (by decide +kernel) rfl rfl (Nat.le_of_ble_eq_true rfl) dX10_open_20 (fun H locs hP hD hS => ?_)
  have hP : va_P g.1 vwCl [(h, .inr (10, [.int bsort, .int bplace, .int bvalue, .long bname, .ref tx, .int x_1, .int bfollowing, .ref bwords])), (bwords, aJ g 24 Fbwords), (tx, aB g 1600 Ftx)] H := hP
  have hD : va_D A [(h, .inr (10, [.int bsort, .int bplace, .int bvalue, .long bname, .ref tx, .int x_1, .int bfollowing, .ref bwords])), (bwords, aJ g 24 Fbwords), (tx, aB g 1600 Ftx)] := hD
  refine lv_aload_n hx hb dX10_open_23 rfl (lv_at hl 0 rfl) ?_
  refine lv_iconst (v := 0) hx hb dX10_open_24 (by decide) ?_
  refine va_put (D := g.1) (ci := 10) (v := .int 0) (ty := .int) (C := RX10) (T := TX10) (N := 8) hx hb hT inF_X10 tyX10 tyX10_ok nmX10 hown hK.1 hP hD hS 0 rfl rfl 6 (by decide) (hT _ bw_590) (fun _ h9 => h9) rfl (by decide +kernel) rfl rfl (Nat.le_of_ble_eq_true rfl) dX10_open_25 (fun H locs hP hD hS => ?_)
  have hP : va_P g.1 vwCl [(h, .inr (10, [.int bsort, .int bplace, .int bvalue, .long bname, .ref tx, .int x_1, .int 0, .ref bwords])), (bwords, aJ g 24 Fbwords), (tx, aB g 1600 Ftx)] H := hP
  have hD : va_D A [(h, .inr (10, [.int bsort, .int bplace, .int bvalue, .long bname, .ref tx, .int x_1, .int 0, .ref bwords])), (bwords, aJ g 24 Fbwords), (tx, aB g 1600 Ftx)] := hD
  refine lv_aload_n hx hb dX10_open_28 rfl (lv_at hl 0 rfl) ?_
  refine k_v (wr := []) (k_V (n := 0) ⟨hx, hb, hml, hown, hT⟩ hK hP hD [0, 2, 1] rfl (by decide +kernel) (s_X10_advance l g H.size h bsort bplace bvalue bname tx Ftx x_1 0 bwords Fbwords aW fw (by first | with_reducible assumption | omega) (by first | with_reducible assumption | omega) (by decide)) (gV bw_628 bw_629 bw_630 bw_616 bw_626) rfl rfl (by decide +kernel) ⟨by decide, by decide⟩ (ci := 10) (q0 := 0) rfl rfl sX.calling (sE.go hX hS (va_free (wc := [(h, .inr (10, [.int bsort, .int bplace, .int bvalue, .long bname, .ref tx, .int x_1, .int 0, .ref bwords])), (tx, aB g 1600 Ftx), (bwords, aJ g 24 Fbwords)]) hD hS hA [0, 2, 1] rfl)) rfl rfl hl.1 (Nat.le_of_ble_eq_true rfl) dX10_open_29 ⟨by decide, by decide⟩) hP hD hS hA [0, 2, 1] [] rfl rfl (by decide +kernel) (by decide +kernel) (pr_all fun y_2 => pr_all fun y_3 => pr_all fun y_4 => pr_all fun z_5 => fun y_6 H locs hw0 hP hD hS => ?_)
  have hP : va_P g.1 vwCl [(h, .inr (10, [.int y_2, .int y_3, .int y_4, .long z_5, .ref tx, .int x_1, .int y_6, .ref bwords])), (tx, aB g 1600 Ftx), (bwords, aJ g 24 Fbwords)] H := hP
  have hD : va_D A [(h, .inr (10, [.int y_2, .int y_3, .int y_4, .long z_5, .ref tx, .int x_1, .int y_6, .ref bwords])), (tx, aB g 1600 Ftx), (bwords, aJ g 24 Fbwords)] := hD
  have hw : (0 ≤ y_2.toInt ∧ y_2.toInt ≤ 5) ∧ (0 ≤ y_6.toInt ∧ y_6.toInt ≤ 1600) := hw0
  clear hw0
  have w_7 := hw.1
  have w_8 := hw.2
  clear hw
  have hP9 : va_P g.1 vwCl [(h, .inr (10, [.int y_2, .int y_3, .int y_4, .long z_5, .ref tx, .int x_1, .int y_6, .ref bwords])), (bwords, aJ g 24 Fbwords), (tx, aB g 1600 Ftx)] H := hP.sub [0, 2, 1] rfl
  have hD9 : va_D A [(h, .inr (10, [.int y_2, .int y_3, .int y_4, .long z_5, .ref tx, .int x_1, .int y_6, .ref bwords])), (bwords, aJ g 24 Fbwords), (tx, aB g 1600 Ftx)] := hD.sub [0, 2, 1] (by decide +kernel) rfl
  exact W.vret hx hb hr (fun t ht hW => ⟨⟨(y_2, y_3, y_4, z_5, x_1, y_6), rfl, ⟨(by first | with_reducible assumption | omega), (by first | with_reducible assumption | omega), (by first | with_reducible assumption | omega)⟩, by rw [ht]; exact hP9, by rw [hAe]; exact hD9⟩, hS.F ht⟩) hS.2.2 dX10_open_32
