theorem bw_79 : Cond.code yJ7_fill_53178 cJ7_fill_53178 4 none ∈ gT := gT_tb 516 (by decide +kernel) (by decide +kernel)
theorem dJ7_fill_53178_0 : decode cJ7_fill_53178 0 = .ok (.iconst 0, 1) := by decide +kernel
theorem dJ7_fill_53178_1 : decode cJ7_fill_53178 1 = .ok (.istore_n 2, 1) := by decide +kernel
theorem dJ7_fill_53178_2 : decode cJ7_fill_53178 2 = .ok (.aload_n 0, 1) := by decide +kernel
theorem dJ7_fill_53178_3 : decode cJ7_fill_53178 3 = .ok (.arraylength, 1) := by decide +kernel
theorem dJ7_fill_53178_4 : decode cJ7_fill_53178 4 = .ok (.istore_n 3, 1) := by decide +kernel
theorem dJ7_fill_53178_5 : decode cJ7_fill_53178 5 = .ok (.iload_n 2, 1) := by decide +kernel
theorem dJ7_fill_53178_6 : decode cJ7_fill_53178 6 = .ok (.iload_n 3, 1) := by decide +kernel
theorem dJ7_fill_53178_7 : decode cJ7_fill_53178 7 = .ok (.if_icmp .ge 13, 3) := by decide +kernel
theorem dJ7_fill_53178_10 : decode cJ7_fill_53178 10 = .ok (.aload_n 0, 1) := by decide +kernel
theorem dJ7_fill_53178_11 : decode cJ7_fill_53178 11 = .ok (.iload_n 2, 1) := by decide +kernel
theorem dJ7_fill_53178_12 : decode cJ7_fill_53178 12 = .ok (.iload_n 1, 1) := by decide +kernel
theorem dJ7_fill_53178_13 : decode cJ7_fill_53178 13 = .ok (.iastore, 1) := by decide +kernel
theorem dJ7_fill_53178_14 : decode cJ7_fill_53178 14 = .ok (.iinc 2 1, 3) := by decide +kernel
theorem dJ7_fill_53178_17 : decode cJ7_fill_53178 17 = .ok (.goto (-12), 3) := by decide +kernel
theorem dJ7_fill_53178_20 : decode cJ7_fill_53178 20 = .ok (.return_, 1) := by decide +kernel
set_option maxHeartbeats 4000000 in
set_option maxRecDepth 100000 in
theorem c_J7_fill_53178_4 (l : Launch) (g : GG) (sz : Nat) (h : Nat) : Met l yJ7_fill_53178 (.code yJ7_fill_53178 cJ7_fill_53178 4 none :: gT) ({ frames := 0, cells := 0, slots := 0, locals := 0 }) (va_Pc [.ref h, .int 0] (Pst g sz [(h, aI g 4 z0)] nX)) (va_Qv (fun (_ : Unit) => True) (Qst g [(h, aI g 4 z0)] sz (fun _ => [(h, aI g 4 z0)])) (va_A [(h, aI g 4 z0)] sz)) 0 0 (va_A [(h, aI g 4 z0)] sz) := by
  refine Met.ofW (cc := cJ7_fill_53178) (maxL := 4) (ret := none) (by decide) rfl ?_
  intro p e s m args below meth c s₁ B hml hv
  obtain ⟨rfl, hsz, hP, hK, hD0, hX⟩ := hv
  have hx := B.exec
  have hb := B.bytes
  have hr := B.returns
  have hT : ∀ w ∈ gT, w.before _ s = true := fun w h => atoms_spec (ws := .code yJ7_fill_53178 cJ7_fill_53178 4 none :: gT) B.pre w (List.mem_cons_of_mem _ h)
  have hown : s.vm.findClass RJ7 = some m.cls := findClass_of_methodNamed B.named
  have hlocks := B.notSynchronized
  subst hsz
  have hD := hD0.self (sz := s.heap.size)
  generalize hAe : va_A [(h, aI g 4 z0)] s.heap.size = A at hD ⊢
  have hA : ∀ q : Nat, s.heap.size ≤ q → A q := fun q h => by rw [← hAe]; exact Or.inr h
  have hS : va_S A s.heap s.heap [] := va_S.rf
  have hl := lv_entry ([.ref h, .int 0]) (n := 4) (Nat.le_of_ble_eq_true rfl)
  rw [lg_entry_eq]
  generalize (lg_sl ([.ref h, .int 0]) ++ List.replicate (4 - (lg_sl ([.ref h, .int 0])).length) Slot.unset).toArray = ls at hl ⊢
  have hl : lv_has ls 4 [(0, .ref h), (1, .int 0)] := hl
  refine p_nH (fun H hH => ?_)
  have hP : va_P g.1 vwCl [(h, aI g 4 z0)] H := by rw [hH]; exact hP
  have hS : va_S A s.heap H [] := by rw [hH]; exact hS
  refine lv_iconst (v := 0) hx hb dJ7_fill_53178_0 (by decide) ?_
  refine lv_istore_n (lv' := [(2, .int 0), (0, .ref h), (1, .int 0)]) hx hb dJ7_fill_53178_1 rfl hl (by decide) rfl (fun ls hl => ?_)
  refine lv_aload_n hx hb dJ7_fill_53178_2 rfl (lv_at hl 1 rfl) ?_
  refine va_alen (v := 4) hx hb hK.1 hP 0 1 rfl rfl (by decide) dJ7_fill_53178_3 ?_
  refine lv_istore_n (lv' := [(3, .int 4), (2, .int 0), (0, .ref h), (1, .int 0)]) hx hb dJ7_fill_53178_4 rfl hl (by decide) rfl (fun ls hl => ?_)
  refine lv_iload_n hx hb dJ7_fill_53178_5 rfl (lv_at hl 1 rfl) ?_
  refine lv_iload_n hx hb dJ7_fill_53178_6 rfl (lv_at hl 0 rfl) ?_
  refine lv_icmp_ge (tgt := 20) hx hb dJ7_fill_53178_7 (by decide) (fun c9 => absurd c9 (by decide)) (fun _ => ?_)
  refine lv_aload_n hx hb dJ7_fill_53178_10 rfl (lv_at hl 2 rfl) ?_
  refine lv_iload_n hx hb dJ7_fill_53178_11 rfl (lv_at hl 1 rfl) ?_
  refine lv_iload_n hx hb dJ7_fill_53178_12 rfl (lv_at hl 3 rfl) ?_
  refine va_iast hx hb hK.1 hP hD hS 0 1 rfl rfl (i := 0) (x := 0) (by unfold vp_in; decide) dJ7_fill_53178_13 (fun H locs hP hD hS => ?_)
  simp only [z0_u] at hP hD
  have hP : va_P g.1 vwCl [(h, aI g 4 z0)] H := hP
  have hD : va_D A [(h, aI g 4 z0)] := hD
  refine lv_iinc (v := 1) (lv' := [(2, .int 1), (3, .int 4), (0, .ref h), (1, .int 0)]) hx hb dJ7_fill_53178_14 hl (k := 1) rfl (by decide) (by decide) rfl (fun ls hl => ?_)
  refine lv_goto (tgt := 5) hx hb dJ7_fill_53178_17 (by decide) ?_
  refine lv_iload_n hx hb dJ7_fill_53178_5 rfl (lv_at hl 0 rfl) ?_
  refine lv_iload_n hx hb dJ7_fill_53178_6 rfl (lv_at hl 1 rfl) ?_
  refine lv_icmp_ge (tgt := 20) hx hb dJ7_fill_53178_7 (by decide) (fun c9 => absurd c9 (by decide)) (fun _ => ?_)
  refine lv_aload_n hx hb dJ7_fill_53178_10 rfl (lv_at hl 2 rfl) ?_
  refine lv_iload_n hx hb dJ7_fill_53178_11 rfl (lv_at hl 0 rfl) ?_
  refine lv_iload_n hx hb dJ7_fill_53178_12 rfl (lv_at hl 3 rfl) ?_
  refine va_iast hx hb hK.1 hP hD hS 0 1 rfl rfl (i := 1) (x := 0) (by unfold vp_in; decide) dJ7_fill_53178_13 (fun H locs hP hD hS => ?_)
  simp only [z0_u] at hP hD
  have hP : va_P g.1 vwCl [(h, aI g 4 z0)] H := hP
  have hD : va_D A [(h, aI g 4 z0)] := hD
  refine lv_iinc (v := 2) (lv' := [(2, .int 2), (3, .int 4), (0, .ref h), (1, .int 0)]) hx hb dJ7_fill_53178_14 hl (k := 0) rfl (by decide) (by decide) rfl (fun ls hl => ?_)
  refine lv_goto (tgt := 5) hx hb dJ7_fill_53178_17 (by decide) ?_
  refine lv_iload_n hx hb dJ7_fill_53178_5 rfl (lv_at hl 0 rfl) ?_
  refine lv_iload_n hx hb dJ7_fill_53178_6 rfl (lv_at hl 1 rfl) ?_
  refine lv_icmp_ge (tgt := 20) hx hb dJ7_fill_53178_7 (by decide) (fun c9 => absurd c9 (by decide)) (fun _ => ?_)
  refine lv_aload_n hx hb dJ7_fill_53178_10 rfl (lv_at hl 2 rfl) ?_
  refine lv_iload_n hx hb dJ7_fill_53178_11 rfl (lv_at hl 0 rfl) ?_
  refine lv_iload_n hx hb dJ7_fill_53178_12 rfl (lv_at hl 3 rfl) ?_
  refine va_iast hx hb hK.1 hP hD hS 0 1 rfl rfl (i := 2) (x := 0) (by unfold vp_in; decide) dJ7_fill_53178_13 (fun H locs hP hD hS => ?_)
  simp only [z0_u] at hP hD
  have hP : va_P g.1 vwCl [(h, aI g 4 z0)] H := hP
  have hD : va_D A [(h, aI g 4 z0)] := hD
  refine lv_iinc (v := 3) (lv' := [(2, .int 3), (3, .int 4), (0, .ref h), (1, .int 0)]) hx hb dJ7_fill_53178_14 hl (k := 0) rfl (by decide) (by decide) rfl (fun ls hl => ?_)
  refine lv_goto (tgt := 5) hx hb dJ7_fill_53178_17 (by decide) ?_
  refine lv_iload_n hx hb dJ7_fill_53178_5 rfl (lv_at hl 0 rfl) ?_
  refine lv_iload_n hx hb dJ7_fill_53178_6 rfl (lv_at hl 1 rfl) ?_
  refine lv_icmp_ge (tgt := 20) hx hb dJ7_fill_53178_7 (by decide) (fun c9 => absurd c9 (by decide)) (fun _ => ?_)
  refine lv_aload_n hx hb dJ7_fill_53178_10 rfl (lv_at hl 2 rfl) ?_
  refine lv_iload_n hx hb dJ7_fill_53178_11 rfl (lv_at hl 0 rfl) ?_
  refine lv_iload_n hx hb dJ7_fill_53178_12 rfl (lv_at hl 3 rfl) ?_
  refine va_iast hx hb hK.1 hP hD hS 0 1 rfl rfl (i := 3) (x := 0) (by unfold vp_in; decide) dJ7_fill_53178_13 (fun H locs hP hD hS => ?_)
  simp only [z0_u] at hP hD
  have hP : va_P g.1 vwCl [(h, aI g 4 z0)] H := hP
  have hD : va_D A [(h, aI g 4 z0)] := hD
  refine lv_iinc (v := 4) (lv' := [(2, .int 4), (3, .int 4), (0, .ref h), (1, .int 0)]) hx hb dJ7_fill_53178_14 hl (k := 0) rfl (by decide) (by decide) rfl (fun ls hl => ?_)
  refine lv_goto (tgt := 5) hx hb dJ7_fill_53178_17 (by decide) ?_
  refine lv_iload_n hx hb dJ7_fill_53178_5 rfl (lv_at hl 0 rfl) ?_
  refine lv_iload_n hx hb dJ7_fill_53178_6 rfl (lv_at hl 1 rfl) ?_
  refine lv_icmp_ge (tgt := 20) hx hb dJ7_fill_53178_7 (by decide) (fun _ => ?_) (fun c9 => absurd (by decide) c9)
  have hP9 : va_P g.1 vwCl [(h, aI g 4 z0)] H := hP.sub [0] rfl
  have hD9 : va_D A [(h, aI g 4 z0)] := hD.sub [0] (by decide) rfl
  exact W.vret hx hb hr (fun t ht hW => ⟨⟨(), rfl, trivial, by rw [ht]; exact hP9, by rw [hAe]; exact hD9⟩, hS.F ht⟩) hS.2.2 dJ7_fill_53178_20

set_option maxHeartbeats 4000000 in
set_option maxRecDepth 100000 in
theorem c_J7_fill_53178_6 (l : Launch) (g : GG) (sz : Nat) (h : Nat) : Met l yJ7_fill_53178 (.code yJ7_fill_53178 cJ7_fill_53178 4 none :: gT) ({ frames := 0, cells := 0, slots := 0, locals := 0 }) (va_Pc [.ref h, .int 0] (Pst g sz [(h, aI g 6 z0)] nX)) (va_Qv (fun (_ : Unit) => True) (Qst g [(h, aI g 6 z0)] sz (fun _ => [(h, aI g 6 z0)])) (va_A [(h, aI g 6 z0)] sz)) 0 0 (va_A [(h, aI g 6 z0)] sz) := by
  refine Met.ofW (cc := cJ7_fill_53178) (maxL := 4) (ret := none) (by decide) rfl ?_
  intro p e s m args below meth c s₁ B hml hv
  obtain ⟨rfl, hsz, hP, hK, hD0, hX⟩ := hv
  have hx := B.exec
  have hb := B.bytes
  have hr := B.returns
  have hT : ∀ w ∈ gT, w.before _ s = true := fun w h => atoms_spec (ws := .code yJ7_fill_53178 cJ7_fill_53178 4 none :: gT) B.pre w (List.mem_cons_of_mem _ h)
  have hown : s.vm.findClass RJ7 = some m.cls := findClass_of_methodNamed B.named
  have hlocks := B.notSynchronized
  subst hsz
  have hD := hD0.self (sz := s.heap.size)
  generalize hAe : va_A [(h, aI g 6 z0)] s.heap.size = A at hD ⊢
  have hA : ∀ q : Nat, s.heap.size ≤ q → A q := fun q h => by rw [← hAe]; exact Or.inr h
  have hS : va_S A s.heap s.heap [] := va_S.rf
  have hl := lv_entry ([.ref h, .int 0]) (n := 4) (Nat.le_of_ble_eq_true rfl)
  rw [lg_entry_eq]
  generalize (lg_sl ([.ref h, .int 0]) ++ List.replicate (4 - (lg_sl ([.ref h, .int 0])).length) Slot.unset).toArray = ls at hl ⊢
  have hl : lv_has ls 4 [(0, .ref h), (1, .int 0)] := hl
  refine p_nH (fun H hH => ?_)
  have hP : va_P g.1 vwCl [(h, aI g 6 z0)] H := by rw [hH]; exact hP
  have hS : va_S A s.heap H [] := by rw [hH]; exact hS
  refine lv_iconst (v := 0) hx hb dJ7_fill_53178_0 (by decide) ?_
  refine lv_istore_n (lv' := [(2, .int 0), (0, .ref h), (1, .int 0)]) hx hb dJ7_fill_53178_1 rfl hl (by decide) rfl (fun ls hl => ?_)
  refine lv_aload_n hx hb dJ7_fill_53178_2 rfl (lv_at hl 1 rfl) ?_
  refine va_alen (v := 6) hx hb hK.1 hP 0 1 rfl rfl (by decide) dJ7_fill_53178_3 ?_
  refine lv_istore_n (lv' := [(3, .int 6), (2, .int 0), (0, .ref h), (1, .int 0)]) hx hb dJ7_fill_53178_4 rfl hl (by decide) rfl (fun ls hl => ?_)
  refine lv_iload_n hx hb dJ7_fill_53178_5 rfl (lv_at hl 1 rfl) ?_
  refine lv_iload_n hx hb dJ7_fill_53178_6 rfl (lv_at hl 0 rfl) ?_
  refine lv_icmp_ge (tgt := 20) hx hb dJ7_fill_53178_7 (by decide) (fun c9 => absurd c9 (by decide)) (fun _ => ?_)
  refine lv_aload_n hx hb dJ7_fill_53178_10 rfl (lv_at hl 2 rfl) ?_
  refine lv_iload_n hx hb dJ7_fill_53178_11 rfl (lv_at hl 1 rfl) ?_
  refine lv_iload_n hx hb dJ7_fill_53178_12 rfl (lv_at hl 3 rfl) ?_
  refine va_iast hx hb hK.1 hP hD hS 0 1 rfl rfl (i := 0) (x := 0) (by unfold vp_in; decide) dJ7_fill_53178_13 (fun H locs hP hD hS => ?_)
  simp only [z0_u] at hP hD
  have hP : va_P g.1 vwCl [(h, aI g 6 z0)] H := hP
  have hD : va_D A [(h, aI g 6 z0)] := hD
  refine lv_iinc (v := 1) (lv' := [(2, .int 1), (3, .int 6), (0, .ref h), (1, .int 0)]) hx hb dJ7_fill_53178_14 hl (k := 1) rfl (by decide) (by decide) rfl (fun ls hl => ?_)
  refine lv_goto (tgt := 5) hx hb dJ7_fill_53178_17 (by decide) ?_
  refine lv_iload_n hx hb dJ7_fill_53178_5 rfl (lv_at hl 0 rfl) ?_
  refine lv_iload_n hx hb dJ7_fill_53178_6 rfl (lv_at hl 1 rfl) ?_
  refine lv_icmp_ge (tgt := 20) hx hb dJ7_fill_53178_7 (by decide) (fun c9 => absurd c9 (by decide)) (fun _ => ?_)
  refine lv_aload_n hx hb dJ7_fill_53178_10 rfl (lv_at hl 2 rfl) ?_
  refine lv_iload_n hx hb dJ7_fill_53178_11 rfl (lv_at hl 0 rfl) ?_
  refine lv_iload_n hx hb dJ7_fill_53178_12 rfl (lv_at hl 3 rfl) ?_
  refine va_iast hx hb hK.1 hP hD hS 0 1 rfl rfl (i := 1) (x := 0) (by unfold vp_in; decide) dJ7_fill_53178_13 (fun H locs hP hD hS => ?_)
  simp only [z0_u] at hP hD
  have hP : va_P g.1 vwCl [(h, aI g 6 z0)] H := hP
  have hD : va_D A [(h, aI g 6 z0)] := hD
  refine lv_iinc (v := 2) (lv' := [(2, .int 2), (3, .int 6), (0, .ref h), (1, .int 0)]) hx hb dJ7_fill_53178_14 hl (k := 0) rfl (by decide) (by decide) rfl (fun ls hl => ?_)
  refine lv_goto (tgt := 5) hx hb dJ7_fill_53178_17 (by decide) ?_
  refine lv_iload_n hx hb dJ7_fill_53178_5 rfl (lv_at hl 0 rfl) ?_
  refine lv_iload_n hx hb dJ7_fill_53178_6 rfl (lv_at hl 1 rfl) ?_
  refine lv_icmp_ge (tgt := 20) hx hb dJ7_fill_53178_7 (by decide) (fun c9 => absurd c9 (by decide)) (fun _ => ?_)
  refine lv_aload_n hx hb dJ7_fill_53178_10 rfl (lv_at hl 2 rfl) ?_
  refine lv_iload_n hx hb dJ7_fill_53178_11 rfl (lv_at hl 0 rfl) ?_
  refine lv_iload_n hx hb dJ7_fill_53178_12 rfl (lv_at hl 3 rfl) ?_
  refine va_iast hx hb hK.1 hP hD hS 0 1 rfl rfl (i := 2) (x := 0) (by unfold vp_in; decide) dJ7_fill_53178_13 (fun H locs hP hD hS => ?_)
  simp only [z0_u] at hP hD
  have hP : va_P g.1 vwCl [(h, aI g 6 z0)] H := hP
  have hD : va_D A [(h, aI g 6 z0)] := hD
  refine lv_iinc (v := 3) (lv' := [(2, .int 3), (3, .int 6), (0, .ref h), (1, .int 0)]) hx hb dJ7_fill_53178_14 hl (k := 0) rfl (by decide) (by decide) rfl (fun ls hl => ?_)
  refine lv_goto (tgt := 5) hx hb dJ7_fill_53178_17 (by decide) ?_
  refine lv_iload_n hx hb dJ7_fill_53178_5 rfl (lv_at hl 0 rfl) ?_
  refine lv_iload_n hx hb dJ7_fill_53178_6 rfl (lv_at hl 1 rfl) ?_
  refine lv_icmp_ge (tgt := 20) hx hb dJ7_fill_53178_7 (by decide) (fun c9 => absurd c9 (by decide)) (fun _ => ?_)
  refine lv_aload_n hx hb dJ7_fill_53178_10 rfl (lv_at hl 2 rfl) ?_
  refine lv_iload_n hx hb dJ7_fill_53178_11 rfl (lv_at hl 0 rfl) ?_
  refine lv_iload_n hx hb dJ7_fill_53178_12 rfl (lv_at hl 3 rfl) ?_
  refine va_iast hx hb hK.1 hP hD hS 0 1 rfl rfl (i := 3) (x := 0) (by unfold vp_in; decide) dJ7_fill_53178_13 (fun H locs hP hD hS => ?_)
  simp only [z0_u] at hP hD
  have hP : va_P g.1 vwCl [(h, aI g 6 z0)] H := hP
  have hD : va_D A [(h, aI g 6 z0)] := hD
  refine lv_iinc (v := 4) (lv' := [(2, .int 4), (3, .int 6), (0, .ref h), (1, .int 0)]) hx hb dJ7_fill_53178_14 hl (k := 0) rfl (by decide) (by decide) rfl (fun ls hl => ?_)
  refine lv_goto (tgt := 5) hx hb dJ7_fill_53178_17 (by decide) ?_
  refine lv_iload_n hx hb dJ7_fill_53178_5 rfl (lv_at hl 0 rfl) ?_
  refine lv_iload_n hx hb dJ7_fill_53178_6 rfl (lv_at hl 1 rfl) ?_
  refine lv_icmp_ge (tgt := 20) hx hb dJ7_fill_53178_7 (by decide) (fun c9 => absurd c9 (by decide)) (fun _ => ?_)
  refine lv_aload_n hx hb dJ7_fill_53178_10 rfl (lv_at hl 2 rfl) ?_
  refine lv_iload_n hx hb dJ7_fill_53178_11 rfl (lv_at hl 0 rfl) ?_
  refine lv_iload_n hx hb dJ7_fill_53178_12 rfl (lv_at hl 3 rfl) ?_
  refine va_iast hx hb hK.1 hP hD hS 0 1 rfl rfl (i := 4) (x := 0) (by unfold vp_in; decide) dJ7_fill_53178_13 (fun H locs hP hD hS => ?_)
  simp only [z0_u] at hP hD
  have hP : va_P g.1 vwCl [(h, aI g 6 z0)] H := hP
  have hD : va_D A [(h, aI g 6 z0)] := hD
  refine lv_iinc (v := 5) (lv' := [(2, .int 5), (3, .int 6), (0, .ref h), (1, .int 0)]) hx hb dJ7_fill_53178_14 hl (k := 0) rfl (by decide) (by decide) rfl (fun ls hl => ?_)
  refine lv_goto (tgt := 5) hx hb dJ7_fill_53178_17 (by decide) ?_
  refine lv_iload_n hx hb dJ7_fill_53178_5 rfl (lv_at hl 0 rfl) ?_
  refine lv_iload_n hx hb dJ7_fill_53178_6 rfl (lv_at hl 1 rfl) ?_
  refine lv_icmp_ge (tgt := 20) hx hb dJ7_fill_53178_7 (by decide) (fun c9 => absurd c9 (by decide)) (fun _ => ?_)
  refine lv_aload_n hx hb dJ7_fill_53178_10 rfl (lv_at hl 2 rfl) ?_
  refine lv_iload_n hx hb dJ7_fill_53178_11 rfl (lv_at hl 0 rfl) ?_
  refine lv_iload_n hx hb dJ7_fill_53178_12 rfl (lv_at hl 3 rfl) ?_
  refine va_iast hx hb hK.1 hP hD hS 0 1 rfl rfl (i := 5) (x := 0) (by unfold vp_in; decide) dJ7_fill_53178_13 (fun H locs hP hD hS => ?_)
  simp only [z0_u] at hP hD
  have hP : va_P g.1 vwCl [(h, aI g 6 z0)] H := hP
  have hD : va_D A [(h, aI g 6 z0)] := hD
  refine lv_iinc (v := 6) (lv' := [(2, .int 6), (3, .int 6), (0, .ref h), (1, .int 0)]) hx hb dJ7_fill_53178_14 hl (k := 0) rfl (by decide) (by decide) rfl (fun ls hl => ?_)
  refine lv_goto (tgt := 5) hx hb dJ7_fill_53178_17 (by decide) ?_
  refine lv_iload_n hx hb dJ7_fill_53178_5 rfl (lv_at hl 0 rfl) ?_
  refine lv_iload_n hx hb dJ7_fill_53178_6 rfl (lv_at hl 1 rfl) ?_
  refine lv_icmp_ge (tgt := 20) hx hb dJ7_fill_53178_7 (by decide) (fun _ => ?_) (fun c9 => absurd (by decide) c9)
  have hP9 : va_P g.1 vwCl [(h, aI g 6 z0)] H := hP.sub [0] rfl
  have hD9 : va_D A [(h, aI g 6 z0)] := hD.sub [0] (by decide) rfl
  exact W.vret hx hb hr (fun t ht hW => ⟨⟨(), rfl, trivial, by rw [ht]; exact hP9, by rw [hAe]; exact hD9⟩, hS.F ht⟩) hS.2.2 dJ7_fill_53178_20

set_option maxRecDepth 20000 in
theorem inF_X0 : ∀ w ∈ u_ws RX0 TX0 8, w ∈ gT := gT_u [212, 214, 216, 218, 220, 222, 224, 226] (by decide +kernel) (by decide +kernel)
theorem bw_80 : Cond.fieldLink RX0 25 "DuelDelays$Formulas" "count" "I" ∈ gT := gT_tb 200 (by decide +kernel) (by decide +kernel)
theorem bw_81 : Cond.fieldLink RX0 29 "DuelDelays$Formulas" "units" "I" ∈ gT := gT_tb 203 (by decide +kernel) (by decide +kernel)
theorem bw_82 : Cond.fieldLink RX0 32 "DuelDelays$Formulas" "length" "I" ∈ gT := gT_tb 208 (by decide +kernel) (by decide +kernel)
theorem bw_83 : Cond.code yX0_clear cX0_clear 1 none ∈ gT := gT_tb 591 (by decide +kernel) (by decide +kernel)
theorem dX0_clear_0 : decode cX0_clear 0 = .ok (.aload_n 0, 1) := by decide +kernel
theorem dX0_clear_1 : decode cX0_clear 1 = .ok (.iconst 0, 1) := by decide +kernel
theorem dX0_clear_2 : decode cX0_clear 2 = .ok (.putfield 25, 3) := by decide +kernel
theorem dX0_clear_5 : decode cX0_clear 5 = .ok (.aload_n 0, 1) := by decide +kernel
theorem dX0_clear_6 : decode cX0_clear 6 = .ok (.iconst 0, 1) := by decide +kernel
theorem dX0_clear_7 : decode cX0_clear 7 = .ok (.putfield 29, 3) := by decide +kernel
theorem dX0_clear_10 : decode cX0_clear 10 = .ok (.aload_n 0, 1) := by decide +kernel
theorem dX0_clear_11 : decode cX0_clear 11 = .ok (.iconst 0, 1) := by decide +kernel
theorem dX0_clear_12 : decode cX0_clear 12 = .ok (.putfield 32, 3) := by decide +kernel
theorem dX0_clear_15 : decode cX0_clear 15 = .ok (.return_, 1) := by decide +kernel
set_option maxHeartbeats 4000000 in
set_option maxRecDepth 100000 in
theorem c_X0_clear (l : Launch) (g : GG) (sz : Nat) (h : Nat) (f1 : Nat) (f2 : Nat) (f3 : Nat) (f4 : Nat) : Met l yX0_clear (.code yX0_clear cX0_clear 1 none :: gT) ({ frames := 0, cells := 0, slots := 0, locals := 0 }) (va_Pc [.ref h] (Pst g sz [(h, .inr (0, [.int 0, .int 0, .ref f1, .int 0, .int 0, .ref f2, .ref f3, .ref f4]))] nX)) (va_Qv (fun (_ : Unit) => True) (Qst g [(h, .inr (0, [.int 0, .int 0, .ref f1, .int 0, .int 0, .ref f2, .ref f3, .ref f4]))] sz (fun _ => [(h, .inr (0, [.int 0, .int 0, .ref f1, .int 0, .int 0, .ref f2, .ref f3, .ref f4]))])) (va_A [(h, .inr (0, [.int 0, .int 0, .ref f1, .int 0, .int 0, .ref f2, .ref f3, .ref f4]))] sz)) 0 0 (va_A [(h, .inr (0, [.int 0, .int 0, .ref f1, .int 0, .int 0, .ref f2, .ref f3, .ref f4]))] sz) := by
  refine Met.ofW (cc := cX0_clear) (maxL := 1) (ret := none) (by decide) rfl ?_
  intro p e s m args below meth c s₁ B hml hv
  obtain ⟨rfl, hsz, hP, hK, hD0, hX⟩ := hv
  have hx := B.exec
  have hb := B.bytes
  have hr := B.returns
  have hT : ∀ w ∈ gT, w.before _ s = true := fun w h => atoms_spec (ws := .code yX0_clear cX0_clear 1 none :: gT) B.pre w (List.mem_cons_of_mem _ h)
  have hown : s.vm.findClass RX0 = some m.cls := findClass_of_methodNamed B.named
  have hlocks := B.notSynchronized
  subst hsz
  have hD := hD0.self (sz := s.heap.size)
  generalize hAe : va_A [(h, .inr (0, [.int 0, .int 0, .ref f1, .int 0, .int 0, .ref f2, .ref f3, .ref f4]))] s.heap.size = A at hD ⊢
  have hA : ∀ q : Nat, s.heap.size ≤ q → A q := fun q h => by rw [← hAe]; exact Or.inr h
  have hS : va_S A s.heap s.heap [] := va_S.rf
  have hl := lv_entry ([.ref h]) (n := 1) (Nat.le_of_ble_eq_true rfl)
  rw [lg_entry_eq]
  generalize (lg_sl ([.ref h]) ++ List.replicate (1 - (lg_sl ([.ref h])).length) Slot.unset).toArray = ls at hl ⊢
  have hl : lv_has ls 1 [(0, .ref h)] := hl
  refine p_nH (fun H hH => ?_)
  have hP : va_P g.1 vwCl [(h, .inr (0, [.int 0, .int 0, .ref f1, .int 0, .int 0, .ref f2, .ref f3, .ref f4]))] H := by rw [hH]; exact hP
  have hS : va_S A s.heap H [] := by rw [hH]; exact hS
  refine lv_aload_n hx hb dX0_clear_0 rfl (lv_at hl 0 rfl) ?_
  refine lv_iconst (v := 0) hx hb dX0_clear_1 (by decide) ?_
  refine va_put (D := g.1) (ci := 0) (v := .int 0) (ty := .int) (C := RX0) (T := TX0) (N := 8) hx hb hT inF_X0 tyX0 tyX0_ok nmX0 hown hK.1 hP hD hS 0 rfl rfl 0 (by decide) (hT _ bw_80) (fun _ h9 => h9) rfl (by decide +kernel) rfl rfl (Nat.le_of_ble_eq_true rfl) dX0_clear_2 (fun H locs hP hD hS => ?_)
  have hP : va_P g.1 vwCl [(h, .inr (0, [.int 0, .int 0, .ref f1, .int 0, .int 0, .ref f2, .ref f3, .ref f4]))] H := hP
  have hD : va_D A [(h, .inr (0, [.int 0, .int 0, .ref f1, .int 0, .int 0, .ref f2, .ref f3, .ref f4]))] := hD
  refine lv_aload_n hx hb dX0_clear_5 rfl (lv_at hl 0 rfl) ?_
  refine lv_iconst (v := 0) hx hb dX0_clear_6 (by decide) ?_
  refine va_put (D := g.1) (ci := 0) (v := .int 0) (ty := .int) (C := RX0) (T := TX0) (N := 8) hx hb hT inF_X0 tyX0 tyX0_ok nmX0 hown hK.1 hP hD hS 0 rfl rfl 1 (by decide) (hT _ bw_81) (fun _ h9 => h9) rfl (by decide +kernel) rfl rfl (Nat.le_of_ble_eq_true rfl) dX0_clear_7 (fun H locs hP hD hS => ?_)
  have hP : va_P g.1 vwCl [(h, .inr (0, [.int 0, .int 0, .ref f1, .int 0, .int 0, .ref f2, .ref f3, .ref f4]))] H := hP
  have hD : va_D A [(h, .inr (0, [.int 0, .int 0, .ref f1, .int 0, .int 0, .ref f2, .ref f3, .ref f4]))] := hD
  refine lv_aload_n hx hb dX0_clear_10 rfl (lv_at hl 0 rfl) ?_
  refine lv_iconst (v := 0) hx hb dX0_clear_11 (by decide) ?_
  refine va_put (D := g.1) (ci := 0) (v := .int 0) (ty := .int) (C := RX0) (T := TX0) (N := 8) hx hb hT inF_X0 tyX0 tyX0_ok nmX0 hown hK.1 hP hD hS 0 rfl rfl 4 (by decide) (hT _ bw_82) (fun _ h9 => h9) rfl (by decide +kernel) rfl rfl (Nat.le_of_ble_eq_true rfl) dX0_clear_12 (fun H locs hP hD hS => ?_)
  have hP : va_P g.1 vwCl [(h, .inr (0, [.int 0, .int 0, .ref f1, .int 0, .int 0, .ref f2, .ref f3, .ref f4]))] H := hP
  have hD : va_D A [(h, .inr (0, [.int 0, .int 0, .ref f1, .int 0, .int 0, .ref f2, .ref f3, .ref f4]))] := hD
  have hP9 : va_P g.1 vwCl [(h, .inr (0, [.int 0, .int 0, .ref f1, .int 0, .int 0, .ref f2, .ref f3, .ref f4]))] H := hP.sub [0] rfl
  have hD9 : va_D A [(h, .inr (0, [.int 0, .int 0, .ref f1, .int 0, .int 0, .ref f2, .ref f3, .ref f4]))] := hD.sub [0] (by decide) rfl
  exact W.vret hx hb hr (fun t ht hW => ⟨⟨(), rfl, trivial, by rw [ht]; exact hP9, by rw [hAe]; exact hD9⟩, hS.F ht⟩) hS.2.2 dX0_clear_15

theorem bw_84 : Cond.fieldLink RX2 12 "DuelDelays$Land" "men" "LDuelDelays$Men;" ∈ gT := gT_tb 284 (by decide +kernel) (by decide +kernel)
theorem bw_85 : Cond.fieldLink RX2 46 "DuelDelays$Men" "count" "I" ∈ gT := gT_tb 163 (by decide +kernel) (by decide +kernel)
theorem bw_86 : Cond.fieldLink RX2 21 "DuelDelays$Land" "formulas" "LDuelDelays$Formulas;" ∈ gT := gT_tb 289 (by decide +kernel) (by decide +kernel)
theorem bw_87 : Cond.methodLink RX2 49 yX0_clear ∈ gT := gT_tb 588 (by decide +kernel) (by decide +kernel)
theorem bw_88 : Cond.instanceMethod yX0_clear ∈ gT := gT_tb 589 (by decide +kernel) (by decide +kernel)
theorem bw_89 : Cond.selects RX0 yX0_clear yX0_clear ∈ gT := gT_tb 590 (by decide +kernel) (by decide +kernel)
theorem bw_90 : Cond.initialized RX0 ∈ gT := gT_tb 10 (by decide +kernel) (by decide +kernel)
theorem bw_91 : Cond.fieldLink RX2 28 "DuelDelays$Land" "reasons" "LDuelDelays$Reasons;" ∈ gT := gT_tb 292 (by decide +kernel) (by decide +kernel)
theorem bw_92 : Cond.fieldLink RX2 52 "DuelDelays$Reasons" "count" "I" ∈ gT := gT_tb 236 (by decide +kernel) (by decide +kernel)
theorem bw_93 : Cond.fieldLink RX2 53 "DuelDelays$Land" "duels" "I" ∈ gT := gT_tb 298 (by decide +kernel) (by decide +kernel)
theorem bw_94 : Cond.fieldLink RX2 39 "DuelDelays$Land" "honour" "I" ∈ gT := gT_tb 307 (by decide +kernel) (by decide +kernel)
theorem bw_95 : Cond.fieldLink RX2 56 "DuelDelays$Land" "draw" "I" ∈ gT := gT_tb 311 (by decide +kernel) (by decide +kernel)
theorem bw_96 : Cond.fieldLink RX2 43 "DuelDelays$Land" "usesOfKind" "[I" ∈ gT := gT_tb 313 (by decide +kernel) (by decide +kernel)
theorem bw_97 : Cond.methodLink RX2 59 yJ7_fill_53178 ∈ gT := gT_tb 592 (by decide +kernel) (by decide +kernel)
theorem bw_98 : Cond.static yJ7_fill_53178 ∈ gT := gT_tb 515 (by decide +kernel) (by decide +kernel)
theorem bw_99 : Cond.initialized yJ7_fill_53178.cls ∈ gT := gT_tb 18 (by decide +kernel) (by decide +kernel)
theorem bw_100 : Cond.code yX2_clear cX2_clear 1 none ∈ gT := gT_tb 587 (by decide +kernel) (by decide +kernel)
theorem dX2_clear_0 : decode cX2_clear 0 = .ok (.aload_n 0, 1) := by decide +kernel
theorem dX2_clear_1 : decode cX2_clear 1 = .ok (.getfield 12, 3) := by decide +kernel
theorem dX2_clear_4 : decode cX2_clear 4 = .ok (.iconst 0, 1) := by decide +kernel
theorem dX2_clear_5 : decode cX2_clear 5 = .ok (.putfield 46, 3) := by decide +kernel
theorem dX2_clear_8 : decode cX2_clear 8 = .ok (.aload_n 0, 1) := by decide +kernel
theorem dX2_clear_9 : decode cX2_clear 9 = .ok (.getfield 21, 3) := by decide +kernel
theorem dX2_clear_12 : decode cX2_clear 12 = .ok (.invokevirtual 49, 3) := by decide +kernel
theorem dX2_clear_15 : decode cX2_clear 15 = .ok (.aload_n 0, 1) := by decide +kernel
theorem dX2_clear_16 : decode cX2_clear 16 = .ok (.getfield 28, 3) := by decide +kernel
theorem dX2_clear_19 : decode cX2_clear 19 = .ok (.iconst 0, 1) := by decide +kernel
theorem dX2_clear_20 : decode cX2_clear 20 = .ok (.putfield 52, 3) := by decide +kernel
theorem dX2_clear_23 : decode cX2_clear 23 = .ok (.aload_n 0, 1) := by decide +kernel
theorem dX2_clear_24 : decode cX2_clear 24 = .ok (.iconst 0, 1) := by decide +kernel
theorem dX2_clear_25 : decode cX2_clear 25 = .ok (.putfield 53, 3) := by decide +kernel
theorem dX2_clear_28 : decode cX2_clear 28 = .ok (.aload_n 0, 1) := by decide +kernel
theorem dX2_clear_29 : decode cX2_clear 29 = .ok (.bipush 9, 2) := by decide +kernel
theorem dX2_clear_31 : decode cX2_clear 31 = .ok (.putfield 39, 3) := by decide +kernel
theorem dX2_clear_34 : decode cX2_clear 34 = .ok (.aload_n 0, 1) := by decide +kernel
theorem dX2_clear_35 : decode cX2_clear 35 = .ok (.iconst 0, 1) := by decide +kernel
theorem dX2_clear_36 : decode cX2_clear 36 = .ok (.putfield 56, 3) := by decide +kernel
theorem dX2_clear_39 : decode cX2_clear 39 = .ok (.aload_n 0, 1) := by decide +kernel
theorem dX2_clear_40 : decode cX2_clear 40 = .ok (.getfield 43, 3) := by decide +kernel
theorem dX2_clear_43 : decode cX2_clear 43 = .ok (.iconst 0, 1) := by decide +kernel
theorem dX2_clear_44 : decode cX2_clear 44 = .ok (.invokestatic 59, 3) := by decide +kernel
theorem dX2_clear_47 : decode cX2_clear 47 = .ok (.return_, 1) := by decide +kernel
set_option maxHeartbeats 4000000 in
set_option maxRecDepth 100000 in
theorem c_X2_clear (l : Launch) (g : GG) (sz : Nat) (la : Nat) (mea : Nat) (foa : Nat) (rea : Nat) (d1a : Nat) (d2a : Nat) (d3a : Nat) (m1a : Nat) (m2a : Nat) (m3a : Nat) (m4a : Nat) (f1a : Nat) (f2a : Nat) (f3a : Nat) (f4a : Nat) (r1a : Nat) (r2a : Nat) (r3a : Nat) (r4a : Nat) (r5a : Nat) (r6a : Nat) (r7a : Nat) : Met l yX2_clear (.code yX2_clear cX2_clear 1 none :: gT) ({ frames := 1, cells := 0, slots := 0, locals := 23 }) (va_Pc [.ref la] (Pst g sz [(la, .inr (2, [.ref mea, .ref foa, .ref rea, .int 0, .ref d1a, .ref d2a, .int 9, .int 0, .ref d3a])), (mea, .inr (3, [.int 0, .ref m1a, .ref m2a, .ref m3a, .ref m4a])), (foa, .inr (0, [.int 0, .int 0, .ref f1a, .int 0, .int 0, .ref f2a, .ref f3a, .ref f4a])), (rea, .inr (6, [.int 0, .ref r1a, .ref r2a, .ref r3a, .ref r4a, .ref r5a, .ref r6a, .ref r7a])), (d3a, aI g 4 z0)] nX)) (va_Qv (fun (_ : Unit) => True) (Qst g [(la, .inr (2, [.ref mea, .ref foa, .ref rea, .int 0, .ref d1a, .ref d2a, .int 9, .int 0, .ref d3a])), (mea, .inr (3, [.int 0, .ref m1a, .ref m2a, .ref m3a, .ref m4a])), (foa, .inr (0, [.int 0, .int 0, .ref f1a, .int 0, .int 0, .ref f2a, .ref f3a, .ref f4a])), (rea, .inr (6, [.int 0, .ref r1a, .ref r2a, .ref r3a, .ref r4a, .ref r5a, .ref r6a, .ref r7a])), (d3a, aI g 4 z0)] sz (fun _ => [(la, .inr (2, [.ref mea, .ref foa, .ref rea, .int 0, .ref d1a, .ref d2a, .int 9, .int 0, .ref d3a])), (mea, .inr (3, [.int 0, .ref m1a, .ref m2a, .ref m3a, .ref m4a])), (rea, .inr (6, [.int 0, .ref r1a, .ref r2a, .ref r3a, .ref r4a, .ref r5a, .ref r6a, .ref r7a])), (foa, .inr (0, [.int 0, .int 0, .ref f1a, .int 0, .int 0, .ref f2a, .ref f3a, .ref f4a])), (d3a, aI g 4 z0)])) (va_A [(la, .inr (2, [.ref mea, .ref foa, .ref rea, .int 0, .ref d1a, .ref d2a, .int 9, .int 0, .ref d3a])), (mea, .inr (3, [.int 0, .ref m1a, .ref m2a, .ref m3a, .ref m4a])), (foa, .inr (0, [.int 0, .int 0, .ref f1a, .int 0, .int 0, .ref f2a, .ref f3a, .ref f4a])), (rea, .inr (6, [.int 0, .ref r1a, .ref r2a, .ref r3a, .ref r4a, .ref r5a, .ref r6a, .ref r7a])), (d3a, aI g 4 z0)] sz)) 0 0 (va_A [(la, .inr (2, [.ref mea, .ref foa, .ref rea, .int 0, .ref d1a, .ref d2a, .int 9, .int 0, .ref d3a])), (mea, .inr (3, [.int 0, .ref m1a, .ref m2a, .ref m3a, .ref m4a])), (foa, .inr (0, [.int 0, .int 0, .ref f1a, .int 0, .int 0, .ref f2a, .ref f3a, .ref f4a])), (rea, .inr (6, [.int 0, .ref r1a, .ref r2a, .ref r3a, .ref r4a, .ref r5a, .ref r6a, .ref r7a])), (d3a, aI g 4 z0)] sz) := by
  refine Met.ofW (cc := cX2_clear) (maxL := 1) (ret := none) (by decide) rfl ?_
  intro p e s m args below meth c s₁ B hml hv
  obtain ⟨rfl, hsz, hP, hK, hD0, hX⟩ := hv
  have hx := B.exec
  have hb := B.bytes
  have hr := B.returns
  have hT : ∀ w ∈ gT, w.before _ s = true := fun w h => atoms_spec (ws := .code yX2_clear cX2_clear 1 none :: gT) B.pre w (List.mem_cons_of_mem _ h)
  have hown : s.vm.findClass RX2 = some m.cls := findClass_of_methodNamed B.named
  have hlocks := B.notSynchronized
  subst hsz
  have hD := hD0.self (sz := s.heap.size)
  generalize hAe : va_A [(la, .inr (2, [.ref mea, .ref foa, .ref rea, .int 0, .ref d1a, .ref d2a, .int 9, .int 0, .ref d3a])), (mea, .inr (3, [.int 0, .ref m1a, .ref m2a, .ref m3a, .ref m4a])), (foa, .inr (0, [.int 0, .int 0, .ref f1a, .int 0, .int 0, .ref f2a, .ref f3a, .ref f4a])), (rea, .inr (6, [.int 0, .ref r1a, .ref r2a, .ref r3a, .ref r4a, .ref r5a, .ref r6a, .ref r7a])), (d3a, aI g 4 z0)] s.heap.size = A at hD ⊢
  have hA : ∀ q : Nat, s.heap.size ≤ q → A q := fun q h => by rw [← hAe]; exact Or.inr h
  have hS : va_S A s.heap s.heap [] := va_S.rf
  have hl := lv_entry ([.ref la]) (n := 1) (Nat.le_of_ble_eq_true rfl)
  rw [lg_entry_eq]
  generalize (lg_sl ([.ref la]) ++ List.replicate (1 - (lg_sl ([.ref la])).length) Slot.unset).toArray = ls at hl ⊢
  have hl : lv_has ls 1 [(0, .ref la)] := hl
  refine p_nH (fun H hH => ?_)
  have hP : va_P g.1 vwCl [(la, .inr (2, [.ref mea, .ref foa, .ref rea, .int 0, .ref d1a, .ref d2a, .int 9, .int 0, .ref d3a])), (mea, .inr (3, [.int 0, .ref m1a, .ref m2a, .ref m3a, .ref m4a])), (foa, .inr (0, [.int 0, .int 0, .ref f1a, .int 0, .int 0, .ref f2a, .ref f3a, .ref f4a])), (rea, .inr (6, [.int 0, .ref r1a, .ref r2a, .ref r3a, .ref r4a, .ref r5a, .ref r6a, .ref r7a])), (d3a, aI g 4 z0)] H := by rw [hH]; exact hP
  have hS : va_S A s.heap H [] := by rw [hH]; exact hS
  refine lv_aload_n hx hb dX2_clear_0 rfl (lv_at hl 0 rfl) ?_
  refine va_get (D := g.1) (ci := 2) (v := .ref mea) (C := RX2) (T := TX2) (N := 9) hx hb hT inF_X2 hown hK.1 hP 0 rfl rfl 0 (by decide) (hT _ bw_84) (fun _ h9 => h9) rfl dX2_clear_1 ?_
  refine lv_iconst (v := 0) hx hb dX2_clear_4 (by decide) ?_
  refine va_put (D := g.1) (ci := 3) (v := .int 0) (ty := .int) (C := RX3) (T := TX3) (N := 5) hx hb hT inF_X3 tyX3 tyX3_ok nmX3 hown hK.1 hP hD hS 1 rfl rfl 0 (by decide) (hT _ bw_85) (fun _ h9 => h9) rfl (by decide +kernel) rfl rfl (Nat.le_of_ble_eq_true rfl) dX2_clear_5 (fun H locs hP hD hS => ?_)
  have hP : va_P g.1 vwCl [(la, .inr (2, [.ref mea, .ref foa, .ref rea, .int 0, .ref d1a, .ref d2a, .int 9, .int 0, .ref d3a])), (mea, .inr (3, [.int 0, .ref m1a, .ref m2a, .ref m3a, .ref m4a])), (foa, .inr (0, [.int 0, .int 0, .ref f1a, .int 0, .int 0, .ref f2a, .ref f3a, .ref f4a])), (rea, .inr (6, [.int 0, .ref r1a, .ref r2a, .ref r3a, .ref r4a, .ref r5a, .ref r6a, .ref r7a])), (d3a, aI g 4 z0)] H := hP
  have hD : va_D A [(la, .inr (2, [.ref mea, .ref foa, .ref rea, .int 0, .ref d1a, .ref d2a, .int 9, .int 0, .ref d3a])), (mea, .inr (3, [.int 0, .ref m1a, .ref m2a, .ref m3a, .ref m4a])), (foa, .inr (0, [.int 0, .int 0, .ref f1a, .int 0, .int 0, .ref f2a, .ref f3a, .ref f4a])), (rea, .inr (6, [.int 0, .ref r1a, .ref r2a, .ref r3a, .ref r4a, .ref r5a, .ref r6a, .ref r7a])), (d3a, aI g 4 z0)] := hD
  refine lv_aload_n hx hb dX2_clear_8 rfl (lv_at hl 0 rfl) ?_
  refine va_get (D := g.1) (ci := 2) (v := .ref foa) (C := RX2) (T := TX2) (N := 9) hx hb hT inF_X2 hown hK.1 hP 0 rfl rfl 1 (by decide) (hT _ bw_86) (fun _ h9 => h9) rfl dX2_clear_9 ?_
  refine k_v (wr := [(la, .inr (2, [.ref mea, .ref foa, .ref rea, .int 0, .ref d1a, .ref d2a, .int 9, .int 0, .ref d3a])), (mea, .inr (3, [.int 0, .ref m1a, .ref m2a, .ref m3a, .ref m4a])), (rea, .inr (6, [.int 0, .ref r1a, .ref r2a, .ref r3a, .ref r4a, .ref r5a, .ref r6a, .ref r7a])), (d3a, aI g 4 z0)]) (k_V (n := 0) ⟨hx, hb, hml, hown, hT⟩ hK hP hD [2] rfl (by decide) (c_X0_clear l g H.size foa f1a f2a f3a f4a) (gV bw_87 bw_88 bw_89 bw_90 bw_83) rfl rfl (by decide +kernel) ⟨by decide, by decide⟩ (ci := 0) (q0 := 0) rfl rfl (fun _ _ _ _ _ => trivial) (fun _ _ _ => trivial) rfl rfl hl.1 (Nat.le_of_ble_eq_true rfl) dX2_clear_12 ⟨by decide, by decide⟩) hP hD hS hA [2] [0, 1, 3, 4] rfl rfl (by decide) (by decide) (fun u H locs hw hP hD hS => ?_)
  have hP : va_P g.1 vwCl [(la, .inr (2, [.ref mea, .ref foa, .ref rea, .int 0, .ref d1a, .ref d2a, .int 9, .int 0, .ref d3a])), (mea, .inr (3, [.int 0, .ref m1a, .ref m2a, .ref m3a, .ref m4a])), (rea, .inr (6, [.int 0, .ref r1a, .ref r2a, .ref r3a, .ref r4a, .ref r5a, .ref r6a, .ref r7a])), (d3a, aI g 4 z0), (foa, .inr (0, [.int 0, .int 0, .ref f1a, .int 0, .int 0, .ref f2a, .ref f3a, .ref f4a]))] H := hP
  have hD : va_D A [(la, .inr (2, [.ref mea, .ref foa, .ref rea, .int 0, .ref d1a, .ref d2a, .int 9, .int 0, .ref d3a])), (mea, .inr (3, [.int 0, .ref m1a, .ref m2a, .ref m3a, .ref m4a])), (rea, .inr (6, [.int 0, .ref r1a, .ref r2a, .ref r3a, .ref r4a, .ref r5a, .ref r6a, .ref r7a])), (d3a, aI g 4 z0), (foa, .inr (0, [.int 0, .int 0, .ref f1a, .int 0, .int 0, .ref f2a, .ref f3a, .ref f4a]))] := hD
  refine lv_aload_n hx hb dX2_clear_15 rfl (lv_at hl 0 rfl) ?_
  refine va_get (D := g.1) (ci := 2) (v := .ref rea) (C := RX2) (T := TX2) (N := 9) hx hb hT inF_X2 hown hK.1 hP 0 rfl rfl 2 (by decide) (hT _ bw_91) (fun _ h9 => h9) rfl dX2_clear_16 ?_
  refine lv_iconst (v := 0) hx hb dX2_clear_19 (by decide) ?_
  refine va_put (D := g.1) (ci := 6) (v := .int 0) (ty := .int) (C := RX6) (T := TX6) (N := 8) hx hb hT inF_X6 tyX6 tyX6_ok nmX6 hown hK.1 hP hD hS 2 rfl rfl 0 (by decide) (hT _ bw_92) (fun _ h9 => h9) rfl (by decide +kernel) rfl rfl (Nat.le_of_ble_eq_true rfl) dX2_clear_20 (fun H locs hP hD hS => ?_)
  have hP : va_P g.1 vwCl [(la, .inr (2, [.ref mea, .ref foa, .ref rea, .int 0, .ref d1a, .ref d2a, .int 9, .int 0, .ref d3a])), (mea, .inr (3, [.int 0, .ref m1a, .ref m2a, .ref m3a, .ref m4a])), (rea, .inr (6, [.int 0, .ref r1a, .ref r2a, .ref r3a, .ref r4a, .ref r5a, .ref r6a, .ref r7a])), (d3a, aI g 4 z0), (foa, .inr (0, [.int 0, .int 0, .ref f1a, .int 0, .int 0, .ref f2a, .ref f3a, .ref f4a]))] H := hP
  have hD : va_D A [(la, .inr (2, [.ref mea, .ref foa, .ref rea, .int 0, .ref d1a, .ref d2a, .int 9, .int 0, .ref d3a])), (mea, .inr (3, [.int 0, .ref m1a, .ref m2a, .ref m3a, .ref m4a])), (rea, .inr (6, [.int 0, .ref r1a, .ref r2a, .ref r3a, .ref r4a, .ref r5a, .ref r6a, .ref r7a])), (d3a, aI g 4 z0), (foa, .inr (0, [.int 0, .int 0, .ref f1a, .int 0, .int 0, .ref f2a, .ref f3a, .ref f4a]))] := hD
  refine lv_aload_n hx hb dX2_clear_23 rfl (lv_at hl 0 rfl) ?_
  refine lv_iconst (v := 0) hx hb dX2_clear_24 (by decide) ?_
  refine va_put (D := g.1) (ci := 2) (v := .int 0) (ty := .int) (C := RX2) (T := TX2) (N := 9) hx hb hT inF_X2 tyX2 tyX2_ok nmX2 hown hK.1 hP hD hS 0 rfl rfl 3 (by decide) (hT _ bw_93) (fun _ h9 => h9) rfl (by decide +kernel) rfl rfl (Nat.le_of_ble_eq_true rfl) dX2_clear_25 (fun H locs hP hD hS => ?_)
  have hP : va_P g.1 vwCl [(la, .inr (2, [.ref mea, .ref foa, .ref rea, .int 0, .ref d1a, .ref d2a, .int 9, .int 0, .ref d3a])), (mea, .inr (3, [.int 0, .ref m1a, .ref m2a, .ref m3a, .ref m4a])), (rea, .inr (6, [.int 0, .ref r1a, .ref r2a, .ref r3a, .ref r4a, .ref r5a, .ref r6a, .ref r7a])), (d3a, aI g 4 z0), (foa, .inr (0, [.int 0, .int 0, .ref f1a, .int 0, .int 0, .ref f2a, .ref f3a, .ref f4a]))] H := hP
  have hD : va_D A [(la, .inr (2, [.ref mea, .ref foa, .ref rea, .int 0, .ref d1a, .ref d2a, .int 9, .int 0, .ref d3a])), (mea, .inr (3, [.int 0, .ref m1a, .ref m2a, .ref m3a, .ref m4a])), (rea, .inr (6, [.int 0, .ref r1a, .ref r2a, .ref r3a, .ref r4a, .ref r5a, .ref r6a, .ref r7a])), (d3a, aI g 4 z0), (foa, .inr (0, [.int 0, .int 0, .ref f1a, .int 0, .int 0, .ref f2a, .ref f3a, .ref f4a]))] := hD
  refine lv_aload_n hx hb dX2_clear_28 rfl (lv_at hl 0 rfl) ?_
  refine lv_bipush (v := 9) hx hb dX2_clear_29 (by decide) ?_
  refine va_put (D := g.1) (ci := 2) (v := .int 9) (ty := .int) (C := RX2) (T := TX2) (N := 9) hx hb hT inF_X2 tyX2 tyX2_ok nmX2 hown hK.1 hP hD hS 0 rfl rfl 6 (by decide) (hT _ bw_94) (fun _ h9 => h9) rfl (by decide +kernel) rfl rfl (Nat.le_of_ble_eq_true rfl) dX2_clear_31 (fun H locs hP hD hS => ?_)
  have hP : va_P g.1 vwCl [(la, .inr (2, [.ref mea, .ref foa, .ref rea, .int 0, .ref d1a, .ref d2a, .int 9, .int 0, .ref d3a])), (mea, .inr (3, [.int 0, .ref m1a, .ref m2a, .ref m3a, .ref m4a])), (rea, .inr (6, [.int 0, .ref r1a, .ref r2a, .ref r3a, .ref r4a, .ref r5a, .ref r6a, .ref r7a])), (d3a, aI g 4 z0), (foa, .inr (0, [.int 0, .int 0, .ref f1a, .int 0, .int 0, .ref f2a, .ref f3a, .ref f4a]))] H := hP
  have hD : va_D A [(la, .inr (2, [.ref mea, .ref foa, .ref rea, .int 0, .ref d1a, .ref d2a, .int 9, .int 0, .ref d3a])), (mea, .inr (3, [.int 0, .ref m1a, .ref m2a, .ref m3a, .ref m4a])), (rea, .inr (6, [.int 0, .ref r1a, .ref r2a, .ref r3a, .ref r4a, .ref r5a, .ref r6a, .ref r7a])), (d3a, aI g 4 z0), (foa, .inr (0, [.int 0, .int 0, .ref f1a, .int 0, .int 0, .ref f2a, .ref f3a, .ref f4a]))] := hD
  refine lv_aload_n hx hb dX2_clear_34 rfl (lv_at hl 0 rfl) ?_
  refine lv_iconst (v := 0) hx hb dX2_clear_35 (by decide) ?_
  refine va_put (D := g.1) (ci := 2) (v := .int 0) (ty := .int) (C := RX2) (T := TX2) (N := 9) hx hb hT inF_X2 tyX2 tyX2_ok nmX2 hown hK.1 hP hD hS 0 rfl rfl 7 (by decide) (hT _ bw_95) (fun _ h9 => h9) rfl (by decide +kernel) rfl rfl (Nat.le_of_ble_eq_true rfl) dX2_clear_36 (fun H locs hP hD hS => ?_)
  have hP : va_P g.1 vwCl [(la, .inr (2, [.ref mea, .ref foa, .ref rea, .int 0, .ref d1a, .ref d2a, .int 9, .int 0, .ref d3a])), (mea, .inr (3, [.int 0, .ref m1a, .ref m2a, .ref m3a, .ref m4a])), (rea, .inr (6, [.int 0, .ref r1a, .ref r2a, .ref r3a, .ref r4a, .ref r5a, .ref r6a, .ref r7a])), (d3a, aI g 4 z0), (foa, .inr (0, [.int 0, .int 0, .ref f1a, .int 0, .int 0, .ref f2a, .ref f3a, .ref f4a]))] H := hP
  have hD : va_D A [(la, .inr (2, [.ref mea, .ref foa, .ref rea, .int 0, .ref d1a, .ref d2a, .int 9, .int 0, .ref d3a])), (mea, .inr (3, [.int 0, .ref m1a, .ref m2a, .ref m3a, .ref m4a])), (rea, .inr (6, [.int 0, .ref r1a, .ref r2a, .ref r3a, .ref r4a, .ref r5a, .ref r6a, .ref r7a])), (d3a, aI g 4 z0), (foa, .inr (0, [.int 0, .int 0, .ref f1a, .int 0, .int 0, .ref f2a, .ref f3a, .ref f4a]))] := hD
  refine lv_aload_n hx hb dX2_clear_39 rfl (lv_at hl 0 rfl) ?_
  refine va_get (D := g.1) (ci := 2) (v := .ref d3a) (C := RX2) (T := TX2) (N := 9) hx hb hT inF_X2 hown hK.1 hP 0 rfl rfl 8 (by decide) (hT _ bw_96) (fun _ h9 => h9) rfl dX2_clear_40 ?_
  refine lv_iconst (v := 0) hx hb dX2_clear_43 (by decide) ?_
  refine k_v (wr := [(la, .inr (2, [.ref mea, .ref foa, .ref rea, .int 0, .ref d1a, .ref d2a, .int 9, .int 0, .ref d3a])), (mea, .inr (3, [.int 0, .ref m1a, .ref m2a, .ref m3a, .ref m4a])), (rea, .inr (6, [.int 0, .ref r1a, .ref r2a, .ref r3a, .ref r4a, .ref r5a, .ref r6a, .ref r7a])), (foa, .inr (0, [.int 0, .int 0, .ref f1a, .int 0, .int 0, .ref f2a, .ref f3a, .ref f4a]))]) (k_S (n := 2) ⟨hx, hb, hml, hown, hT⟩ hK hP hD [3] rfl (by decide) (c_J7_fill_53178_4 l g H.size d3a) (gS bw_97 bw_98 bw_99 bw_79) rfl rfl (by decide +kernel) ⟨by decide, by decide⟩ (fun _ _ _ _ _ => trivial) (fun _ _ _ => trivial) rfl rfl hl.1 (Nat.le_of_ble_eq_true rfl) dX2_clear_44 ⟨by decide, by decide⟩) hP hD hS hA [3] [0, 1, 2, 4] rfl rfl (by decide) (by decide) (fun u H locs hw hP hD hS => ?_)
  have hP : va_P g.1 vwCl [(la, .inr (2, [.ref mea, .ref foa, .ref rea, .int 0, .ref d1a, .ref d2a, .int 9, .int 0, .ref d3a])), (mea, .inr (3, [.int 0, .ref m1a, .ref m2a, .ref m3a, .ref m4a])), (rea, .inr (6, [.int 0, .ref r1a, .ref r2a, .ref r3a, .ref r4a, .ref r5a, .ref r6a, .ref r7a])), (foa, .inr (0, [.int 0, .int 0, .ref f1a, .int 0, .int 0, .ref f2a, .ref f3a, .ref f4a])), (d3a, aI g 4 z0)] H := hP
  have hD : va_D A [(la, .inr (2, [.ref mea, .ref foa, .ref rea, .int 0, .ref d1a, .ref d2a, .int 9, .int 0, .ref d3a])), (mea, .inr (3, [.int 0, .ref m1a, .ref m2a, .ref m3a, .ref m4a])), (rea, .inr (6, [.int 0, .ref r1a, .ref r2a, .ref r3a, .ref r4a, .ref r5a, .ref r6a, .ref r7a])), (foa, .inr (0, [.int 0, .int 0, .ref f1a, .int 0, .int 0, .ref f2a, .ref f3a, .ref f4a])), (d3a, aI g 4 z0)] := hD
  have hP9 : va_P g.1 vwCl [(la, .inr (2, [.ref mea, .ref foa, .ref rea, .int 0, .ref d1a, .ref d2a, .int 9, .int 0, .ref d3a])), (mea, .inr (3, [.int 0, .ref m1a, .ref m2a, .ref m3a, .ref m4a])), (rea, .inr (6, [.int 0, .ref r1a, .ref r2a, .ref r3a, .ref r4a, .ref r5a, .ref r6a, .ref r7a])), (foa, .inr (0, [.int 0, .int 0, .ref f1a, .int 0, .int 0, .ref f2a, .ref f3a, .ref f4a])), (d3a, aI g 4 z0)] H := hP.sub [0, 1, 2, 3, 4] rfl
  have hD9 : va_D A [(la, .inr (2, [.ref mea, .ref foa, .ref rea, .int 0, .ref d1a, .ref d2a, .int 9, .int 0, .ref d3a])), (mea, .inr (3, [.int 0, .ref m1a, .ref m2a, .ref m3a, .ref m4a])), (rea, .inr (6, [.int 0, .ref r1a, .ref r2a, .ref r3a, .ref r4a, .ref r5a, .ref r6a, .ref r7a])), (foa, .inr (0, [.int 0, .int 0, .ref f1a, .int 0, .int 0, .ref f2a, .ref f3a, .ref f4a])), (d3a, aI g 4 z0)] := hD.sub [0, 1, 2, 3, 4] (by decide) rfl
  exact W.vret hx hb hr (fun t ht hW => ⟨⟨(), rfl, trivial, by rw [ht]; exact hP9, by rw [hAe]; exact hD9⟩, hS.F ht⟩) hS.2.2 dX2_clear_47

theorem bw_101 : Cond.fieldLink RX9 33 "DuelDelays$State" "day" "I" ∈ gT := gT_tb 448 (by decide +kernel) (by decide +kernel)
theorem bw_102 : Cond.fieldLink RX9 37 "DuelDelays$Land" "draw" "I" ∈ gT := gT_tb 310 (by decide +kernel) (by decide +kernel)
theorem bw_103 : Cond.fieldLink RX9 42 "DuelDelays$State" "seed" "I" ∈ gT := gT_tb 450 (by decide +kernel) (by decide +kernel)
theorem bw_104 : Cond.fieldLink RX9 45 "DuelDelays$Land" "men" "LDuelDelays$Men;" ∈ gT := gT_tb 285 (by decide +kernel) (by decide +kernel)
theorem bw_105 : Cond.fieldLink RX9 49 "DuelDelays$Men" "count" "I" ∈ gT := gT_tb 165 (by decide +kernel) (by decide +kernel)
theorem bw_106 : Cond.fieldLink RX9 54 "DuelDelays$State" "alive" "I" ∈ gT := gT_tb 452 (by decide +kernel) (by decide +kernel)
theorem bw_107 : Cond.fieldLink RX9 57 "DuelDelays$State" "struck" "I" ∈ gT := gT_tb 454 (by decide +kernel) (by decide +kernel)
theorem bw_108 : Cond.fieldLink RX9 60 "DuelDelays$State" "open" "I" ∈ gT := gT_tb 456 (by decide +kernel) (by decide +kernel)
theorem bw_109 : Cond.fieldLink RX9 66 "DuelDelays$State" "lines" "I" ∈ gT := gT_tb 461 (by decide +kernel) (by decide +kernel)
theorem bw_110 : Cond.fieldLink RX9 69 "DuelDelays$Men" "coins" "[I" ∈ gT := gT_tb 176 (by decide +kernel) (by decide +kernel)
theorem bw_111 : Cond.fieldLink RX9 9 "DuelDelays$State" "coins" "[I" ∈ gT := gT_tb 463 (by decide +kernel) (by decide +kernel)
theorem bw_112 : Cond.native arraycopyName ∈ gT := gT_tb 513 (by decide +kernel) (by decide +kernel)
theorem bw_113 : Cond.static arraycopyName ∈ gT := gT_tb 512 (by decide +kernel) (by decide +kernel)
theorem bw_114 : Cond.initialized "java/lang/System" ∈ gT := gT_tb 17 (by decide +kernel) (by decide +kernel)
theorem bw_115 : Cond.methodLink RX9 70 arraycopyName ∈ gT := gT_tb 511 (by decide +kernel) (by decide +kernel)
theorem bw_116 : Cond.fieldLink RX9 15 "DuelDelays$State" "rented" "[I" ∈ gT := gT_tb 465 (by decide +kernel) (by decide +kernel)
theorem bw_117 : Cond.methodLink RX9 76 yJ7_fill_53178 ∈ gT := gT_tb 514 (by decide +kernel) (by decide +kernel)
theorem bw_118 : Cond.fieldLink RX9 82 "DuelDelays$Land" "duels" "I" ∈ gT := gT_tb 299 (by decide +kernel) (by decide +kernel)
theorem bw_119 : Cond.code yX9_begin cX9_begin 3 none ∈ gT := gT_tb 510 (by decide +kernel) (by decide +kernel)
theorem dX9_begin_0 : decode cX9_begin 0 = .ok (.aload_n 0, 1) := by decide +kernel
theorem dX9_begin_1 : decode cX9_begin 1 = .ok (.iconst 0, 1) := by decide +kernel
theorem dX9_begin_2 : decode cX9_begin 2 = .ok (.putfield 33, 3) := by decide +kernel
theorem dX9_begin_5 : decode cX9_begin 5 = .ok (.aload_n 0, 1) := by decide +kernel
theorem dX9_begin_6 : decode cX9_begin 6 = .ok (.aload_n 1, 1) := by decide +kernel
theorem dX9_begin_7 : decode cX9_begin 7 = .ok (.getfield 37, 3) := by decide +kernel
theorem dX9_begin_10 : decode cX9_begin 10 = .ok (.putfield 42, 3) := by decide +kernel
theorem dX9_begin_13 : decode cX9_begin 13 = .ok (.aload_n 0, 1) := by decide +kernel
theorem dX9_begin_14 : decode cX9_begin 14 = .ok (.iconst 1, 1) := by decide +kernel
theorem dX9_begin_15 : decode cX9_begin 15 = .ok (.aload_n 1, 1) := by decide +kernel
theorem dX9_begin_16 : decode cX9_begin 16 = .ok (.getfield 45, 3) := by decide +kernel
theorem dX9_begin_19 : decode cX9_begin 19 = .ok (.getfield 49, 3) := by decide +kernel
theorem dX9_begin_22 : decode cX9_begin 22 = .ok (.ishl, 1) := by decide +kernel
theorem dX9_begin_23 : decode cX9_begin 23 = .ok (.iconst 1, 1) := by decide +kernel
theorem dX9_begin_24 : decode cX9_begin 24 = .ok (.isub, 1) := by decide +kernel
theorem dX9_begin_25 : decode cX9_begin 25 = .ok (.putfield 54, 3) := by decide +kernel
theorem dX9_begin_28 : decode cX9_begin 28 = .ok (.aload_n 0, 1) := by decide +kernel
theorem dX9_begin_29 : decode cX9_begin 29 = .ok (.iconst 0, 1) := by decide +kernel
theorem dX9_begin_30 : decode cX9_begin 30 = .ok (.putfield 57, 3) := by decide +kernel
theorem dX9_begin_33 : decode cX9_begin 33 = .ok (.aload_n 0, 1) := by decide +kernel
theorem dX9_begin_34 : decode cX9_begin 34 = .ok (.iconst 0, 1) := by decide +kernel
theorem dX9_begin_35 : decode cX9_begin 35 = .ok (.putfield 60, 3) := by decide +kernel
theorem dX9_begin_38 : decode cX9_begin 38 = .ok (.aload_n 0, 1) := by decide +kernel
theorem dX9_begin_39 : decode cX9_begin 39 = .ok (.iconst 0, 1) := by decide +kernel
theorem dX9_begin_40 : decode cX9_begin 40 = .ok (.putfield 63, 3) := by decide +kernel
theorem dX9_begin_43 : decode cX9_begin 43 = .ok (.aload_n 0, 1) := by decide +kernel
theorem dX9_begin_44 : decode cX9_begin 44 = .ok (.iconst 0, 1) := by decide +kernel
theorem dX9_begin_45 : decode cX9_begin 45 = .ok (.putfield 66, 3) := by decide +kernel
theorem dX9_begin_48 : decode cX9_begin 48 = .ok (.aload_n 1, 1) := by decide +kernel
theorem dX9_begin_49 : decode cX9_begin 49 = .ok (.getfield 45, 3) := by decide +kernel
theorem dX9_begin_52 : decode cX9_begin 52 = .ok (.getfield 69, 3) := by decide +kernel
theorem dX9_begin_55 : decode cX9_begin 55 = .ok (.iconst 0, 1) := by decide +kernel
theorem dX9_begin_56 : decode cX9_begin 56 = .ok (.aload_n 0, 1) := by decide +kernel
theorem dX9_begin_57 : decode cX9_begin 57 = .ok (.getfield 9, 3) := by decide +kernel
theorem dX9_begin_60 : decode cX9_begin 60 = .ok (.iconst 0, 1) := by decide +kernel
theorem dX9_begin_61 : decode cX9_begin 61 = .ok (.bipush 6, 2) := by decide +kernel
theorem dX9_begin_63 : decode cX9_begin 63 = .ok (.invokestatic 70, 3) := by decide +kernel
theorem dX9_begin_66 : decode cX9_begin 66 = .ok (.aload_n 0, 1) := by decide +kernel
theorem dX9_begin_67 : decode cX9_begin 67 = .ok (.getfield 15, 3) := by decide +kernel
theorem dX9_begin_70 : decode cX9_begin 70 = .ok (.iconst 0, 1) := by decide +kernel
theorem dX9_begin_71 : decode cX9_begin 71 = .ok (.invokestatic 76, 3) := by decide +kernel
theorem dX9_begin_74 : decode cX9_begin 74 = .ok (.iconst 0, 1) := by decide +kernel
theorem dX9_begin_75 : decode cX9_begin 75 = .ok (.istore_n 2, 1) := by decide +kernel
theorem dX9_begin_76 : decode cX9_begin 76 = .ok (.iload_n 2, 1) := by decide +kernel
theorem dX9_begin_77 : decode cX9_begin 77 = .ok (.aload_n 1, 1) := by decide +kernel
theorem dX9_begin_78 : decode cX9_begin 78 = .ok (.getfield 82, 3) := by decide +kernel
theorem dX9_begin_81 : decode cX9_begin 81 = .ok (.if_icmp .ge 37, 3) := by decide +kernel
theorem dX9_begin_118 : decode cX9_begin 118 = .ok (.return_, 1) := by decide +kernel
set_option maxHeartbeats 4000000 in
set_option maxRecDepth 100000 in
theorem c_X9_begin (l : Launch) (g : GG) (sz : Nat) (h : Nat) (t1 : Nat) (t2 : Nat) (t3 : Nat) (t4 : Nat) (t5 : Nat) (t6 : Nat) (t7 : Nat) (la : Nat) (mea : Nat) (foa : Nat) (rea : Nat) (d1a : Nat) (d2a : Nat) (d3a : Nat) (m1a : Nat) (m2a : Nat) (m3a : Nat) (m4a : Nat) : Met l yX9_begin (.code yX9_begin cX9_begin 3 none :: gT) ({ frames := 1, cells := 0, slots := 0, locals := 60 }) (va_Pc [.ref h, .ref la] (Pst g sz [(h, .inr (9, [.int 0, .int 0, .int 0, .int 0, .int 0, .int 0, .int 0, .ref t1, .ref t2, .ref t3, .ref t4, .ref t5, .ref t6, .ref t7])), (t1, aI g 6 z0), (t2, aI g 6 z0), (la, .inr (2, [.ref mea, .ref foa, .ref rea, .int 0, .ref d1a, .ref d2a, .int 9, .int 0, .ref d3a])), (mea, .inr (3, [.int 0, .ref m1a, .ref m2a, .ref m3a, .ref m4a])), (m3a, aI g 6 z0)] nX)) (va_Qv (fun (_ : Unit) => True) (Qst g [(h, .inr (9, [.int 0, .int 0, .int 0, .int 0, .int 0, .int 0, .int 0, .ref t1, .ref t2, .ref t3, .ref t4, .ref t5, .ref t6, .ref t7])), (t1, aI g 6 z0), (t2, aI g 6 z0), (la, .inr (2, [.ref mea, .ref foa, .ref rea, .int 0, .ref d1a, .ref d2a, .int 9, .int 0, .ref d3a])), (mea, .inr (3, [.int 0, .ref m1a, .ref m2a, .ref m3a, .ref m4a])), (m3a, aI g 6 z0)] sz (fun _ => [(h, .inr (9, [.int 0, .int 0, .int 0, .int 0, .int 0, .int 0, .int 0, .ref t1, .ref t2, .ref t3, .ref t4, .ref t5, .ref t6, .ref t7])), (t1, aI g 6 z0), (la, .inr (2, [.ref mea, .ref foa, .ref rea, .int 0, .ref d1a, .ref d2a, .int 9, .int 0, .ref d3a])), (mea, .inr (3, [.int 0, .ref m1a, .ref m2a, .ref m3a, .ref m4a])), (m3a, aI g 6 z0), (t2, aI g 6 z0)])) (va_A [(h, .inr (9, [.int 0, .int 0, .int 0, .int 0, .int 0, .int 0, .int 0, .ref t1, .ref t2, .ref t3, .ref t4, .ref t5, .ref t6, .ref t7])), (t1, aI g 6 z0), (t2, aI g 6 z0), (la, .inr (2, [.ref mea, .ref foa, .ref rea, .int 0, .ref d1a, .ref d2a, .int 9, .int 0, .ref d3a])), (mea, .inr (3, [.int 0, .ref m1a, .ref m2a, .ref m3a, .ref m4a])), (m3a, aI g 6 z0)] sz)) 0 0 (va_A [(h, .inr (9, [.int 0, .int 0, .int 0, .int 0, .int 0, .int 0, .int 0, .ref t1, .ref t2, .ref t3, .ref t4, .ref t5, .ref t6, .ref t7])), (t1, aI g 6 z0), (t2, aI g 6 z0), (la, .inr (2, [.ref mea, .ref foa, .ref rea, .int 0, .ref d1a, .ref d2a, .int 9, .int 0, .ref d3a])), (mea, .inr (3, [.int 0, .ref m1a, .ref m2a, .ref m3a, .ref m4a])), (m3a, aI g 6 z0)] sz) := by
  refine Met.ofW (cc := cX9_begin) (maxL := 3) (ret := none) (by decide) rfl ?_
  intro p e s m args below meth c s₁ B hml hv
  obtain ⟨rfl, hsz, hP, hK, hD0, hX⟩ := hv
  have hx := B.exec
  have hb := B.bytes
  have hr := B.returns
  have hT : ∀ w ∈ gT, w.before _ s = true := fun w h => atoms_spec (ws := .code yX9_begin cX9_begin 3 none :: gT) B.pre w (List.mem_cons_of_mem _ h)
  have hown : s.vm.findClass RX9 = some m.cls := findClass_of_methodNamed B.named
  have hlocks := B.notSynchronized
  subst hsz
  have hD := hD0.self (sz := s.heap.size)
  generalize hAe : va_A [(h, .inr (9, [.int 0, .int 0, .int 0, .int 0, .int 0, .int 0, .int 0, .ref t1, .ref t2, .ref t3, .ref t4, .ref t5, .ref t6, .ref t7])), (t1, aI g 6 z0), (t2, aI g 6 z0), (la, .inr (2, [.ref mea, .ref foa, .ref rea, .int 0, .ref d1a, .ref d2a, .int 9, .int 0, .ref d3a])), (mea, .inr (3, [.int 0, .ref m1a, .ref m2a, .ref m3a, .ref m4a])), (m3a, aI g 6 z0)] s.heap.size = A at hD ⊢
  have hA : ∀ q : Nat, s.heap.size ≤ q → A q := fun q h => by rw [← hAe]; exact Or.inr h
  have hS : va_S A s.heap s.heap [] := va_S.rf
  have hl := lv_entry ([.ref h, .ref la]) (n := 3) (Nat.le_of_ble_eq_true rfl)
  rw [lg_entry_eq]
  generalize (lg_sl ([.ref h, .ref la]) ++ List.replicate (3 - (lg_sl ([.ref h, .ref la])).length) Slot.unset).toArray = ls at hl ⊢
  have hl : lv_has ls 3 [(0, .ref h), (1, .ref la)] := hl
  refine p_nH (fun H hH => ?_)
  have hP : va_P g.1 vwCl [(h, .inr (9, [.int 0, .int 0, .int 0, .int 0, .int 0, .int 0, .int 0, .ref t1, .ref t2, .ref t3, .ref t4, .ref t5, .ref t6, .ref t7])), (t1, aI g 6 z0), (t2, aI g 6 z0), (la, .inr (2, [.ref mea, .ref foa, .ref rea, .int 0, .ref d1a, .ref d2a, .int 9, .int 0, .ref d3a])), (mea, .inr (3, [.int 0, .ref m1a, .ref m2a, .ref m3a, .ref m4a])), (m3a, aI g 6 z0)] H := by rw [hH]; exact hP
  have hS : va_S A s.heap H [] := by rw [hH]; exact hS
  refine lv_aload_n hx hb dX9_begin_0 rfl (lv_at hl 0 rfl) ?_
  refine lv_iconst (v := 0) hx hb dX9_begin_1 (by decide) ?_
  refine va_put (D := g.1) (ci := 9) (v := .int 0) (ty := .int) (C := RX9) (T := TX9) (N := 14) hx hb hT inF_X9 tyX9 tyX9_ok nmX9 hown hK.1 hP hD hS 0 rfl rfl 0 (by decide) (hT _ bw_101) (fun _ h9 => h9) rfl (by decide +kernel) rfl rfl (Nat.le_of_ble_eq_true rfl) dX9_begin_2 (fun H locs hP hD hS => ?_)
  have hP : va_P g.1 vwCl [(h, .inr (9, [.int 0, .int 0, .int 0, .int 0, .int 0, .int 0, .int 0, .ref t1, .ref t2, .ref t3, .ref t4, .ref t5, .ref t6, .ref t7])), (t1, aI g 6 z0), (t2, aI g 6 z0), (la, .inr (2, [.ref mea, .ref foa, .ref rea, .int 0, .ref d1a, .ref d2a, .int 9, .int 0, .ref d3a])), (mea, .inr (3, [.int 0, .ref m1a, .ref m2a, .ref m3a, .ref m4a])), (m3a, aI g 6 z0)] H := hP
  have hD : va_D A [(h, .inr (9, [.int 0, .int 0, .int 0, .int 0, .int 0, .int 0, .int 0, .ref t1, .ref t2, .ref t3, .ref t4, .ref t5, .ref t6, .ref t7])), (t1, aI g 6 z0), (t2, aI g 6 z0), (la, .inr (2, [.ref mea, .ref foa, .ref rea, .int 0, .ref d1a, .ref d2a, .int 9, .int 0, .ref d3a])), (mea, .inr (3, [.int 0, .ref m1a, .ref m2a, .ref m3a, .ref m4a])), (m3a, aI g 6 z0)] := hD
  refine lv_aload_n hx hb dX9_begin_5 rfl (lv_at hl 0 rfl) ?_
  refine lv_aload_n hx hb dX9_begin_6 rfl (lv_at hl 1 rfl) ?_
  refine va_get (D := g.1) (ci := 2) (v := .int 0) (C := RX2) (T := TX2) (N := 9) hx hb hT inF_X2 hown hK.1 hP 3 rfl rfl 7 (by decide) (hT _ bw_102) (fun _ h9 => h9) rfl dX9_begin_7 ?_
  refine va_put (D := g.1) (ci := 9) (v := .int 0) (ty := .int) (C := RX9) (T := TX9) (N := 14) hx hb hT inF_X9 tyX9 tyX9_ok nmX9 hown hK.1 hP hD hS 0 rfl rfl 1 (by decide) (hT _ bw_103) (fun _ h9 => h9) rfl (by decide +kernel) rfl rfl (Nat.le_of_ble_eq_true rfl) dX9_begin_10 (fun H locs hP hD hS => ?_)
  have hP : va_P g.1 vwCl [(h, .inr (9, [.int 0, .int 0, .int 0, .int 0, .int 0, .int 0, .int 0, .ref t1, .ref t2, .ref t3, .ref t4, .ref t5, .ref t6, .ref t7])), (t1, aI g 6 z0), (t2, aI g 6 z0), (la, .inr (2, [.ref mea, .ref foa, .ref rea, .int 0, .ref d1a, .ref d2a, .int 9, .int 0, .ref d3a])), (mea, .inr (3, [.int 0, .ref m1a, .ref m2a, .ref m3a, .ref m4a])), (m3a, aI g 6 z0)] H := hP
  have hD : va_D A [(h, .inr (9, [.int 0, .int 0, .int 0, .int 0, .int 0, .int 0, .int 0, .ref t1, .ref t2, .ref t3, .ref t4, .ref t5, .ref t6, .ref t7])), (t1, aI g 6 z0), (t2, aI g 6 z0), (la, .inr (2, [.ref mea, .ref foa, .ref rea, .int 0, .ref d1a, .ref d2a, .int 9, .int 0, .ref d3a])), (mea, .inr (3, [.int 0, .ref m1a, .ref m2a, .ref m3a, .ref m4a])), (m3a, aI g 6 z0)] := hD
  refine lv_aload_n hx hb dX9_begin_13 rfl (lv_at hl 0 rfl) ?_
  refine lv_iconst (v := 1) hx hb dX9_begin_14 (by decide) ?_
  refine lv_aload_n hx hb dX9_begin_15 rfl (lv_at hl 1 rfl) ?_
  refine va_get (D := g.1) (ci := 2) (v := .ref mea) (C := RX2) (T := TX2) (N := 9) hx hb hT inF_X2 hown hK.1 hP 3 rfl rfl 0 (by decide) (hT _ bw_104) (fun _ h9 => h9) rfl dX9_begin_16 ?_
  refine va_get (D := g.1) (ci := 3) (v := .int 0) (C := RX3) (T := TX3) (N := 5) hx hb hT inF_X3 hown hK.1 hP 4 rfl rfl 0 (by decide) (hT _ bw_105) (fun _ h9 => h9) rfl dX9_begin_19 ?_
  refine lv_ishl hx hb dX9_begin_22 ?_
  refine p_ti (v := 1) (by decide +kernel) ?_
  refine lv_iconst (v := 1) hx hb dX9_begin_23 (by decide) ?_
  refine lv_isub hx hb dX9_begin_24 ?_
  refine p_ti (v := 0) (by decide +kernel) ?_
  refine va_put (D := g.1) (ci := 9) (v := .int 0) (ty := .int) (C := RX9) (T := TX9) (N := 14) hx hb hT inF_X9 tyX9 tyX9_ok nmX9 hown hK.1 hP hD hS 0 rfl rfl 2 (by decide) (hT _ bw_106) (fun _ h9 => h9) rfl (by decide +kernel) rfl rfl (Nat.le_of_ble_eq_true rfl) dX9_begin_25 (fun H locs hP hD hS => ?_)
  have hP : va_P g.1 vwCl [(h, .inr (9, [.int 0, .int 0, .int 0, .int 0, .int 0, .int 0, .int 0, .ref t1, .ref t2, .ref t3, .ref t4, .ref t5, .ref t6, .ref t7])), (t1, aI g 6 z0), (t2, aI g 6 z0), (la, .inr (2, [.ref mea, .ref foa, .ref rea, .int 0, .ref d1a, .ref d2a, .int 9, .int 0, .ref d3a])), (mea, .inr (3, [.int 0, .ref m1a, .ref m2a, .ref m3a, .ref m4a])), (m3a, aI g 6 z0)] H := hP
  have hD : va_D A [(h, .inr (9, [.int 0, .int 0, .int 0, .int 0, .int 0, .int 0, .int 0, .ref t1, .ref t2, .ref t3, .ref t4, .ref t5, .ref t6, .ref t7])), (t1, aI g 6 z0), (t2, aI g 6 z0), (la, .inr (2, [.ref mea, .ref foa, .ref rea, .int 0, .ref d1a, .ref d2a, .int 9, .int 0, .ref d3a])), (mea, .inr (3, [.int 0, .ref m1a, .ref m2a, .ref m3a, .ref m4a])), (m3a, aI g 6 z0)] := hD
  refine lv_aload_n hx hb dX9_begin_28 rfl (lv_at hl 0 rfl) ?_
  refine lv_iconst (v := 0) hx hb dX9_begin_29 (by decide) ?_
  refine va_put (D := g.1) (ci := 9) (v := .int 0) (ty := .int) (C := RX9) (T := TX9) (N := 14) hx hb hT inF_X9 tyX9 tyX9_ok nmX9 hown hK.1 hP hD hS 0 rfl rfl 3 (by decide) (hT _ bw_107) (fun _ h9 => h9) rfl (by decide +kernel) rfl rfl (Nat.le_of_ble_eq_true rfl) dX9_begin_30 (fun H locs hP hD hS => ?_)
  have hP : va_P g.1 vwCl [(h, .inr (9, [.int 0, .int 0, .int 0, .int 0, .int 0, .int 0, .int 0, .ref t1, .ref t2, .ref t3, .ref t4, .ref t5, .ref t6, .ref t7])), (t1, aI g 6 z0), (t2, aI g 6 z0), (la, .inr (2, [.ref mea, .ref foa, .ref rea, .int 0, .ref d1a, .ref d2a, .int 9, .int 0, .ref d3a])), (mea, .inr (3, [.int 0, .ref m1a, .ref m2a, .ref m3a, .ref m4a])), (m3a, aI g 6 z0)] H := hP
  have hD : va_D A [(h, .inr (9, [.int 0, .int 0, .int 0, .int 0, .int 0, .int 0, .int 0, .ref t1, .ref t2, .ref t3, .ref t4, .ref t5, .ref t6, .ref t7])), (t1, aI g 6 z0), (t2, aI g 6 z0), (la, .inr (2, [.ref mea, .ref foa, .ref rea, .int 0, .ref d1a, .ref d2a, .int 9, .int 0, .ref d3a])), (mea, .inr (3, [.int 0, .ref m1a, .ref m2a, .ref m3a, .ref m4a])), (m3a, aI g 6 z0)] := hD
  refine lv_aload_n hx hb dX9_begin_33 rfl (lv_at hl 0 rfl) ?_
  refine lv_iconst (v := 0) hx hb dX9_begin_34 (by decide) ?_
  refine va_put (D := g.1) (ci := 9) (v := .int 0) (ty := .int) (C := RX9) (T := TX9) (N := 14) hx hb hT inF_X9 tyX9 tyX9_ok nmX9 hown hK.1 hP hD hS 0 rfl rfl 4 (by decide) (hT _ bw_108) (fun _ h9 => h9) rfl (by decide +kernel) rfl rfl (Nat.le_of_ble_eq_true rfl) dX9_begin_35 (fun H locs hP hD hS => ?_)
  have hP : va_P g.1 vwCl [(h, .inr (9, [.int 0, .int 0, .int 0, .int 0, .int 0, .int 0, .int 0, .ref t1, .ref t2, .ref t3, .ref t4, .ref t5, .ref t6, .ref t7])), (t1, aI g 6 z0), (t2, aI g 6 z0), (la, .inr (2, [.ref mea, .ref foa, .ref rea, .int 0, .ref d1a, .ref d2a, .int 9, .int 0, .ref d3a])), (mea, .inr (3, [.int 0, .ref m1a, .ref m2a, .ref m3a, .ref m4a])), (m3a, aI g 6 z0)] H := hP
  have hD : va_D A [(h, .inr (9, [.int 0, .int 0, .int 0, .int 0, .int 0, .int 0, .int 0, .ref t1, .ref t2, .ref t3, .ref t4, .ref t5, .ref t6, .ref t7])), (t1, aI g 6 z0), (t2, aI g 6 z0), (la, .inr (2, [.ref mea, .ref foa, .ref rea, .int 0, .ref d1a, .ref d2a, .int 9, .int 0, .ref d3a])), (mea, .inr (3, [.int 0, .ref m1a, .ref m2a, .ref m3a, .ref m4a])), (m3a, aI g 6 z0)] := hD
  refine lv_aload_n hx hb dX9_begin_38 rfl (lv_at hl 0 rfl) ?_
  refine lv_iconst (v := 0) hx hb dX9_begin_39 (by decide) ?_
  refine va_put (D := g.1) (ci := 9) (v := .int 0) (ty := .int) (C := RX9) (T := TX9) (N := 14) hx hb hT inF_X9 tyX9 tyX9_ok nmX9 hown hK.1 hP hD hS 0 rfl rfl 5 (by decide) (hT _ bw_4) (fun _ h9 => h9) rfl (by decide +kernel) rfl rfl (Nat.le_of_ble_eq_true rfl) dX9_begin_40 (fun H locs hP hD hS => ?_)
  have hP : va_P g.1 vwCl [(h, .inr (9, [.int 0, .int 0, .int 0, .int 0, .int 0, .int 0, .int 0, .ref t1, .ref t2, .ref t3, .ref t4, .ref t5, .ref t6, .ref t7])), (t1, aI g 6 z0), (t2, aI g 6 z0), (la, .inr (2, [.ref mea, .ref foa, .ref rea, .int 0, .ref d1a, .ref d2a, .int 9, .int 0, .ref d3a])), (mea, .inr (3, [.int 0, .ref m1a, .ref m2a, .ref m3a, .ref m4a])), (m3a, aI g 6 z0)] H := hP
  have hD : va_D A [(h, .inr (9, [.int 0, .int 0, .int 0, .int 0, .int 0, .int 0, .int 0, .ref t1, .ref t2, .ref t3, .ref t4, .ref t5, .ref t6, .ref t7])), (t1, aI g 6 z0), (t2, aI g 6 z0), (la, .inr (2, [.ref mea, .ref foa, .ref rea, .int 0, .ref d1a, .ref d2a, .int 9, .int 0, .ref d3a])), (mea, .inr (3, [.int 0, .ref m1a, .ref m2a, .ref m3a, .ref m4a])), (m3a, aI g 6 z0)] := hD
  refine lv_aload_n hx hb dX9_begin_43 rfl (lv_at hl 0 rfl) ?_
  refine lv_iconst (v := 0) hx hb dX9_begin_44 (by decide) ?_
  refine va_put (D := g.1) (ci := 9) (v := .int 0) (ty := .int) (C := RX9) (T := TX9) (N := 14) hx hb hT inF_X9 tyX9 tyX9_ok nmX9 hown hK.1 hP hD hS 0 rfl rfl 6 (by decide) (hT _ bw_109) (fun _ h9 => h9) rfl (by decide +kernel) rfl rfl (Nat.le_of_ble_eq_true rfl) dX9_begin_45 (fun H locs hP hD hS => ?_)
  have hP : va_P g.1 vwCl [(h, .inr (9, [.int 0, .int 0, .int 0, .int 0, .int 0, .int 0, .int 0, .ref t1, .ref t2, .ref t3, .ref t4, .ref t5, .ref t6, .ref t7])), (t1, aI g 6 z0), (t2, aI g 6 z0), (la, .inr (2, [.ref mea, .ref foa, .ref rea, .int 0, .ref d1a, .ref d2a, .int 9, .int 0, .ref d3a])), (mea, .inr (3, [.int 0, .ref m1a, .ref m2a, .ref m3a, .ref m4a])), (m3a, aI g 6 z0)] H := hP
  have hD : va_D A [(h, .inr (9, [.int 0, .int 0, .int 0, .int 0, .int 0, .int 0, .int 0, .ref t1, .ref t2, .ref t3, .ref t4, .ref t5, .ref t6, .ref t7])), (t1, aI g 6 z0), (t2, aI g 6 z0), (la, .inr (2, [.ref mea, .ref foa, .ref rea, .int 0, .ref d1a, .ref d2a, .int 9, .int 0, .ref d3a])), (mea, .inr (3, [.int 0, .ref m1a, .ref m2a, .ref m3a, .ref m4a])), (m3a, aI g 6 z0)] := hD
  refine lv_aload_n hx hb dX9_begin_48 rfl (lv_at hl 1 rfl) ?_
  refine va_get (D := g.1) (ci := 2) (v := .ref mea) (C := RX2) (T := TX2) (N := 9) hx hb hT inF_X2 hown hK.1 hP 3 rfl rfl 0 (by decide) (hT _ bw_104) (fun _ h9 => h9) rfl dX9_begin_49 ?_
  refine va_get (D := g.1) (ci := 3) (v := .ref m3a) (C := RX3) (T := TX3) (N := 5) hx hb hT inF_X3 hown hK.1 hP 4 rfl rfl 3 (by decide) (hT _ bw_110) (fun _ h9 => h9) rfl dX9_begin_52 ?_
  refine lv_iconst (v := 0) hx hb dX9_begin_55 (by decide) ?_
  refine lv_aload_n hx hb dX9_begin_56 rfl (lv_at hl 0 rfl) ?_
  refine va_get (D := g.1) (ci := 9) (v := .ref t1) (C := RX9) (T := TX9) (N := 14) hx hb hT inF_X9 hown hK.1 hP 0 rfl rfl 7 (by decide) (hT _ bw_111) (fun _ h9 => h9) rfl dX9_begin_57 ?_
  refine lv_iconst (v := 0) hx hb dX9_begin_60 (by decide) ?_
  refine lv_bipush (v := 6) hx hb dX9_begin_61 (by decide) ?_
  refine va_copyi hx hb (hml.trans hl.1.symm) hown (hT _ bw_115) (hT _ bw_112) (hT _ bw_113) (hT _ bw_114) hK.1 hP hD hS 5 1 1 1 rfl rfl rfl rfl rfl (sp := 0) (dp := 0) (n := 6) (by decide) (by decide) (by decide) (by decide) (by decide) (fun _ _ => rfl) (Nat.le_of_ble_eq_true rfl) (Nat.le_of_ble_eq_true rfl) dX9_begin_63 (fun H locs hP hD hS => ?_)
  simp only [z0_c] at hP hD
  have hP : va_P g.1 vwCl [(h, .inr (9, [.int 0, .int 0, .int 0, .int 0, .int 0, .int 0, .int 0, .ref t1, .ref t2, .ref t3, .ref t4, .ref t5, .ref t6, .ref t7])), (t1, aI g 6 z0), (t2, aI g 6 z0), (la, .inr (2, [.ref mea, .ref foa, .ref rea, .int 0, .ref d1a, .ref d2a, .int 9, .int 0, .ref d3a])), (mea, .inr (3, [.int 0, .ref m1a, .ref m2a, .ref m3a, .ref m4a])), (m3a, aI g 6 z0)] H := hP
  have hD : va_D A [(h, .inr (9, [.int 0, .int 0, .int 0, .int 0, .int 0, .int 0, .int 0, .ref t1, .ref t2, .ref t3, .ref t4, .ref t5, .ref t6, .ref t7])), (t1, aI g 6 z0), (t2, aI g 6 z0), (la, .inr (2, [.ref mea, .ref foa, .ref rea, .int 0, .ref d1a, .ref d2a, .int 9, .int 0, .ref d3a])), (mea, .inr (3, [.int 0, .ref m1a, .ref m2a, .ref m3a, .ref m4a])), (m3a, aI g 6 z0)] := hD
  refine lv_aload_n hx hb dX9_begin_66 rfl (lv_at hl 0 rfl) ?_
  refine va_get (D := g.1) (ci := 9) (v := .ref t2) (C := RX9) (T := TX9) (N := 14) hx hb hT inF_X9 hown hK.1 hP 0 rfl rfl 8 (by decide) (hT _ bw_116) (fun _ h9 => h9) rfl dX9_begin_67 ?_
  refine lv_iconst (v := 0) hx hb dX9_begin_70 (by decide) ?_
  refine k_v (wr := [(h, .inr (9, [.int 0, .int 0, .int 0, .int 0, .int 0, .int 0, .int 0, .ref t1, .ref t2, .ref t3, .ref t4, .ref t5, .ref t6, .ref t7])), (t1, aI g 6 z0), (la, .inr (2, [.ref mea, .ref foa, .ref rea, .int 0, .ref d1a, .ref d2a, .int 9, .int 0, .ref d3a])), (mea, .inr (3, [.int 0, .ref m1a, .ref m2a, .ref m3a, .ref m4a])), (m3a, aI g 6 z0)]) (k_S (n := 2) ⟨hx, hb, hml, hown, hT⟩ hK hP hD [2] rfl (by decide) (c_J7_fill_53178_6 l g H.size t2) (gS bw_117 bw_98 bw_99 bw_79) rfl rfl (by decide +kernel) ⟨by decide, by decide⟩ (fun _ _ _ _ _ => trivial) (fun _ _ _ => trivial) rfl rfl hl.1 (Nat.le_of_ble_eq_true rfl) dX9_begin_71 ⟨by decide, by decide⟩) hP hD hS hA [2] [0, 1, 3, 4, 5] rfl rfl (by decide) (by decide) (fun u H locs hw hP hD hS => ?_)
  have hP : va_P g.1 vwCl [(h, .inr (9, [.int 0, .int 0, .int 0, .int 0, .int 0, .int 0, .int 0, .ref t1, .ref t2, .ref t3, .ref t4, .ref t5, .ref t6, .ref t7])), (t1, aI g 6 z0), (la, .inr (2, [.ref mea, .ref foa, .ref rea, .int 0, .ref d1a, .ref d2a, .int 9, .int 0, .ref d3a])), (mea, .inr (3, [.int 0, .ref m1a, .ref m2a, .ref m3a, .ref m4a])), (m3a, aI g 6 z0), (t2, aI g 6 z0)] H := hP
  have hD : va_D A [(h, .inr (9, [.int 0, .int 0, .int 0, .int 0, .int 0, .int 0, .int 0, .ref t1, .ref t2, .ref t3, .ref t4, .ref t5, .ref t6, .ref t7])), (t1, aI g 6 z0), (la, .inr (2, [.ref mea, .ref foa, .ref rea, .int 0, .ref d1a, .ref d2a, .int 9, .int 0, .ref d3a])), (mea, .inr (3, [.int 0, .ref m1a, .ref m2a, .ref m3a, .ref m4a])), (m3a, aI g 6 z0), (t2, aI g 6 z0)] := hD
  refine lv_iconst (v := 0) hx hb dX9_begin_74 (by decide) ?_
  refine lv_istore_n (lv' := [(2, .int 0), (0, .ref h), (1, .ref la)]) hx hb dX9_begin_75 rfl hl (by decide) rfl (fun ls hl => ?_)
  refine lv_iload_n hx hb dX9_begin_76 rfl (lv_at hl 0 rfl) ?_
  refine lv_aload_n hx hb dX9_begin_77 rfl (lv_at hl 2 rfl) ?_
  refine va_get (D := g.1) (ci := 2) (v := .int 0) (C := RX2) (T := TX2) (N := 9) hx hb hT inF_X2 hown hK.1 hP 2 rfl rfl 3 (by decide) (hT _ bw_118) (fun _ h9 => h9) rfl dX9_begin_78 ?_
  refine lv_icmp_ge (tgt := 118) hx hb dX9_begin_81 (by decide) (fun _ => ?_) (fun c9 => absurd (by decide) c9)
  have hP9 : va_P g.1 vwCl [(h, .inr (9, [.int 0, .int 0, .int 0, .int 0, .int 0, .int 0, .int 0, .ref t1, .ref t2, .ref t3, .ref t4, .ref t5, .ref t6, .ref t7])), (t1, aI g 6 z0), (la, .inr (2, [.ref mea, .ref foa, .ref rea, .int 0, .ref d1a, .ref d2a, .int 9, .int 0, .ref d3a])), (mea, .inr (3, [.int 0, .ref m1a, .ref m2a, .ref m3a, .ref m4a])), (m3a, aI g 6 z0), (t2, aI g 6 z0)] H := hP.sub [0, 1, 2, 3, 4, 5] rfl
  have hD9 : va_D A [(h, .inr (9, [.int 0, .int 0, .int 0, .int 0, .int 0, .int 0, .int 0, .ref t1, .ref t2, .ref t3, .ref t4, .ref t5, .ref t6, .ref t7])), (t1, aI g 6 z0), (la, .inr (2, [.ref mea, .ref foa, .ref rea, .int 0, .ref d1a, .ref d2a, .int 9, .int 0, .ref d3a])), (mea, .inr (3, [.int 0, .ref m1a, .ref m2a, .ref m3a, .ref m4a])), (m3a, aI g 6 z0), (t2, aI g 6 z0)] := hD.sub [0, 1, 2, 3, 4, 5] (by decide) rfl
  exact W.vret hx hb hr (fun t ht hW => ⟨⟨(), rfl, trivial, by rw [ht]; exact hP9, by rw [hAe]; exact hD9⟩, hS.F ht⟩) hS.2.2 dX9_begin_118

theorem bw_120 : Cond.fieldLink RX9 18 "DuelDelays$State" "mornings" "[I" ∈ gT := gT_tb 467 (by decide +kernel) (by decide +kernel)
theorem bw_121 : Cond.fieldLink RX9 21 "DuelDelays$State" "honours" "[I" ∈ gT := gT_tb 471 (by decide +kernel) (by decide +kernel)
theorem bw_122 : Cond.fieldLink RX9 24 "DuelDelays$State" "used" "[I" ∈ gT := gT_tb 473 (by decide +kernel) (by decide +kernel)
theorem bw_123 : Cond.fieldLink RX9 27 "DuelDelays$State" "sides" "[I" ∈ gT := gT_tb 476 (by decide +kernel) (by decide +kernel)
theorem bw_124 : Cond.fieldLink RX9 30 "DuelDelays$State" "log" "[I" ∈ gT := gT_tb 477 (by decide +kernel) (by decide +kernel)
theorem bw_125 : Cond.code yX9_copy cX9_copy 2 none ∈ gT := gT_tb 993 (by decide +kernel) (by decide +kernel)
theorem dX9_copy_0 : decode cX9_copy 0 = .ok (.aload_n 0, 1) := by decide +kernel
theorem dX9_copy_1 : decode cX9_copy 1 = .ok (.aload_n 1, 1) := by decide +kernel
theorem dX9_copy_2 : decode cX9_copy 2 = .ok (.getfield 33, 3) := by decide +kernel
theorem dX9_copy_5 : decode cX9_copy 5 = .ok (.putfield 33, 3) := by decide +kernel
theorem dX9_copy_8 : decode cX9_copy 8 = .ok (.aload_n 0, 1) := by decide +kernel
theorem dX9_copy_9 : decode cX9_copy 9 = .ok (.aload_n 1, 1) := by decide +kernel
theorem dX9_copy_10 : decode cX9_copy 10 = .ok (.getfield 42, 3) := by decide +kernel
theorem dX9_copy_13 : decode cX9_copy 13 = .ok (.putfield 42, 3) := by decide +kernel
theorem dX9_copy_16 : decode cX9_copy 16 = .ok (.aload_n 0, 1) := by decide +kernel
theorem dX9_copy_17 : decode cX9_copy 17 = .ok (.aload_n 1, 1) := by decide +kernel
theorem dX9_copy_18 : decode cX9_copy 18 = .ok (.getfield 54, 3) := by decide +kernel
theorem dX9_copy_21 : decode cX9_copy 21 = .ok (.putfield 54, 3) := by decide +kernel
theorem dX9_copy_24 : decode cX9_copy 24 = .ok (.aload_n 0, 1) := by decide +kernel
theorem dX9_copy_25 : decode cX9_copy 25 = .ok (.aload_n 1, 1) := by decide +kernel
theorem dX9_copy_26 : decode cX9_copy 26 = .ok (.getfield 57, 3) := by decide +kernel
theorem dX9_copy_29 : decode cX9_copy 29 = .ok (.putfield 57, 3) := by decide +kernel
theorem dX9_copy_32 : decode cX9_copy 32 = .ok (.aload_n 0, 1) := by decide +kernel
theorem dX9_copy_33 : decode cX9_copy 33 = .ok (.aload_n 1, 1) := by decide +kernel
theorem dX9_copy_34 : decode cX9_copy 34 = .ok (.getfield 60, 3) := by decide +kernel
theorem dX9_copy_37 : decode cX9_copy 37 = .ok (.putfield 60, 3) := by decide +kernel
theorem dX9_copy_40 : decode cX9_copy 40 = .ok (.aload_n 0, 1) := by decide +kernel
theorem dX9_copy_41 : decode cX9_copy 41 = .ok (.aload_n 1, 1) := by decide +kernel
theorem dX9_copy_42 : decode cX9_copy 42 = .ok (.getfield 63, 3) := by decide +kernel
theorem dX9_copy_45 : decode cX9_copy 45 = .ok (.putfield 63, 3) := by decide +kernel
theorem dX9_copy_48 : decode cX9_copy 48 = .ok (.aload_n 0, 1) := by decide +kernel
theorem dX9_copy_49 : decode cX9_copy 49 = .ok (.aload_n 1, 1) := by decide +kernel
theorem dX9_copy_50 : decode cX9_copy 50 = .ok (.getfield 66, 3) := by decide +kernel
theorem dX9_copy_53 : decode cX9_copy 53 = .ok (.putfield 66, 3) := by decide +kernel
theorem dX9_copy_56 : decode cX9_copy 56 = .ok (.aload_n 1, 1) := by decide +kernel
theorem dX9_copy_57 : decode cX9_copy 57 = .ok (.getfield 9, 3) := by decide +kernel
theorem dX9_copy_60 : decode cX9_copy 60 = .ok (.iconst 0, 1) := by decide +kernel
theorem dX9_copy_61 : decode cX9_copy 61 = .ok (.aload_n 0, 1) := by decide +kernel
theorem dX9_copy_62 : decode cX9_copy 62 = .ok (.getfield 9, 3) := by decide +kernel
theorem dX9_copy_65 : decode cX9_copy 65 = .ok (.iconst 0, 1) := by decide +kernel
theorem dX9_copy_66 : decode cX9_copy 66 = .ok (.bipush 6, 2) := by decide +kernel
theorem dX9_copy_68 : decode cX9_copy 68 = .ok (.invokestatic 70, 3) := by decide +kernel
theorem dX9_copy_71 : decode cX9_copy 71 = .ok (.aload_n 1, 1) := by decide +kernel
theorem dX9_copy_72 : decode cX9_copy 72 = .ok (.getfield 15, 3) := by decide +kernel
theorem dX9_copy_75 : decode cX9_copy 75 = .ok (.iconst 0, 1) := by decide +kernel
theorem dX9_copy_76 : decode cX9_copy 76 = .ok (.aload_n 0, 1) := by decide +kernel
theorem dX9_copy_77 : decode cX9_copy 77 = .ok (.getfield 15, 3) := by decide +kernel
theorem dX9_copy_80 : decode cX9_copy 80 = .ok (.iconst 0, 1) := by decide +kernel
theorem dX9_copy_81 : decode cX9_copy 81 = .ok (.bipush 6, 2) := by decide +kernel
theorem dX9_copy_83 : decode cX9_copy 83 = .ok (.invokestatic 70, 3) := by decide +kernel
theorem dX9_copy_86 : decode cX9_copy 86 = .ok (.aload_n 1, 1) := by decide +kernel
theorem dX9_copy_87 : decode cX9_copy 87 = .ok (.getfield 18, 3) := by decide +kernel
theorem dX9_copy_90 : decode cX9_copy 90 = .ok (.iconst 0, 1) := by decide +kernel
theorem dX9_copy_91 : decode cX9_copy 91 = .ok (.aload_n 0, 1) := by decide +kernel
theorem dX9_copy_92 : decode cX9_copy 92 = .ok (.getfield 18, 3) := by decide +kernel
theorem dX9_copy_95 : decode cX9_copy 95 = .ok (.iconst 0, 1) := by decide +kernel
theorem dX9_copy_96 : decode cX9_copy 96 = .ok (.bipush 8, 2) := by decide +kernel
theorem dX9_copy_98 : decode cX9_copy 98 = .ok (.invokestatic 70, 3) := by decide +kernel
theorem dX9_copy_101 : decode cX9_copy 101 = .ok (.aload_n 1, 1) := by decide +kernel
theorem dX9_copy_102 : decode cX9_copy 102 = .ok (.getfield 21, 3) := by decide +kernel
theorem dX9_copy_105 : decode cX9_copy 105 = .ok (.iconst 0, 1) := by decide +kernel
theorem dX9_copy_106 : decode cX9_copy 106 = .ok (.aload_n 0, 1) := by decide +kernel
theorem dX9_copy_107 : decode cX9_copy 107 = .ok (.getfield 21, 3) := by decide +kernel
theorem dX9_copy_110 : decode cX9_copy 110 = .ok (.iconst 0, 1) := by decide +kernel
theorem dX9_copy_111 : decode cX9_copy 111 = .ok (.bipush 8, 2) := by decide +kernel
theorem dX9_copy_113 : decode cX9_copy 113 = .ok (.invokestatic 70, 3) := by decide +kernel
theorem dX9_copy_116 : decode cX9_copy 116 = .ok (.aload_n 1, 1) := by decide +kernel
theorem dX9_copy_117 : decode cX9_copy 117 = .ok (.getfield 24, 3) := by decide +kernel
theorem dX9_copy_120 : decode cX9_copy 120 = .ok (.iconst 0, 1) := by decide +kernel
theorem dX9_copy_121 : decode cX9_copy 121 = .ok (.aload_n 0, 1) := by decide +kernel
theorem dX9_copy_122 : decode cX9_copy 122 = .ok (.getfield 24, 3) := by decide +kernel
theorem dX9_copy_125 : decode cX9_copy 125 = .ok (.iconst 0, 1) := by decide +kernel
theorem dX9_copy_126 : decode cX9_copy 126 = .ok (.bipush 8, 2) := by decide +kernel
theorem dX9_copy_128 : decode cX9_copy 128 = .ok (.invokestatic 70, 3) := by decide +kernel
theorem dX9_copy_131 : decode cX9_copy 131 = .ok (.aload_n 1, 1) := by decide +kernel
theorem dX9_copy_132 : decode cX9_copy 132 = .ok (.getfield 27, 3) := by decide +kernel
theorem dX9_copy_135 : decode cX9_copy 135 = .ok (.iconst 0, 1) := by decide +kernel
theorem dX9_copy_136 : decode cX9_copy 136 = .ok (.aload_n 0, 1) := by decide +kernel
theorem dX9_copy_137 : decode cX9_copy 137 = .ok (.getfield 27, 3) := by decide +kernel
theorem dX9_copy_140 : decode cX9_copy 140 = .ok (.iconst 0, 1) := by decide +kernel
theorem dX9_copy_141 : decode cX9_copy 141 = .ok (.bipush 16, 2) := by decide +kernel
theorem dX9_copy_143 : decode cX9_copy 143 = .ok (.invokestatic 70, 3) := by decide +kernel
theorem dX9_copy_146 : decode cX9_copy 146 = .ok (.aload_n 1, 1) := by decide +kernel
theorem dX9_copy_147 : decode cX9_copy 147 = .ok (.getfield 30, 3) := by decide +kernel
theorem dX9_copy_150 : decode cX9_copy 150 = .ok (.iconst 0, 1) := by decide +kernel
theorem dX9_copy_151 : decode cX9_copy 151 = .ok (.aload_n 0, 1) := by decide +kernel
theorem dX9_copy_152 : decode cX9_copy 152 = .ok (.getfield 30, 3) := by decide +kernel
theorem dX9_copy_155 : decode cX9_copy 155 = .ok (.iconst 0, 1) := by decide +kernel
theorem dX9_copy_156 : decode cX9_copy 156 = .ok (.aload_n 1, 1) := by decide +kernel
theorem dX9_copy_157 : decode cX9_copy 157 = .ok (.getfield 66, 3) := by decide +kernel
theorem dX9_copy_160 : decode cX9_copy 160 = .ok (.invokestatic 70, 3) := by decide +kernel
theorem dX9_copy_163 : decode cX9_copy 163 = .ok (.return_, 1) := by decide +kernel
set_option maxHeartbeats 4000000 in
set_option maxRecDepth 100000 in
theorem c_X9_copy (l : Launch) (g : GG) (sz : Nat) (h : Nat) (t1 : Nat) (t2 : Nat) (t3 : Nat) (t4 : Nat) (t5 : Nat) (t6 : Nat) (t7 : Nat) (o : Nat) (t1o : Nat) (t2o : Nat) (t3o : Nat) (t4o : Nat) (t5o : Nat) (t6o : Nat) (t7o : Nat) : Met l yX9_copy (.code yX9_copy cX9_copy 2 none :: gT) ({ frames := 1, cells := 0, slots := 0, locals := 60 }) (va_Pc [.ref h, .ref o] (Pst g sz [(h, .inr (9, [.int 0, .int 0, .int 0, .int 0, .int 0, .int 0, .int 0, .ref t1, .ref t2, .ref t3, .ref t4, .ref t5, .ref t6, .ref t7])), (t1, aI g 6 z0), (t2, aI g 6 z0), (t3, aI g 8 z0), (t4, aI g 8 z0), (t5, aI g 8 z0), (t6, aI g 16 z0), (t7, aI g 60 z0), (o, .inr (9, [.int 0, .int 0, .int 0, .int 0, .int 0, .int 0, .int 0, .ref t1o, .ref t2o, .ref t3o, .ref t4o, .ref t5o, .ref t6o, .ref t7o])), (t1o, aI g 6 z0), (t2o, aI g 6 z0), (t3o, aI g 8 z0), (t4o, aI g 8 z0), (t5o, aI g 8 z0), (t6o, aI g 16 z0), (t7o, aI g 60 z0)] nX)) (va_Qv (fun (_ : Unit) => True) (Qst g [(h, .inr (9, [.int 0, .int 0, .int 0, .int 0, .int 0, .int 0, .int 0, .ref t1, .ref t2, .ref t3, .ref t4, .ref t5, .ref t6, .ref t7])), (t1, aI g 6 z0), (t2, aI g 6 z0), (t3, aI g 8 z0), (t4, aI g 8 z0), (t5, aI g 8 z0), (t6, aI g 16 z0), (t7, aI g 60 z0), (o, .inr (9, [.int 0, .int 0, .int 0, .int 0, .int 0, .int 0, .int 0, .ref t1o, .ref t2o, .ref t3o, .ref t4o, .ref t5o, .ref t6o, .ref t7o])), (t1o, aI g 6 z0), (t2o, aI g 6 z0), (t3o, aI g 8 z0), (t4o, aI g 8 z0), (t5o, aI g 8 z0), (t6o, aI g 16 z0), (t7o, aI g 60 z0)] sz (fun _ => [(h, .inr (9, [.int 0, .int 0, .int 0, .int 0, .int 0, .int 0, .int 0, .ref t1, .ref t2, .ref t3, .ref t4, .ref t5, .ref t6, .ref t7])), (t1, aI g 6 z0), (t2, aI g 6 z0), (t3, aI g 8 z0), (t4, aI g 8 z0), (t5, aI g 8 z0), (t6, aI g 16 z0), (t7, aI g 60 z0), (o, .inr (9, [.int 0, .int 0, .int 0, .int 0, .int 0, .int 0, .int 0, .ref t1o, .ref t2o, .ref t3o, .ref t4o, .ref t5o, .ref t6o, .ref t7o])), (t1o, aI g 6 z0), (t2o, aI g 6 z0), (t3o, aI g 8 z0), (t4o, aI g 8 z0), (t5o, aI g 8 z0), (t6o, aI g 16 z0), (t7o, aI g 60 z0)])) (va_A [(h, .inr (9, [.int 0, .int 0, .int 0, .int 0, .int 0, .int 0, .int 0, .ref t1, .ref t2, .ref t3, .ref t4, .ref t5, .ref t6, .ref t7])), (t1, aI g 6 z0), (t2, aI g 6 z0), (t3, aI g 8 z0), (t4, aI g 8 z0), (t5, aI g 8 z0), (t6, aI g 16 z0), (t7, aI g 60 z0), (o, .inr (9, [.int 0, .int 0, .int 0, .int 0, .int 0, .int 0, .int 0, .ref t1o, .ref t2o, .ref t3o, .ref t4o, .ref t5o, .ref t6o, .ref t7o])), (t1o, aI g 6 z0), (t2o, aI g 6 z0), (t3o, aI g 8 z0), (t4o, aI g 8 z0), (t5o, aI g 8 z0), (t6o, aI g 16 z0), (t7o, aI g 60 z0)] sz)) 0 0 (va_A [(h, .inr (9, [.int 0, .int 0, .int 0, .int 0, .int 0, .int 0, .int 0, .ref t1, .ref t2, .ref t3, .ref t4, .ref t5, .ref t6, .ref t7])), (t1, aI g 6 z0), (t2, aI g 6 z0), (t3, aI g 8 z0), (t4, aI g 8 z0), (t5, aI g 8 z0), (t6, aI g 16 z0), (t7, aI g 60 z0), (o, .inr (9, [.int 0, .int 0, .int 0, .int 0, .int 0, .int 0, .int 0, .ref t1o, .ref t2o, .ref t3o, .ref t4o, .ref t5o, .ref t6o, .ref t7o])), (t1o, aI g 6 z0), (t2o, aI g 6 z0), (t3o, aI g 8 z0), (t4o, aI g 8 z0), (t5o, aI g 8 z0), (t6o, aI g 16 z0), (t7o, aI g 60 z0)] sz) := by
  refine Met.ofW (cc := cX9_copy) (maxL := 2) (ret := none) (by decide) rfl ?_
  intro p e s m args below meth c s₁ B hml hv
  obtain ⟨rfl, hsz, hP, hK, hD0, hX⟩ := hv
  have hx := B.exec
  have hb := B.bytes
  have hr := B.returns
  have hT : ∀ w ∈ gT, w.before _ s = true := fun w h => atoms_spec (ws := .code yX9_copy cX9_copy 2 none :: gT) B.pre w (List.mem_cons_of_mem _ h)
  have hown : s.vm.findClass RX9 = some m.cls := findClass_of_methodNamed B.named
  have hlocks := B.notSynchronized
  subst hsz
  have hD := hD0.self (sz := s.heap.size)
  generalize hAe : va_A [(h, .inr (9, [.int 0, .int 0, .int 0, .int 0, .int 0, .int 0, .int 0, .ref t1, .ref t2, .ref t3, .ref t4, .ref t5, .ref t6, .ref t7])), (t1, aI g 6 z0), (t2, aI g 6 z0), (t3, aI g 8 z0), (t4, aI g 8 z0), (t5, aI g 8 z0), (t6, aI g 16 z0), (t7, aI g 60 z0), (o, .inr (9, [.int 0, .int 0, .int 0, .int 0, .int 0, .int 0, .int 0, .ref t1o, .ref t2o, .ref t3o, .ref t4o, .ref t5o, .ref t6o, .ref t7o])), (t1o, aI g 6 z0), (t2o, aI g 6 z0), (t3o, aI g 8 z0), (t4o, aI g 8 z0), (t5o, aI g 8 z0), (t6o, aI g 16 z0), (t7o, aI g 60 z0)] s.heap.size = A at hD ⊢
  have hA : ∀ q : Nat, s.heap.size ≤ q → A q := fun q h => by rw [← hAe]; exact Or.inr h
  have hS : va_S A s.heap s.heap [] := va_S.rf
  have hl := lv_entry ([.ref h, .ref o]) (n := 2) (Nat.le_of_ble_eq_true rfl)
  rw [lg_entry_eq]
  generalize (lg_sl ([.ref h, .ref o]) ++ List.replicate (2 - (lg_sl ([.ref h, .ref o])).length) Slot.unset).toArray = ls at hl ⊢
  have hl : lv_has ls 2 [(0, .ref h), (1, .ref o)] := hl
  refine p_nH (fun H hH => ?_)
  have hP : va_P g.1 vwCl [(h, .inr (9, [.int 0, .int 0, .int 0, .int 0, .int 0, .int 0, .int 0, .ref t1, .ref t2, .ref t3, .ref t4, .ref t5, .ref t6, .ref t7])), (t1, aI g 6 z0), (t2, aI g 6 z0), (t3, aI g 8 z0), (t4, aI g 8 z0), (t5, aI g 8 z0), (t6, aI g 16 z0), (t7, aI g 60 z0), (o, .inr (9, [.int 0, .int 0, .int 0, .int 0, .int 0, .int 0, .int 0, .ref t1o, .ref t2o, .ref t3o, .ref t4o, .ref t5o, .ref t6o, .ref t7o])), (t1o, aI g 6 z0), (t2o, aI g 6 z0), (t3o, aI g 8 z0), (t4o, aI g 8 z0), (t5o, aI g 8 z0), (t6o, aI g 16 z0), (t7o, aI g 60 z0)] H := by rw [hH]; exact hP
  have hS : va_S A s.heap H [] := by rw [hH]; exact hS
  refine lv_aload_n hx hb dX9_copy_0 rfl (lv_at hl 0 rfl) ?_
  refine lv_aload_n hx hb dX9_copy_1 rfl (lv_at hl 1 rfl) ?_
  refine va_get (D := g.1) (ci := 9) (v := .int 0) (C := RX9) (T := TX9) (N := 14) hx hb hT inF_X9 hown hK.1 hP 8 rfl rfl 0 (by decide) (hT _ bw_101) (fun _ h9 => h9) rfl dX9_copy_2 ?_
  refine va_put (D := g.1) (ci := 9) (v := .int 0) (ty := .int) (C := RX9) (T := TX9) (N := 14) hx hb hT inF_X9 tyX9 tyX9_ok nmX9 hown hK.1 hP hD hS 0 rfl rfl 0 (by decide) (hT _ bw_101) (fun _ h9 => h9) rfl (by decide +kernel) rfl rfl (Nat.le_of_ble_eq_true rfl) dX9_copy_5 (fun H locs hP hD hS => ?_)
  have hP : va_P g.1 vwCl [(h, .inr (9, [.int 0, .int 0, .int 0, .int 0, .int 0, .int 0, .int 0, .ref t1, .ref t2, .ref t3, .ref t4, .ref t5, .ref t6, .ref t7])), (t1, aI g 6 z0), (t2, aI g 6 z0), (t3, aI g 8 z0), (t4, aI g 8 z0), (t5, aI g 8 z0), (t6, aI g 16 z0), (t7, aI g 60 z0), (o, .inr (9, [.int 0, .int 0, .int 0, .int 0, .int 0, .int 0, .int 0, .ref t1o, .ref t2o, .ref t3o, .ref t4o, .ref t5o, .ref t6o, .ref t7o])), (t1o, aI g 6 z0), (t2o, aI g 6 z0), (t3o, aI g 8 z0), (t4o, aI g 8 z0), (t5o, aI g 8 z0), (t6o, aI g 16 z0), (t7o, aI g 60 z0)] H := hP
  have hD : va_D A [(h, .inr (9, [.int 0, .int 0, .int 0, .int 0, .int 0, .int 0, .int 0, .ref t1, .ref t2, .ref t3, .ref t4, .ref t5, .ref t6, .ref t7])), (t1, aI g 6 z0), (t2, aI g 6 z0), (t3, aI g 8 z0), (t4, aI g 8 z0), (t5, aI g 8 z0), (t6, aI g 16 z0), (t7, aI g 60 z0), (o, .inr (9, [.int 0, .int 0, .int 0, .int 0, .int 0, .int 0, .int 0, .ref t1o, .ref t2o, .ref t3o, .ref t4o, .ref t5o, .ref t6o, .ref t7o])), (t1o, aI g 6 z0), (t2o, aI g 6 z0), (t3o, aI g 8 z0), (t4o, aI g 8 z0), (t5o, aI g 8 z0), (t6o, aI g 16 z0), (t7o, aI g 60 z0)] := hD
  refine lv_aload_n hx hb dX9_copy_8 rfl (lv_at hl 0 rfl) ?_
  refine lv_aload_n hx hb dX9_copy_9 rfl (lv_at hl 1 rfl) ?_
  refine va_get (D := g.1) (ci := 9) (v := .int 0) (C := RX9) (T := TX9) (N := 14) hx hb hT inF_X9 hown hK.1 hP 8 rfl rfl 1 (by decide) (hT _ bw_103) (fun _ h9 => h9) rfl dX9_copy_10 ?_
  refine va_put (D := g.1) (ci := 9) (v := .int 0) (ty := .int) (C := RX9) (T := TX9) (N := 14) hx hb hT inF_X9 tyX9 tyX9_ok nmX9 hown hK.1 hP hD hS 0 rfl rfl 1 (by decide) (hT _ bw_103) (fun _ h9 => h9) rfl (by decide +kernel) rfl rfl (Nat.le_of_ble_eq_true rfl) dX9_copy_13 (fun H locs hP hD hS => ?_)
  have hP : va_P g.1 vwCl [(h, .inr (9, [.int 0, .int 0, .int 0, .int 0, .int 0, .int 0, .int 0, .ref t1, .ref t2, .ref t3, .ref t4, .ref t5, .ref t6, .ref t7])), (t1, aI g 6 z0), (t2, aI g 6 z0), (t3, aI g 8 z0), (t4, aI g 8 z0), (t5, aI g 8 z0), (t6, aI g 16 z0), (t7, aI g 60 z0), (o, .inr (9, [.int 0, .int 0, .int 0, .int 0, .int 0, .int 0, .int 0, .ref t1o, .ref t2o, .ref t3o, .ref t4o, .ref t5o, .ref t6o, .ref t7o])), (t1o, aI g 6 z0), (t2o, aI g 6 z0), (t3o, aI g 8 z0), (t4o, aI g 8 z0), (t5o, aI g 8 z0), (t6o, aI g 16 z0), (t7o, aI g 60 z0)] H := hP
  have hD : va_D A [(h, .inr (9, [.int 0, .int 0, .int 0, .int 0, .int 0, .int 0, .int 0, .ref t1, .ref t2, .ref t3, .ref t4, .ref t5, .ref t6, .ref t7])), (t1, aI g 6 z0), (t2, aI g 6 z0), (t3, aI g 8 z0), (t4, aI g 8 z0), (t5, aI g 8 z0), (t6, aI g 16 z0), (t7, aI g 60 z0), (o, .inr (9, [.int 0, .int 0, .int 0, .int 0, .int 0, .int 0, .int 0, .ref t1o, .ref t2o, .ref t3o, .ref t4o, .ref t5o, .ref t6o, .ref t7o])), (t1o, aI g 6 z0), (t2o, aI g 6 z0), (t3o, aI g 8 z0), (t4o, aI g 8 z0), (t5o, aI g 8 z0), (t6o, aI g 16 z0), (t7o, aI g 60 z0)] := hD
  refine lv_aload_n hx hb dX9_copy_16 rfl (lv_at hl 0 rfl) ?_
  refine lv_aload_n hx hb dX9_copy_17 rfl (lv_at hl 1 rfl) ?_
  refine va_get (D := g.1) (ci := 9) (v := .int 0) (C := RX9) (T := TX9) (N := 14) hx hb hT inF_X9 hown hK.1 hP 8 rfl rfl 2 (by decide) (hT _ bw_106) (fun _ h9 => h9) rfl dX9_copy_18 ?_
  refine va_put (D := g.1) (ci := 9) (v := .int 0) (ty := .int) (C := RX9) (T := TX9) (N := 14) hx hb hT inF_X9 tyX9 tyX9_ok nmX9 hown hK.1 hP hD hS 0 rfl rfl 2 (by decide) (hT _ bw_106) (fun _ h9 => h9) rfl (by decide +kernel) rfl rfl (Nat.le_of_ble_eq_true rfl) dX9_copy_21 (fun H locs hP hD hS => ?_)
  have hP : va_P g.1 vwCl [(h, .inr (9, [.int 0, .int 0, .int 0, .int 0, .int 0, .int 0, .int 0, .ref t1, .ref t2, .ref t3, .ref t4, .ref t5, .ref t6, .ref t7])), (t1, aI g 6 z0), (t2, aI g 6 z0), (t3, aI g 8 z0), (t4, aI g 8 z0), (t5, aI g 8 z0), (t6, aI g 16 z0), (t7, aI g 60 z0), (o, .inr (9, [.int 0, .int 0, .int 0, .int 0, .int 0, .int 0, .int 0, .ref t1o, .ref t2o, .ref t3o, .ref t4o, .ref t5o, .ref t6o, .ref t7o])), (t1o, aI g 6 z0), (t2o, aI g 6 z0), (t3o, aI g 8 z0), (t4o, aI g 8 z0), (t5o, aI g 8 z0), (t6o, aI g 16 z0), (t7o, aI g 60 z0)] H := hP
  have hD : va_D A [(h, .inr (9, [.int 0, .int 0, .int 0, .int 0, .int 0, .int 0, .int 0, .ref t1, .ref t2, .ref t3, .ref t4, .ref t5, .ref t6, .ref t7])), (t1, aI g 6 z0), (t2, aI g 6 z0), (t3, aI g 8 z0), (t4, aI g 8 z0), (t5, aI g 8 z0), (t6, aI g 16 z0), (t7, aI g 60 z0), (o, .inr (9, [.int 0, .int 0, .int 0, .int 0, .int 0, .int 0, .int 0, .ref t1o, .ref t2o, .ref t3o, .ref t4o, .ref t5o, .ref t6o, .ref t7o])), (t1o, aI g 6 z0), (t2o, aI g 6 z0), (t3o, aI g 8 z0), (t4o, aI g 8 z0), (t5o, aI g 8 z0), (t6o, aI g 16 z0), (t7o, aI g 60 z0)] := hD
  refine lv_aload_n hx hb dX9_copy_24 rfl (lv_at hl 0 rfl) ?_
  refine lv_aload_n hx hb dX9_copy_25 rfl (lv_at hl 1 rfl) ?_
  refine va_get (D := g.1) (ci := 9) (v := .int 0) (C := RX9) (T := TX9) (N := 14) hx hb hT inF_X9 hown hK.1 hP 8 rfl rfl 3 (by decide) (hT _ bw_107) (fun _ h9 => h9) rfl dX9_copy_26 ?_
  refine va_put (D := g.1) (ci := 9) (v := .int 0) (ty := .int) (C := RX9) (T := TX9) (N := 14) hx hb hT inF_X9 tyX9 tyX9_ok nmX9 hown hK.1 hP hD hS 0 rfl rfl 3 (by decide) (hT _ bw_107) (fun _ h9 => h9) rfl (by decide +kernel) rfl rfl (Nat.le_of_ble_eq_true rfl) dX9_copy_29 (fun H locs hP hD hS => ?_)
  have hP : va_P g.1 vwCl [(h, .inr (9, [.int 0, .int 0, .int 0, .int 0, .int 0, .int 0, .int 0, .ref t1, .ref t2, .ref t3, .ref t4, .ref t5, .ref t6, .ref t7])), (t1, aI g 6 z0), (t2, aI g 6 z0), (t3, aI g 8 z0), (t4, aI g 8 z0), (t5, aI g 8 z0), (t6, aI g 16 z0), (t7, aI g 60 z0), (o, .inr (9, [.int 0, .int 0, .int 0, .int 0, .int 0, .int 0, .int 0, .ref t1o, .ref t2o, .ref t3o, .ref t4o, .ref t5o, .ref t6o, .ref t7o])), (t1o, aI g 6 z0), (t2o, aI g 6 z0), (t3o, aI g 8 z0), (t4o, aI g 8 z0), (t5o, aI g 8 z0), (t6o, aI g 16 z0), (t7o, aI g 60 z0)] H := hP
  have hD : va_D A [(h, .inr (9, [.int 0, .int 0, .int 0, .int 0, .int 0, .int 0, .int 0, .ref t1, .ref t2, .ref t3, .ref t4, .ref t5, .ref t6, .ref t7])), (t1, aI g 6 z0), (t2, aI g 6 z0), (t3, aI g 8 z0), (t4, aI g 8 z0), (t5, aI g 8 z0), (t6, aI g 16 z0), (t7, aI g 60 z0), (o, .inr (9, [.int 0, .int 0, .int 0, .int 0, .int 0, .int 0, .int 0, .ref t1o, .ref t2o, .ref t3o, .ref t4o, .ref t5o, .ref t6o, .ref t7o])), (t1o, aI g 6 z0), (t2o, aI g 6 z0), (t3o, aI g 8 z0), (t4o, aI g 8 z0), (t5o, aI g 8 z0), (t6o, aI g 16 z0), (t7o, aI g 60 z0)] := hD
  refine lv_aload_n hx hb dX9_copy_32 rfl (lv_at hl 0 rfl) ?_
  refine lv_aload_n hx hb dX9_copy_33 rfl (lv_at hl 1 rfl) ?_
  refine va_get (D := g.1) (ci := 9) (v := .int 0) (C := RX9) (T := TX9) (N := 14) hx hb hT inF_X9 hown hK.1 hP 8 rfl rfl 4 (by decide) (hT _ bw_108) (fun _ h9 => h9) rfl dX9_copy_34 ?_
  refine va_put (D := g.1) (ci := 9) (v := .int 0) (ty := .int) (C := RX9) (T := TX9) (N := 14) hx hb hT inF_X9 tyX9 tyX9_ok nmX9 hown hK.1 hP hD hS 0 rfl rfl 4 (by decide) (hT _ bw_108) (fun _ h9 => h9) rfl (by decide +kernel) rfl rfl (Nat.le_of_ble_eq_true rfl) dX9_copy_37 (fun H locs hP hD hS => ?_)
  have hP : va_P g.1 vwCl [(h, .inr (9, [.int 0, .int 0, .int 0, .int 0, .int 0, .int 0, .int 0, .ref t1, .ref t2, .ref t3, .ref t4, .ref t5, .ref t6, .ref t7])), (t1, aI g 6 z0), (t2, aI g 6 z0), (t3, aI g 8 z0), (t4, aI g 8 z0), (t5, aI g 8 z0), (t6, aI g 16 z0), (t7, aI g 60 z0), (o, .inr (9, [.int 0, .int 0, .int 0, .int 0, .int 0, .int 0, .int 0, .ref t1o, .ref t2o, .ref t3o, .ref t4o, .ref t5o, .ref t6o, .ref t7o])), (t1o, aI g 6 z0), (t2o, aI g 6 z0), (t3o, aI g 8 z0), (t4o, aI g 8 z0), (t5o, aI g 8 z0), (t6o, aI g 16 z0), (t7o, aI g 60 z0)] H := hP
  have hD : va_D A [(h, .inr (9, [.int 0, .int 0, .int 0, .int 0, .int 0, .int 0, .int 0, .ref t1, .ref t2, .ref t3, .ref t4, .ref t5, .ref t6, .ref t7])), (t1, aI g 6 z0), (t2, aI g 6 z0), (t3, aI g 8 z0), (t4, aI g 8 z0), (t5, aI g 8 z0), (t6, aI g 16 z0), (t7, aI g 60 z0), (o, .inr (9, [.int 0, .int 0, .int 0, .int 0, .int 0, .int 0, .int 0, .ref t1o, .ref t2o, .ref t3o, .ref t4o, .ref t5o, .ref t6o, .ref t7o])), (t1o, aI g 6 z0), (t2o, aI g 6 z0), (t3o, aI g 8 z0), (t4o, aI g 8 z0), (t5o, aI g 8 z0), (t6o, aI g 16 z0), (t7o, aI g 60 z0)] := hD
  refine lv_aload_n hx hb dX9_copy_40 rfl (lv_at hl 0 rfl) ?_
  refine lv_aload_n hx hb dX9_copy_41 rfl (lv_at hl 1 rfl) ?_
  refine va_get (D := g.1) (ci := 9) (v := .int 0) (C := RX9) (T := TX9) (N := 14) hx hb hT inF_X9 hown hK.1 hP 8 rfl rfl 5 (by decide) (hT _ bw_4) (fun _ h9 => h9) rfl dX9_copy_42 ?_
  refine va_put (D := g.1) (ci := 9) (v := .int 0) (ty := .int) (C := RX9) (T := TX9) (N := 14) hx hb hT inF_X9 tyX9 tyX9_ok nmX9 hown hK.1 hP hD hS 0 rfl rfl 5 (by decide) (hT _ bw_4) (fun _ h9 => h9) rfl (by decide +kernel) rfl rfl (Nat.le_of_ble_eq_true rfl) dX9_copy_45 (fun H locs hP hD hS => ?_)
  have hP : va_P g.1 vwCl [(h, .inr (9, [.int 0, .int 0, .int 0, .int 0, .int 0, .int 0, .int 0, .ref t1, .ref t2, .ref t3, .ref t4, .ref t5, .ref t6, .ref t7])), (t1, aI g 6 z0), (t2, aI g 6 z0), (t3, aI g 8 z0), (t4, aI g 8 z0), (t5, aI g 8 z0), (t6, aI g 16 z0), (t7, aI g 60 z0), (o, .inr (9, [.int 0, .int 0, .int 0, .int 0, .int 0, .int 0, .int 0, .ref t1o, .ref t2o, .ref t3o, .ref t4o, .ref t5o, .ref t6o, .ref t7o])), (t1o, aI g 6 z0), (t2o, aI g 6 z0), (t3o, aI g 8 z0), (t4o, aI g 8 z0), (t5o, aI g 8 z0), (t6o, aI g 16 z0), (t7o, aI g 60 z0)] H := hP
  have hD : va_D A [(h, .inr (9, [.int 0, .int 0, .int 0, .int 0, .int 0, .int 0, .int 0, .ref t1, .ref t2, .ref t3, .ref t4, .ref t5, .ref t6, .ref t7])), (t1, aI g 6 z0), (t2, aI g 6 z0), (t3, aI g 8 z0), (t4, aI g 8 z0), (t5, aI g 8 z0), (t6, aI g 16 z0), (t7, aI g 60 z0), (o, .inr (9, [.int 0, .int 0, .int 0, .int 0, .int 0, .int 0, .int 0, .ref t1o, .ref t2o, .ref t3o, .ref t4o, .ref t5o, .ref t6o, .ref t7o])), (t1o, aI g 6 z0), (t2o, aI g 6 z0), (t3o, aI g 8 z0), (t4o, aI g 8 z0), (t5o, aI g 8 z0), (t6o, aI g 16 z0), (t7o, aI g 60 z0)] := hD
  refine lv_aload_n hx hb dX9_copy_48 rfl (lv_at hl 0 rfl) ?_
  refine lv_aload_n hx hb dX9_copy_49 rfl (lv_at hl 1 rfl) ?_
  refine va_get (D := g.1) (ci := 9) (v := .int 0) (C := RX9) (T := TX9) (N := 14) hx hb hT inF_X9 hown hK.1 hP 8 rfl rfl 6 (by decide) (hT _ bw_109) (fun _ h9 => h9) rfl dX9_copy_50 ?_
  refine va_put (D := g.1) (ci := 9) (v := .int 0) (ty := .int) (C := RX9) (T := TX9) (N := 14) hx hb hT inF_X9 tyX9 tyX9_ok nmX9 hown hK.1 hP hD hS 0 rfl rfl 6 (by decide) (hT _ bw_109) (fun _ h9 => h9) rfl (by decide +kernel) rfl rfl (Nat.le_of_ble_eq_true rfl) dX9_copy_53 (fun H locs hP hD hS => ?_)
  have hP : va_P g.1 vwCl [(h, .inr (9, [.int 0, .int 0, .int 0, .int 0, .int 0, .int 0, .int 0, .ref t1, .ref t2, .ref t3, .ref t4, .ref t5, .ref t6, .ref t7])), (t1, aI g 6 z0), (t2, aI g 6 z0), (t3, aI g 8 z0), (t4, aI g 8 z0), (t5, aI g 8 z0), (t6, aI g 16 z0), (t7, aI g 60 z0), (o, .inr (9, [.int 0, .int 0, .int 0, .int 0, .int 0, .int 0, .int 0, .ref t1o, .ref t2o, .ref t3o, .ref t4o, .ref t5o, .ref t6o, .ref t7o])), (t1o, aI g 6 z0), (t2o, aI g 6 z0), (t3o, aI g 8 z0), (t4o, aI g 8 z0), (t5o, aI g 8 z0), (t6o, aI g 16 z0), (t7o, aI g 60 z0)] H := hP
  have hD : va_D A [(h, .inr (9, [.int 0, .int 0, .int 0, .int 0, .int 0, .int 0, .int 0, .ref t1, .ref t2, .ref t3, .ref t4, .ref t5, .ref t6, .ref t7])), (t1, aI g 6 z0), (t2, aI g 6 z0), (t3, aI g 8 z0), (t4, aI g 8 z0), (t5, aI g 8 z0), (t6, aI g 16 z0), (t7, aI g 60 z0), (o, .inr (9, [.int 0, .int 0, .int 0, .int 0, .int 0, .int 0, .int 0, .ref t1o, .ref t2o, .ref t3o, .ref t4o, .ref t5o, .ref t6o, .ref t7o])), (t1o, aI g 6 z0), (t2o, aI g 6 z0), (t3o, aI g 8 z0), (t4o, aI g 8 z0), (t5o, aI g 8 z0), (t6o, aI g 16 z0), (t7o, aI g 60 z0)] := hD
  refine lv_aload_n hx hb dX9_copy_56 rfl (lv_at hl 1 rfl) ?_
  refine va_get (D := g.1) (ci := 9) (v := .ref t1o) (C := RX9) (T := TX9) (N := 14) hx hb hT inF_X9 hown hK.1 hP 8 rfl rfl 7 (by decide) (hT _ bw_111) (fun _ h9 => h9) rfl dX9_copy_57 ?_
  refine lv_iconst (v := 0) hx hb dX9_copy_60 (by decide) ?_
  refine lv_aload_n hx hb dX9_copy_61 rfl (lv_at hl 0 rfl) ?_
  refine va_get (D := g.1) (ci := 9) (v := .ref t1) (C := RX9) (T := TX9) (N := 14) hx hb hT inF_X9 hown hK.1 hP 0 rfl rfl 7 (by decide) (hT _ bw_111) (fun _ h9 => h9) rfl dX9_copy_62 ?_
  refine lv_iconst (v := 0) hx hb dX9_copy_65 (by decide) ?_
  refine lv_bipush (v := 6) hx hb dX9_copy_66 (by decide) ?_
  refine va_copyi hx hb (hml.trans hl.1.symm) hown (hT _ bw_115) (hT _ bw_112) (hT _ bw_113) (hT _ bw_114) hK.1 hP hD hS 9 1 1 1 rfl rfl rfl rfl rfl (sp := 0) (dp := 0) (n := 6) (by decide) (by decide) (by decide) (by decide) (by decide) (fun _ _ => rfl) (Nat.le_of_ble_eq_true rfl) (Nat.le_of_ble_eq_true rfl) dX9_copy_68 (fun H locs hP hD hS => ?_)
  simp only [z0_c] at hP hD
  have hP : va_P g.1 vwCl [(h, .inr (9, [.int 0, .int 0, .int 0, .int 0, .int 0, .int 0, .int 0, .ref t1, .ref t2, .ref t3, .ref t4, .ref t5, .ref t6, .ref t7])), (t1, aI g 6 z0), (t2, aI g 6 z0), (t3, aI g 8 z0), (t4, aI g 8 z0), (t5, aI g 8 z0), (t6, aI g 16 z0), (t7, aI g 60 z0), (o, .inr (9, [.int 0, .int 0, .int 0, .int 0, .int 0, .int 0, .int 0, .ref t1o, .ref t2o, .ref t3o, .ref t4o, .ref t5o, .ref t6o, .ref t7o])), (t1o, aI g 6 z0), (t2o, aI g 6 z0), (t3o, aI g 8 z0), (t4o, aI g 8 z0), (t5o, aI g 8 z0), (t6o, aI g 16 z0), (t7o, aI g 60 z0)] H := hP
  have hD : va_D A [(h, .inr (9, [.int 0, .int 0, .int 0, .int 0, .int 0, .int 0, .int 0, .ref t1, .ref t2, .ref t3, .ref t4, .ref t5, .ref t6, .ref t7])), (t1, aI g 6 z0), (t2, aI g 6 z0), (t3, aI g 8 z0), (t4, aI g 8 z0), (t5, aI g 8 z0), (t6, aI g 16 z0), (t7, aI g 60 z0), (o, .inr (9, [.int 0, .int 0, .int 0, .int 0, .int 0, .int 0, .int 0, .ref t1o, .ref t2o, .ref t3o, .ref t4o, .ref t5o, .ref t6o, .ref t7o])), (t1o, aI g 6 z0), (t2o, aI g 6 z0), (t3o, aI g 8 z0), (t4o, aI g 8 z0), (t5o, aI g 8 z0), (t6o, aI g 16 z0), (t7o, aI g 60 z0)] := hD
  refine lv_aload_n hx hb dX9_copy_71 rfl (lv_at hl 1 rfl) ?_
  refine va_get (D := g.1) (ci := 9) (v := .ref t2o) (C := RX9) (T := TX9) (N := 14) hx hb hT inF_X9 hown hK.1 hP 8 rfl rfl 8 (by decide) (hT _ bw_116) (fun _ h9 => h9) rfl dX9_copy_72 ?_
  refine lv_iconst (v := 0) hx hb dX9_copy_75 (by decide) ?_
  refine lv_aload_n hx hb dX9_copy_76 rfl (lv_at hl 0 rfl) ?_
  refine va_get (D := g.1) (ci := 9) (v := .ref t2) (C := RX9) (T := TX9) (N := 14) hx hb hT inF_X9 hown hK.1 hP 0 rfl rfl 8 (by decide) (hT _ bw_116) (fun _ h9 => h9) rfl dX9_copy_77 ?_
  refine lv_iconst (v := 0) hx hb dX9_copy_80 (by decide) ?_
  refine lv_bipush (v := 6) hx hb dX9_copy_81 (by decide) ?_
  refine va_copyi hx hb (hml.trans hl.1.symm) hown (hT _ bw_115) (hT _ bw_112) (hT _ bw_113) (hT _ bw_114) hK.1 hP hD hS 10 2 1 1 rfl rfl rfl rfl rfl (sp := 0) (dp := 0) (n := 6) (by decide) (by decide) (by decide) (by decide) (by decide) (fun _ _ => rfl) (Nat.le_of_ble_eq_true rfl) (Nat.le_of_ble_eq_true rfl) dX9_copy_83 (fun H locs hP hD hS => ?_)
  simp only [z0_c] at hP hD
  have hP : va_P g.1 vwCl [(h, .inr (9, [.int 0, .int 0, .int 0, .int 0, .int 0, .int 0, .int 0, .ref t1, .ref t2, .ref t3, .ref t4, .ref t5, .ref t6, .ref t7])), (t1, aI g 6 z0), (t2, aI g 6 z0), (t3, aI g 8 z0), (t4, aI g 8 z0), (t5, aI g 8 z0), (t6, aI g 16 z0), (t7, aI g 60 z0), (o, .inr (9, [.int 0, .int 0, .int 0, .int 0, .int 0, .int 0, .int 0, .ref t1o, .ref t2o, .ref t3o, .ref t4o, .ref t5o, .ref t6o, .ref t7o])), (t1o, aI g 6 z0), (t2o, aI g 6 z0), (t3o, aI g 8 z0), (t4o, aI g 8 z0), (t5o, aI g 8 z0), (t6o, aI g 16 z0), (t7o, aI g 60 z0)] H := hP
  have hD : va_D A [(h, .inr (9, [.int 0, .int 0, .int 0, .int 0, .int 0, .int 0, .int 0, .ref t1, .ref t2, .ref t3, .ref t4, .ref t5, .ref t6, .ref t7])), (t1, aI g 6 z0), (t2, aI g 6 z0), (t3, aI g 8 z0), (t4, aI g 8 z0), (t5, aI g 8 z0), (t6, aI g 16 z0), (t7, aI g 60 z0), (o, .inr (9, [.int 0, .int 0, .int 0, .int 0, .int 0, .int 0, .int 0, .ref t1o, .ref t2o, .ref t3o, .ref t4o, .ref t5o, .ref t6o, .ref t7o])), (t1o, aI g 6 z0), (t2o, aI g 6 z0), (t3o, aI g 8 z0), (t4o, aI g 8 z0), (t5o, aI g 8 z0), (t6o, aI g 16 z0), (t7o, aI g 60 z0)] := hD
  refine lv_aload_n hx hb dX9_copy_86 rfl (lv_at hl 1 rfl) ?_
  refine va_get (D := g.1) (ci := 9) (v := .ref t3o) (C := RX9) (T := TX9) (N := 14) hx hb hT inF_X9 hown hK.1 hP 8 rfl rfl 9 (by decide) (hT _ bw_120) (fun _ h9 => h9) rfl dX9_copy_87 ?_
  refine lv_iconst (v := 0) hx hb dX9_copy_90 (by decide) ?_
  refine lv_aload_n hx hb dX9_copy_91 rfl (lv_at hl 0 rfl) ?_
  refine va_get (D := g.1) (ci := 9) (v := .ref t3) (C := RX9) (T := TX9) (N := 14) hx hb hT inF_X9 hown hK.1 hP 0 rfl rfl 9 (by decide) (hT _ bw_120) (fun _ h9 => h9) rfl dX9_copy_92 ?_
  refine lv_iconst (v := 0) hx hb dX9_copy_95 (by decide) ?_
  refine lv_bipush (v := 8) hx hb dX9_copy_96 (by decide) ?_
  refine va_copyi hx hb (hml.trans hl.1.symm) hown (hT _ bw_115) (hT _ bw_112) (hT _ bw_113) (hT _ bw_114) hK.1 hP hD hS 11 3 1 1 rfl rfl rfl rfl rfl (sp := 0) (dp := 0) (n := 8) (by decide) (by decide) (by decide) (by decide) (by decide) (fun _ _ => rfl) (Nat.le_of_ble_eq_true rfl) (Nat.le_of_ble_eq_true rfl) dX9_copy_98 (fun H locs hP hD hS => ?_)
  simp only [z0_c] at hP hD
  have hP : va_P g.1 vwCl [(h, .inr (9, [.int 0, .int 0, .int 0, .int 0, .int 0, .int 0, .int 0, .ref t1, .ref t2, .ref t3, .ref t4, .ref t5, .ref t6, .ref t7])), (t1, aI g 6 z0), (t2, aI g 6 z0), (t3, aI g 8 z0), (t4, aI g 8 z0), (t5, aI g 8 z0), (t6, aI g 16 z0), (t7, aI g 60 z0), (o, .inr (9, [.int 0, .int 0, .int 0, .int 0, .int 0, .int 0, .int 0, .ref t1o, .ref t2o, .ref t3o, .ref t4o, .ref t5o, .ref t6o, .ref t7o])), (t1o, aI g 6 z0), (t2o, aI g 6 z0), (t3o, aI g 8 z0), (t4o, aI g 8 z0), (t5o, aI g 8 z0), (t6o, aI g 16 z0), (t7o, aI g 60 z0)] H := hP
  have hD : va_D A [(h, .inr (9, [.int 0, .int 0, .int 0, .int 0, .int 0, .int 0, .int 0, .ref t1, .ref t2, .ref t3, .ref t4, .ref t5, .ref t6, .ref t7])), (t1, aI g 6 z0), (t2, aI g 6 z0), (t3, aI g 8 z0), (t4, aI g 8 z0), (t5, aI g 8 z0), (t6, aI g 16 z0), (t7, aI g 60 z0), (o, .inr (9, [.int 0, .int 0, .int 0, .int 0, .int 0, .int 0, .int 0, .ref t1o, .ref t2o, .ref t3o, .ref t4o, .ref t5o, .ref t6o, .ref t7o])), (t1o, aI g 6 z0), (t2o, aI g 6 z0), (t3o, aI g 8 z0), (t4o, aI g 8 z0), (t5o, aI g 8 z0), (t6o, aI g 16 z0), (t7o, aI g 60 z0)] := hD
  refine lv_aload_n hx hb dX9_copy_101 rfl (lv_at hl 1 rfl) ?_
  refine va_get (D := g.1) (ci := 9) (v := .ref t4o) (C := RX9) (T := TX9) (N := 14) hx hb hT inF_X9 hown hK.1 hP 8 rfl rfl 10 (by decide) (hT _ bw_121) (fun _ h9 => h9) rfl dX9_copy_102 ?_
  refine lv_iconst (v := 0) hx hb dX9_copy_105 (by decide) ?_
  refine lv_aload_n hx hb dX9_copy_106 rfl (lv_at hl 0 rfl) ?_
  refine va_get (D := g.1) (ci := 9) (v := .ref t4) (C := RX9) (T := TX9) (N := 14) hx hb hT inF_X9 hown hK.1 hP 0 rfl rfl 10 (by decide) (hT _ bw_121) (fun _ h9 => h9) rfl dX9_copy_107 ?_
  refine lv_iconst (v := 0) hx hb dX9_copy_110 (by decide) ?_
  refine lv_bipush (v := 8) hx hb dX9_copy_111 (by decide) ?_
  refine va_copyi hx hb (hml.trans hl.1.symm) hown (hT _ bw_115) (hT _ bw_112) (hT _ bw_113) (hT _ bw_114) hK.1 hP hD hS 12 4 1 1 rfl rfl rfl rfl rfl (sp := 0) (dp := 0) (n := 8) (by decide) (by decide) (by decide) (by decide) (by decide) (fun _ _ => rfl) (Nat.le_of_ble_eq_true rfl) (Nat.le_of_ble_eq_true rfl) dX9_copy_113 (fun H locs hP hD hS => ?_)
  simp only [z0_c] at hP hD
  have hP : va_P g.1 vwCl [(h, .inr (9, [.int 0, .int 0, .int 0, .int 0, .int 0, .int 0, .int 0, .ref t1, .ref t2, .ref t3, .ref t4, .ref t5, .ref t6, .ref t7])), (t1, aI g 6 z0), (t2, aI g 6 z0), (t3, aI g 8 z0), (t4, aI g 8 z0), (t5, aI g 8 z0), (t6, aI g 16 z0), (t7, aI g 60 z0), (o, .inr (9, [.int 0, .int 0, .int 0, .int 0, .int 0, .int 0, .int 0, .ref t1o, .ref t2o, .ref t3o, .ref t4o, .ref t5o, .ref t6o, .ref t7o])), (t1o, aI g 6 z0), (t2o, aI g 6 z0), (t3o, aI g 8 z0), (t4o, aI g 8 z0), (t5o, aI g 8 z0), (t6o, aI g 16 z0), (t7o, aI g 60 z0)] H := hP
  have hD : va_D A [(h, .inr (9, [.int 0, .int 0, .int 0, .int 0, .int 0, .int 0, .int 0, .ref t1, .ref t2, .ref t3, .ref t4, .ref t5, .ref t6, .ref t7])), (t1, aI g 6 z0), (t2, aI g 6 z0), (t3, aI g 8 z0), (t4, aI g 8 z0), (t5, aI g 8 z0), (t6, aI g 16 z0), (t7, aI g 60 z0), (o, .inr (9, [.int 0, .int 0, .int 0, .int 0, .int 0, .int 0, .int 0, .ref t1o, .ref t2o, .ref t3o, .ref t4o, .ref t5o, .ref t6o, .ref t7o])), (t1o, aI g 6 z0), (t2o, aI g 6 z0), (t3o, aI g 8 z0), (t4o, aI g 8 z0), (t5o, aI g 8 z0), (t6o, aI g 16 z0), (t7o, aI g 60 z0)] := hD
  refine lv_aload_n hx hb dX9_copy_116 rfl (lv_at hl 1 rfl) ?_
  refine va_get (D := g.1) (ci := 9) (v := .ref t5o) (C := RX9) (T := TX9) (N := 14) hx hb hT inF_X9 hown hK.1 hP 8 rfl rfl 11 (by decide) (hT _ bw_122) (fun _ h9 => h9) rfl dX9_copy_117 ?_
  refine lv_iconst (v := 0) hx hb dX9_copy_120 (by decide) ?_
  refine lv_aload_n hx hb dX9_copy_121 rfl (lv_at hl 0 rfl) ?_
  refine va_get (D := g.1) (ci := 9) (v := .ref t5) (C := RX9) (T := TX9) (N := 14) hx hb hT inF_X9 hown hK.1 hP 0 rfl rfl 11 (by decide) (hT _ bw_122) (fun _ h9 => h9) rfl dX9_copy_122 ?_
  refine lv_iconst (v := 0) hx hb dX9_copy_125 (by decide) ?_
  refine lv_bipush (v := 8) hx hb dX9_copy_126 (by decide) ?_
  refine va_copyi hx hb (hml.trans hl.1.symm) hown (hT _ bw_115) (hT _ bw_112) (hT _ bw_113) (hT _ bw_114) hK.1 hP hD hS 13 5 1 1 rfl rfl rfl rfl rfl (sp := 0) (dp := 0) (n := 8) (by decide) (by decide) (by decide) (by decide) (by decide) (fun _ _ => rfl) (Nat.le_of_ble_eq_true rfl) (Nat.le_of_ble_eq_true rfl) dX9_copy_128 (fun H locs hP hD hS => ?_)
  simp only [z0_c] at hP hD
  have hP : va_P g.1 vwCl [(h, .inr (9, [.int 0, .int 0, .int 0, .int 0, .int 0, .int 0, .int 0, .ref t1, .ref t2, .ref t3, .ref t4, .ref t5, .ref t6, .ref t7])), (t1, aI g 6 z0), (t2, aI g 6 z0), (t3, aI g 8 z0), (t4, aI g 8 z0), (t5, aI g 8 z0), (t6, aI g 16 z0), (t7, aI g 60 z0), (o, .inr (9, [.int 0, .int 0, .int 0, .int 0, .int 0, .int 0, .int 0, .ref t1o, .ref t2o, .ref t3o, .ref t4o, .ref t5o, .ref t6o, .ref t7o])), (t1o, aI g 6 z0), (t2o, aI g 6 z0), (t3o, aI g 8 z0), (t4o, aI g 8 z0), (t5o, aI g 8 z0), (t6o, aI g 16 z0), (t7o, aI g 60 z0)] H := hP
  have hD : va_D A [(h, .inr (9, [.int 0, .int 0, .int 0, .int 0, .int 0, .int 0, .int 0, .ref t1, .ref t2, .ref t3, .ref t4, .ref t5, .ref t6, .ref t7])), (t1, aI g 6 z0), (t2, aI g 6 z0), (t3, aI g 8 z0), (t4, aI g 8 z0), (t5, aI g 8 z0), (t6, aI g 16 z0), (t7, aI g 60 z0), (o, .inr (9, [.int 0, .int 0, .int 0, .int 0, .int 0, .int 0, .int 0, .ref t1o, .ref t2o, .ref t3o, .ref t4o, .ref t5o, .ref t6o, .ref t7o])), (t1o, aI g 6 z0), (t2o, aI g 6 z0), (t3o, aI g 8 z0), (t4o, aI g 8 z0), (t5o, aI g 8 z0), (t6o, aI g 16 z0), (t7o, aI g 60 z0)] := hD
  refine lv_aload_n hx hb dX9_copy_131 rfl (lv_at hl 1 rfl) ?_
  refine va_get (D := g.1) (ci := 9) (v := .ref t6o) (C := RX9) (T := TX9) (N := 14) hx hb hT inF_X9 hown hK.1 hP 8 rfl rfl 12 (by decide) (hT _ bw_123) (fun _ h9 => h9) rfl dX9_copy_132 ?_
  refine lv_iconst (v := 0) hx hb dX9_copy_135 (by decide) ?_
  refine lv_aload_n hx hb dX9_copy_136 rfl (lv_at hl 0 rfl) ?_
  refine va_get (D := g.1) (ci := 9) (v := .ref t6) (C := RX9) (T := TX9) (N := 14) hx hb hT inF_X9 hown hK.1 hP 0 rfl rfl 12 (by decide) (hT _ bw_123) (fun _ h9 => h9) rfl dX9_copy_137 ?_
  refine lv_iconst (v := 0) hx hb dX9_copy_140 (by decide) ?_
  refine lv_bipush (v := 16) hx hb dX9_copy_141 (by decide) ?_
  refine va_copyi hx hb (hml.trans hl.1.symm) hown (hT _ bw_115) (hT _ bw_112) (hT _ bw_113) (hT _ bw_114) hK.1 hP hD hS 14 6 1 1 rfl rfl rfl rfl rfl (sp := 0) (dp := 0) (n := 16) (by decide) (by decide) (by decide) (by decide) (by decide) (fun _ _ => rfl) (Nat.le_of_ble_eq_true rfl) (Nat.le_of_ble_eq_true rfl) dX9_copy_143 (fun H locs hP hD hS => ?_)
  simp only [z0_c] at hP hD
  have hP : va_P g.1 vwCl [(h, .inr (9, [.int 0, .int 0, .int 0, .int 0, .int 0, .int 0, .int 0, .ref t1, .ref t2, .ref t3, .ref t4, .ref t5, .ref t6, .ref t7])), (t1, aI g 6 z0), (t2, aI g 6 z0), (t3, aI g 8 z0), (t4, aI g 8 z0), (t5, aI g 8 z0), (t6, aI g 16 z0), (t7, aI g 60 z0), (o, .inr (9, [.int 0, .int 0, .int 0, .int 0, .int 0, .int 0, .int 0, .ref t1o, .ref t2o, .ref t3o, .ref t4o, .ref t5o, .ref t6o, .ref t7o])), (t1o, aI g 6 z0), (t2o, aI g 6 z0), (t3o, aI g 8 z0), (t4o, aI g 8 z0), (t5o, aI g 8 z0), (t6o, aI g 16 z0), (t7o, aI g 60 z0)] H := hP
  have hD : va_D A [(h, .inr (9, [.int 0, .int 0, .int 0, .int 0, .int 0, .int 0, .int 0, .ref t1, .ref t2, .ref t3, .ref t4, .ref t5, .ref t6, .ref t7])), (t1, aI g 6 z0), (t2, aI g 6 z0), (t3, aI g 8 z0), (t4, aI g 8 z0), (t5, aI g 8 z0), (t6, aI g 16 z0), (t7, aI g 60 z0), (o, .inr (9, [.int 0, .int 0, .int 0, .int 0, .int 0, .int 0, .int 0, .ref t1o, .ref t2o, .ref t3o, .ref t4o, .ref t5o, .ref t6o, .ref t7o])), (t1o, aI g 6 z0), (t2o, aI g 6 z0), (t3o, aI g 8 z0), (t4o, aI g 8 z0), (t5o, aI g 8 z0), (t6o, aI g 16 z0), (t7o, aI g 60 z0)] := hD
  refine lv_aload_n hx hb dX9_copy_146 rfl (lv_at hl 1 rfl) ?_
  refine va_get (D := g.1) (ci := 9) (v := .ref t7o) (C := RX9) (T := TX9) (N := 14) hx hb hT inF_X9 hown hK.1 hP 8 rfl rfl 13 (by decide) (hT _ bw_124) (fun _ h9 => h9) rfl dX9_copy_147 ?_
  refine lv_iconst (v := 0) hx hb dX9_copy_150 (by decide) ?_
  refine lv_aload_n hx hb dX9_copy_151 rfl (lv_at hl 0 rfl) ?_
  refine va_get (D := g.1) (ci := 9) (v := .ref t7) (C := RX9) (T := TX9) (N := 14) hx hb hT inF_X9 hown hK.1 hP 0 rfl rfl 13 (by decide) (hT _ bw_124) (fun _ h9 => h9) rfl dX9_copy_152 ?_
  refine lv_iconst (v := 0) hx hb dX9_copy_155 (by decide) ?_
  refine lv_aload_n hx hb dX9_copy_156 rfl (lv_at hl 1 rfl) ?_
  refine va_get (D := g.1) (ci := 9) (v := .int 0) (C := RX9) (T := TX9) (N := 14) hx hb hT inF_X9 hown hK.1 hP 8 rfl rfl 6 (by decide) (hT _ bw_109) (fun _ h9 => h9) rfl dX9_copy_157 ?_
  refine va_copyi hx hb (hml.trans hl.1.symm) hown (hT _ bw_115) (hT _ bw_112) (hT _ bw_113) (hT _ bw_114) hK.1 hP hD hS 15 7 1 1 rfl rfl rfl rfl rfl (sp := 0) (dp := 0) (n := 0) (by decide) (by decide) (by decide) (by decide) (by decide) (fun _ _ => rfl) (Nat.le_of_ble_eq_true rfl) (Nat.le_of_ble_eq_true rfl) dX9_copy_160 (fun H locs hP hD hS => ?_)
  simp only [z0_c] at hP hD
  have hP : va_P g.1 vwCl [(h, .inr (9, [.int 0, .int 0, .int 0, .int 0, .int 0, .int 0, .int 0, .ref t1, .ref t2, .ref t3, .ref t4, .ref t5, .ref t6, .ref t7])), (t1, aI g 6 z0), (t2, aI g 6 z0), (t3, aI g 8 z0), (t4, aI g 8 z0), (t5, aI g 8 z0), (t6, aI g 16 z0), (t7, aI g 60 z0), (o, .inr (9, [.int 0, .int 0, .int 0, .int 0, .int 0, .int 0, .int 0, .ref t1o, .ref t2o, .ref t3o, .ref t4o, .ref t5o, .ref t6o, .ref t7o])), (t1o, aI g 6 z0), (t2o, aI g 6 z0), (t3o, aI g 8 z0), (t4o, aI g 8 z0), (t5o, aI g 8 z0), (t6o, aI g 16 z0), (t7o, aI g 60 z0)] H := hP
  have hD : va_D A [(h, .inr (9, [.int 0, .int 0, .int 0, .int 0, .int 0, .int 0, .int 0, .ref t1, .ref t2, .ref t3, .ref t4, .ref t5, .ref t6, .ref t7])), (t1, aI g 6 z0), (t2, aI g 6 z0), (t3, aI g 8 z0), (t4, aI g 8 z0), (t5, aI g 8 z0), (t6, aI g 16 z0), (t7, aI g 60 z0), (o, .inr (9, [.int 0, .int 0, .int 0, .int 0, .int 0, .int 0, .int 0, .ref t1o, .ref t2o, .ref t3o, .ref t4o, .ref t5o, .ref t6o, .ref t7o])), (t1o, aI g 6 z0), (t2o, aI g 6 z0), (t3o, aI g 8 z0), (t4o, aI g 8 z0), (t5o, aI g 8 z0), (t6o, aI g 16 z0), (t7o, aI g 60 z0)] := hD
  have hP9 : va_P g.1 vwCl [(h, .inr (9, [.int 0, .int 0, .int 0, .int 0, .int 0, .int 0, .int 0, .ref t1, .ref t2, .ref t3, .ref t4, .ref t5, .ref t6, .ref t7])), (t1, aI g 6 z0), (t2, aI g 6 z0), (t3, aI g 8 z0), (t4, aI g 8 z0), (t5, aI g 8 z0), (t6, aI g 16 z0), (t7, aI g 60 z0), (o, .inr (9, [.int 0, .int 0, .int 0, .int 0, .int 0, .int 0, .int 0, .ref t1o, .ref t2o, .ref t3o, .ref t4o, .ref t5o, .ref t6o, .ref t7o])), (t1o, aI g 6 z0), (t2o, aI g 6 z0), (t3o, aI g 8 z0), (t4o, aI g 8 z0), (t5o, aI g 8 z0), (t6o, aI g 16 z0), (t7o, aI g 60 z0)] H := hP.sub [0, 1, 2, 3, 4, 5, 6, 7, 8, 9, 10, 11, 12, 13, 14, 15] rfl
  have hD9 : va_D A [(h, .inr (9, [.int 0, .int 0, .int 0, .int 0, .int 0, .int 0, .int 0, .ref t1, .ref t2, .ref t3, .ref t4, .ref t5, .ref t6, .ref t7])), (t1, aI g 6 z0), (t2, aI g 6 z0), (t3, aI g 8 z0), (t4, aI g 8 z0), (t5, aI g 8 z0), (t6, aI g 16 z0), (t7, aI g 60 z0), (o, .inr (9, [.int 0, .int 0, .int 0, .int 0, .int 0, .int 0, .int 0, .ref t1o, .ref t2o, .ref t3o, .ref t4o, .ref t5o, .ref t6o, .ref t7o])), (t1o, aI g 6 z0), (t2o, aI g 6 z0), (t3o, aI g 8 z0), (t4o, aI g 8 z0), (t5o, aI g 8 z0), (t6o, aI g 16 z0), (t7o, aI g 60 z0)] := hD.sub [0, 1, 2, 3, 4, 5, 6, 7, 8, 9, 10, 11, 12, 13, 14, 15] (by decide) rfl
  exact W.vret hx hb hr (fun t ht hW => ⟨⟨(), rfl, trivial, by rw [ht]; exact hP9, by rw [hAe]; exact hD9⟩, hS.F ht⟩) hS.2.2 dX9_copy_163

theorem bw_126 : Cond.code yX9_passDay cX9_passDay 3 none ∈ gT := gT_tb 1034 (by decide +kernel) (by decide +kernel)
theorem dX9_passDay_0 : decode cX9_passDay 0 = .ok (.aload_n 0, 1) := by decide +kernel
theorem dX9_passDay_1 : decode cX9_passDay 1 = .ok (.dup, 1) := by decide +kernel
theorem dX9_passDay_2 : decode cX9_passDay 2 = .ok (.getfield 33, 3) := by decide +kernel
theorem dX9_passDay_5 : decode cX9_passDay 5 = .ok (.iconst 1, 1) := by decide +kernel
theorem dX9_passDay_6 : decode cX9_passDay 6 = .ok (.iadd, 1) := by decide +kernel
theorem dX9_passDay_7 : decode cX9_passDay 7 = .ok (.putfield 33, 3) := by decide +kernel
theorem dX9_passDay_10 : decode cX9_passDay 10 = .ok (.iconst 0, 1) := by decide +kernel
theorem dX9_passDay_11 : decode cX9_passDay 11 = .ok (.istore_n 2, 1) := by decide +kernel
theorem dX9_passDay_12 : decode cX9_passDay 12 = .ok (.iload_n 2, 1) := by decide +kernel
theorem dX9_passDay_13 : decode cX9_passDay 13 = .ok (.aload_n 1, 1) := by decide +kernel
theorem dX9_passDay_14 : decode cX9_passDay 14 = .ok (.getfield 45, 3) := by decide +kernel
theorem dX9_passDay_17 : decode cX9_passDay 17 = .ok (.getfield 49, 3) := by decide +kernel
theorem dX9_passDay_20 : decode cX9_passDay 20 = .ok (.if_icmp .ge 39, 3) := by decide +kernel
theorem dX9_passDay_59 : decode cX9_passDay 59 = .ok (.iconst 0, 1) := by decide +kernel
theorem dX9_passDay_60 : decode cX9_passDay 60 = .ok (.istore_n 2, 1) := by decide +kernel
theorem dX9_passDay_61 : decode cX9_passDay 61 = .ok (.iload_n 2, 1) := by decide +kernel
theorem dX9_passDay_62 : decode cX9_passDay 62 = .ok (.aload_n 0, 1) := by decide +kernel
theorem dX9_passDay_63 : decode cX9_passDay 63 = .ok (.getfield 63, 3) := by decide +kernel
theorem dX9_passDay_66 : decode cX9_passDay 66 = .ok (.if_icmp .ge 36, 3) := by decide +kernel
theorem dX9_passDay_102 : decode cX9_passDay 102 = .ok (.return_, 1) := by decide +kernel
set_option maxHeartbeats 4000000 in
set_option maxRecDepth 100000 in
theorem c_X9_passDay (l : Launch) (g : GG) (sz : Nat) (h : Nat) (t1 : Nat) (t2 : Nat) (t3 : Nat) (t4 : Nat) (t5 : Nat) (t6 : Nat) (t7 : Nat) (la : Nat) (mea : Nat) (foa : Nat) (rea : Nat) (d1a : Nat) (d2a : Nat) (d3a : Nat) (m1a : Nat) (m2a : Nat) (m3a : Nat) (m4a : Nat) (p0 : Int32) : Met l yX9_passDay (.code yX9_passDay cX9_passDay 3 none :: gT) ({ frames := 0, cells := 0, slots := 0, locals := 0 }) (va_Pc [.ref h, .ref la] (Pst g sz [(h, .inr (9, [.int p0, .int 0, .int 0, .int 0, .int 0, .int 0, .int 0, .ref t1, .ref t2, .ref t3, .ref t4, .ref t5, .ref t6, .ref t7])), (la, .inr (2, [.ref mea, .ref foa, .ref rea, .int 0, .ref d1a, .ref d2a, .int 9, .int 0, .ref d3a])), (mea, .inr (3, [.int 0, .ref m1a, .ref m2a, .ref m3a, .ref m4a]))] nX)) (va_Qv (fun (_ : Unit) => True) (Qst g [(h, .inr (9, [.int p0, .int 0, .int 0, .int 0, .int 0, .int 0, .int 0, .ref t1, .ref t2, .ref t3, .ref t4, .ref t5, .ref t6, .ref t7])), (la, .inr (2, [.ref mea, .ref foa, .ref rea, .int 0, .ref d1a, .ref d2a, .int 9, .int 0, .ref d3a])), (mea, .inr (3, [.int 0, .ref m1a, .ref m2a, .ref m3a, .ref m4a]))] sz (fun _ => [(h, .inr (9, [.int (p0 + 1), .int 0, .int 0, .int 0, .int 0, .int 0, .int 0, .ref t1, .ref t2, .ref t3, .ref t4, .ref t5, .ref t6, .ref t7])), (la, .inr (2, [.ref mea, .ref foa, .ref rea, .int 0, .ref d1a, .ref d2a, .int 9, .int 0, .ref d3a])), (mea, .inr (3, [.int 0, .ref m1a, .ref m2a, .ref m3a, .ref m4a]))])) (va_A [(h, .inr (9, [.int p0, .int 0, .int 0, .int 0, .int 0, .int 0, .int 0, .ref t1, .ref t2, .ref t3, .ref t4, .ref t5, .ref t6, .ref t7])), (la, .inr (2, [.ref mea, .ref foa, .ref rea, .int 0, .ref d1a, .ref d2a, .int 9, .int 0, .ref d3a])), (mea, .inr (3, [.int 0, .ref m1a, .ref m2a, .ref m3a, .ref m4a]))] sz)) 0 0 (va_A [(h, .inr (9, [.int p0, .int 0, .int 0, .int 0, .int 0, .int 0, .int 0, .ref t1, .ref t2, .ref t3, .ref t4, .ref t5, .ref t6, .ref t7])), (la, .inr (2, [.ref mea, .ref foa, .ref rea, .int 0, .ref d1a, .ref d2a, .int 9, .int 0, .ref d3a])), (mea, .inr (3, [.int 0, .ref m1a, .ref m2a, .ref m3a, .ref m4a]))] sz) := by
  refine Met.ofW (cc := cX9_passDay) (maxL := 3) (ret := none) (by decide) rfl ?_
  intro p e s m args below meth c s₁ B hml hv
  obtain ⟨rfl, hsz, hP, hK, hD0, hX⟩ := hv
  have hx := B.exec
  have hb := B.bytes
  have hr := B.returns
  have hT : ∀ w ∈ gT, w.before _ s = true := fun w h => atoms_spec (ws := .code yX9_passDay cX9_passDay 3 none :: gT) B.pre w (List.mem_cons_of_mem _ h)
  have hown : s.vm.findClass RX9 = some m.cls := findClass_of_methodNamed B.named
  have hlocks := B.notSynchronized
  subst hsz
  have hD := hD0.self (sz := s.heap.size)
  generalize hAe : va_A [(h, .inr (9, [.int p0, .int 0, .int 0, .int 0, .int 0, .int 0, .int 0, .ref t1, .ref t2, .ref t3, .ref t4, .ref t5, .ref t6, .ref t7])), (la, .inr (2, [.ref mea, .ref foa, .ref rea, .int 0, .ref d1a, .ref d2a, .int 9, .int 0, .ref d3a])), (mea, .inr (3, [.int 0, .ref m1a, .ref m2a, .ref m3a, .ref m4a]))] s.heap.size = A at hD ⊢
  have hA : ∀ q : Nat, s.heap.size ≤ q → A q := fun q h => by rw [← hAe]; exact Or.inr h
  have hS : va_S A s.heap s.heap [] := va_S.rf
  have hl := lv_entry ([.ref h, .ref la]) (n := 3) (Nat.le_of_ble_eq_true rfl)
  rw [lg_entry_eq]
  generalize (lg_sl ([.ref h, .ref la]) ++ List.replicate (3 - (lg_sl ([.ref h, .ref la])).length) Slot.unset).toArray = ls at hl ⊢
  have hl : lv_has ls 3 [(0, .ref h), (1, .ref la)] := hl
  refine p_nH (fun H hH => ?_)
  have hP : va_P g.1 vwCl [(h, .inr (9, [.int p0, .int 0, .int 0, .int 0, .int 0, .int 0, .int 0, .ref t1, .ref t2, .ref t3, .ref t4, .ref t5, .ref t6, .ref t7])), (la, .inr (2, [.ref mea, .ref foa, .ref rea, .int 0, .ref d1a, .ref d2a, .int 9, .int 0, .ref d3a])), (mea, .inr (3, [.int 0, .ref m1a, .ref m2a, .ref m3a, .ref m4a]))] H := by rw [hH]; exact hP
  have hS : va_S A s.heap H [] := by rw [hH]; exact hS
  refine lv_aload_n hx hb dX9_passDay_0 rfl (lv_at hl 0 rfl) ?_
  refine lv_dup hx hb dX9_passDay_1 rfl ?_
  refine va_get (D := g.1) (ci := 9) (v := .int p0) (C := RX9) (T := TX9) (N := 14) hx hb hT inF_X9 hown hK.1 hP 0 rfl rfl 0 (by decide) (hT _ bw_101) (fun _ h9 => h9) rfl dX9_passDay_2 ?_
  refine lv_iconst (v := 1) hx hb dX9_passDay_5 (by decide) ?_
  refine lv_iadd hx hb dX9_passDay_6 ?_
  refine va_put (D := g.1) (ci := 9) (v := .int (p0 + 1)) (ty := .int) (C := RX9) (T := TX9) (N := 14) hx hb hT inF_X9 tyX9 tyX9_ok nmX9 hown hK.1 hP hD hS 0 rfl rfl 0 (by decide) (hT _ bw_101) (fun _ h9 => h9) rfl (by decide +kernel) rfl rfl (Nat.le_of_ble_eq_true rfl) dX9_passDay_7 (fun H locs hP hD hS => ?_)
  have hP : va_P g.1 vwCl [(h, .inr (9, [.int (p0 + 1), .int 0, .int 0, .int 0, .int 0, .int 0, .int 0, .ref t1, .ref t2, .ref t3, .ref t4, .ref t5, .ref t6, .ref t7])), (la, .inr (2, [.ref mea, .ref foa, .ref rea, .int 0, .ref d1a, .ref d2a, .int 9, .int 0, .ref d3a])), (mea, .inr (3, [.int 0, .ref m1a, .ref m2a, .ref m3a, .ref m4a]))] H := hP
  have hD : va_D A [(h, .inr (9, [.int (p0 + 1), .int 0, .int 0, .int 0, .int 0, .int 0, .int 0, .ref t1, .ref t2, .ref t3, .ref t4, .ref t5, .ref t6, .ref t7])), (la, .inr (2, [.ref mea, .ref foa, .ref rea, .int 0, .ref d1a, .ref d2a, .int 9, .int 0, .ref d3a])), (mea, .inr (3, [.int 0, .ref m1a, .ref m2a, .ref m3a, .ref m4a]))] := hD
  refine lv_iconst (v := 0) hx hb dX9_passDay_10 (by decide) ?_
  refine lv_istore_n (lv' := [(2, .int 0), (0, .ref h), (1, .ref la)]) hx hb dX9_passDay_11 rfl hl (by decide) rfl (fun ls hl => ?_)
  refine lv_iload_n hx hb dX9_passDay_12 rfl (lv_at hl 0 rfl) ?_
  refine lv_aload_n hx hb dX9_passDay_13 rfl (lv_at hl 2 rfl) ?_
  refine va_get (D := g.1) (ci := 2) (v := .ref mea) (C := RX2) (T := TX2) (N := 9) hx hb hT inF_X2 hown hK.1 hP 1 rfl rfl 0 (by decide) (hT _ bw_104) (fun _ h9 => h9) rfl dX9_passDay_14 ?_
  refine va_get (D := g.1) (ci := 3) (v := .int 0) (C := RX3) (T := TX3) (N := 5) hx hb hT inF_X3 hown hK.1 hP 2 rfl rfl 0 (by decide) (hT _ bw_105) (fun _ h9 => h9) rfl dX9_passDay_17 ?_
  refine lv_icmp_ge (tgt := 59) hx hb dX9_passDay_20 (by decide) (fun _ => ?_) (fun c9 => absurd (by decide) c9)
  refine lv_iconst (v := 0) hx hb dX9_passDay_59 (by decide) ?_
  refine lv_istore_n (lv' := [(2, .int 0), (0, .ref h), (1, .ref la)]) hx hb dX9_passDay_60 rfl hl (by decide) rfl (fun ls hl => ?_)
  refine lv_iload_n hx hb dX9_passDay_61 rfl (lv_at hl 0 rfl) ?_
  refine lv_aload_n hx hb dX9_passDay_62 rfl (lv_at hl 1 rfl) ?_
  refine va_get (D := g.1) (ci := 9) (v := .int 0) (C := RX9) (T := TX9) (N := 14) hx hb hT inF_X9 hown hK.1 hP 0 rfl rfl 5 (by decide) (hT _ bw_4) (fun _ h9 => h9) rfl dX9_passDay_63 ?_
  refine lv_icmp_ge (tgt := 102) hx hb dX9_passDay_66 (by decide) (fun _ => ?_) (fun c9 => absurd (by decide) c9)
  have hP9 : va_P g.1 vwCl [(h, .inr (9, [.int (p0 + 1), .int 0, .int 0, .int 0, .int 0, .int 0, .int 0, .ref t1, .ref t2, .ref t3, .ref t4, .ref t5, .ref t6, .ref t7])), (la, .inr (2, [.ref mea, .ref foa, .ref rea, .int 0, .ref d1a, .ref d2a, .int 9, .int 0, .ref d3a])), (mea, .inr (3, [.int 0, .ref m1a, .ref m2a, .ref m3a, .ref m4a]))] H := hP.sub [0, 1, 2] rfl
  have hD9 : va_D A [(h, .inr (9, [.int (p0 + 1), .int 0, .int 0, .int 0, .int 0, .int 0, .int 0, .ref t1, .ref t2, .ref t3, .ref t4, .ref t5, .ref t6, .ref t7])), (la, .inr (2, [.ref mea, .ref foa, .ref rea, .int 0, .ref d1a, .ref d2a, .int 9, .int 0, .ref d3a])), (mea, .inr (3, [.int 0, .ref m1a, .ref m2a, .ref m3a, .ref m4a]))] := hD.sub [0, 1, 2] (by decide) rfl
  exact W.vret hx hb hr (fun t ht hW => ⟨⟨(), rfl, trivial, by rw [ht]; exact hP9, by rw [hAe]; exact hD9⟩, hS.F ht⟩) hS.2.2 dX9_passDay_102
