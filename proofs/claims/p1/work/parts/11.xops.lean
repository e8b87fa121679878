set_option maxRecDepth 20000 in
theorem inF_X2 : ∀ w ∈ u_ws RX2 TX2 9, w ∈ gT := gT_u [315, 317, 319, 321, 323, 325, 327, 329, 331] (by decide +kernel) (by decide +kernel)
set_option maxRecDepth 20000 in
theorem inF_X11 : ∀ w ∈ u_ws RX11 TX11 14, w ∈ gT := gT_u [535, 537, 539, 541, 543, 545, 547, 549, 551, 553, 555, 557, 559, 561] (by decide +kernel) (by decide +kernel)
theorem bw_13 : Cond.fieldLink RX11 23 "DuelDelays" "land" "LDuelDelays$Land;" ∈ gT := gT_tb 524 (by decide +kernel) (by decide +kernel)
theorem bw_14 : Cond.fieldLink RX11 97 "DuelDelays$Land" "men" "LDuelDelays$Men;" ∈ gT := gT_tb 288 (by decide +kernel) (by decide +kernel)
theorem bw_15 : Cond.methodLink RX11 112 yX3_has ∈ gT := gT_tb 843 (by decide +kernel) (by decide +kernel)
theorem bw_16 : Cond.instanceMethod yX3_has ∈ gT := gT_tb 844 (by decide +kernel) (by decide +kernel)
theorem bw_17 : Cond.selects RX3 yX3_has yX3_has ∈ gT := gT_tb 845 (by decide +kernel) (by decide +kernel)
theorem bw_18 : Cond.initialized RX3 ∈ gT := gT_tb 9 (by decide +kernel) (by decide +kernel)
theorem bw_19 : Cond.code yX11_man cX11_man 4 (some .int) ∈ gT := gT_tb 842 (by decide +kernel) (by decide +kernel)
theorem dX11_man_0 : decode cX11_man 0 = .ok (.aload_n 0, 1) := by decide +kernel
theorem dX11_man_1 : decode cX11_man 1 = .ok (.getfield 23, 3) := by decide +kernel
theorem dX11_man_4 : decode cX11_man 4 = .ok (.getfield 97, 3) := by decide +kernel
theorem dX11_man_7 : decode cX11_man 7 = .ok (.iload_n 1, 1) := by decide +kernel
theorem dX11_man_8 : decode cX11_man 8 = .ok (.invokevirtual 112, 3) := by decide +kernel
theorem dX11_man_11 : decode cX11_man 11 = .ok (.ifCond .ne 6, 3) := by decide +kernel
theorem dX11_man_14 : decode cX11_man 14 = .ok (.bipush (-2), 2) := by decide +kernel
theorem dX11_man_16 : decode cX11_man 16 = .ok (.ireturn, 1) := by decide +kernel
set_option maxHeartbeats 4000000 in
set_option maxRecDepth 100000 in
theorem c_X11_man (l : Launch) (g : GG) (sz : Nat) (x : Nat) (xt : Nat) (xr : Nat) (la : Nat) (lb : Nat) (sa : Nat) (ba : Nat) (se : Nat) (si : Nat) (pa : Nat) (he : Nat) (mea : Nat) (foa : Nat) (rea : Nat) (d1a : Nat) (d2a : Nat) (d3a : Nat) (m1a : Nat) (m2a : Nat) (m3a : Nat) (m4a : Nat) (p0 : Int32) (p1 : Int32) : Met l yX11_man (.code yX11_man cX11_man 4 (some .int) :: gT) ({ frames := 1, cells := 0, slots := 0, locals := 21 }) (va_Pc [.ref x, .int p0, .int p1] (Pst g sz [(x, .inr (11, [.ref xt, .int 0, .ref xr, .ref la, .ref lb, .ref sa, .int 0, .int 0, .ref ba, .int 0, .ref se, .ref si, .ref pa, .ref he])), (la, .inr (2, [.ref mea, .ref foa, .ref rea, .int 0, .ref d1a, .ref d2a, .int 9, .int 0, .ref d3a])), (mea, .inr (3, [.int 0, .ref m1a, .ref m2a, .ref m3a, .ref m4a]))] nX)) (va_Qi (fun (r : Int32) (_ : Unit) => r = (-2)) (Qst g [] sz (fun _ => [])) (va_A [] sz)) 0 0 (va_A [] sz) := by
  refine Met.ofW (cc := cX11_man) (maxL := 4) (ret := (some .int)) (by decide) rfl ?_
  intro p e s m args below meth c s₁ B hml hv
  obtain ⟨rfl, hsz, hP, hK, hD0, hX⟩ := hv
  have hx := B.exec
  have hb := B.bytes
  have hr := B.returns
  have hT : ∀ w ∈ gT, w.before _ s = true := fun w h => atoms_spec (ws := .code yX11_man cX11_man 4 (some .int) :: gT) B.pre w (List.mem_cons_of_mem _ h)
  have hown : s.vm.findClass RX11 = some m.cls := findClass_of_methodNamed B.named
  have hlocks := B.notSynchronized
  subst hsz
  have hD := hD0
  generalize hAe : va_A [] s.heap.size = A at ⊢
  have hA : ∀ q : Nat, s.heap.size ≤ q → A q := fun q h => by rw [← hAe]; exact Or.inr h
  have hS : va_S A s.heap s.heap [] := va_S.rf
  have hl := lv_entry ([.ref x, .int p0, .int p1]) (n := 4) (Nat.le_of_ble_eq_true rfl)
  rw [lg_entry_eq]
  generalize (lg_sl ([.ref x, .int p0, .int p1]) ++ List.replicate (4 - (lg_sl ([.ref x, .int p0, .int p1])).length) Slot.unset).toArray = ls at hl ⊢
  have hl : lv_has ls 4 [(0, .ref x), (1, .int p0), (2, .int p1)] := hl
  refine p_nH (fun H hH => ?_)
  have hP : va_P g.1 vwCl [(x, .inr (11, [.ref xt, .int 0, .ref xr, .ref la, .ref lb, .ref sa, .int 0, .int 0, .ref ba, .int 0, .ref se, .ref si, .ref pa, .ref he])), (la, .inr (2, [.ref mea, .ref foa, .ref rea, .int 0, .ref d1a, .ref d2a, .int 9, .int 0, .ref d3a])), (mea, .inr (3, [.int 0, .ref m1a, .ref m2a, .ref m3a, .ref m4a]))] H := by rw [hH]; exact hP
  have hS : va_S A s.heap H [] := by rw [hH]; exact hS
  refine lv_aload_n hx hb dX11_man_0 rfl (lv_at hl 0 rfl) ?_
  refine va_get (D := g.1) (ci := 11) (v := .ref la) (C := RX11) (T := TX11) (N := 14) hx hb hT inF_X11 hown hK.1 hP 0 rfl rfl 3 (by decide) (hT _ bw_13) (fun _ h9 => h9) rfl dX11_man_1 ?_
  refine va_get (D := g.1) (ci := 2) (v := .ref mea) (C := RX2) (T := TX2) (N := 9) hx hb hT inF_X2 hown hK.1 hP 1 rfl rfl 0 (by decide) (hT _ bw_14) (fun _ h9 => h9) rfl dX11_man_4 ?_
  refine lv_iload_n hx hb dX11_man_7 rfl (lv_at hl 1 rfl) ?_
  refine k_iR (k_V (n := 1) ⟨hx, hb, hml, hown, hT⟩ hK hP hD [2] rfl (by decide) (c_X3_has l g H.size mea m1a m2a m3a m4a p0) (gV bw_15 bw_16 bw_17 bw_18 bw_1) rfl rfl (by decide +kernel) ⟨by decide, by decide⟩ (ci := 3) (q0 := 0) rfl rfl (fun _ _ _ _ _ => trivial) (fun _ _ _ => trivial) rfl rfl hl.1 (Nat.le_of_ble_eq_true rfl) dX11_man_8 ⟨by decide, by decide⟩) hP hS hA (fun r_1 _ H locs hw hP hS => ?_)
  have hw : r_1 = 0 := hw
  subst hw
  refine lv_if_ne (tgt := 17) hx hb dX11_man_11 (by decide) (fun c9 => absurd (by decide) c9) (fun _ => ?_)
  refine lv_bipush (v := (-2)) hx hb dX11_man_14 (by decide) ?_
  have hP9 : va_P g.1 vwCl [] H := hP.sub [] rfl
  have hD9 : va_D A [] := ⟨fun i j p q h => by simp at h, fun k q h => by simp at h⟩
  exact W.iret (v := (-2)) hx hb hr (fun t ht hW => ⟨⟨(-2), (), rfl, rfl, by rw [ht]; exact hP9, by rw [hAe]; exact hD9⟩, hS.F ht⟩) hS.2.2 dX11_man_16

theorem bw_20 : Cond.fieldLink RX11 32 "DuelDelays" "states" "[LDuelDelays$State;" ∈ gT := gT_tb 526 (by decide +kernel) (by decide +kernel)
theorem bw_21 : Cond.fieldLink RX11 84 "DuelDelays" "current" "I" ∈ gT := gT_tb 527 (by decide +kernel) (by decide +kernel)
theorem bw_22 : Cond.methodLink RX11 132 yX9_hasDuel ∈ gT := gT_tb 855 (by decide +kernel) (by decide +kernel)
theorem bw_23 : Cond.instanceMethod yX9_hasDuel ∈ gT := gT_tb 856 (by decide +kernel) (by decide +kernel)
theorem bw_24 : Cond.selects RX9 yX9_hasDuel yX9_hasDuel ∈ gT := gT_tb 857 (by decide +kernel) (by decide +kernel)
theorem bw_25 : Cond.initialized RX9 ∈ gT := gT_tb 16 (by decide +kernel) (by decide +kernel)
theorem bw_26 : Cond.code yX11_duel cX11_duel 4 (some .int) ∈ gT := gT_tb 854 (by decide +kernel) (by decide +kernel)
theorem dX11_duel_0 : decode cX11_duel 0 = .ok (.aload_n 0, 1) := by decide +kernel
theorem dX11_duel_1 : decode cX11_duel 1 = .ok (.getfield 32, 3) := by decide +kernel
theorem dX11_duel_4 : decode cX11_duel 4 = .ok (.aload_n 0, 1) := by decide +kernel
theorem dX11_duel_5 : decode cX11_duel 5 = .ok (.getfield 84, 3) := by decide +kernel
theorem dX11_duel_8 : decode cX11_duel 8 = .ok (.aaload, 1) := by decide +kernel
theorem dX11_duel_9 : decode cX11_duel 9 = .ok (.astore_n 3, 1) := by decide +kernel
theorem dX11_duel_10 : decode cX11_duel 10 = .ok (.aload_n 3, 1) := by decide +kernel
theorem dX11_duel_11 : decode cX11_duel 11 = .ok (.iload_n 1, 1) := by decide +kernel
theorem dX11_duel_12 : decode cX11_duel 12 = .ok (.invokevirtual 132, 3) := by decide +kernel
theorem dX11_duel_15 : decode cX11_duel 15 = .ok (.ifCond .ne 6, 3) := by decide +kernel
theorem dX11_duel_18 : decode cX11_duel 18 = .ok (.bipush (-2), 2) := by decide +kernel
theorem dX11_duel_20 : decode cX11_duel 20 = .ok (.ireturn, 1) := by decide +kernel
set_option maxHeartbeats 4000000 in
set_option maxRecDepth 100000 in
theorem c_X11_duel (l : Launch) (g : GG) (sz : Nat) (x : Nat) (xt : Nat) (xr : Nat) (la : Nat) (lb : Nat) (sa : Nat) (ba : Nat) (se : Nat) (si : Nat) (pa : Nat) (he : Nat) (s1 : Nat) (s0 : Nat) (t1u : Nat) (t2u : Nat) (t3u : Nat) (t4u : Nat) (t5u : Nat) (t6u : Nat) (t7u : Nat) (fs : Nat → Option Nat) (p0 : Int32) (p1 : Int32) : Met l yX11_duel (.code yX11_duel cX11_duel 4 (some .int) :: gT) ({ frames := 1, cells := 0, slots := 0, locals := 21 }) (va_Pc [.ref x, .int p0, .int p1] (Pst g sz [(x, .inr (11, [.ref xt, .int 0, .ref xr, .ref la, .ref lb, .ref sa, .int 0, .int 0, .ref ba, .int 0, .ref se, .ref si, .ref pa, .ref he])), (sa, aO g 41 (va_up (va_up fs 0 (some s0)) 1 (some s1))), (s0, .inr (9, [.int 0, .int 0, .int 0, .int 0, .int 0, .int 0, .int 0, .ref t1u, .ref t2u, .ref t3u, .ref t4u, .ref t5u, .ref t6u, .ref t7u]))] nX)) (va_Qi (fun (r : Int32) (_ : Unit) => r = (-2)) (Qst g [] sz (fun _ => [])) (va_A [] sz)) 0 0 (va_A [] sz) := by
  refine Met.ofW (cc := cX11_duel) (maxL := 4) (ret := (some .int)) (by decide) rfl ?_
  intro p e s m args below meth c s₁ B hml hv
  obtain ⟨rfl, hsz, hP, hK, hD0, hX⟩ := hv
  have hx := B.exec
  have hb := B.bytes
  have hr := B.returns
  have hT : ∀ w ∈ gT, w.before _ s = true := fun w h => atoms_spec (ws := .code yX11_duel cX11_duel 4 (some .int) :: gT) B.pre w (List.mem_cons_of_mem _ h)
  have hown : s.vm.findClass RX11 = some m.cls := findClass_of_methodNamed B.named
  have hlocks := B.notSynchronized
  subst hsz
  have hD := hD0
  generalize hAe : va_A [] s.heap.size = A at ⊢
  have hA : ∀ q : Nat, s.heap.size ≤ q → A q := fun q h => by rw [← hAe]; exact Or.inr h
  have hS : va_S A s.heap s.heap [] := va_S.rf
  have hl := lv_entry ([.ref x, .int p0, .int p1]) (n := 4) (Nat.le_of_ble_eq_true rfl)
  rw [lg_entry_eq]
  generalize (lg_sl ([.ref x, .int p0, .int p1]) ++ List.replicate (4 - (lg_sl ([.ref x, .int p0, .int p1])).length) Slot.unset).toArray = ls at hl ⊢
  have hl : lv_has ls 4 [(0, .ref x), (1, .int p0), (2, .int p1)] := hl
  refine p_nH (fun H hH => ?_)
  have hP : va_P g.1 vwCl [(x, .inr (11, [.ref xt, .int 0, .ref xr, .ref la, .ref lb, .ref sa, .int 0, .int 0, .ref ba, .int 0, .ref se, .ref si, .ref pa, .ref he])), (sa, aO g 41 (va_up (va_up fs 0 (some s0)) 1 (some s1))), (s0, .inr (9, [.int 0, .int 0, .int 0, .int 0, .int 0, .int 0, .int 0, .ref t1u, .ref t2u, .ref t3u, .ref t4u, .ref t5u, .ref t6u, .ref t7u]))] H := by rw [hH]; exact hP
  have hS : va_S A s.heap H [] := by rw [hH]; exact hS
  refine lv_aload_n hx hb dX11_duel_0 rfl (lv_at hl 0 rfl) ?_
  refine va_get (D := g.1) (ci := 11) (v := .ref sa) (C := RX11) (T := TX11) (N := 14) hx hb hT inF_X11 hown hK.1 hP 0 rfl rfl 5 (by decide) (hT _ bw_20) (fun _ h9 => h9) rfl dX11_duel_1 ?_
  refine lv_aload_n hx hb dX11_duel_4 rfl (lv_at hl 0 rfl) ?_
  refine va_get (D := g.1) (ci := 11) (v := .int 0) (C := RX11) (T := TX11) (N := 14) hx hb hT inF_X11 hown hK.1 hP 0 rfl rfl 6 (by decide) (hT _ bw_21) (fun _ h9 => h9) rfl dX11_duel_5 ?_
  refine va_aldq hx hb hK.1 hP 1 4 rfl rfl (i := 0) (by unfold vp_in; decide) dX11_duel_8 ?_
  refine p_tr (x := s0) (rfl) ?_
  refine lv_astore_n (lv' := [(3, .ref s0), (0, .ref x), (1, .int p0), (2, .int p1)]) hx hb dX11_duel_9 rfl hl (by decide) rfl (fun ls hl => ?_)
  refine lv_aload_n hx hb dX11_duel_10 rfl (lv_at hl 0 rfl) ?_
  refine lv_iload_n hx hb dX11_duel_11 rfl (lv_at hl 2 rfl) ?_
  refine k_iR (k_V (n := 1) ⟨hx, hb, hml, hown, hT⟩ hK hP hD [2] rfl (by decide) (c_X9_hasDuel l g H.size s0 t1u t2u t3u t4u t5u t6u t7u p0) (gV bw_22 bw_23 bw_24 bw_25 bw_5) rfl rfl (by decide +kernel) ⟨by decide, by decide⟩ (ci := 9) (q0 := 0) rfl rfl (fun _ _ _ _ _ => trivial) (fun _ _ _ => trivial) rfl rfl hl.1 (Nat.le_of_ble_eq_true rfl) dX11_duel_12 ⟨by decide, by decide⟩) hP hS hA (fun r_1 _ H locs hw hP hS => ?_)
  have hw : r_1 = 0 := hw
  subst hw
  refine lv_if_ne (tgt := 21) hx hb dX11_duel_15 (by decide) (fun c9 => absurd (by decide) c9) (fun _ => ?_)
  refine lv_bipush (v := (-2)) hx hb dX11_duel_18 (by decide) ?_
  have hP9 : va_P g.1 vwCl [] H := hP.sub [] rfl
  have hD9 : va_D A [] := ⟨fun i j p q h => by simp at h, fun k q h => by simp at h⟩
  exact W.iret (v := (-2)) hx hb hr (fun t ht hW => ⟨⟨(-2), (), rfl, rfl, by rw [ht]; exact hP9, by rw [hAe]; exact hD9⟩, hS.F ht⟩) hS.2.2 dX11_duel_20

theorem bw_27 : Cond.fieldLink RX11 157 "DuelDelays$Land" "reasons" "LDuelDelays$Reasons;" ∈ gT := gT_tb 296 (by decide +kernel) (by decide +kernel)
theorem bw_28 : Cond.methodLink RX11 161 yX6_has ∈ gT := gT_tb 877 (by decide +kernel) (by decide +kernel)
theorem bw_29 : Cond.instanceMethod yX6_has ∈ gT := gT_tb 878 (by decide +kernel) (by decide +kernel)
theorem bw_30 : Cond.selects RX6 yX6_has yX6_has ∈ gT := gT_tb 879 (by decide +kernel) (by decide +kernel)
theorem bw_31 : Cond.initialized RX6 ∈ gT := gT_tb 11 (by decide +kernel) (by decide +kernel)
theorem bw_32 : Cond.code yX11_reason cX11_reason 5 (some .int) ∈ gT := gT_tb 876 (by decide +kernel) (by decide +kernel)
theorem dX11_reason_0 : decode cX11_reason 0 = .ok (.aload_n 0, 1) := by decide +kernel
theorem dX11_reason_1 : decode cX11_reason 1 = .ok (.getfield 23, 3) := by decide +kernel
theorem dX11_reason_4 : decode cX11_reason 4 = .ok (.getfield 157, 3) := by decide +kernel
theorem dX11_reason_7 : decode cX11_reason 7 = .ok (.astore_n 3, 1) := by decide +kernel
theorem dX11_reason_8 : decode cX11_reason 8 = .ok (.aload_n 3, 1) := by decide +kernel
theorem dX11_reason_9 : decode cX11_reason 9 = .ok (.iload_n 1, 1) := by decide +kernel
theorem dX11_reason_10 : decode cX11_reason 10 = .ok (.invokevirtual 161, 3) := by decide +kernel
theorem dX11_reason_13 : decode cX11_reason 13 = .ok (.ifCond .ne 6, 3) := by decide +kernel
theorem dX11_reason_16 : decode cX11_reason 16 = .ok (.bipush (-2), 2) := by decide +kernel
theorem dX11_reason_18 : decode cX11_reason 18 = .ok (.ireturn, 1) := by decide +kernel
set_option maxHeartbeats 4000000 in
set_option maxRecDepth 100000 in
theorem c_X11_reason (l : Launch) (g : GG) (sz : Nat) (x : Nat) (xt : Nat) (xr : Nat) (la : Nat) (lb : Nat) (sa : Nat) (ba : Nat) (se : Nat) (si : Nat) (pa : Nat) (he : Nat) (mea : Nat) (foa : Nat) (rea : Nat) (d1a : Nat) (d2a : Nat) (d3a : Nat) (r1a : Nat) (r2a : Nat) (r3a : Nat) (r4a : Nat) (r5a : Nat) (r6a : Nat) (r7a : Nat) (p0 : Int32) (p1 : Int32) : Met l yX11_reason (.code yX11_reason cX11_reason 5 (some .int) :: gT) ({ frames := 1, cells := 0, slots := 0, locals := 21 }) (va_Pc [.ref x, .int p0, .int p1] (Pst g sz [(x, .inr (11, [.ref xt, .int 0, .ref xr, .ref la, .ref lb, .ref sa, .int 0, .int 0, .ref ba, .int 0, .ref se, .ref si, .ref pa, .ref he])), (la, .inr (2, [.ref mea, .ref foa, .ref rea, .int 0, .ref d1a, .ref d2a, .int 9, .int 0, .ref d3a])), (rea, .inr (6, [.int 0, .ref r1a, .ref r2a, .ref r3a, .ref r4a, .ref r5a, .ref r6a, .ref r7a]))] nX)) (va_Qi (fun (r : Int32) (_ : Unit) => r = (-2)) (Qst g [] sz (fun _ => [])) (va_A [] sz)) 0 0 (va_A [] sz) := by
  refine Met.ofW (cc := cX11_reason) (maxL := 5) (ret := (some .int)) (by decide) rfl ?_
  intro p e s m args below meth c s₁ B hml hv
  obtain ⟨rfl, hsz, hP, hK, hD0, hX⟩ := hv
  have hx := B.exec
  have hb := B.bytes
  have hr := B.returns
  have hT : ∀ w ∈ gT, w.before _ s = true := fun w h => atoms_spec (ws := .code yX11_reason cX11_reason 5 (some .int) :: gT) B.pre w (List.mem_cons_of_mem _ h)
  have hown : s.vm.findClass RX11 = some m.cls := findClass_of_methodNamed B.named
  have hlocks := B.notSynchronized
  subst hsz
  have hD := hD0
  generalize hAe : va_A [] s.heap.size = A at ⊢
  have hA : ∀ q : Nat, s.heap.size ≤ q → A q := fun q h => by rw [← hAe]; exact Or.inr h
  have hS : va_S A s.heap s.heap [] := va_S.rf
  have hl := lv_entry ([.ref x, .int p0, .int p1]) (n := 5) (Nat.le_of_ble_eq_true rfl)
  rw [lg_entry_eq]
  generalize (lg_sl ([.ref x, .int p0, .int p1]) ++ List.replicate (5 - (lg_sl ([.ref x, .int p0, .int p1])).length) Slot.unset).toArray = ls at hl ⊢
  have hl : lv_has ls 5 [(0, .ref x), (1, .int p0), (2, .int p1)] := hl
  refine p_nH (fun H hH => ?_)
  have hP : va_P g.1 vwCl [(x, .inr (11, [.ref xt, .int 0, .ref xr, .ref la, .ref lb, .ref sa, .int 0, .int 0, .ref ba, .int 0, .ref se, .ref si, .ref pa, .ref he])), (la, .inr (2, [.ref mea, .ref foa, .ref rea, .int 0, .ref d1a, .ref d2a, .int 9, .int 0, .ref d3a])), (rea, .inr (6, [.int 0, .ref r1a, .ref r2a, .ref r3a, .ref r4a, .ref r5a, .ref r6a, .ref r7a]))] H := by rw [hH]; exact hP
  have hS : va_S A s.heap H [] := by rw [hH]; exact hS
  refine lv_aload_n hx hb dX11_reason_0 rfl (lv_at hl 0 rfl) ?_
  refine va_get (D := g.1) (ci := 11) (v := .ref la) (C := RX11) (T := TX11) (N := 14) hx hb hT inF_X11 hown hK.1 hP 0 rfl rfl 3 (by decide) (hT _ bw_13) (fun _ h9 => h9) rfl dX11_reason_1 ?_
  refine va_get (D := g.1) (ci := 2) (v := .ref rea) (C := RX2) (T := TX2) (N := 9) hx hb hT inF_X2 hown hK.1 hP 1 rfl rfl 2 (by decide) (hT _ bw_27) (fun _ h9 => h9) rfl dX11_reason_4 ?_
  refine lv_astore_n (lv' := [(3, .ref rea), (0, .ref x), (1, .int p0), (2, .int p1)]) hx hb dX11_reason_7 rfl hl (by decide) rfl (fun ls hl => ?_)
  refine lv_aload_n hx hb dX11_reason_8 rfl (lv_at hl 0 rfl) ?_
  refine lv_iload_n hx hb dX11_reason_9 rfl (lv_at hl 2 rfl) ?_
  refine k_iR (k_V (n := 1) ⟨hx, hb, hml, hown, hT⟩ hK hP hD [2] rfl (by decide) (c_X6_has l g H.size rea r1a r2a r3a r4a r5a r6a r7a p0) (gV bw_28 bw_29 bw_30 bw_31 bw_3) rfl rfl (by decide +kernel) ⟨by decide, by decide⟩ (ci := 6) (q0 := 0) rfl rfl (fun _ _ _ _ _ => trivial) (fun _ _ _ => trivial) rfl rfl hl.1 (Nat.le_of_ble_eq_true rfl) dX11_reason_10 ⟨by decide, by decide⟩) hP hS hA (fun r_1 _ H locs hw hP hS => ?_)
  have hw : r_1 = 0 := hw
  subst hw
  refine lv_if_ne (tgt := 19) hx hb dX11_reason_13 (by decide) (fun c9 => absurd (by decide) c9) (fun _ => ?_)
  refine lv_bipush (v := (-2)) hx hb dX11_reason_16 (by decide) ?_
  have hP9 : va_P g.1 vwCl [] H := hP.sub [] rfl
  have hD9 : va_D A [] := ⟨fun i j p q h => by simp at h, fun k q h => by simp at h⟩
  exact W.iret (v := (-2)) hx hb hr (fun t ht hW => ⟨⟨(-2), (), rfl, rfl, by rw [ht]; exact hP9, by rw [hAe]; exact hD9⟩, hS.F ht⟩) hS.2.2 dX11_reason_18

theorem bw_33 : Cond.code yX11_worth cX11_worth 5 (some .int) ∈ gT := gT_tb 899 (by decide +kernel) (by decide +kernel)
theorem dX11_worth_0 : decode cX11_worth 0 = .ok (.aload_n 0, 1) := by decide +kernel
theorem dX11_worth_1 : decode cX11_worth 1 = .ok (.getfield 32, 3) := by decide +kernel
theorem dX11_worth_4 : decode cX11_worth 4 = .ok (.aload_n 0, 1) := by decide +kernel
theorem dX11_worth_5 : decode cX11_worth 5 = .ok (.getfield 84, 3) := by decide +kernel
theorem dX11_worth_8 : decode cX11_worth 8 = .ok (.aaload, 1) := by decide +kernel
theorem dX11_worth_9 : decode cX11_worth 9 = .ok (.astore 4, 2) := by decide +kernel
theorem dX11_worth_11 : decode cX11_worth 11 = .ok (.aload 4, 2) := by decide +kernel
theorem dX11_worth_13 : decode cX11_worth 13 = .ok (.iload_n 1, 1) := by decide +kernel
theorem dX11_worth_14 : decode cX11_worth 14 = .ok (.invokevirtual 132, 3) := by decide +kernel
theorem dX11_worth_17 : decode cX11_worth 17 = .ok (.ifCond .eq 28, 3) := by decide +kernel
theorem dX11_worth_45 : decode cX11_worth 45 = .ok (.iconst (-1), 1) := by decide +kernel
theorem dX11_worth_46 : decode cX11_worth 46 = .ok (.ireturn, 1) := by decide +kernel
set_option maxHeartbeats 4000000 in
set_option maxRecDepth 100000 in
theorem c_X11_worth (l : Launch) (g : GG) (sz : Nat) (x : Nat) (xt : Nat) (xr : Nat) (la : Nat) (lb : Nat) (sa : Nat) (ba : Nat) (se : Nat) (si : Nat) (pa : Nat) (he : Nat) (s1 : Nat) (s0 : Nat) (t1u : Nat) (t2u : Nat) (t3u : Nat) (t4u : Nat) (t5u : Nat) (t6u : Nat) (t7u : Nat) (fs : Nat → Option Nat) (p0 : Int32) (p1 : Int32) (p2 : Int32) : Met l yX11_worth (.code yX11_worth cX11_worth 5 (some .int) :: gT) ({ frames := 1, cells := 0, slots := 0, locals := 21 }) (va_Pc [.ref x, .int p0, .int p1, .int p2] (Pst g sz [(x, .inr (11, [.ref xt, .int 0, .ref xr, .ref la, .ref lb, .ref sa, .int 0, .int 0, .ref ba, .int 0, .ref se, .ref si, .ref pa, .ref he])), (sa, aO g 41 (va_up (va_up fs 0 (some s0)) 1 (some s1))), (s0, .inr (9, [.int 0, .int 0, .int 0, .int 0, .int 0, .int 0, .int 0, .ref t1u, .ref t2u, .ref t3u, .ref t4u, .ref t5u, .ref t6u, .ref t7u]))] nX)) (va_Qi (fun (r : Int32) (_ : Unit) => r = (-1)) (Qst g [] sz (fun _ => [])) (va_A [] sz)) 0 0 (va_A [] sz) := by
  refine Met.ofW (cc := cX11_worth) (maxL := 5) (ret := (some .int)) (by decide) rfl ?_
  intro p e s m args below meth c s₁ B hml hv
  obtain ⟨rfl, hsz, hP, hK, hD0, hX⟩ := hv
  have hx := B.exec
  have hb := B.bytes
  have hr := B.returns
  have hT : ∀ w ∈ gT, w.before _ s = true := fun w h => atoms_spec (ws := .code yX11_worth cX11_worth 5 (some .int) :: gT) B.pre w (List.mem_cons_of_mem _ h)
  have hown : s.vm.findClass RX11 = some m.cls := findClass_of_methodNamed B.named
  have hlocks := B.notSynchronized
  subst hsz
  have hD := hD0
  generalize hAe : va_A [] s.heap.size = A at ⊢
  have hA : ∀ q : Nat, s.heap.size ≤ q → A q := fun q h => by rw [← hAe]; exact Or.inr h
  have hS : va_S A s.heap s.heap [] := va_S.rf
  have hl := lv_entry ([.ref x, .int p0, .int p1, .int p2]) (n := 5) (Nat.le_of_ble_eq_true rfl)
  rw [lg_entry_eq]
  generalize (lg_sl ([.ref x, .int p0, .int p1, .int p2]) ++ List.replicate (5 - (lg_sl ([.ref x, .int p0, .int p1, .int p2])).length) Slot.unset).toArray = ls at hl ⊢
  have hl : lv_has ls 5 [(0, .ref x), (1, .int p0), (2, .int p1), (3, .int p2)] := hl
  refine p_nH (fun H hH => ?_)
  have hP : va_P g.1 vwCl [(x, .inr (11, [.ref xt, .int 0, .ref xr, .ref la, .ref lb, .ref sa, .int 0, .int 0, .ref ba, .int 0, .ref se, .ref si, .ref pa, .ref he])), (sa, aO g 41 (va_up (va_up fs 0 (some s0)) 1 (some s1))), (s0, .inr (9, [.int 0, .int 0, .int 0, .int 0, .int 0, .int 0, .int 0, .ref t1u, .ref t2u, .ref t3u, .ref t4u, .ref t5u, .ref t6u, .ref t7u]))] H := by rw [hH]; exact hP
  have hS : va_S A s.heap H [] := by rw [hH]; exact hS
  refine lv_aload_n hx hb dX11_worth_0 rfl (lv_at hl 0 rfl) ?_
  refine va_get (D := g.1) (ci := 11) (v := .ref sa) (C := RX11) (T := TX11) (N := 14) hx hb hT inF_X11 hown hK.1 hP 0 rfl rfl 5 (by decide) (hT _ bw_20) (fun _ h9 => h9) rfl dX11_worth_1 ?_
  refine lv_aload_n hx hb dX11_worth_4 rfl (lv_at hl 0 rfl) ?_
  refine va_get (D := g.1) (ci := 11) (v := .int 0) (C := RX11) (T := TX11) (N := 14) hx hb hT inF_X11 hown hK.1 hP 0 rfl rfl 6 (by decide) (hT _ bw_21) (fun _ h9 => h9) rfl dX11_worth_5 ?_
  refine va_aldq hx hb hK.1 hP 1 4 rfl rfl (i := 0) (by unfold vp_in; decide) dX11_worth_8 ?_
  refine p_tr (x := s0) (rfl) ?_
  refine lv_astore (lv' := [(4, .ref s0), (0, .ref x), (1, .int p0), (2, .int p1), (3, .int p2)]) hx hb dX11_worth_9 hl (by decide) rfl (fun ls hl => ?_)
  refine lv_aload hx hb dX11_worth_11 (lv_at hl 0 rfl) ?_
  refine lv_iload_n hx hb dX11_worth_13 rfl (lv_at hl 2 rfl) ?_
  refine k_iR (k_V (n := 1) ⟨hx, hb, hml, hown, hT⟩ hK hP hD [2] rfl (by decide) (c_X9_hasDuel l g H.size s0 t1u t2u t3u t4u t5u t6u t7u p0) (gV bw_22 bw_23 bw_24 bw_25 bw_5) rfl rfl (by decide +kernel) ⟨by decide, by decide⟩ (ci := 9) (q0 := 0) rfl rfl (fun _ _ _ _ _ => trivial) (fun _ _ _ => trivial) rfl rfl hl.1 (Nat.le_of_ble_eq_true rfl) dX11_worth_14 ⟨by decide, by decide⟩) hP hS hA (fun r_1 _ H locs hw hP hS => ?_)
  have hw : r_1 = 0 := hw
  subst hw
  refine lv_if_eq (tgt := 45) hx hb dX11_worth_17 (by decide) (fun _ => ?_) (fun c9 => absurd (by decide) c9)
  refine lv_iconst (v := (-1)) hx hb dX11_worth_45 (by decide) ?_
  have hP9 : va_P g.1 vwCl [] H := hP.sub [] rfl
  have hD9 : va_D A [] := ⟨fun i j p q h => by simp at h, fun k q h => by simp at h⟩
  exact W.iret (v := (-1)) hx hb hr (fun t ht hW => ⟨⟨(-1), (), rfl, rfl, by rw [ht]; exact hP9, by rw [hAe]; exact hD9⟩, hS.F ht⟩) hS.2.2 dX11_worth_46

theorem bw_34 : Cond.code yX11_may cX11_may 4 (some .int) ∈ gT := gT_tb 920 (by decide +kernel) (by decide +kernel)
theorem dX11_may_0 : decode cX11_may 0 = .ok (.aload_n 0, 1) := by decide +kernel
theorem dX11_may_1 : decode cX11_may 1 = .ok (.getfield 32, 3) := by decide +kernel
theorem dX11_may_4 : decode cX11_may 4 = .ok (.aload_n 0, 1) := by decide +kernel
theorem dX11_may_5 : decode cX11_may 5 = .ok (.getfield 84, 3) := by decide +kernel
theorem dX11_may_8 : decode cX11_may 8 = .ok (.aaload, 1) := by decide +kernel
theorem dX11_may_9 : decode cX11_may 9 = .ok (.astore_n 3, 1) := by decide +kernel
theorem dX11_may_10 : decode cX11_may 10 = .ok (.aload_n 3, 1) := by decide +kernel
theorem dX11_may_11 : decode cX11_may 11 = .ok (.iload_n 1, 1) := by decide +kernel
theorem dX11_may_12 : decode cX11_may 12 = .ok (.invokevirtual 132, 3) := by decide +kernel
theorem dX11_may_15 : decode cX11_may 15 = .ok (.ifCond .eq 10, 3) := by decide +kernel
theorem dX11_may_25 : decode cX11_may 25 = .ok (.iconst (-1), 1) := by decide +kernel
theorem dX11_may_26 : decode cX11_may 26 = .ok (.ireturn, 1) := by decide +kernel
set_option maxHeartbeats 4000000 in
set_option maxRecDepth 100000 in
theorem c_X11_may (l : Launch) (g : GG) (sz : Nat) (x : Nat) (xt : Nat) (xr : Nat) (la : Nat) (lb : Nat) (sa : Nat) (ba : Nat) (se : Nat) (si : Nat) (pa : Nat) (he : Nat) (s1 : Nat) (s0 : Nat) (t1u : Nat) (t2u : Nat) (t3u : Nat) (t4u : Nat) (t5u : Nat) (t6u : Nat) (t7u : Nat) (fs : Nat → Option Nat) (p0 : Int32) (p1 : Int32) : Met l yX11_may (.code yX11_may cX11_may 4 (some .int) :: gT) ({ frames := 1, cells := 0, slots := 0, locals := 21 }) (va_Pc [.ref x, .int p0, .int p1] (Pst g sz [(x, .inr (11, [.ref xt, .int 0, .ref xr, .ref la, .ref lb, .ref sa, .int 0, .int 0, .ref ba, .int 0, .ref se, .ref si, .ref pa, .ref he])), (sa, aO g 41 (va_up (va_up fs 0 (some s0)) 1 (some s1))), (s0, .inr (9, [.int 0, .int 0, .int 0, .int 0, .int 0, .int 0, .int 0, .ref t1u, .ref t2u, .ref t3u, .ref t4u, .ref t5u, .ref t6u, .ref t7u]))] nX)) (va_Qi (fun (r : Int32) (_ : Unit) => r = (-1)) (Qst g [] sz (fun _ => [])) (va_A [] sz)) 0 0 (va_A [] sz) := by
  refine Met.ofW (cc := cX11_may) (maxL := 4) (ret := (some .int)) (by decide) rfl ?_
  intro p e s m args below meth c s₁ B hml hv
  obtain ⟨rfl, hsz, hP, hK, hD0, hX⟩ := hv
  have hx := B.exec
  have hb := B.bytes
  have hr := B.returns
  have hT : ∀ w ∈ gT, w.before _ s = true := fun w h => atoms_spec (ws := .code yX11_may cX11_may 4 (some .int) :: gT) B.pre w (List.mem_cons_of_mem _ h)
  have hown : s.vm.findClass RX11 = some m.cls := findClass_of_methodNamed B.named
  have hlocks := B.notSynchronized
  subst hsz
  have hD := hD0
  generalize hAe : va_A [] s.heap.size = A at ⊢
  have hA : ∀ q : Nat, s.heap.size ≤ q → A q := fun q h => by rw [← hAe]; exact Or.inr h
  have hS : va_S A s.heap s.heap [] := va_S.rf
  have hl := lv_entry ([.ref x, .int p0, .int p1]) (n := 4) (Nat.le_of_ble_eq_true rfl)
  rw [lg_entry_eq]
  generalize (lg_sl ([.ref x, .int p0, .int p1]) ++ List.replicate (4 - (lg_sl ([.ref x, .int p0, .int p1])).length) Slot.unset).toArray = ls at hl ⊢
  have hl : lv_has ls 4 [(0, .ref x), (1, .int p0), (2, .int p1)] := hl
  refine p_nH (fun H hH => ?_)
  have hP : va_P g.1 vwCl [(x, .inr (11, [.ref xt, .int 0, .ref xr, .ref la, .ref lb, .ref sa, .int 0, .int 0, .ref ba, .int 0, .ref se, .ref si, .ref pa, .ref he])), (sa, aO g 41 (va_up (va_up fs 0 (some s0)) 1 (some s1))), (s0, .inr (9, [.int 0, .int 0, .int 0, .int 0, .int 0, .int 0, .int 0, .ref t1u, .ref t2u, .ref t3u, .ref t4u, .ref t5u, .ref t6u, .ref t7u]))] H := by rw [hH]; exact hP
  have hS : va_S A s.heap H [] := by rw [hH]; exact hS
  refine lv_aload_n hx hb dX11_may_0 rfl (lv_at hl 0 rfl) ?_
  refine va_get (D := g.1) (ci := 11) (v := .ref sa) (C := RX11) (T := TX11) (N := 14) hx hb hT inF_X11 hown hK.1 hP 0 rfl rfl 5 (by decide) (hT _ bw_20) (fun _ h9 => h9) rfl dX11_may_1 ?_
  refine lv_aload_n hx hb dX11_may_4 rfl (lv_at hl 0 rfl) ?_
  refine va_get (D := g.1) (ci := 11) (v := .int 0) (C := RX11) (T := TX11) (N := 14) hx hb hT inF_X11 hown hK.1 hP 0 rfl rfl 6 (by decide) (hT _ bw_21) (fun _ h9 => h9) rfl dX11_may_5 ?_
  refine va_aldq hx hb hK.1 hP 1 4 rfl rfl (i := 0) (by unfold vp_in; decide) dX11_may_8 ?_
  refine p_tr (x := s0) (rfl) ?_
  refine lv_astore_n (lv' := [(3, .ref s0), (0, .ref x), (1, .int p0), (2, .int p1)]) hx hb dX11_may_9 rfl hl (by decide) rfl (fun ls hl => ?_)
  refine lv_aload_n hx hb dX11_may_10 rfl (lv_at hl 0 rfl) ?_
  refine lv_iload_n hx hb dX11_may_11 rfl (lv_at hl 2 rfl) ?_
  refine k_iR (k_V (n := 1) ⟨hx, hb, hml, hown, hT⟩ hK hP hD [2] rfl (by decide) (c_X9_hasDuel l g H.size s0 t1u t2u t3u t4u t5u t6u t7u p0) (gV bw_22 bw_23 bw_24 bw_25 bw_5) rfl rfl (by decide +kernel) ⟨by decide, by decide⟩ (ci := 9) (q0 := 0) rfl rfl (fun _ _ _ _ _ => trivial) (fun _ _ _ => trivial) rfl rfl hl.1 (Nat.le_of_ble_eq_true rfl) dX11_may_12 ⟨by decide, by decide⟩) hP hS hA (fun r_1 _ H locs hw hP hS => ?_)
  have hw : r_1 = 0 := hw
  subst hw
  refine lv_if_eq (tgt := 25) hx hb dX11_may_15 (by decide) (fun _ => ?_) (fun c9 => absurd (by decide) c9)
  refine lv_iconst (v := (-1)) hx hb dX11_may_25 (by decide) ?_
  have hP9 : va_P g.1 vwCl [] H := hP.sub [] rfl
  have hD9 : va_D A [] := ⟨fun i j p q h => by simp at h, fun k q h => by simp at h⟩
  exact W.iret (v := (-1)) hx hb hr (fun t ht hW => ⟨⟨(-1), (), rfl, rfl, by rw [ht]; exact hP9, by rw [hAe]; exact hD9⟩, hS.F ht⟩) hS.2.2 dX11_may_26

theorem bw_35 : Cond.methodLink RX11 200 yX9_firstOpen ∈ gT := gT_tb 957 (by decide +kernel) (by decide +kernel)
theorem bw_36 : Cond.instanceMethod yX9_firstOpen ∈ gT := gT_tb 958 (by decide +kernel) (by decide +kernel)
theorem bw_37 : Cond.selects RX9 yX9_firstOpen yX9_firstOpen ∈ gT := gT_tb 959 (by decide +kernel) (by decide +kernel)
theorem bw_38 : Cond.code yX11_next cX11_next 4 (some .int) ∈ gT := gT_tb 956 (by decide +kernel) (by decide +kernel)
theorem dX11_next_0 : decode cX11_next 0 = .ok (.aload_n 0, 1) := by decide +kernel
theorem dX11_next_1 : decode cX11_next 1 = .ok (.getfield 32, 3) := by decide +kernel
theorem dX11_next_4 : decode cX11_next 4 = .ok (.aload_n 0, 1) := by decide +kernel
theorem dX11_next_5 : decode cX11_next 5 = .ok (.getfield 84, 3) := by decide +kernel
theorem dX11_next_8 : decode cX11_next 8 = .ok (.aaload, 1) := by decide +kernel
theorem dX11_next_9 : decode cX11_next 9 = .ok (.astore_n 2, 1) := by decide +kernel
theorem dX11_next_10 : decode cX11_next 10 = .ok (.aload_n 2, 1) := by decide +kernel
theorem dX11_next_11 : decode cX11_next 11 = .ok (.invokevirtual 200, 3) := by decide +kernel
theorem dX11_next_14 : decode cX11_next 14 = .ok (.istore_n 3, 1) := by decide +kernel
theorem dX11_next_15 : decode cX11_next 15 = .ok (.iload_n 3, 1) := by decide +kernel
theorem dX11_next_16 : decode cX11_next 16 = .ok (.iconst (-1), 1) := by decide +kernel
theorem dX11_next_17 : decode cX11_next 17 = .ok (.if_icmp .ne 5, 3) := by decide +kernel
theorem dX11_next_20 : decode cX11_next 20 = .ok (.iconst (-1), 1) := by decide +kernel
theorem dX11_next_21 : decode cX11_next 21 = .ok (.ireturn, 1) := by decide +kernel
set_option maxHeartbeats 4000000 in
set_option maxRecDepth 100000 in
theorem c_X11_next (l : Launch) (g : GG) (sz : Nat) (x : Nat) (xt : Nat) (xr : Nat) (la : Nat) (lb : Nat) (sa : Nat) (ba : Nat) (se : Nat) (si : Nat) (pa : Nat) (he : Nat) (s1 : Nat) (s0 : Nat) (t1u : Nat) (t2u : Nat) (t3u : Nat) (t4u : Nat) (t5u : Nat) (t6u : Nat) (t7u : Nat) (fs : Nat → Option Nat) (p0 : Int32) : Met l yX11_next (.code yX11_next cX11_next 4 (some .int) :: gT) ({ frames := 1, cells := 0, slots := 0, locals := 22 }) (va_Pc [.ref x, .int p0] (Pst g sz [(x, .inr (11, [.ref xt, .int 0, .ref xr, .ref la, .ref lb, .ref sa, .int 0, .int 0, .ref ba, .int 0, .ref se, .ref si, .ref pa, .ref he])), (sa, aO g 41 (va_up (va_up fs 0 (some s0)) 1 (some s1))), (s0, .inr (9, [.int 0, .int 0, .int 0, .int 0, .int 0, .int 0, .int 0, .ref t1u, .ref t2u, .ref t3u, .ref t4u, .ref t5u, .ref t6u, .ref t7u]))] nX)) (va_Qi (fun (r : Int32) (_ : Unit) => r = (-1)) (Qst g [] sz (fun _ => [])) (va_A [] sz)) 0 0 (va_A [] sz) := by
  refine Met.ofW (cc := cX11_next) (maxL := 4) (ret := (some .int)) (by decide) rfl ?_
  intro p e s m args below meth c s₁ B hml hv
  obtain ⟨rfl, hsz, hP, hK, hD0, hX⟩ := hv
  have hx := B.exec
  have hb := B.bytes
  have hr := B.returns
  have hT : ∀ w ∈ gT, w.before _ s = true := fun w h => atoms_spec (ws := .code yX11_next cX11_next 4 (some .int) :: gT) B.pre w (List.mem_cons_of_mem _ h)
  have hown : s.vm.findClass RX11 = some m.cls := findClass_of_methodNamed B.named
  have hlocks := B.notSynchronized
  subst hsz
  have hD := hD0
  generalize hAe : va_A [] s.heap.size = A at ⊢
  have hA : ∀ q : Nat, s.heap.size ≤ q → A q := fun q h => by rw [← hAe]; exact Or.inr h
  have hS : va_S A s.heap s.heap [] := va_S.rf
  have hl := lv_entry ([.ref x, .int p0]) (n := 4) (Nat.le_of_ble_eq_true rfl)
  rw [lg_entry_eq]
  generalize (lg_sl ([.ref x, .int p0]) ++ List.replicate (4 - (lg_sl ([.ref x, .int p0])).length) Slot.unset).toArray = ls at hl ⊢
  have hl : lv_has ls 4 [(0, .ref x), (1, .int p0)] := hl
  refine p_nH (fun H hH => ?_)
  have hP : va_P g.1 vwCl [(x, .inr (11, [.ref xt, .int 0, .ref xr, .ref la, .ref lb, .ref sa, .int 0, .int 0, .ref ba, .int 0, .ref se, .ref si, .ref pa, .ref he])), (sa, aO g 41 (va_up (va_up fs 0 (some s0)) 1 (some s1))), (s0, .inr (9, [.int 0, .int 0, .int 0, .int 0, .int 0, .int 0, .int 0, .ref t1u, .ref t2u, .ref t3u, .ref t4u, .ref t5u, .ref t6u, .ref t7u]))] H := by rw [hH]; exact hP
  have hS : va_S A s.heap H [] := by rw [hH]; exact hS
  refine lv_aload_n hx hb dX11_next_0 rfl (lv_at hl 0 rfl) ?_
  refine va_get (D := g.1) (ci := 11) (v := .ref sa) (C := RX11) (T := TX11) (N := 14) hx hb hT inF_X11 hown hK.1 hP 0 rfl rfl 5 (by decide) (hT _ bw_20) (fun _ h9 => h9) rfl dX11_next_1 ?_
  refine lv_aload_n hx hb dX11_next_4 rfl (lv_at hl 0 rfl) ?_
  refine va_get (D := g.1) (ci := 11) (v := .int 0) (C := RX11) (T := TX11) (N := 14) hx hb hT inF_X11 hown hK.1 hP 0 rfl rfl 6 (by decide) (hT _ bw_21) (fun _ h9 => h9) rfl dX11_next_5 ?_
  refine va_aldq hx hb hK.1 hP 1 4 rfl rfl (i := 0) (by unfold vp_in; decide) dX11_next_8 ?_
  refine p_tr (x := s0) (rfl) ?_
  refine lv_astore_n (lv' := [(2, .ref s0), (0, .ref x), (1, .int p0)]) hx hb dX11_next_9 rfl hl (by decide) rfl (fun ls hl => ?_)
  refine lv_aload_n hx hb dX11_next_10 rfl (lv_at hl 0 rfl) ?_
  refine k_iR (k_V (n := 0) ⟨hx, hb, hml, hown, hT⟩ hK hP hD [2] rfl (by decide) (c_X9_firstOpen l g H.size s0 t1u t2u t3u t4u t5u t6u t7u) (gV bw_35 bw_36 bw_37 bw_25 bw_6) rfl rfl (by decide +kernel) ⟨by decide, by decide⟩ (ci := 9) (q0 := 0) rfl rfl (fun _ _ _ _ _ => trivial) (fun _ _ _ => trivial) rfl rfl hl.1 (Nat.le_of_ble_eq_true rfl) dX11_next_11 ⟨by decide, by decide⟩) hP hS hA (fun r_1 _ H locs hw hP hS => ?_)
  have hw : r_1 = (-1) := hw
  subst hw
  refine lv_istore_n (lv' := [(3, .int (-1)), (2, .ref s0), (0, .ref x), (1, .int p0)]) hx hb dX11_next_14 rfl hl (by decide) rfl (fun ls hl => ?_)
  refine lv_iload_n hx hb dX11_next_15 rfl (lv_at hl 0 rfl) ?_
  refine lv_iconst (v := (-1)) hx hb dX11_next_16 (by decide) ?_
  refine lv_icmp_ne (tgt := 22) hx hb dX11_next_17 (by decide) (fun c9 => absurd (by decide) c9) (fun _ => ?_)
  refine lv_iconst (v := (-1)) hx hb dX11_next_20 (by decide) ?_
  have hP9 : va_P g.1 vwCl [] H := hP.sub [] rfl
  have hD9 : va_D A [] := ⟨fun i j p q h => by simp at h, fun k q h => by simp at h⟩
  exact W.iret (v := (-1)) hx hb hr (fun t ht hW => ⟨⟨(-1), (), rfl, rfl, by rw [ht]; exact hP9, by rw [hAe]; exact hD9⟩, hS.F ht⟩) hS.2.2 dX11_next_21

theorem bw_39 : Cond.code yX11_heir cX11_heir 2 (some .int) ∈ gT := gT_tb 964 (by decide +kernel) (by decide +kernel)
theorem dX11_heir_0 : decode cX11_heir 0 = .ok (.aload_n 0, 1) := by decide +kernel
theorem dX11_heir_1 : decode cX11_heir 1 = .ok (.getfield 23, 3) := by decide +kernel
theorem dX11_heir_4 : decode cX11_heir 4 = .ok (.getfield 97, 3) := by decide +kernel
theorem dX11_heir_7 : decode cX11_heir 7 = .ok (.iload_n 1, 1) := by decide +kernel
theorem dX11_heir_8 : decode cX11_heir 8 = .ok (.invokevirtual 112, 3) := by decide +kernel
theorem dX11_heir_11 : decode cX11_heir 11 = .ok (.ifCond .eq 23, 3) := by decide +kernel
theorem dX11_heir_34 : decode cX11_heir 34 = .ok (.iconst (-1), 1) := by decide +kernel
theorem dX11_heir_35 : decode cX11_heir 35 = .ok (.ireturn, 1) := by decide +kernel
set_option maxHeartbeats 4000000 in
set_option maxRecDepth 100000 in
theorem c_X11_heir (l : Launch) (g : GG) (sz : Nat) (x : Nat) (xt : Nat) (xr : Nat) (la : Nat) (lb : Nat) (sa : Nat) (ba : Nat) (se : Nat) (si : Nat) (pa : Nat) (he : Nat) (mea : Nat) (foa : Nat) (rea : Nat) (d1a : Nat) (d2a : Nat) (d3a : Nat) (m1a : Nat) (m2a : Nat) (m3a : Nat) (m4a : Nat) (p0 : Int32) : Met l yX11_heir (.code yX11_heir cX11_heir 2 (some .int) :: gT) ({ frames := 1, cells := 0, slots := 0, locals := 21 }) (va_Pc [.ref x, .int p0] (Pst g sz [(x, .inr (11, [.ref xt, .int 0, .ref xr, .ref la, .ref lb, .ref sa, .int 0, .int 0, .ref ba, .int 0, .ref se, .ref si, .ref pa, .ref he])), (la, .inr (2, [.ref mea, .ref foa, .ref rea, .int 0, .ref d1a, .ref d2a, .int 9, .int 0, .ref d3a])), (mea, .inr (3, [.int 0, .ref m1a, .ref m2a, .ref m3a, .ref m4a]))] nX)) (va_Qi (fun (r : Int32) (_ : Unit) => r = (-1)) (Qst g [] sz (fun _ => [])) (va_A [] sz)) 0 0 (va_A [] sz) := by
  refine Met.ofW (cc := cX11_heir) (maxL := 2) (ret := (some .int)) (by decide) rfl ?_
  intro p e s m args below meth c s₁ B hml hv
  obtain ⟨rfl, hsz, hP, hK, hD0, hX⟩ := hv
  have hx := B.exec
  have hb := B.bytes
  have hr := B.returns
  have hT : ∀ w ∈ gT, w.before _ s = true := fun w h => atoms_spec (ws := .code yX11_heir cX11_heir 2 (some .int) :: gT) B.pre w (List.mem_cons_of_mem _ h)
  have hown : s.vm.findClass RX11 = some m.cls := findClass_of_methodNamed B.named
  have hlocks := B.notSynchronized
  subst hsz
  have hD := hD0
  generalize hAe : va_A [] s.heap.size = A at ⊢
  have hA : ∀ q : Nat, s.heap.size ≤ q → A q := fun q h => by rw [← hAe]; exact Or.inr h
  have hS : va_S A s.heap s.heap [] := va_S.rf
  have hl := lv_entry ([.ref x, .int p0]) (n := 2) (Nat.le_of_ble_eq_true rfl)
  rw [lg_entry_eq]
  generalize (lg_sl ([.ref x, .int p0]) ++ List.replicate (2 - (lg_sl ([.ref x, .int p0])).length) Slot.unset).toArray = ls at hl ⊢
  have hl : lv_has ls 2 [(0, .ref x), (1, .int p0)] := hl
  refine p_nH (fun H hH => ?_)
  have hP : va_P g.1 vwCl [(x, .inr (11, [.ref xt, .int 0, .ref xr, .ref la, .ref lb, .ref sa, .int 0, .int 0, .ref ba, .int 0, .ref se, .ref si, .ref pa, .ref he])), (la, .inr (2, [.ref mea, .ref foa, .ref rea, .int 0, .ref d1a, .ref d2a, .int 9, .int 0, .ref d3a])), (mea, .inr (3, [.int 0, .ref m1a, .ref m2a, .ref m3a, .ref m4a]))] H := by rw [hH]; exact hP
  have hS : va_S A s.heap H [] := by rw [hH]; exact hS
  refine lv_aload_n hx hb dX11_heir_0 rfl (lv_at hl 0 rfl) ?_
  refine va_get (D := g.1) (ci := 11) (v := .ref la) (C := RX11) (T := TX11) (N := 14) hx hb hT inF_X11 hown hK.1 hP 0 rfl rfl 3 (by decide) (hT _ bw_13) (fun _ h9 => h9) rfl dX11_heir_1 ?_
  refine va_get (D := g.1) (ci := 2) (v := .ref mea) (C := RX2) (T := TX2) (N := 9) hx hb hT inF_X2 hown hK.1 hP 1 rfl rfl 0 (by decide) (hT _ bw_14) (fun _ h9 => h9) rfl dX11_heir_4 ?_
  refine lv_iload_n hx hb dX11_heir_7 rfl (lv_at hl 1 rfl) ?_
  refine k_iR (k_V (n := 1) ⟨hx, hb, hml, hown, hT⟩ hK hP hD [2] rfl (by decide) (c_X3_has l g H.size mea m1a m2a m3a m4a p0) (gV bw_15 bw_16 bw_17 bw_18 bw_1) rfl rfl (by decide +kernel) ⟨by decide, by decide⟩ (ci := 3) (q0 := 0) rfl rfl (fun _ _ _ _ _ => trivial) (fun _ _ _ => trivial) rfl rfl hl.1 (Nat.le_of_ble_eq_true rfl) dX11_heir_8 ⟨by decide, by decide⟩) hP hS hA (fun r_1 _ H locs hw hP hS => ?_)
  have hw : r_1 = 0 := hw
  subst hw
  refine lv_if_eq (tgt := 34) hx hb dX11_heir_11 (by decide) (fun _ => ?_) (fun c9 => absurd (by decide) c9)
  refine lv_iconst (v := (-1)) hx hb dX11_heir_34 (by decide) ?_
  have hP9 : va_P g.1 vwCl [] H := hP.sub [] rfl
  have hD9 : va_D A [] := ⟨fun i j p q h => by simp at h, fun k q h => by simp at h⟩
  exact W.iret (v := (-1)) hx hb hr (fun t ht hW => ⟨⟨(-1), (), rfl, rfl, by rw [ht]; exact hP9, by rw [hAe]; exact hD9⟩, hS.F ht⟩) hS.2.2 dX11_heir_35

theorem bw_40 : Cond.code yX11_his cX11_his 6 (some .int) ∈ gT := gT_tb 972 (by decide +kernel) (by decide +kernel)
theorem dX11_his_0 : decode cX11_his 0 = .ok (.aload_n 0, 1) := by decide +kernel
theorem dX11_his_1 : decode cX11_his 1 = .ok (.getfield 23, 3) := by decide +kernel
theorem dX11_his_4 : decode cX11_his 4 = .ok (.getfield 97, 3) := by decide +kernel
theorem dX11_his_7 : decode cX11_his 7 = .ok (.iload_n 1, 1) := by decide +kernel
theorem dX11_his_8 : decode cX11_his 8 = .ok (.invokevirtual 112, 3) := by decide +kernel
theorem dX11_his_11 : decode cX11_his 11 = .ok (.ifCond .ne 5, 3) := by decide +kernel
theorem dX11_his_14 : decode cX11_his 14 = .ok (.iconst (-1), 1) := by decide +kernel
theorem dX11_his_15 : decode cX11_his 15 = .ok (.ireturn, 1) := by decide +kernel
set_option maxHeartbeats 4000000 in
set_option maxRecDepth 100000 in
theorem c_X11_his (l : Launch) (g : GG) (sz : Nat) (x : Nat) (xt : Nat) (xr : Nat) (la : Nat) (lb : Nat) (sa : Nat) (ba : Nat) (se : Nat) (si : Nat) (pa : Nat) (he : Nat) (mea : Nat) (foa : Nat) (rea : Nat) (d1a : Nat) (d2a : Nat) (d3a : Nat) (m1a : Nat) (m2a : Nat) (m3a : Nat) (m4a : Nat) (p0 : Int32) : Met l yX11_his (.code yX11_his cX11_his 6 (some .int) :: gT) ({ frames := 1, cells := 0, slots := 0, locals := 21 }) (va_Pc [.ref x, .int p0] (Pst g sz [(x, .inr (11, [.ref xt, .int 0, .ref xr, .ref la, .ref lb, .ref sa, .int 0, .int 0, .ref ba, .int 0, .ref se, .ref si, .ref pa, .ref he])), (la, .inr (2, [.ref mea, .ref foa, .ref rea, .int 0, .ref d1a, .ref d2a, .int 9, .int 0, .ref d3a])), (mea, .inr (3, [.int 0, .ref m1a, .ref m2a, .ref m3a, .ref m4a]))] nX)) (va_Qi (fun (r : Int32) (_ : Unit) => r = (-1)) (Qst g [] sz (fun _ => [])) (va_A [] sz)) 0 0 (va_A [] sz) := by
  refine Met.ofW (cc := cX11_his) (maxL := 6) (ret := (some .int)) (by decide) rfl ?_
  intro p e s m args below meth c s₁ B hml hv
  obtain ⟨rfl, hsz, hP, hK, hD0, hX⟩ := hv
  have hx := B.exec
  have hb := B.bytes
  have hr := B.returns
  have hT : ∀ w ∈ gT, w.before _ s = true := fun w h => atoms_spec (ws := .code yX11_his cX11_his 6 (some .int) :: gT) B.pre w (List.mem_cons_of_mem _ h)
  have hown : s.vm.findClass RX11 = some m.cls := findClass_of_methodNamed B.named
  have hlocks := B.notSynchronized
  subst hsz
  have hD := hD0
  generalize hAe : va_A [] s.heap.size = A at ⊢
  have hA : ∀ q : Nat, s.heap.size ≤ q → A q := fun q h => by rw [← hAe]; exact Or.inr h
  have hS : va_S A s.heap s.heap [] := va_S.rf
  have hl := lv_entry ([.ref x, .int p0]) (n := 6) (Nat.le_of_ble_eq_true rfl)
  rw [lg_entry_eq]
  generalize (lg_sl ([.ref x, .int p0]) ++ List.replicate (6 - (lg_sl ([.ref x, .int p0])).length) Slot.unset).toArray = ls at hl ⊢
  have hl : lv_has ls 6 [(0, .ref x), (1, .int p0)] := hl
  refine p_nH (fun H hH => ?_)
  have hP : va_P g.1 vwCl [(x, .inr (11, [.ref xt, .int 0, .ref xr, .ref la, .ref lb, .ref sa, .int 0, .int 0, .ref ba, .int 0, .ref se, .ref si, .ref pa, .ref he])), (la, .inr (2, [.ref mea, .ref foa, .ref rea, .int 0, .ref d1a, .ref d2a, .int 9, .int 0, .ref d3a])), (mea, .inr (3, [.int 0, .ref m1a, .ref m2a, .ref m3a, .ref m4a]))] H := by rw [hH]; exact hP
  have hS : va_S A s.heap H [] := by rw [hH]; exact hS
  refine lv_aload_n hx hb dX11_his_0 rfl (lv_at hl 0 rfl) ?_
  refine va_get (D := g.1) (ci := 11) (v := .ref la) (C := RX11) (T := TX11) (N := 14) hx hb hT inF_X11 hown hK.1 hP 0 rfl rfl 3 (by decide) (hT _ bw_13) (fun _ h9 => h9) rfl dX11_his_1 ?_
  refine va_get (D := g.1) (ci := 2) (v := .ref mea) (C := RX2) (T := TX2) (N := 9) hx hb hT inF_X2 hown hK.1 hP 1 rfl rfl 0 (by decide) (hT _ bw_14) (fun _ h9 => h9) rfl dX11_his_4 ?_
  refine lv_iload_n hx hb dX11_his_7 rfl (lv_at hl 1 rfl) ?_
  refine k_iR (k_V (n := 1) ⟨hx, hb, hml, hown, hT⟩ hK hP hD [2] rfl (by decide) (c_X3_has l g H.size mea m1a m2a m3a m4a p0) (gV bw_15 bw_16 bw_17 bw_18 bw_1) rfl rfl (by decide +kernel) ⟨by decide, by decide⟩ (ci := 3) (q0 := 0) rfl rfl (fun _ _ _ _ _ => trivial) (fun _ _ _ => trivial) rfl rfl hl.1 (Nat.le_of_ble_eq_true rfl) dX11_his_8 ⟨by decide, by decide⟩) hP hS hA (fun r_1 _ H locs hw hP hS => ?_)
  have hw : r_1 = 0 := hw
  subst hw
  refine lv_if_ne (tgt := 16) hx hb dX11_his_11 (by decide) (fun c9 => absurd (by decide) c9) (fun _ => ?_)
  refine lv_iconst (v := (-1)) hx hb dX11_his_14 (by decide) ?_
  have hP9 : va_P g.1 vwCl [] H := hP.sub [] rfl
  have hD9 : va_D A [] := ⟨fun i j p q h => by simp at h, fun k q h => by simp at h⟩
  exact W.iret (v := (-1)) hx hb hr (fun t ht hW => ⟨⟨(-1), (), rfl, rfl, by rw [ht]; exact hP9, by rw [hAe]; exact hD9⟩, hS.F ht⟩) hS.2.2 dX11_his_15

theorem bw_41 : Cond.code yX11_comes cX11_comes 6 (some .int) ∈ gT := gT_tb 980 (by decide +kernel) (by decide +kernel)
theorem dX11_comes_0 : decode cX11_comes 0 = .ok (.aload_n 0, 1) := by decide +kernel
theorem dX11_comes_1 : decode cX11_comes 1 = .ok (.getfield 23, 3) := by decide +kernel
theorem dX11_comes_4 : decode cX11_comes 4 = .ok (.getfield 97, 3) := by decide +kernel
theorem dX11_comes_7 : decode cX11_comes 7 = .ok (.astore_n 3, 1) := by decide +kernel
theorem dX11_comes_8 : decode cX11_comes 8 = .ok (.aload_n 3, 1) := by decide +kernel
theorem dX11_comes_9 : decode cX11_comes 9 = .ok (.iload_n 1, 1) := by decide +kernel
theorem dX11_comes_10 : decode cX11_comes 10 = .ok (.invokevirtual 112, 3) := by decide +kernel
theorem dX11_comes_13 : decode cX11_comes 13 = .ok (.ifCond .eq 11, 3) := by decide +kernel
theorem dX11_comes_24 : decode cX11_comes 24 = .ok (.iconst (-1), 1) := by decide +kernel
theorem dX11_comes_25 : decode cX11_comes 25 = .ok (.ireturn, 1) := by decide +kernel
set_option maxHeartbeats 4000000 in
set_option maxRecDepth 100000 in
theorem c_X11_comes (l : Launch) (g : GG) (sz : Nat) (x : Nat) (xt : Nat) (xr : Nat) (la : Nat) (lb : Nat) (sa : Nat) (ba : Nat) (se : Nat) (si : Nat) (pa : Nat) (he : Nat) (mea : Nat) (foa : Nat) (rea : Nat) (d1a : Nat) (d2a : Nat) (d3a : Nat) (m1a : Nat) (m2a : Nat) (m3a : Nat) (m4a : Nat) (p0 : Int32) (p1 : Int32) : Met l yX11_comes (.code yX11_comes cX11_comes 6 (some .int) :: gT) ({ frames := 1, cells := 0, slots := 0, locals := 21 }) (va_Pc [.ref x, .int p0, .int p1] (Pst g sz [(x, .inr (11, [.ref xt, .int 0, .ref xr, .ref la, .ref lb, .ref sa, .int 0, .int 0, .ref ba, .int 0, .ref se, .ref si, .ref pa, .ref he])), (la, .inr (2, [.ref mea, .ref foa, .ref rea, .int 0, .ref d1a, .ref d2a, .int 9, .int 0, .ref d3a])), (mea, .inr (3, [.int 0, .ref m1a, .ref m2a, .ref m3a, .ref m4a]))] nX)) (va_Qi (fun (r : Int32) (_ : Unit) => r = (-1)) (Qst g [] sz (fun _ => [])) (va_A [] sz)) 0 0 (va_A [] sz) := by
  refine Met.ofW (cc := cX11_comes) (maxL := 6) (ret := (some .int)) (by decide) rfl ?_
  intro p e s m args below meth c s₁ B hml hv
  obtain ⟨rfl, hsz, hP, hK, hD0, hX⟩ := hv
  have hx := B.exec
  have hb := B.bytes
  have hr := B.returns
  have hT : ∀ w ∈ gT, w.before _ s = true := fun w h => atoms_spec (ws := .code yX11_comes cX11_comes 6 (some .int) :: gT) B.pre w (List.mem_cons_of_mem _ h)
  have hown : s.vm.findClass RX11 = some m.cls := findClass_of_methodNamed B.named
  have hlocks := B.notSynchronized
  subst hsz
  have hD := hD0
  generalize hAe : va_A [] s.heap.size = A at ⊢
  have hA : ∀ q : Nat, s.heap.size ≤ q → A q := fun q h => by rw [← hAe]; exact Or.inr h
  have hS : va_S A s.heap s.heap [] := va_S.rf
  have hl := lv_entry ([.ref x, .int p0, .int p1]) (n := 6) (Nat.le_of_ble_eq_true rfl)
  rw [lg_entry_eq]
  generalize (lg_sl ([.ref x, .int p0, .int p1]) ++ List.replicate (6 - (lg_sl ([.ref x, .int p0, .int p1])).length) Slot.unset).toArray = ls at hl ⊢
  have hl : lv_has ls 6 [(0, .ref x), (1, .int p0), (2, .int p1)] := hl
  refine p_nH (fun H hH => ?_)
  have hP : va_P g.1 vwCl [(x, .inr (11, [.ref xt, .int 0, .ref xr, .ref la, .ref lb, .ref sa, .int 0, .int 0, .ref ba, .int 0, .ref se, .ref si, .ref pa, .ref he])), (la, .inr (2, [.ref mea, .ref foa, .ref rea, .int 0, .ref d1a, .ref d2a, .int 9, .int 0, .ref d3a])), (mea, .inr (3, [.int 0, .ref m1a, .ref m2a, .ref m3a, .ref m4a]))] H := by rw [hH]; exact hP
  have hS : va_S A s.heap H [] := by rw [hH]; exact hS
  refine lv_aload_n hx hb dX11_comes_0 rfl (lv_at hl 0 rfl) ?_
  refine va_get (D := g.1) (ci := 11) (v := .ref la) (C := RX11) (T := TX11) (N := 14) hx hb hT inF_X11 hown hK.1 hP 0 rfl rfl 3 (by decide) (hT _ bw_13) (fun _ h9 => h9) rfl dX11_comes_1 ?_
  refine va_get (D := g.1) (ci := 2) (v := .ref mea) (C := RX2) (T := TX2) (N := 9) hx hb hT inF_X2 hown hK.1 hP 1 rfl rfl 0 (by decide) (hT _ bw_14) (fun _ h9 => h9) rfl dX11_comes_4 ?_
  refine lv_astore_n (lv' := [(3, .ref mea), (0, .ref x), (1, .int p0), (2, .int p1)]) hx hb dX11_comes_7 rfl hl (by decide) rfl (fun ls hl => ?_)
  refine lv_aload_n hx hb dX11_comes_8 rfl (lv_at hl 0 rfl) ?_
  refine lv_iload_n hx hb dX11_comes_9 rfl (lv_at hl 2 rfl) ?_
  refine k_iR (k_V (n := 1) ⟨hx, hb, hml, hown, hT⟩ hK hP hD [2] rfl (by decide) (c_X3_has l g H.size mea m1a m2a m3a m4a p0) (gV bw_15 bw_16 bw_17 bw_18 bw_1) rfl rfl (by decide +kernel) ⟨by decide, by decide⟩ (ci := 3) (q0 := 0) rfl rfl (fun _ _ _ _ _ => trivial) (fun _ _ _ => trivial) rfl rfl hl.1 (Nat.le_of_ble_eq_true rfl) dX11_comes_10 ⟨by decide, by decide⟩) hP hS hA (fun r_1 _ H locs hw hP hS => ?_)
  have hw : r_1 = 0 := hw
  subst hw
  refine lv_if_eq (tgt := 24) hx hb dX11_comes_13 (by decide) (fun _ => ?_) (fun c9 => absurd (by decide) c9)
  refine lv_iconst (v := (-1)) hx hb dX11_comes_24 (by decide) ?_
  have hP9 : va_P g.1 vwCl [] H := hP.sub [] rfl
  have hD9 : va_D A [] := ⟨fun i j p q h => by simp at h, fun k q h => by simp at h⟩
  exact W.iret (v := (-1)) hx hb hr (fun t ht hW => ⟨⟨(-1), (), rfl, rfl, by rw [ht]; exact hP9, by rw [hAe]; exact hD9⟩, hS.F ht⟩) hS.2.2 dX11_comes_25

theorem bw_42 : Cond.code yX11_put cX11_put 6 (some .int) ∈ gT := gT_tb 984 (by decide +kernel) (by decide +kernel)
theorem dX11_put_0 : decode cX11_put 0 = .ok (.aload_n 0, 1) := by decide +kernel
theorem dX11_put_1 : decode cX11_put 1 = .ok (.getfield 32, 3) := by decide +kernel
theorem dX11_put_4 : decode cX11_put 4 = .ok (.aload_n 0, 1) := by decide +kernel
theorem dX11_put_5 : decode cX11_put 5 = .ok (.getfield 84, 3) := by decide +kernel
theorem dX11_put_8 : decode cX11_put 8 = .ok (.aaload, 1) := by decide +kernel
theorem dX11_put_9 : decode cX11_put 9 = .ok (.astore 4, 2) := by decide +kernel
theorem dX11_put_11 : decode cX11_put 11 = .ok (.aload 4, 2) := by decide +kernel
theorem dX11_put_13 : decode cX11_put 13 = .ok (.iload_n 1, 1) := by decide +kernel
theorem dX11_put_14 : decode cX11_put 14 = .ok (.invokevirtual 132, 3) := by decide +kernel
theorem dX11_put_17 : decode cX11_put 17 = .ok (.ifCond .eq 24, 3) := by decide +kernel
theorem dX11_put_41 : decode cX11_put 41 = .ok (.iconst (-1), 1) := by decide +kernel
theorem dX11_put_42 : decode cX11_put 42 = .ok (.ireturn, 1) := by decide +kernel
set_option maxHeartbeats 4000000 in
set_option maxRecDepth 100000 in
theorem c_X11_put (l : Launch) (g : GG) (sz : Nat) (x : Nat) (xt : Nat) (xr : Nat) (la : Nat) (lb : Nat) (sa : Nat) (ba : Nat) (se : Nat) (si : Nat) (pa : Nat) (he : Nat) (s1 : Nat) (s0 : Nat) (t1u : Nat) (t2u : Nat) (t3u : Nat) (t4u : Nat) (t5u : Nat) (t6u : Nat) (t7u : Nat) (fs : Nat → Option Nat) (p0 : Int32) (p1 : Int32) (p2 : Int32) : Met l yX11_put (.code yX11_put cX11_put 6 (some .int) :: gT) ({ frames := 1, cells := 0, slots := 0, locals := 21 }) (va_Pc [.ref x, .int p0, .int p1, .int p2] (Pst g sz [(x, .inr (11, [.ref xt, .int 0, .ref xr, .ref la, .ref lb, .ref sa, .int 0, .int 0, .ref ba, .int 0, .ref se, .ref si, .ref pa, .ref he])), (sa, aO g 41 (va_up (va_up fs 0 (some s0)) 1 (some s1))), (s0, .inr (9, [.int 0, .int 0, .int 0, .int 0, .int 0, .int 0, .int 0, .ref t1u, .ref t2u, .ref t3u, .ref t4u, .ref t5u, .ref t6u, .ref t7u]))] nX)) (va_Qi (fun (r : Int32) (_ : Unit) => r = (-1)) (Qst g [] sz (fun _ => [])) (va_A [] sz)) 0 0 (va_A [] sz) := by
  refine Met.ofW (cc := cX11_put) (maxL := 6) (ret := (some .int)) (by decide) rfl ?_
  intro p e s m args below meth c s₁ B hml hv
  obtain ⟨rfl, hsz, hP, hK, hD0, hX⟩ := hv
  have hx := B.exec
  have hb := B.bytes
  have hr := B.returns
  have hT : ∀ w ∈ gT, w.before _ s = true := fun w h => atoms_spec (ws := .code yX11_put cX11_put 6 (some .int) :: gT) B.pre w (List.mem_cons_of_mem _ h)
  have hown : s.vm.findClass RX11 = some m.cls := findClass_of_methodNamed B.named
  have hlocks := B.notSynchronized
  subst hsz
  have hD := hD0
  generalize hAe : va_A [] s.heap.size = A at ⊢
  have hA : ∀ q : Nat, s.heap.size ≤ q → A q := fun q h => by rw [← hAe]; exact Or.inr h
  have hS : va_S A s.heap s.heap [] := va_S.rf
  have hl := lv_entry ([.ref x, .int p0, .int p1, .int p2]) (n := 6) (Nat.le_of_ble_eq_true rfl)
  rw [lg_entry_eq]
  generalize (lg_sl ([.ref x, .int p0, .int p1, .int p2]) ++ List.replicate (6 - (lg_sl ([.ref x, .int p0, .int p1, .int p2])).length) Slot.unset).toArray = ls at hl ⊢
  have hl : lv_has ls 6 [(0, .ref x), (1, .int p0), (2, .int p1), (3, .int p2)] := hl
  refine p_nH (fun H hH => ?_)
  have hP : va_P g.1 vwCl [(x, .inr (11, [.ref xt, .int 0, .ref xr, .ref la, .ref lb, .ref sa, .int 0, .int 0, .ref ba, .int 0, .ref se, .ref si, .ref pa, .ref he])), (sa, aO g 41 (va_up (va_up fs 0 (some s0)) 1 (some s1))), (s0, .inr (9, [.int 0, .int 0, .int 0, .int 0, .int 0, .int 0, .int 0, .ref t1u, .ref t2u, .ref t3u, .ref t4u, .ref t5u, .ref t6u, .ref t7u]))] H := by rw [hH]; exact hP
  have hS : va_S A s.heap H [] := by rw [hH]; exact hS
  refine lv_aload_n hx hb dX11_put_0 rfl (lv_at hl 0 rfl) ?_
  refine va_get (D := g.1) (ci := 11) (v := .ref sa) (C := RX11) (T := TX11) (N := 14) hx hb hT inF_X11 hown hK.1 hP 0 rfl rfl 5 (by decide) (hT _ bw_20) (fun _ h9 => h9) rfl dX11_put_1 ?_
  refine lv_aload_n hx hb dX11_put_4 rfl (lv_at hl 0 rfl) ?_
  refine va_get (D := g.1) (ci := 11) (v := .int 0) (C := RX11) (T := TX11) (N := 14) hx hb hT inF_X11 hown hK.1 hP 0 rfl rfl 6 (by decide) (hT _ bw_21) (fun _ h9 => h9) rfl dX11_put_5 ?_
  refine va_aldq hx hb hK.1 hP 1 4 rfl rfl (i := 0) (by unfold vp_in; decide) dX11_put_8 ?_
  refine p_tr (x := s0) (rfl) ?_
  refine lv_astore (lv' := [(4, .ref s0), (0, .ref x), (1, .int p0), (2, .int p1), (3, .int p2)]) hx hb dX11_put_9 hl (by decide) rfl (fun ls hl => ?_)
  refine lv_aload hx hb dX11_put_11 (lv_at hl 0 rfl) ?_
  refine lv_iload_n hx hb dX11_put_13 rfl (lv_at hl 2 rfl) ?_
  refine k_iR (k_V (n := 1) ⟨hx, hb, hml, hown, hT⟩ hK hP hD [2] rfl (by decide) (c_X9_hasDuel l g H.size s0 t1u t2u t3u t4u t5u t6u t7u p0) (gV bw_22 bw_23 bw_24 bw_25 bw_5) rfl rfl (by decide +kernel) ⟨by decide, by decide⟩ (ci := 9) (q0 := 0) rfl rfl (fun _ _ _ _ _ => trivial) (fun _ _ _ => trivial) rfl rfl hl.1 (Nat.le_of_ble_eq_true rfl) dX11_put_14 ⟨by decide, by decide⟩) hP hS hA (fun r_1 _ H locs hw hP hS => ?_)
  have hw : r_1 = 0 := hw
  subst hw
  refine lv_if_eq (tgt := 41) hx hb dX11_put_17 (by decide) (fun _ => ?_) (fun c9 => absurd (by decide) c9)
  refine lv_iconst (v := (-1)) hx hb dX11_put_41 (by decide) ?_
  have hP9 : va_P g.1 vwCl [] H := hP.sub [] rfl
  have hD9 : va_D A [] := ⟨fun i j p q h => by simp at h, fun k q h => by simp at h⟩
  exact W.iret (v := (-1)) hx hb hr (fun t ht hW => ⟨⟨(-1), (), rfl, rfl, by rw [ht]; exact hP9, by rw [hAe]; exact hD9⟩, hS.F ht⟩) hS.2.2 dX11_put_42

theorem bw_43 : Cond.code yX11_rent cX11_rent 6 (some .int) ∈ gT := gT_tb 1011 (by decide +kernel) (by decide +kernel)
theorem dX11_rent_0 : decode cX11_rent 0 = .ok (.aload_n 0, 1) := by decide +kernel
theorem dX11_rent_1 : decode cX11_rent 1 = .ok (.getfield 32, 3) := by decide +kernel
theorem dX11_rent_4 : decode cX11_rent 4 = .ok (.aload_n 0, 1) := by decide +kernel
theorem dX11_rent_5 : decode cX11_rent 5 = .ok (.getfield 84, 3) := by decide +kernel
theorem dX11_rent_8 : decode cX11_rent 8 = .ok (.aaload, 1) := by decide +kernel
theorem dX11_rent_9 : decode cX11_rent 9 = .ok (.astore_n 3, 1) := by decide +kernel
theorem dX11_rent_10 : decode cX11_rent 10 = .ok (.aload_n 0, 1) := by decide +kernel
theorem dX11_rent_11 : decode cX11_rent 11 = .ok (.getfield 23, 3) := by decide +kernel
theorem dX11_rent_14 : decode cX11_rent 14 = .ok (.getfield 97, 3) := by decide +kernel
theorem dX11_rent_17 : decode cX11_rent 17 = .ok (.iload_n 1, 1) := by decide +kernel
theorem dX11_rent_18 : decode cX11_rent 18 = .ok (.invokevirtual 112, 3) := by decide +kernel
theorem dX11_rent_21 : decode cX11_rent 21 = .ok (.ifCond .eq 25, 3) := by decide +kernel
theorem dX11_rent_46 : decode cX11_rent 46 = .ok (.iconst (-1), 1) := by decide +kernel
theorem dX11_rent_47 : decode cX11_rent 47 = .ok (.ireturn, 1) := by decide +kernel
set_option maxHeartbeats 4000000 in
set_option maxRecDepth 100000 in
theorem c_X11_rent (l : Launch) (g : GG) (sz : Nat) (x : Nat) (xt : Nat) (xr : Nat) (la : Nat) (lb : Nat) (sa : Nat) (ba : Nat) (se : Nat) (si : Nat) (pa : Nat) (he : Nat) (mea : Nat) (foa : Nat) (rea : Nat) (d1a : Nat) (d2a : Nat) (d3a : Nat) (m1a : Nat) (m2a : Nat) (m3a : Nat) (m4a : Nat) (s1 : Nat) (s0 : Nat) (fs : Nat → Option Nat) (p0 : Int32) (p1 : Int32) : Met l yX11_rent (.code yX11_rent cX11_rent 6 (some .int) :: gT) ({ frames := 1, cells := 0, slots := 0, locals := 21 }) (va_Pc [.ref x, .int p0, .int p1] (Pst g sz [(x, .inr (11, [.ref xt, .int 0, .ref xr, .ref la, .ref lb, .ref sa, .int 0, .int 0, .ref ba, .int 0, .ref se, .ref si, .ref pa, .ref he])), (la, .inr (2, [.ref mea, .ref foa, .ref rea, .int 0, .ref d1a, .ref d2a, .int 9, .int 0, .ref d3a])), (mea, .inr (3, [.int 0, .ref m1a, .ref m2a, .ref m3a, .ref m4a])), (sa, aO g 41 (va_up (va_up fs 0 (some s0)) 1 (some s1)))] nX)) (va_Qi (fun (r : Int32) (_ : Unit) => r = (-1)) (Qst g [] sz (fun _ => [])) (va_A [] sz)) 0 0 (va_A [] sz) := by
  refine Met.ofW (cc := cX11_rent) (maxL := 6) (ret := (some .int)) (by decide) rfl ?_
  intro p e s m args below meth c s₁ B hml hv
  obtain ⟨rfl, hsz, hP, hK, hD0, hX⟩ := hv
  have hx := B.exec
  have hb := B.bytes
  have hr := B.returns
  have hT : ∀ w ∈ gT, w.before _ s = true := fun w h => atoms_spec (ws := .code yX11_rent cX11_rent 6 (some .int) :: gT) B.pre w (List.mem_cons_of_mem _ h)
  have hown : s.vm.findClass RX11 = some m.cls := findClass_of_methodNamed B.named
  have hlocks := B.notSynchronized
  subst hsz
  have hD := hD0
  generalize hAe : va_A [] s.heap.size = A at ⊢
  have hA : ∀ q : Nat, s.heap.size ≤ q → A q := fun q h => by rw [← hAe]; exact Or.inr h
  have hS : va_S A s.heap s.heap [] := va_S.rf
  have hl := lv_entry ([.ref x, .int p0, .int p1]) (n := 6) (Nat.le_of_ble_eq_true rfl)
  rw [lg_entry_eq]
  generalize (lg_sl ([.ref x, .int p0, .int p1]) ++ List.replicate (6 - (lg_sl ([.ref x, .int p0, .int p1])).length) Slot.unset).toArray = ls at hl ⊢
  have hl : lv_has ls 6 [(0, .ref x), (1, .int p0), (2, .int p1)] := hl
  refine p_nH (fun H hH => ?_)
  have hP : va_P g.1 vwCl [(x, .inr (11, [.ref xt, .int 0, .ref xr, .ref la, .ref lb, .ref sa, .int 0, .int 0, .ref ba, .int 0, .ref se, .ref si, .ref pa, .ref he])), (la, .inr (2, [.ref mea, .ref foa, .ref rea, .int 0, .ref d1a, .ref d2a, .int 9, .int 0, .ref d3a])), (mea, .inr (3, [.int 0, .ref m1a, .ref m2a, .ref m3a, .ref m4a])), (sa, aO g 41 (va_up (va_up fs 0 (some s0)) 1 (some s1)))] H := by rw [hH]; exact hP
  have hS : va_S A s.heap H [] := by rw [hH]; exact hS
  refine lv_aload_n hx hb dX11_rent_0 rfl (lv_at hl 0 rfl) ?_
  refine va_get (D := g.1) (ci := 11) (v := .ref sa) (C := RX11) (T := TX11) (N := 14) hx hb hT inF_X11 hown hK.1 hP 0 rfl rfl 5 (by decide) (hT _ bw_20) (fun _ h9 => h9) rfl dX11_rent_1 ?_
  refine lv_aload_n hx hb dX11_rent_4 rfl (lv_at hl 0 rfl) ?_
  refine va_get (D := g.1) (ci := 11) (v := .int 0) (C := RX11) (T := TX11) (N := 14) hx hb hT inF_X11 hown hK.1 hP 0 rfl rfl 6 (by decide) (hT _ bw_21) (fun _ h9 => h9) rfl dX11_rent_5 ?_
  refine va_aldq hx hb hK.1 hP 3 4 rfl rfl (i := 0) (by unfold vp_in; decide) dX11_rent_8 ?_
  refine p_tr (x := s0) (rfl) ?_
  refine lv_astore_n (lv' := [(3, .ref s0), (0, .ref x), (1, .int p0), (2, .int p1)]) hx hb dX11_rent_9 rfl hl (by decide) rfl (fun ls hl => ?_)
  refine lv_aload_n hx hb dX11_rent_10 rfl (lv_at hl 1 rfl) ?_
  refine va_get (D := g.1) (ci := 11) (v := .ref la) (C := RX11) (T := TX11) (N := 14) hx hb hT inF_X11 hown hK.1 hP 0 rfl rfl 3 (by decide) (hT _ bw_13) (fun _ h9 => h9) rfl dX11_rent_11 ?_
  refine va_get (D := g.1) (ci := 2) (v := .ref mea) (C := RX2) (T := TX2) (N := 9) hx hb hT inF_X2 hown hK.1 hP 1 rfl rfl 0 (by decide) (hT _ bw_14) (fun _ h9 => h9) rfl dX11_rent_14 ?_
  refine lv_iload_n hx hb dX11_rent_17 rfl (lv_at hl 2 rfl) ?_
  refine k_iR (k_V (n := 1) ⟨hx, hb, hml, hown, hT⟩ hK hP hD [2] rfl (by decide) (c_X3_has l g H.size mea m1a m2a m3a m4a p0) (gV bw_15 bw_16 bw_17 bw_18 bw_1) rfl rfl (by decide +kernel) ⟨by decide, by decide⟩ (ci := 3) (q0 := 0) rfl rfl (fun _ _ _ _ _ => trivial) (fun _ _ _ => trivial) rfl rfl hl.1 (Nat.le_of_ble_eq_true rfl) dX11_rent_18 ⟨by decide, by decide⟩) hP hS hA (fun r_1 _ H locs hw hP hS => ?_)
  have hw : r_1 = 0 := hw
  subst hw
  refine lv_if_eq (tgt := 46) hx hb dX11_rent_21 (by decide) (fun _ => ?_) (fun c9 => absurd (by decide) c9)
  refine lv_iconst (v := (-1)) hx hb dX11_rent_46 (by decide) ?_
  have hP9 : va_P g.1 vwCl [] H := hP.sub [] rfl
  have hD9 : va_D A [] := ⟨fun i j p q h => by simp at h, fun k q h => by simp at h⟩
  exact W.iret (v := (-1)) hx hb hr (fun t ht hW => ⟨⟨(-1), (), rfl, rfl, by rw [ht]; exact hP9, by rw [hAe]; exact hD9⟩, hS.F ht⟩) hS.2.2 dX11_rent_47

theorem bw_44 : Cond.code yX11_strike cX11_strike 2 (some .boolean) ∈ gT := gT_tb 1016 (by decide +kernel) (by decide +kernel)
theorem dX11_strike_0 : decode cX11_strike 0 = .ok (.aload_n 0, 1) := by decide +kernel
theorem dX11_strike_1 : decode cX11_strike 1 = .ok (.getfield 23, 3) := by decide +kernel
theorem dX11_strike_4 : decode cX11_strike 4 = .ok (.getfield 157, 3) := by decide +kernel
theorem dX11_strike_7 : decode cX11_strike 7 = .ok (.iload_n 1, 1) := by decide +kernel
theorem dX11_strike_8 : decode cX11_strike 8 = .ok (.invokevirtual 161, 3) := by decide +kernel
theorem dX11_strike_11 : decode cX11_strike 11 = .ok (.ifCond .eq 19, 3) := by decide +kernel
theorem dX11_strike_30 : decode cX11_strike 30 = .ok (.iconst 0, 1) := by decide +kernel
theorem dX11_strike_31 : decode cX11_strike 31 = .ok (.ireturn, 1) := by decide +kernel
set_option maxHeartbeats 4000000 in
set_option maxRecDepth 100000 in
theorem c_X11_strike (l : Launch) (g : GG) (sz : Nat) (x : Nat) (xt : Nat) (xr : Nat) (la : Nat) (lb : Nat) (sa : Nat) (ba : Nat) (se : Nat) (si : Nat) (pa : Nat) (he : Nat) (mea : Nat) (foa : Nat) (rea : Nat) (d1a : Nat) (d2a : Nat) (d3a : Nat) (r1a : Nat) (r2a : Nat) (r3a : Nat) (r4a : Nat) (r5a : Nat) (r6a : Nat) (r7a : Nat) (p0 : Int32) : Met l yX11_strike (.code yX11_strike cX11_strike 2 (some .boolean) :: gT) ({ frames := 1, cells := 0, slots := 0, locals := 21 }) (va_Pc [.ref x, .int p0] (Pst g sz [(x, .inr (11, [.ref xt, .int 0, .ref xr, .ref la, .ref lb, .ref sa, .int 0, .int 0, .ref ba, .int 0, .ref se, .ref si, .ref pa, .ref he])), (la, .inr (2, [.ref mea, .ref foa, .ref rea, .int 0, .ref d1a, .ref d2a, .int 9, .int 0, .ref d3a])), (rea, .inr (6, [.int 0, .ref r1a, .ref r2a, .ref r3a, .ref r4a, .ref r5a, .ref r6a, .ref r7a]))] nX)) (va_Qi (fun (r : Int32) (_ : Unit) => r = 0) (Qst g [] sz (fun _ => [])) (va_A [] sz)) 0 0 (va_A [] sz) := by
  refine Met.ofW (cc := cX11_strike) (maxL := 2) (ret := (some .boolean)) (by decide) rfl ?_
  intro p e s m args below meth c s₁ B hml hv
  obtain ⟨rfl, hsz, hP, hK, hD0, hX⟩ := hv
  have hx := B.exec
  have hb := B.bytes
  have hr := B.returns
  have hT : ∀ w ∈ gT, w.before _ s = true := fun w h => atoms_spec (ws := .code yX11_strike cX11_strike 2 (some .boolean) :: gT) B.pre w (List.mem_cons_of_mem _ h)
  have hown : s.vm.findClass RX11 = some m.cls := findClass_of_methodNamed B.named
  have hlocks := B.notSynchronized
  subst hsz
  have hD := hD0
  generalize hAe : va_A [] s.heap.size = A at ⊢
  have hA : ∀ q : Nat, s.heap.size ≤ q → A q := fun q h => by rw [← hAe]; exact Or.inr h
  have hS : va_S A s.heap s.heap [] := va_S.rf
  have hl := lv_entry ([.ref x, .int p0]) (n := 2) (Nat.le_of_ble_eq_true rfl)
  rw [lg_entry_eq]
  generalize (lg_sl ([.ref x, .int p0]) ++ List.replicate (2 - (lg_sl ([.ref x, .int p0])).length) Slot.unset).toArray = ls at hl ⊢
  have hl : lv_has ls 2 [(0, .ref x), (1, .int p0)] := hl
  refine p_nH (fun H hH => ?_)
  have hP : va_P g.1 vwCl [(x, .inr (11, [.ref xt, .int 0, .ref xr, .ref la, .ref lb, .ref sa, .int 0, .int 0, .ref ba, .int 0, .ref se, .ref si, .ref pa, .ref he])), (la, .inr (2, [.ref mea, .ref foa, .ref rea, .int 0, .ref d1a, .ref d2a, .int 9, .int 0, .ref d3a])), (rea, .inr (6, [.int 0, .ref r1a, .ref r2a, .ref r3a, .ref r4a, .ref r5a, .ref r6a, .ref r7a]))] H := by rw [hH]; exact hP
  have hS : va_S A s.heap H [] := by rw [hH]; exact hS
  refine lv_aload_n hx hb dX11_strike_0 rfl (lv_at hl 0 rfl) ?_
  refine va_get (D := g.1) (ci := 11) (v := .ref la) (C := RX11) (T := TX11) (N := 14) hx hb hT inF_X11 hown hK.1 hP 0 rfl rfl 3 (by decide) (hT _ bw_13) (fun _ h9 => h9) rfl dX11_strike_1 ?_
  refine va_get (D := g.1) (ci := 2) (v := .ref rea) (C := RX2) (T := TX2) (N := 9) hx hb hT inF_X2 hown hK.1 hP 1 rfl rfl 2 (by decide) (hT _ bw_27) (fun _ h9 => h9) rfl dX11_strike_4 ?_
  refine lv_iload_n hx hb dX11_strike_7 rfl (lv_at hl 1 rfl) ?_
  refine k_iR (k_V (n := 1) ⟨hx, hb, hml, hown, hT⟩ hK hP hD [2] rfl (by decide) (c_X6_has l g H.size rea r1a r2a r3a r4a r5a r6a r7a p0) (gV bw_28 bw_29 bw_30 bw_31 bw_3) rfl rfl (by decide +kernel) ⟨by decide, by decide⟩ (ci := 6) (q0 := 0) rfl rfl (fun _ _ _ _ _ => trivial) (fun _ _ _ => trivial) rfl rfl hl.1 (Nat.le_of_ble_eq_true rfl) dX11_strike_8 ⟨by decide, by decide⟩) hP hS hA (fun r_1 _ H locs hw hP hS => ?_)
  have hw : r_1 = 0 := hw
  subst hw
  refine lv_if_eq (tgt := 30) hx hb dX11_strike_11 (by decide) (fun _ => ?_) (fun c9 => absurd (by decide) c9)
  refine lv_iconst (v := 0) hx hb dX11_strike_30 (by decide) ?_
  have hP9 : va_P g.1 vwCl [] H := hP.sub [] rfl
  have hD9 : va_D A [] := ⟨fun i j p q h => by simp at h, fun k q h => by simp at h⟩
  exact W.zret (v := 0) (ty := .boolean) hx hb hr rfl (fun t ht hW => ⟨⟨0, (), rfl, rfl, by rw [ht]; exact hP9, by rw [hAe]; exact hD9⟩, hS.F ht⟩) hS.2.2 dX11_strike_31

theorem bw_45 : Cond.code yX11_insult cX11_insult 5 (some .int) ∈ gT := gT_tb 1020 (by decide +kernel) (by decide +kernel)
theorem dX11_insult_0 : decode cX11_insult 0 = .ok (.aload_n 0, 1) := by decide +kernel
theorem dX11_insult_1 : decode cX11_insult 1 = .ok (.getfield 32, 3) := by decide +kernel
theorem dX11_insult_4 : decode cX11_insult 4 = .ok (.aload_n 0, 1) := by decide +kernel
theorem dX11_insult_5 : decode cX11_insult 5 = .ok (.getfield 84, 3) := by decide +kernel
theorem dX11_insult_8 : decode cX11_insult 8 = .ok (.aaload, 1) := by decide +kernel
theorem dX11_insult_9 : decode cX11_insult 9 = .ok (.astore_n 3, 1) := by decide +kernel
theorem dX11_insult_10 : decode cX11_insult 10 = .ok (.aload_n 0, 1) := by decide +kernel
theorem dX11_insult_11 : decode cX11_insult 11 = .ok (.getfield 23, 3) := by decide +kernel
theorem dX11_insult_14 : decode cX11_insult 14 = .ok (.getfield 97, 3) := by decide +kernel
theorem dX11_insult_17 : decode cX11_insult 17 = .ok (.iload_n 1, 1) := by decide +kernel
theorem dX11_insult_18 : decode cX11_insult 18 = .ok (.invokevirtual 112, 3) := by decide +kernel
theorem dX11_insult_21 : decode cX11_insult 21 = .ok (.ifCond .eq 31, 3) := by decide +kernel
theorem dX11_insult_52 : decode cX11_insult 52 = .ok (.iconst (-1), 1) := by decide +kernel
theorem dX11_insult_53 : decode cX11_insult 53 = .ok (.ireturn, 1) := by decide +kernel
set_option maxHeartbeats 4000000 in
set_option maxRecDepth 100000 in
theorem c_X11_insult (l : Launch) (g : GG) (sz : Nat) (x : Nat) (xt : Nat) (xr : Nat) (la : Nat) (lb : Nat) (sa : Nat) (ba : Nat) (se : Nat) (si : Nat) (pa : Nat) (he : Nat) (mea : Nat) (foa : Nat) (rea : Nat) (d1a : Nat) (d2a : Nat) (d3a : Nat) (m1a : Nat) (m2a : Nat) (m3a : Nat) (m4a : Nat) (s1 : Nat) (s0 : Nat) (fs : Nat → Option Nat) (p0 : Int32) (p1 : Int32) : Met l yX11_insult (.code yX11_insult cX11_insult 5 (some .int) :: gT) ({ frames := 1, cells := 0, slots := 0, locals := 21 }) (va_Pc [.ref x, .int p0, .int p1] (Pst g sz [(x, .inr (11, [.ref xt, .int 0, .ref xr, .ref la, .ref lb, .ref sa, .int 0, .int 0, .ref ba, .int 0, .ref se, .ref si, .ref pa, .ref he])), (la, .inr (2, [.ref mea, .ref foa, .ref rea, .int 0, .ref d1a, .ref d2a, .int 9, .int 0, .ref d3a])), (mea, .inr (3, [.int 0, .ref m1a, .ref m2a, .ref m3a, .ref m4a])), (sa, aO g 41 (va_up (va_up fs 0 (some s0)) 1 (some s1)))] nX)) (va_Qi (fun (r : Int32) (_ : Unit) => r = (-1)) (Qst g [] sz (fun _ => [])) (va_A [] sz)) 0 0 (va_A [] sz) := by
  refine Met.ofW (cc := cX11_insult) (maxL := 5) (ret := (some .int)) (by decide) rfl ?_
  intro p e s m args below meth c s₁ B hml hv
  obtain ⟨rfl, hsz, hP, hK, hD0, hX⟩ := hv
  have hx := B.exec
  have hb := B.bytes
  have hr := B.returns
  have hT : ∀ w ∈ gT, w.before _ s = true := fun w h => atoms_spec (ws := .code yX11_insult cX11_insult 5 (some .int) :: gT) B.pre w (List.mem_cons_of_mem _ h)
  have hown : s.vm.findClass RX11 = some m.cls := findClass_of_methodNamed B.named
  have hlocks := B.notSynchronized
  subst hsz
  have hD := hD0
  generalize hAe : va_A [] s.heap.size = A at ⊢
  have hA : ∀ q : Nat, s.heap.size ≤ q → A q := fun q h => by rw [← hAe]; exact Or.inr h
  have hS : va_S A s.heap s.heap [] := va_S.rf
  have hl := lv_entry ([.ref x, .int p0, .int p1]) (n := 5) (Nat.le_of_ble_eq_true rfl)
  rw [lg_entry_eq]
  generalize (lg_sl ([.ref x, .int p0, .int p1]) ++ List.replicate (5 - (lg_sl ([.ref x, .int p0, .int p1])).length) Slot.unset).toArray = ls at hl ⊢
  have hl : lv_has ls 5 [(0, .ref x), (1, .int p0), (2, .int p1)] := hl
  refine p_nH (fun H hH => ?_)
  have hP : va_P g.1 vwCl [(x, .inr (11, [.ref xt, .int 0, .ref xr, .ref la, .ref lb, .ref sa, .int 0, .int 0, .ref ba, .int 0, .ref se, .ref si, .ref pa, .ref he])), (la, .inr (2, [.ref mea, .ref foa, .ref rea, .int 0, .ref d1a, .ref d2a, .int 9, .int 0, .ref d3a])), (mea, .inr (3, [.int 0, .ref m1a, .ref m2a, .ref m3a, .ref m4a])), (sa, aO g 41 (va_up (va_up fs 0 (some s0)) 1 (some s1)))] H := by rw [hH]; exact hP
  have hS : va_S A s.heap H [] := by rw [hH]; exact hS
  refine lv_aload_n hx hb dX11_insult_0 rfl (lv_at hl 0 rfl) ?_
  refine va_get (D := g.1) (ci := 11) (v := .ref sa) (C := RX11) (T := TX11) (N := 14) hx hb hT inF_X11 hown hK.1 hP 0 rfl rfl 5 (by decide) (hT _ bw_20) (fun _ h9 => h9) rfl dX11_insult_1 ?_
  refine lv_aload_n hx hb dX11_insult_4 rfl (lv_at hl 0 rfl) ?_
  refine va_get (D := g.1) (ci := 11) (v := .int 0) (C := RX11) (T := TX11) (N := 14) hx hb hT inF_X11 hown hK.1 hP 0 rfl rfl 6 (by decide) (hT _ bw_21) (fun _ h9 => h9) rfl dX11_insult_5 ?_
  refine va_aldq hx hb hK.1 hP 3 4 rfl rfl (i := 0) (by unfold vp_in; decide) dX11_insult_8 ?_
  refine p_tr (x := s0) (rfl) ?_
  refine lv_astore_n (lv' := [(3, .ref s0), (0, .ref x), (1, .int p0), (2, .int p1)]) hx hb dX11_insult_9 rfl hl (by decide) rfl (fun ls hl => ?_)
  refine lv_aload_n hx hb dX11_insult_10 rfl (lv_at hl 1 rfl) ?_
  refine va_get (D := g.1) (ci := 11) (v := .ref la) (C := RX11) (T := TX11) (N := 14) hx hb hT inF_X11 hown hK.1 hP 0 rfl rfl 3 (by decide) (hT _ bw_13) (fun _ h9 => h9) rfl dX11_insult_11 ?_
  refine va_get (D := g.1) (ci := 2) (v := .ref mea) (C := RX2) (T := TX2) (N := 9) hx hb hT inF_X2 hown hK.1 hP 1 rfl rfl 0 (by decide) (hT _ bw_14) (fun _ h9 => h9) rfl dX11_insult_14 ?_
  refine lv_iload_n hx hb dX11_insult_17 rfl (lv_at hl 2 rfl) ?_
  refine k_iR (k_V (n := 1) ⟨hx, hb, hml, hown, hT⟩ hK hP hD [2] rfl (by decide) (c_X3_has l g H.size mea m1a m2a m3a m4a p0) (gV bw_15 bw_16 bw_17 bw_18 bw_1) rfl rfl (by decide +kernel) ⟨by decide, by decide⟩ (ci := 3) (q0 := 0) rfl rfl (fun _ _ _ _ _ => trivial) (fun _ _ _ => trivial) rfl rfl hl.1 (Nat.le_of_ble_eq_true rfl) dX11_insult_18 ⟨by decide, by decide⟩) hP hS hA (fun r_1 _ H locs hw hP hS => ?_)
  have hw : r_1 = 0 := hw
  subst hw
  refine lv_if_eq (tgt := 52) hx hb dX11_insult_21 (by decide) (fun _ => ?_) (fun c9 => absurd (by decide) c9)
  refine lv_iconst (v := (-1)) hx hb dX11_insult_52 (by decide) ?_
  have hP9 : va_P g.1 vwCl [] H := hP.sub [] rfl
  have hD9 : va_D A [] := ⟨fun i j p q h => by simp at h, fun k q h => by simp at h⟩
  exact W.iret (v := (-1)) hx hb hr (fun t ht hW => ⟨⟨(-1), (), rfl, rfl, by rw [ht]; exact hP9, by rw [hAe]; exact hD9⟩, hS.F ht⟩) hS.2.2 dX11_insult_53

theorem bw_46 : Cond.code yX11_undo cX11_undo 1 (some .boolean) ∈ gT := gT_tb 1048 (by decide +kernel) (by decide +kernel)
theorem dX11_undo_0 : decode cX11_undo 0 = .ok (.aload_n 0, 1) := by decide +kernel
theorem dX11_undo_1 : decode cX11_undo 1 = .ok (.getfield 84, 3) := by decide +kernel
theorem dX11_undo_4 : decode cX11_undo 4 = .ok (.ifCond .ne 5, 3) := by decide +kernel
theorem dX11_undo_7 : decode cX11_undo 7 = .ok (.iconst 0, 1) := by decide +kernel
theorem dX11_undo_8 : decode cX11_undo 8 = .ok (.ireturn, 1) := by decide +kernel
set_option maxHeartbeats 4000000 in
set_option maxRecDepth 100000 in
theorem c_X11_undo (l : Launch) (g : GG) (sz : Nat) (x : Nat) (xt : Nat) (xr : Nat) (la : Nat) (lb : Nat) (sa : Nat) (ba : Nat) (se : Nat) (si : Nat) (pa : Nat) (he : Nat) : Met l yX11_undo (.code yX11_undo cX11_undo 1 (some .boolean) :: gT) ({ frames := 0, cells := 0, slots := 0, locals := 0 }) (va_Pc [.ref x] (Pst g sz [(x, .inr (11, [.ref xt, .int 0, .ref xr, .ref la, .ref lb, .ref sa, .int 0, .int 0, .ref ba, .int 0, .ref se, .ref si, .ref pa, .ref he]))] nX)) (va_Qi (fun (r : Int32) (_ : Unit) => r = 0) (Qst g [] sz (fun _ => [])) (va_A [] sz)) 0 0 (va_A [] sz) := by
  refine Met.ofW (cc := cX11_undo) (maxL := 1) (ret := (some .boolean)) (by decide) rfl ?_
  intro p e s m args below meth c s₁ B hml hv
  obtain ⟨rfl, hsz, hP, hK, hD0, hX⟩ := hv
  have hx := B.exec
  have hb := B.bytes
  have hr := B.returns
  have hT : ∀ w ∈ gT, w.before _ s = true := fun w h => atoms_spec (ws := .code yX11_undo cX11_undo 1 (some .boolean) :: gT) B.pre w (List.mem_cons_of_mem _ h)
  have hown : s.vm.findClass RX11 = some m.cls := findClass_of_methodNamed B.named
  have hlocks := B.notSynchronized
  subst hsz
  have hD := hD0
  generalize hAe : va_A [] s.heap.size = A at ⊢
  have hA : ∀ q : Nat, s.heap.size ≤ q → A q := fun q h => by rw [← hAe]; exact Or.inr h
  have hS : va_S A s.heap s.heap [] := va_S.rf
  have hl := lv_entry ([.ref x]) (n := 1) (Nat.le_of_ble_eq_true rfl)
  rw [lg_entry_eq]
  generalize (lg_sl ([.ref x]) ++ List.replicate (1 - (lg_sl ([.ref x])).length) Slot.unset).toArray = ls at hl ⊢
  have hl : lv_has ls 1 [(0, .ref x)] := hl
  refine p_nH (fun H hH => ?_)
  have hP : va_P g.1 vwCl [(x, .inr (11, [.ref xt, .int 0, .ref xr, .ref la, .ref lb, .ref sa, .int 0, .int 0, .ref ba, .int 0, .ref se, .ref si, .ref pa, .ref he]))] H := by rw [hH]; exact hP
  have hS : va_S A s.heap H [] := by rw [hH]; exact hS
  refine lv_aload_n hx hb dX11_undo_0 rfl (lv_at hl 0 rfl) ?_
  refine va_get (D := g.1) (ci := 11) (v := .int 0) (C := RX11) (T := TX11) (N := 14) hx hb hT inF_X11 hown hK.1 hP 0 rfl rfl 6 (by decide) (hT _ bw_21) (fun _ h9 => h9) rfl dX11_undo_1 ?_
  refine lv_if_ne (tgt := 9) hx hb dX11_undo_4 (by decide) (fun c9 => absurd (by decide) c9) (fun _ => ?_)
  refine lv_iconst (v := 0) hx hb dX11_undo_7 (by decide) ?_
  have hP9 : va_P g.1 vwCl [] H := hP.sub [] rfl
  have hD9 : va_D A [] := ⟨fun i j p q h => by simp at h, fun k q h => by simp at h⟩
  exact W.zret (v := 0) (ty := .boolean) hx hb hr rfl (fun t ht hW => ⟨⟨0, (), rfl, rfl, by rw [ht]; exact hP9, by rw [hAe]; exact hD9⟩, hS.F ht⟩) hS.2.2 dX11_undo_8

theorem bw_47 : Cond.fieldLink RX11 87 "DuelDelays" "newest" "I" ∈ gT := gT_tb 528 (by decide +kernel) (by decide +kernel)
theorem bw_48 : Cond.code yX11_redo cX11_redo 1 (some .boolean) ∈ gT := gT_tb 1052 (by decide +kernel) (by decide +kernel)
theorem dX11_redo_0 : decode cX11_redo 0 = .ok (.aload_n 0, 1) := by decide +kernel
theorem dX11_redo_1 : decode cX11_redo 1 = .ok (.getfield 84, 3) := by decide +kernel
theorem dX11_redo_4 : decode cX11_redo 4 = .ok (.aload_n 0, 1) := by decide +kernel
theorem dX11_redo_5 : decode cX11_redo 5 = .ok (.getfield 87, 3) := by decide +kernel
theorem dX11_redo_8 : decode cX11_redo 8 = .ok (.if_icmp .lt 5, 3) := by decide +kernel
theorem dX11_redo_11 : decode cX11_redo 11 = .ok (.iconst 0, 1) := by decide +kernel
theorem dX11_redo_12 : decode cX11_redo 12 = .ok (.ireturn, 1) := by decide +kernel
set_option maxHeartbeats 4000000 in
set_option maxRecDepth 100000 in
theorem c_X11_redo (l : Launch) (g : GG) (sz : Nat) (x : Nat) (xt : Nat) (xr : Nat) (la : Nat) (lb : Nat) (sa : Nat) (ba : Nat) (se : Nat) (si : Nat) (pa : Nat) (he : Nat) : Met l yX11_redo (.code yX11_redo cX11_redo 1 (some .boolean) :: gT) ({ frames := 0, cells := 0, slots := 0, locals := 0 }) (va_Pc [.ref x] (Pst g sz [(x, .inr (11, [.ref xt, .int 0, .ref xr, .ref la, .ref lb, .ref sa, .int 0, .int 0, .ref ba, .int 0, .ref se, .ref si, .ref pa, .ref he]))] nX)) (va_Qi (fun (r : Int32) (_ : Unit) => r = 0) (Qst g [] sz (fun _ => [])) (va_A [] sz)) 0 0 (va_A [] sz) := by
  refine Met.ofW (cc := cX11_redo) (maxL := 1) (ret := (some .boolean)) (by decide) rfl ?_
  intro p e s m args below meth c s₁ B hml hv
  obtain ⟨rfl, hsz, hP, hK, hD0, hX⟩ := hv
  have hx := B.exec
  have hb := B.bytes
  have hr := B.returns
  have hT : ∀ w ∈ gT, w.before _ s = true := fun w h => atoms_spec (ws := .code yX11_redo cX11_redo 1 (some .boolean) :: gT) B.pre w (List.mem_cons_of_mem _ h)
  have hown : s.vm.findClass RX11 = some m.cls := findClass_of_methodNamed B.named
  have hlocks := B.notSynchronized
  subst hsz
  have hD := hD0
  generalize hAe : va_A [] s.heap.size = A at ⊢
  have hA : ∀ q : Nat, s.heap.size ≤ q → A q := fun q h => by rw [← hAe]; exact Or.inr h
  have hS : va_S A s.heap s.heap [] := va_S.rf
  have hl := lv_entry ([.ref x]) (n := 1) (Nat.le_of_ble_eq_true rfl)
  rw [lg_entry_eq]
  generalize (lg_sl ([.ref x]) ++ List.replicate (1 - (lg_sl ([.ref x])).length) Slot.unset).toArray = ls at hl ⊢
  have hl : lv_has ls 1 [(0, .ref x)] := hl
  refine p_nH (fun H hH => ?_)
  have hP : va_P g.1 vwCl [(x, .inr (11, [.ref xt, .int 0, .ref xr, .ref la, .ref lb, .ref sa, .int 0, .int 0, .ref ba, .int 0, .ref se, .ref si, .ref pa, .ref he]))] H := by rw [hH]; exact hP
  have hS : va_S A s.heap H [] := by rw [hH]; exact hS
  refine lv_aload_n hx hb dX11_redo_0 rfl (lv_at hl 0 rfl) ?_
  refine va_get (D := g.1) (ci := 11) (v := .int 0) (C := RX11) (T := TX11) (N := 14) hx hb hT inF_X11 hown hK.1 hP 0 rfl rfl 6 (by decide) (hT _ bw_21) (fun _ h9 => h9) rfl dX11_redo_1 ?_
  refine lv_aload_n hx hb dX11_redo_4 rfl (lv_at hl 0 rfl) ?_
  refine va_get (D := g.1) (ci := 11) (v := .int 0) (C := RX11) (T := TX11) (N := 14) hx hb hT inF_X11 hown hK.1 hP 0 rfl rfl 7 (by decide) (hT _ bw_47) (fun _ h9 => h9) rfl dX11_redo_5 ?_
  refine lv_icmp_lt (tgt := 13) hx hb dX11_redo_8 (by decide) (fun c9 => absurd c9 (by decide)) (fun _ => ?_)
  refine lv_iconst (v := 0) hx hb dX11_redo_11 (by decide) ?_
  have hP9 : va_P g.1 vwCl [] H := hP.sub [] rfl
  have hD9 : va_D A [] := ⟨fun i j p q h => by simp at h, fun k q h => by simp at h⟩
  exact W.zret (v := 0) (ty := .boolean) hx hb hr rfl (fun t ht hW => ⟨⟨0, (), rfl, rfl, by rw [ht]; exact hP9, by rw [hAe]; exact hD9⟩, hS.F ht⟩) hS.2.2 dX11_redo_12

theorem bw_49 : Cond.code yX11_late cX11_late 4 (some .int) ∈ gT := gT_tb 1132 (by decide +kernel) (by decide +kernel)
theorem dX11_late_0 : decode cX11_late 0 = .ok (.aload_n 0, 1) := by decide +kernel
theorem dX11_late_1 : decode cX11_late 1 = .ok (.getfield 32, 3) := by decide +kernel
theorem dX11_late_4 : decode cX11_late 4 = .ok (.aload_n 0, 1) := by decide +kernel
theorem dX11_late_5 : decode cX11_late 5 = .ok (.getfield 84, 3) := by decide +kernel
theorem dX11_late_8 : decode cX11_late 8 = .ok (.aaload, 1) := by decide +kernel
theorem dX11_late_9 : decode cX11_late 9 = .ok (.astore_n 3, 1) := by decide +kernel
theorem dX11_late_10 : decode cX11_late 10 = .ok (.iload_n 2, 1) := by decide +kernel
theorem dX11_late_11 : decode cX11_late 11 = .ok (.ifCond .lt 25, 3) := by decide +kernel
theorem dX11_late_14 : decode cX11_late 14 = .ok (.iload_n 2, 1) := by decide +kernel
theorem dX11_late_15 : decode cX11_late 15 = .ok (.bipush 16, 2) := by decide +kernel
theorem dX11_late_17 : decode cX11_late 17 = .ok (.if_icmp .gt 19, 3) := by decide +kernel
theorem dX11_late_20 : decode cX11_late 20 = .ok (.aload_n 3, 1) := by decide +kernel
theorem dX11_late_21 : decode cX11_late 21 = .ok (.iload_n 1, 1) := by decide +kernel
theorem dX11_late_22 : decode cX11_late 22 = .ok (.invokevirtual 132, 3) := by decide +kernel
theorem dX11_late_25 : decode cX11_late 25 = .ok (.ifCond .eq 11, 3) := by decide +kernel
theorem dX11_late_36 : decode cX11_late 36 = .ok (.iconst (-1), 1) := by decide +kernel
theorem dX11_late_37 : decode cX11_late 37 = .ok (.ireturn, 1) := by decide +kernel
set_option maxHeartbeats 4000000 in
set_option maxRecDepth 100000 in
theorem c_X11_late (l : Launch) (g : GG) (sz : Nat) (x : Nat) (xt : Nat) (xr : Nat) (la : Nat) (lb : Nat) (sa : Nat) (ba : Nat) (se : Nat) (si : Nat) (pa : Nat) (he : Nat) (s1 : Nat) (s0 : Nat) (t1u : Nat) (t2u : Nat) (t3u : Nat) (t4u : Nat) (t5u : Nat) (t6u : Nat) (t7u : Nat) (fs : Nat → Option Nat) (p0 : Int32) (p1 : Int32) : Met l yX11_late (.code yX11_late cX11_late 4 (some .int) :: gT) ({ frames := 1, cells := 0, slots := 0, locals := 21 }) (va_Pc [.ref x, .int p0, .int p1] (Pst g sz [(x, .inr (11, [.ref xt, .int 0, .ref xr, .ref la, .ref lb, .ref sa, .int 0, .int 0, .ref ba, .int 0, .ref se, .ref si, .ref pa, .ref he])), (sa, aO g 41 (va_up (va_up fs 0 (some s0)) 1 (some s1))), (s0, .inr (9, [.int 0, .int 0, .int 0, .int 0, .int 0, .int 0, .int 0, .ref t1u, .ref t2u, .ref t3u, .ref t4u, .ref t5u, .ref t6u, .ref t7u]))] nX)) (va_Qi (fun (r : Int32) (_ : Unit) => r = (-1)) (Qst g [] sz (fun _ => [])) (va_A [] sz)) 0 0 (va_A [] sz) := by
  refine Met.ofW (cc := cX11_late) (maxL := 4) (ret := (some .int)) (by decide) rfl ?_
  intro p e s m args below meth c s₁ B hml hv
  obtain ⟨rfl, hsz, hP, hK, hD0, hX⟩ := hv
  have hx := B.exec
  have hb := B.bytes
  have hr := B.returns
  have hT : ∀ w ∈ gT, w.before _ s = true := fun w h => atoms_spec (ws := .code yX11_late cX11_late 4 (some .int) :: gT) B.pre w (List.mem_cons_of_mem _ h)
  have hown : s.vm.findClass RX11 = some m.cls := findClass_of_methodNamed B.named
  have hlocks := B.notSynchronized
  subst hsz
  have hD := hD0
  generalize hAe : va_A [] s.heap.size = A at ⊢
  have hA : ∀ q : Nat, s.heap.size ≤ q → A q := fun q h => by rw [← hAe]; exact Or.inr h
  have hS : va_S A s.heap s.heap [] := va_S.rf
  have hl := lv_entry ([.ref x, .int p0, .int p1]) (n := 4) (Nat.le_of_ble_eq_true rfl)
  rw [lg_entry_eq]
  generalize (lg_sl ([.ref x, .int p0, .int p1]) ++ List.replicate (4 - (lg_sl ([.ref x, .int p0, .int p1])).length) Slot.unset).toArray = ls at hl ⊢
  have hl : lv_has ls 4 [(0, .ref x), (1, .int p0), (2, .int p1)] := hl
  refine p_nH (fun H hH => ?_)
  have hP : va_P g.1 vwCl [(x, .inr (11, [.ref xt, .int 0, .ref xr, .ref la, .ref lb, .ref sa, .int 0, .int 0, .ref ba, .int 0, .ref se, .ref si, .ref pa, .ref he])), (sa, aO g 41 (va_up (va_up fs 0 (some s0)) 1 (some s1))), (s0, .inr (9, [.int 0, .int 0, .int 0, .int 0, .int 0, .int 0, .int 0, .ref t1u, .ref t2u, .ref t3u, .ref t4u, .ref t5u, .ref t6u, .ref t7u]))] H := by rw [hH]; exact hP
  have hS : va_S A s.heap H [] := by rw [hH]; exact hS
  refine lv_aload_n hx hb dX11_late_0 rfl (lv_at hl 0 rfl) ?_
  refine va_get (D := g.1) (ci := 11) (v := .ref sa) (C := RX11) (T := TX11) (N := 14) hx hb hT inF_X11 hown hK.1 hP 0 rfl rfl 5 (by decide) (hT _ bw_20) (fun _ h9 => h9) rfl dX11_late_1 ?_
  refine lv_aload_n hx hb dX11_late_4 rfl (lv_at hl 0 rfl) ?_
  refine va_get (D := g.1) (ci := 11) (v := .int 0) (C := RX11) (T := TX11) (N := 14) hx hb hT inF_X11 hown hK.1 hP 0 rfl rfl 6 (by decide) (hT _ bw_21) (fun _ h9 => h9) rfl dX11_late_5 ?_
  refine va_aldq hx hb hK.1 hP 1 4 rfl rfl (i := 0) (by unfold vp_in; decide) dX11_late_8 ?_
  refine p_tr (x := s0) (rfl) ?_
  refine lv_astore_n (lv' := [(3, .ref s0), (0, .ref x), (1, .int p0), (2, .int p1)]) hx hb dX11_late_9 rfl hl (by decide) rfl (fun ls hl => ?_)
  refine lv_iload_n hx hb dX11_late_10 rfl (lv_at hl 3 rfl) ?_
  refine lv_if_lt (tgt := 36) hx hb dX11_late_11 (by decide) (fun c_1 => ?_) (fun c_1 => ?_)
  · refine lv_iconst (v := (-1)) hx hb dX11_late_36 (by decide) ?_
    have hP9 : va_P g.1 vwCl [] H := hP.sub [] rfl
    have hD9 : va_D A [] := ⟨fun i j p q h => by simp at h, fun k q h => by simp at h⟩
    exact W.iret (v := (-1)) hx hb hr (fun t ht hW => ⟨⟨(-1), (), rfl, rfl, by rw [ht]; exact hP9, by rw [hAe]; exact hD9⟩, hS.F ht⟩) hS.2.2 dX11_late_37
  · refine lv_iload_n hx hb dX11_late_14 rfl (lv_at hl 3 rfl) ?_
    refine lv_bipush (v := 16) hx hb dX11_late_15 (by decide) ?_
    refine lv_icmp_gt (tgt := 36) hx hb dX11_late_17 (by decide) (fun c_2 => ?_) (fun c_2 => ?_)
    · refine lv_iconst (v := (-1)) hx hb dX11_late_36 (by decide) ?_
      have hP9 : va_P g.1 vwCl [] H := hP.sub [] rfl
      have hD9 : va_D A [] := ⟨fun i j p q h => by simp at h, fun k q h => by simp at h⟩
      exact W.iret (v := (-1)) hx hb hr (fun t ht hW => ⟨⟨(-1), (), rfl, rfl, by rw [ht]; exact hP9, by rw [hAe]; exact hD9⟩, hS.F ht⟩) hS.2.2 dX11_late_37
    · refine lv_aload_n hx hb dX11_late_20 rfl (lv_at hl 0 rfl) ?_
      refine lv_iload_n hx hb dX11_late_21 rfl (lv_at hl 2 rfl) ?_
      refine k_iR (k_V (n := 1) ⟨hx, hb, hml, hown, hT⟩ hK hP hD [2] rfl (by decide) (c_X9_hasDuel l g H.size s0 t1u t2u t3u t4u t5u t6u t7u p0) (gV bw_22 bw_23 bw_24 bw_25 bw_5) rfl rfl (by decide +kernel) ⟨by decide, by decide⟩ (ci := 9) (q0 := 0) rfl rfl (fun _ _ _ _ _ => trivial) (fun _ _ _ => trivial) rfl rfl hl.1 (Nat.le_of_ble_eq_true rfl) dX11_late_22 ⟨by decide, by decide⟩) hP hS hA (fun r_3 _ H locs hw hP hS => ?_)
      have hw : r_3 = 0 := hw
      subst hw
      refine lv_if_eq (tgt := 36) hx hb dX11_late_25 (by decide) (fun _ => ?_) (fun c9 => absurd (by decide) c9)
      refine lv_iconst (v := (-1)) hx hb dX11_late_36 (by decide) ?_
      have hP9 : va_P g.1 vwCl [] H := hP.sub [] rfl
      have hD9 : va_D A [] := ⟨fun i j p q h => by simp at h, fun k q h => by simp at h⟩
      exact W.iret (v := (-1)) hx hb hr (fun t ht hW => ⟨⟨(-1), (), rfl, rfl, by rw [ht]; exact hP9, by rw [hAe]; exact hD9⟩, hS.F ht⟩) hS.2.2 dX11_late_37

theorem bw_50 : Cond.methodLink RX11 193 yX11_isSide ∈ gT := gT_tb 921 (by decide +kernel) (by decide +kernel)
theorem bw_51 : Cond.static yX11_isSide ∈ gT := gT_tb 922 (by decide +kernel) (by decide +kernel)
theorem bw_52 : Cond.initialized yX11_isSide.cls ∈ gT := gT_tb 1 (by decide +kernel) (by decide +kernel)
theorem bw_53 : Cond.code yX11_last cX11_last 4 (some .int) ∈ gT := gT_tb 1141 (by decide +kernel) (by decide +kernel)
theorem dX11_last_0 : decode cX11_last 0 = .ok (.aload_n 0, 1) := by decide +kernel
theorem dX11_last_1 : decode cX11_last 1 = .ok (.getfield 32, 3) := by decide +kernel
theorem dX11_last_4 : decode cX11_last 4 = .ok (.aload_n 0, 1) := by decide +kernel
theorem dX11_last_5 : decode cX11_last 5 = .ok (.getfield 84, 3) := by decide +kernel
theorem dX11_last_8 : decode cX11_last 8 = .ok (.aaload, 1) := by decide +kernel
theorem dX11_last_9 : decode cX11_last 9 = .ok (.astore_n 3, 1) := by decide +kernel
theorem dX11_last_10 : decode cX11_last 10 = .ok (.iload_n 2, 1) := by decide +kernel
theorem dX11_last_11 : decode cX11_last 11 = .ok (.invokestatic 193, 3) := by decide +kernel
theorem dX11_last_14 : decode cX11_last 14 = .ok (.ifCond .eq 19, 3) := by decide +kernel
theorem dX11_last_17 : decode cX11_last 17 = .ok (.aload_n 3, 1) := by decide +kernel
theorem dX11_last_18 : decode cX11_last 18 = .ok (.iload_n 1, 1) := by decide +kernel
theorem dX11_last_19 : decode cX11_last 19 = .ok (.invokevirtual 132, 3) := by decide +kernel
theorem dX11_last_22 : decode cX11_last 22 = .ok (.ifCond .eq 11, 3) := by decide +kernel
theorem dX11_last_33 : decode cX11_last 33 = .ok (.iconst (-1), 1) := by decide +kernel
theorem dX11_last_34 : decode cX11_last 34 = .ok (.ireturn, 1) := by decide +kernel
set_option maxHeartbeats 4000000 in
set_option maxRecDepth 100000 in
theorem c_X11_last (l : Launch) (g : GG) (sz : Nat) (x : Nat) (xt : Nat) (xr : Nat) (la : Nat) (lb : Nat) (sa : Nat) (ba : Nat) (se : Nat) (si : Nat) (pa : Nat) (he : Nat) (s1 : Nat) (s0 : Nat) (t1u : Nat) (t2u : Nat) (t3u : Nat) (t4u : Nat) (t5u : Nat) (t6u : Nat) (t7u : Nat) (fs : Nat → Option Nat) (p0 : Int32) (p1 : Int32) : Met l yX11_last (.code yX11_last cX11_last 4 (some .int) :: gT) ({ frames := 1, cells := 0, slots := 0, locals := 21 }) (va_Pc [.ref x, .int p0, .int p1] (Pst g sz [(x, .inr (11, [.ref xt, .int 0, .ref xr, .ref la, .ref lb, .ref sa, .int 0, .int 0, .ref ba, .int 0, .ref se, .ref si, .ref pa, .ref he])), (sa, aO g 41 (va_up (va_up fs 0 (some s0)) 1 (some s1))), (s0, .inr (9, [.int 0, .int 0, .int 0, .int 0, .int 0, .int 0, .int 0, .ref t1u, .ref t2u, .ref t3u, .ref t4u, .ref t5u, .ref t6u, .ref t7u]))] nX)) (va_Qi (fun (r : Int32) (_ : Unit) => r = (-1)) (Qst g [] sz (fun _ => [])) (va_A [] sz)) 0 0 (va_A [] sz) := by
  refine Met.ofW (cc := cX11_last) (maxL := 4) (ret := (some .int)) (by decide) rfl ?_
  intro p e s m args below meth c s₁ B hml hv
  obtain ⟨rfl, hsz, hP, hK, hD0, hX⟩ := hv
  have hx := B.exec
  have hb := B.bytes
  have hr := B.returns
  have hT : ∀ w ∈ gT, w.before _ s = true := fun w h => atoms_spec (ws := .code yX11_last cX11_last 4 (some .int) :: gT) B.pre w (List.mem_cons_of_mem _ h)
  have hown : s.vm.findClass RX11 = some m.cls := findClass_of_methodNamed B.named
  have hlocks := B.notSynchronized
  subst hsz
  have hD := hD0
  generalize hAe : va_A [] s.heap.size = A at ⊢
  have hA : ∀ q : Nat, s.heap.size ≤ q → A q := fun q h => by rw [← hAe]; exact Or.inr h
  have hS : va_S A s.heap s.heap [] := va_S.rf
  have hl := lv_entry ([.ref x, .int p0, .int p1]) (n := 4) (Nat.le_of_ble_eq_true rfl)
  rw [lg_entry_eq]
  generalize (lg_sl ([.ref x, .int p0, .int p1]) ++ List.replicate (4 - (lg_sl ([.ref x, .int p0, .int p1])).length) Slot.unset).toArray = ls at hl ⊢
  have hl : lv_has ls 4 [(0, .ref x), (1, .int p0), (2, .int p1)] := hl
  refine p_nH (fun H hH => ?_)
  have hP : va_P g.1 vwCl [(x, .inr (11, [.ref xt, .int 0, .ref xr, .ref la, .ref lb, .ref sa, .int 0, .int 0, .ref ba, .int 0, .ref se, .ref si, .ref pa, .ref he])), (sa, aO g 41 (va_up (va_up fs 0 (some s0)) 1 (some s1))), (s0, .inr (9, [.int 0, .int 0, .int 0, .int 0, .int 0, .int 0, .int 0, .ref t1u, .ref t2u, .ref t3u, .ref t4u, .ref t5u, .ref t6u, .ref t7u]))] H := by rw [hH]; exact hP
  have hS : va_S A s.heap H [] := by rw [hH]; exact hS
  refine lv_aload_n hx hb dX11_last_0 rfl (lv_at hl 0 rfl) ?_
  refine va_get (D := g.1) (ci := 11) (v := .ref sa) (C := RX11) (T := TX11) (N := 14) hx hb hT inF_X11 hown hK.1 hP 0 rfl rfl 5 (by decide) (hT _ bw_20) (fun _ h9 => h9) rfl dX11_last_1 ?_
  refine lv_aload_n hx hb dX11_last_4 rfl (lv_at hl 0 rfl) ?_
  refine va_get (D := g.1) (ci := 11) (v := .int 0) (C := RX11) (T := TX11) (N := 14) hx hb hT inF_X11 hown hK.1 hP 0 rfl rfl 6 (by decide) (hT _ bw_21) (fun _ h9 => h9) rfl dX11_last_5 ?_
  refine va_aldq hx hb hK.1 hP 1 4 rfl rfl (i := 0) (by unfold vp_in; decide) dX11_last_8 ?_
  refine p_tr (x := s0) (rfl) ?_
  refine lv_astore_n (lv' := [(3, .ref s0), (0, .ref x), (1, .int p0), (2, .int p1)]) hx hb dX11_last_9 rfl hl (by decide) rfl (fun ls hl => ?_)
  refine lv_iload_n hx hb dX11_last_10 rfl (lv_at hl 3 rfl) ?_
  refine k_iR (k_S (n := 1) ⟨hx, hb, hml, hown, hT⟩ hK hP hD [] rfl (by decide) (c_X11_isSide l g H.size p1) (gS bw_50 bw_51 bw_52 bw_12) rfl rfl (by decide +kernel) ⟨by decide, by decide⟩ (fun _ _ _ _ _ => trivial) (fun _ _ _ => trivial) rfl rfl hl.1 (Nat.le_of_ble_eq_true rfl) dX11_last_11 ⟨by decide, by decide⟩) hP hS hA (fun r_1 _ H locs hw hP hS => ?_)
  refine lv_if_eq (tgt := 33) hx hb dX11_last_14 (by decide) (fun c_2 => ?_) (fun c_2 => ?_)
  · refine lv_iconst (v := (-1)) hx hb dX11_last_33 (by decide) ?_
    have hP9 : va_P g.1 vwCl [] H := hP.sub [] rfl
    have hD9 : va_D A [] := ⟨fun i j p q h => by simp at h, fun k q h => by simp at h⟩
    exact W.iret (v := (-1)) hx hb hr (fun t ht hW => ⟨⟨(-1), (), rfl, rfl, by rw [ht]; exact hP9, by rw [hAe]; exact hD9⟩, hS.F ht⟩) hS.2.2 dX11_last_34
  · refine lv_aload_n hx hb dX11_last_17 rfl (lv_at hl 0 rfl) ?_
    refine lv_iload_n hx hb dX11_last_18 rfl (lv_at hl 2 rfl) ?_
    refine k_iR (k_V (n := 1) ⟨hx, hb, hml, hown, hT⟩ hK hP hD [2] rfl (by decide) (c_X9_hasDuel l g H.size s0 t1u t2u t3u t4u t5u t6u t7u p0) (gV bw_22 bw_23 bw_24 bw_25 bw_5) rfl rfl (by decide +kernel) ⟨by decide, by decide⟩ (ci := 9) (q0 := 0) rfl rfl (fun _ _ _ _ _ => trivial) (fun _ _ _ => trivial) rfl rfl hl.1 (Nat.le_of_ble_eq_true rfl) dX11_last_19 ⟨by decide, by decide⟩) hP hS hA (fun r_3 _ H locs hw hP hS => ?_)
    have hw : r_3 = 0 := hw
    subst hw
    refine lv_if_eq (tgt := 33) hx hb dX11_last_22 (by decide) (fun _ => ?_) (fun c9 => absurd (by decide) c9)
    refine lv_iconst (v := (-1)) hx hb dX11_last_33 (by decide) ?_
    have hP9 : va_P g.1 vwCl [] H := hP.sub [] rfl
    have hD9 : va_D A [] := ⟨fun i j p q h => by simp at h, fun k q h => by simp at h⟩
    exact W.iret (v := (-1)) hx hb hr (fun t ht hW => ⟨⟨(-1), (), rfl, rfl, by rw [ht]; exact hP9, by rw [hAe]; exact hD9⟩, hS.F ht⟩) hS.2.2 dX11_last_34

theorem bw_54 : Cond.code yX11_shun cX11_shun 6 (some .int) ∈ gT := gT_tb 1154 (by decide +kernel) (by decide +kernel)
theorem dX11_shun_0 : decode cX11_shun 0 = .ok (.aload_n 0, 1) := by decide +kernel
theorem dX11_shun_1 : decode cX11_shun 1 = .ok (.getfield 32, 3) := by decide +kernel
theorem dX11_shun_4 : decode cX11_shun 4 = .ok (.aload_n 0, 1) := by decide +kernel
theorem dX11_shun_5 : decode cX11_shun 5 = .ok (.getfield 84, 3) := by decide +kernel
theorem dX11_shun_8 : decode cX11_shun 8 = .ok (.aaload, 1) := by decide +kernel
theorem dX11_shun_9 : decode cX11_shun 9 = .ok (.astore_n 2, 1) := by decide +kernel
theorem dX11_shun_10 : decode cX11_shun 10 = .ok (.aload_n 0, 1) := by decide +kernel
theorem dX11_shun_11 : decode cX11_shun 11 = .ok (.getfield 23, 3) := by decide +kernel
theorem dX11_shun_14 : decode cX11_shun 14 = .ok (.getfield 97, 3) := by decide +kernel
theorem dX11_shun_17 : decode cX11_shun 17 = .ok (.iload_n 1, 1) := by decide +kernel
theorem dX11_shun_18 : decode cX11_shun 18 = .ok (.invokevirtual 112, 3) := by decide +kernel
theorem dX11_shun_21 : decode cX11_shun 21 = .ok (.ifCond .eq 20, 3) := by decide +kernel
theorem dX11_shun_41 : decode cX11_shun 41 = .ok (.iconst (-1), 1) := by decide +kernel
theorem dX11_shun_42 : decode cX11_shun 42 = .ok (.ireturn, 1) := by decide +kernel
set_option maxHeartbeats 4000000 in
set_option maxRecDepth 100000 in
theorem c_X11_shun (l : Launch) (g : GG) (sz : Nat) (x : Nat) (xt : Nat) (xr : Nat) (la : Nat) (lb : Nat) (sa : Nat) (ba : Nat) (se : Nat) (si : Nat) (pa : Nat) (he : Nat) (mea : Nat) (foa : Nat) (rea : Nat) (d1a : Nat) (d2a : Nat) (d3a : Nat) (m1a : Nat) (m2a : Nat) (m3a : Nat) (m4a : Nat) (s1 : Nat) (s0 : Nat) (fs : Nat → Option Nat) (p0 : Int32) : Met l yX11_shun (.code yX11_shun cX11_shun 6 (some .int) :: gT) ({ frames := 1, cells := 0, slots := 0, locals := 21 }) (va_Pc [.ref x, .int p0] (Pst g sz [(x, .inr (11, [.ref xt, .int 0, .ref xr, .ref la, .ref lb, .ref sa, .int 0, .int 0, .ref ba, .int 0, .ref se, .ref si, .ref pa, .ref he])), (la, .inr (2, [.ref mea, .ref foa, .ref rea, .int 0, .ref d1a, .ref d2a, .int 9, .int 0, .ref d3a])), (mea, .inr (3, [.int 0, .ref m1a, .ref m2a, .ref m3a, .ref m4a])), (sa, aO g 41 (va_up (va_up fs 0 (some s0)) 1 (some s1)))] nX)) (va_Qi (fun (r : Int32) (_ : Unit) => r = (-1)) (Qst g [] sz (fun _ => [])) (va_A [] sz)) 0 0 (va_A [] sz) := by
  refine Met.ofW (cc := cX11_shun) (maxL := 6) (ret := (some .int)) (by decide) rfl ?_
  intro p e s m args below meth c s₁ B hml hv
  obtain ⟨rfl, hsz, hP, hK, hD0, hX⟩ := hv
  have hx := B.exec
  have hb := B.bytes
  have hr := B.returns
  have hT : ∀ w ∈ gT, w.before _ s = true := fun w h => atoms_spec (ws := .code yX11_shun cX11_shun 6 (some .int) :: gT) B.pre w (List.mem_cons_of_mem _ h)
  have hown : s.vm.findClass RX11 = some m.cls := findClass_of_methodNamed B.named
  have hlocks := B.notSynchronized
  subst hsz
  have hD := hD0
  generalize hAe : va_A [] s.heap.size = A at ⊢
  have hA : ∀ q : Nat, s.heap.size ≤ q → A q := fun q h => by rw [← hAe]; exact Or.inr h
  have hS : va_S A s.heap s.heap [] := va_S.rf
  have hl := lv_entry ([.ref x, .int p0]) (n := 6) (Nat.le_of_ble_eq_true rfl)
  rw [lg_entry_eq]
  generalize (lg_sl ([.ref x, .int p0]) ++ List.replicate (6 - (lg_sl ([.ref x, .int p0])).length) Slot.unset).toArray = ls at hl ⊢
  have hl : lv_has ls 6 [(0, .ref x), (1, .int p0)] := hl
  refine p_nH (fun H hH => ?_)
  have hP : va_P g.1 vwCl [(x, .inr (11, [.ref xt, .int 0, .ref xr, .ref la, .ref lb, .ref sa, .int 0, .int 0, .ref ba, .int 0, .ref se, .ref si, .ref pa, .ref he])), (la, .inr (2, [.ref mea, .ref foa, .ref rea, .int 0, .ref d1a, .ref d2a, .int 9, .int 0, .ref d3a])), (mea, .inr (3, [.int 0, .ref m1a, .ref m2a, .ref m3a, .ref m4a])), (sa, aO g 41 (va_up (va_up fs 0 (some s0)) 1 (some s1)))] H := by rw [hH]; exact hP
  have hS : va_S A s.heap H [] := by rw [hH]; exact hS
  refine lv_aload_n hx hb dX11_shun_0 rfl (lv_at hl 0 rfl) ?_
  refine va_get (D := g.1) (ci := 11) (v := .ref sa) (C := RX11) (T := TX11) (N := 14) hx hb hT inF_X11 hown hK.1 hP 0 rfl rfl 5 (by decide) (hT _ bw_20) (fun _ h9 => h9) rfl dX11_shun_1 ?_
  refine lv_aload_n hx hb dX11_shun_4 rfl (lv_at hl 0 rfl) ?_
  refine va_get (D := g.1) (ci := 11) (v := .int 0) (C := RX11) (T := TX11) (N := 14) hx hb hT inF_X11 hown hK.1 hP 0 rfl rfl 6 (by decide) (hT _ bw_21) (fun _ h9 => h9) rfl dX11_shun_5 ?_
  refine va_aldq hx hb hK.1 hP 3 4 rfl rfl (i := 0) (by unfold vp_in; decide) dX11_shun_8 ?_
  refine p_tr (x := s0) (rfl) ?_
  refine lv_astore_n (lv' := [(2, .ref s0), (0, .ref x), (1, .int p0)]) hx hb dX11_shun_9 rfl hl (by decide) rfl (fun ls hl => ?_)
  refine lv_aload_n hx hb dX11_shun_10 rfl (lv_at hl 1 rfl) ?_
  refine va_get (D := g.1) (ci := 11) (v := .ref la) (C := RX11) (T := TX11) (N := 14) hx hb hT inF_X11 hown hK.1 hP 0 rfl rfl 3 (by decide) (hT _ bw_13) (fun _ h9 => h9) rfl dX11_shun_11 ?_
  refine va_get (D := g.1) (ci := 2) (v := .ref mea) (C := RX2) (T := TX2) (N := 9) hx hb hT inF_X2 hown hK.1 hP 1 rfl rfl 0 (by decide) (hT _ bw_14) (fun _ h9 => h9) rfl dX11_shun_14 ?_
  refine lv_iload_n hx hb dX11_shun_17 rfl (lv_at hl 2 rfl) ?_
  refine k_iR (k_V (n := 1) ⟨hx, hb, hml, hown, hT⟩ hK hP hD [2] rfl (by decide) (c_X3_has l g H.size mea m1a m2a m3a m4a p0) (gV bw_15 bw_16 bw_17 bw_18 bw_1) rfl rfl (by decide +kernel) ⟨by decide, by decide⟩ (ci := 3) (q0 := 0) rfl rfl (fun _ _ _ _ _ => trivial) (fun _ _ _ => trivial) rfl rfl hl.1 (Nat.le_of_ble_eq_true rfl) dX11_shun_18 ⟨by decide, by decide⟩) hP hS hA (fun r_1 _ H locs hw hP hS => ?_)
  have hw : r_1 = 0 := hw
  subst hw
  refine lv_if_eq (tgt := 41) hx hb dX11_shun_21 (by decide) (fun _ => ?_) (fun c9 => absurd (by decide) c9)
  refine lv_iconst (v := (-1)) hx hb dX11_shun_41 (by decide) ?_
  have hP9 : va_P g.1 vwCl [] H := hP.sub [] rfl
  have hD9 : va_D A [] := ⟨fun i j p q h => by simp at h, fun k q h => by simp at h⟩
  exact W.iret (v := (-1)) hx hb hr (fun t ht hW => ⟨⟨(-1), (), rfl, rfl, by rw [ht]; exact hP9, by rw [hAe]; exact hD9⟩, hS.F ht⟩) hS.2.2 dX11_shun_42

theorem bw_55 : Cond.code yX11_clash cX11_clash 3 (some .int) ∈ gT := gT_tb 1173 (by decide +kernel) (by decide +kernel)
theorem dX11_clash_0 : decode cX11_clash 0 = .ok (.aload_n 0, 1) := by decide +kernel
theorem dX11_clash_1 : decode cX11_clash 1 = .ok (.getfield 23, 3) := by decide +kernel
theorem dX11_clash_4 : decode cX11_clash 4 = .ok (.getfield 97, 3) := by decide +kernel
theorem dX11_clash_7 : decode cX11_clash 7 = .ok (.iload_n 1, 1) := by decide +kernel
theorem dX11_clash_8 : decode cX11_clash 8 = .ok (.invokevirtual 112, 3) := by decide +kernel
theorem dX11_clash_11 : decode cX11_clash 11 = .ok (.ifCond .ne 5, 3) := by decide +kernel
theorem dX11_clash_14 : decode cX11_clash 14 = .ok (.iconst (-1), 1) := by decide +kernel
theorem dX11_clash_15 : decode cX11_clash 15 = .ok (.ireturn, 1) := by decide +kernel
set_option maxHeartbeats 4000000 in
set_option maxRecDepth 100000 in
theorem c_X11_clash (l : Launch) (g : GG) (sz : Nat) (x : Nat) (xt : Nat) (xr : Nat) (la : Nat) (lb : Nat) (sa : Nat) (ba : Nat) (se : Nat) (si : Nat) (pa : Nat) (he : Nat) (mea : Nat) (foa : Nat) (rea : Nat) (d1a : Nat) (d2a : Nat) (d3a : Nat) (m1a : Nat) (m2a : Nat) (m3a : Nat) (m4a : Nat) (p0 : Int32) : Met l yX11_clash (.code yX11_clash cX11_clash 3 (some .int) :: gT) ({ frames := 1, cells := 0, slots := 0, locals := 21 }) (va_Pc [.ref x, .int p0] (Pst g sz [(x, .inr (11, [.ref xt, .int 0, .ref xr, .ref la, .ref lb, .ref sa, .int 0, .int 0, .ref ba, .int 0, .ref se, .ref si, .ref pa, .ref he])), (la, .inr (2, [.ref mea, .ref foa, .ref rea, .int 0, .ref d1a, .ref d2a, .int 9, .int 0, .ref d3a])), (mea, .inr (3, [.int 0, .ref m1a, .ref m2a, .ref m3a, .ref m4a]))] nX)) (va_Qi (fun (r : Int32) (_ : Unit) => r = (-1)) (Qst g [] sz (fun _ => [])) (va_A [] sz)) 0 0 (va_A [] sz) := by
  refine Met.ofW (cc := cX11_clash) (maxL := 3) (ret := (some .int)) (by decide) rfl ?_
  intro p e s m args below meth c s₁ B hml hv
  obtain ⟨rfl, hsz, hP, hK, hD0, hX⟩ := hv
  have hx := B.exec
  have hb := B.bytes
  have hr := B.returns
  have hT : ∀ w ∈ gT, w.before _ s = true := fun w h => atoms_spec (ws := .code yX11_clash cX11_clash 3 (some .int) :: gT) B.pre w (List.mem_cons_of_mem _ h)
  have hown : s.vm.findClass RX11 = some m.cls := findClass_of_methodNamed B.named
  have hlocks := B.notSynchronized
  subst hsz
  have hD := hD0
  generalize hAe : va_A [] s.heap.size = A at ⊢
  have hA : ∀ q : Nat, s.heap.size ≤ q → A q := fun q h => by rw [← hAe]; exact Or.inr h
  have hS : va_S A s.heap s.heap [] := va_S.rf
  have hl := lv_entry ([.ref x, .int p0]) (n := 3) (Nat.le_of_ble_eq_true rfl)
  rw [lg_entry_eq]
  generalize (lg_sl ([.ref x, .int p0]) ++ List.replicate (3 - (lg_sl ([.ref x, .int p0])).length) Slot.unset).toArray = ls at hl ⊢
  have hl : lv_has ls 3 [(0, .ref x), (1, .int p0)] := hl
  refine p_nH (fun H hH => ?_)
  have hP : va_P g.1 vwCl [(x, .inr (11, [.ref xt, .int 0, .ref xr, .ref la, .ref lb, .ref sa, .int 0, .int 0, .ref ba, .int 0, .ref se, .ref si, .ref pa, .ref he])), (la, .inr (2, [.ref mea, .ref foa, .ref rea, .int 0, .ref d1a, .ref d2a, .int 9, .int 0, .ref d3a])), (mea, .inr (3, [.int 0, .ref m1a, .ref m2a, .ref m3a, .ref m4a]))] H := by rw [hH]; exact hP
  have hS : va_S A s.heap H [] := by rw [hH]; exact hS
  refine lv_aload_n hx hb dX11_clash_0 rfl (lv_at hl 0 rfl) ?_
  refine va_get (D := g.1) (ci := 11) (v := .ref la) (C := RX11) (T := TX11) (N := 14) hx hb hT inF_X11 hown hK.1 hP 0 rfl rfl 3 (by decide) (hT _ bw_13) (fun _ h9 => h9) rfl dX11_clash_1 ?_
  refine va_get (D := g.1) (ci := 2) (v := .ref mea) (C := RX2) (T := TX2) (N := 9) hx hb hT inF_X2 hown hK.1 hP 1 rfl rfl 0 (by decide) (hT _ bw_14) (fun _ h9 => h9) rfl dX11_clash_4 ?_
  refine lv_iload_n hx hb dX11_clash_7 rfl (lv_at hl 1 rfl) ?_
  refine k_iR (k_V (n := 1) ⟨hx, hb, hml, hown, hT⟩ hK hP hD [2] rfl (by decide) (c_X3_has l g H.size mea m1a m2a m3a m4a p0) (gV bw_15 bw_16 bw_17 bw_18 bw_1) rfl rfl (by decide +kernel) ⟨by decide, by decide⟩ (ci := 3) (q0 := 0) rfl rfl (fun _ _ _ _ _ => trivial) (fun _ _ _ => trivial) rfl rfl hl.1 (Nat.le_of_ble_eq_true rfl) dX11_clash_8 ⟨by decide, by decide⟩) hP hS hA (fun r_1 _ H locs hw hP hS => ?_)
  have hw : r_1 = 0 := hw
  subst hw
  refine lv_if_ne (tgt := 16) hx hb dX11_clash_11 (by decide) (fun c9 => absurd (by decide) c9) (fun _ => ?_)
  refine lv_iconst (v := (-1)) hx hb dX11_clash_14 (by decide) ?_
  have hP9 : va_P g.1 vwCl [] H := hP.sub [] rfl
  have hD9 : va_D A [] := ⟨fun i j p q h => by simp at h, fun k q h => by simp at h⟩
  exact W.iret (v := (-1)) hx hb hr (fun t ht hW => ⟨⟨(-1), (), rfl, rfl, by rw [ht]; exact hP9, by rw [hAe]; exact hD9⟩, hS.F ht⟩) hS.2.2 dX11_clash_15

theorem bw_56 : Cond.fieldLink RX11 63 "DuelDelays" "heap" "LDuelDelays$Heap;" ∈ gT := gT_tb 534 (by decide +kernel) (by decide +kernel)
theorem bw_57 : Cond.fieldLink RX11 307 "DuelDelays$Heap" "count" "I" ∈ gT := gT_tb 435 (by decide +kernel) (by decide +kernel)
theorem bw_58 : Cond.code yX11_lies cX11_lies 2 (some .int) ∈ gT := gT_tb 1233 (by decide +kernel) (by decide +kernel)
theorem dX11_lies_0 : decode cX11_lies 0 = .ok (.iload_n 1, 1) := by decide +kernel
theorem dX11_lies_1 : decode cX11_lies 1 = .ok (.ifCond .lt 26, 3) := by decide +kernel
theorem dX11_lies_4 : decode cX11_lies 4 = .ok (.iload_n 1, 1) := by decide +kernel
theorem dX11_lies_5 : decode cX11_lies 5 = .ok (.aload_n 0, 1) := by decide +kernel
theorem dX11_lies_6 : decode cX11_lies 6 = .ok (.getfield 63, 3) := by decide +kernel
theorem dX11_lies_9 : decode cX11_lies 9 = .ok (.getfield 307, 3) := by decide +kernel
theorem dX11_lies_12 : decode cX11_lies 12 = .ok (.if_icmp .ge 15, 3) := by decide +kernel
theorem dX11_lies_27 : decode cX11_lies 27 = .ok (.iconst (-1), 1) := by decide +kernel
theorem dX11_lies_28 : decode cX11_lies 28 = .ok (.ireturn, 1) := by decide +kernel
set_option maxHeartbeats 4000000 in
set_option maxRecDepth 100000 in
theorem c_X11_lies (l : Launch) (g : GG) (sz : Nat) (x : Nat) (xt : Nat) (xr : Nat) (la : Nat) (lb : Nat) (sa : Nat) (ba : Nat) (se : Nat) (si : Nat) (pa : Nat) (he : Nat) (k3 : Nat) (p0 : Int32) : Met l yX11_lies (.code yX11_lies cX11_lies 2 (some .int) :: gT) ({ frames := 0, cells := 0, slots := 0, locals := 0 }) (va_Pc [.ref x, .int p0] (Pst g sz [(x, .inr (11, [.ref xt, .int 0, .ref xr, .ref la, .ref lb, .ref sa, .int 0, .int 0, .ref ba, .int 0, .ref se, .ref si, .ref pa, .ref he])), (he, .inr (1, [.int 0, .ref k3]))] nX)) (va_Qi (fun (r : Int32) (_ : Unit) => r = (-1)) (Qst g [] sz (fun _ => [])) (va_A [] sz)) 0 0 (va_A [] sz) := by
  refine Met.ofW (cc := cX11_lies) (maxL := 2) (ret := (some .int)) (by decide) rfl ?_
  intro p e s m args below meth c s₁ B hml hv
  obtain ⟨rfl, hsz, hP, hK, hD0, hX⟩ := hv
  have hx := B.exec
  have hb := B.bytes
  have hr := B.returns
  have hT : ∀ w ∈ gT, w.before _ s = true := fun w h => atoms_spec (ws := .code yX11_lies cX11_lies 2 (some .int) :: gT) B.pre w (List.mem_cons_of_mem _ h)
  have hown : s.vm.findClass RX11 = some m.cls := findClass_of_methodNamed B.named
  have hlocks := B.notSynchronized
  subst hsz
  have hD := hD0
  generalize hAe : va_A [] s.heap.size = A at ⊢
  have hA : ∀ q : Nat, s.heap.size ≤ q → A q := fun q h => by rw [← hAe]; exact Or.inr h
  have hS : va_S A s.heap s.heap [] := va_S.rf
  have hl := lv_entry ([.ref x, .int p0]) (n := 2) (Nat.le_of_ble_eq_true rfl)
  rw [lg_entry_eq]
  generalize (lg_sl ([.ref x, .int p0]) ++ List.replicate (2 - (lg_sl ([.ref x, .int p0])).length) Slot.unset).toArray = ls at hl ⊢
  have hl : lv_has ls 2 [(0, .ref x), (1, .int p0)] := hl
  refine p_nH (fun H hH => ?_)
  have hP : va_P g.1 vwCl [(x, .inr (11, [.ref xt, .int 0, .ref xr, .ref la, .ref lb, .ref sa, .int 0, .int 0, .ref ba, .int 0, .ref se, .ref si, .ref pa, .ref he])), (he, .inr (1, [.int 0, .ref k3]))] H := by rw [hH]; exact hP
  have hS : va_S A s.heap H [] := by rw [hH]; exact hS
  refine lv_iload_n hx hb dX11_lies_0 rfl (lv_at hl 1 rfl) ?_
  refine lv_if_lt (tgt := 27) hx hb dX11_lies_1 (by decide) (fun c_1 => ?_) (fun c_1 => ?_)
  · refine lv_iconst (v := (-1)) hx hb dX11_lies_27 (by decide) ?_
    have hP9 : va_P g.1 vwCl [] H := hP.sub [] rfl
    have hD9 : va_D A [] := ⟨fun i j p q h => by simp at h, fun k q h => by simp at h⟩
    exact W.iret (v := (-1)) hx hb hr (fun t ht hW => ⟨⟨(-1), (), rfl, rfl, by rw [ht]; exact hP9, by rw [hAe]; exact hD9⟩, hS.F ht⟩) hS.2.2 dX11_lies_28
  · refine lv_iload_n hx hb dX11_lies_4 rfl (lv_at hl 1 rfl) ?_
    refine lv_aload_n hx hb dX11_lies_5 rfl (lv_at hl 0 rfl) ?_
    refine va_get (D := g.1) (ci := 11) (v := .ref he) (C := RX11) (T := TX11) (N := 14) hx hb hT inF_X11 hown hK.1 hP 0 rfl rfl 13 (by decide) (hT _ bw_56) (fun _ h9 => h9) rfl dX11_lies_6 ?_
    refine va_get (D := g.1) (ci := 1) (v := .int 0) (C := RX1) (T := TX1) (N := 2) hx hb hT inF_X1 hown hK.1 hP 1 rfl rfl 0 (by decide) (hT _ bw_57) (fun _ h9 => h9) rfl dX11_lies_9 ?_
    refine lv_icmp_ge (tgt := 27) hx hb dX11_lies_12 (by decide) (fun _ => ?_) (fun c9 => absurd (by have e0 : (0 : Int32).toInt = 0 := (by decide); simp only [Int32.lt_iff_toInt_lt, Int32.le_iff_toInt_le, ← Int32.toInt_inj, e0] at c_1 ⊢; omega) c9)
    refine lv_iconst (v := (-1)) hx hb dX11_lies_27 (by decide) ?_
    have hP9 : va_P g.1 vwCl [] H := hP.sub [] rfl
    have hD9 : va_D A [] := ⟨fun i j p q h => by simp at h, fun k q h => by simp at h⟩
    exact W.iret (v := (-1)) hx hb hr (fun t ht hW => ⟨⟨(-1), (), rfl, rfl, by rw [ht]; exact hP9, by rw [hAe]; exact hD9⟩, hS.F ht⟩) hS.2.2 dX11_lies_28

theorem bw_59 : Cond.fieldLink RX11 311 "DuelDelays$State" "lines" "I" ∈ gT := gT_tb 462 (by decide +kernel) (by decide +kernel)
theorem bw_60 : Cond.code yX11_log cX11_log 4 (some .int) ∈ gT := gT_tb 1237 (by decide +kernel) (by decide +kernel)
theorem dX11_log_0 : decode cX11_log 0 = .ok (.aload_n 0, 1) := by decide +kernel
theorem dX11_log_1 : decode cX11_log 1 = .ok (.getfield 32, 3) := by decide +kernel
theorem dX11_log_4 : decode cX11_log 4 = .ok (.aload_n 0, 1) := by decide +kernel
theorem dX11_log_5 : decode cX11_log 5 = .ok (.getfield 84, 3) := by decide +kernel
theorem dX11_log_8 : decode cX11_log 8 = .ok (.aaload, 1) := by decide +kernel
theorem dX11_log_9 : decode cX11_log 9 = .ok (.astore_n 3, 1) := by decide +kernel
theorem dX11_log_10 : decode cX11_log 10 = .ok (.iload_n 1, 1) := by decide +kernel
theorem dX11_log_11 : decode cX11_log 11 = .ok (.ifCond .lt 20, 3) := by decide +kernel
theorem dX11_log_14 : decode cX11_log 14 = .ok (.iload_n 1, 1) := by decide +kernel
theorem dX11_log_15 : decode cX11_log 15 = .ok (.aload_n 3, 1) := by decide +kernel
theorem dX11_log_16 : decode cX11_log 16 = .ok (.getfield 311, 3) := by decide +kernel
theorem dX11_log_19 : decode cX11_log 19 = .ok (.if_icmp .ge 12, 3) := by decide +kernel
theorem dX11_log_31 : decode cX11_log 31 = .ok (.iconst (-1), 1) := by decide +kernel
theorem dX11_log_32 : decode cX11_log 32 = .ok (.ireturn, 1) := by decide +kernel
set_option maxHeartbeats 4000000 in
set_option maxRecDepth 100000 in
theorem c_X11_log (l : Launch) (g : GG) (sz : Nat) (x : Nat) (xt : Nat) (xr : Nat) (la : Nat) (lb : Nat) (sa : Nat) (ba : Nat) (se : Nat) (si : Nat) (pa : Nat) (he : Nat) (s1 : Nat) (s0 : Nat) (t1u : Nat) (t2u : Nat) (t3u : Nat) (t4u : Nat) (t5u : Nat) (t6u : Nat) (t7u : Nat) (fs : Nat → Option Nat) (p0 : Int32) (p1 : Int32) : Met l yX11_log (.code yX11_log cX11_log 4 (some .int) :: gT) ({ frames := 0, cells := 0, slots := 0, locals := 0 }) (va_Pc [.ref x, .int p0, .int p1] (Pst g sz [(x, .inr (11, [.ref xt, .int 0, .ref xr, .ref la, .ref lb, .ref sa, .int 0, .int 0, .ref ba, .int 0, .ref se, .ref si, .ref pa, .ref he])), (sa, aO g 41 (va_up (va_up fs 0 (some s0)) 1 (some s1))), (s0, .inr (9, [.int 0, .int 0, .int 0, .int 0, .int 0, .int 0, .int 0, .ref t1u, .ref t2u, .ref t3u, .ref t4u, .ref t5u, .ref t6u, .ref t7u]))] nX)) (va_Qi (fun (r : Int32) (_ : Unit) => r = (-1)) (Qst g [] sz (fun _ => [])) (va_A [] sz)) 0 0 (va_A [] sz) := by
  refine Met.ofW (cc := cX11_log) (maxL := 4) (ret := (some .int)) (by decide) rfl ?_
  intro p e s m args below meth c s₁ B hml hv
  obtain ⟨rfl, hsz, hP, hK, hD0, hX⟩ := hv
  have hx := B.exec
  have hb := B.bytes
  have hr := B.returns
  have hT : ∀ w ∈ gT, w.before _ s = true := fun w h => atoms_spec (ws := .code yX11_log cX11_log 4 (some .int) :: gT) B.pre w (List.mem_cons_of_mem _ h)
  have hown : s.vm.findClass RX11 = some m.cls := findClass_of_methodNamed B.named
  have hlocks := B.notSynchronized
  subst hsz
  have hD := hD0
  generalize hAe : va_A [] s.heap.size = A at ⊢
  have hA : ∀ q : Nat, s.heap.size ≤ q → A q := fun q h => by rw [← hAe]; exact Or.inr h
  have hS : va_S A s.heap s.heap [] := va_S.rf
  have hl := lv_entry ([.ref x, .int p0, .int p1]) (n := 4) (Nat.le_of_ble_eq_true rfl)
  rw [lg_entry_eq]
  generalize (lg_sl ([.ref x, .int p0, .int p1]) ++ List.replicate (4 - (lg_sl ([.ref x, .int p0, .int p1])).length) Slot.unset).toArray = ls at hl ⊢
  have hl : lv_has ls 4 [(0, .ref x), (1, .int p0), (2, .int p1)] := hl
  refine p_nH (fun H hH => ?_)
  have hP : va_P g.1 vwCl [(x, .inr (11, [.ref xt, .int 0, .ref xr, .ref la, .ref lb, .ref sa, .int 0, .int 0, .ref ba, .int 0, .ref se, .ref si, .ref pa, .ref he])), (sa, aO g 41 (va_up (va_up fs 0 (some s0)) 1 (some s1))), (s0, .inr (9, [.int 0, .int 0, .int 0, .int 0, .int 0, .int 0, .int 0, .ref t1u, .ref t2u, .ref t3u, .ref t4u, .ref t5u, .ref t6u, .ref t7u]))] H := by rw [hH]; exact hP
  have hS : va_S A s.heap H [] := by rw [hH]; exact hS
  refine lv_aload_n hx hb dX11_log_0 rfl (lv_at hl 0 rfl) ?_
  refine va_get (D := g.1) (ci := 11) (v := .ref sa) (C := RX11) (T := TX11) (N := 14) hx hb hT inF_X11 hown hK.1 hP 0 rfl rfl 5 (by decide) (hT _ bw_20) (fun _ h9 => h9) rfl dX11_log_1 ?_
  refine lv_aload_n hx hb dX11_log_4 rfl (lv_at hl 0 rfl) ?_
  refine va_get (D := g.1) (ci := 11) (v := .int 0) (C := RX11) (T := TX11) (N := 14) hx hb hT inF_X11 hown hK.1 hP 0 rfl rfl 6 (by decide) (hT _ bw_21) (fun _ h9 => h9) rfl dX11_log_5 ?_
  refine va_aldq hx hb hK.1 hP 1 4 rfl rfl (i := 0) (by unfold vp_in; decide) dX11_log_8 ?_
  refine p_tr (x := s0) (rfl) ?_
  refine lv_astore_n (lv' := [(3, .ref s0), (0, .ref x), (1, .int p0), (2, .int p1)]) hx hb dX11_log_9 rfl hl (by decide) rfl (fun ls hl => ?_)
  refine lv_iload_n hx hb dX11_log_10 rfl (lv_at hl 2 rfl) ?_
  refine lv_if_lt (tgt := 31) hx hb dX11_log_11 (by decide) (fun c_1 => ?_) (fun c_1 => ?_)
  · refine lv_iconst (v := (-1)) hx hb dX11_log_31 (by decide) ?_
    have hP9 : va_P g.1 vwCl [] H := hP.sub [] rfl
    have hD9 : va_D A [] := ⟨fun i j p q h => by simp at h, fun k q h => by simp at h⟩
    exact W.iret (v := (-1)) hx hb hr (fun t ht hW => ⟨⟨(-1), (), rfl, rfl, by rw [ht]; exact hP9, by rw [hAe]; exact hD9⟩, hS.F ht⟩) hS.2.2 dX11_log_32
  · refine lv_iload_n hx hb dX11_log_14 rfl (lv_at hl 2 rfl) ?_
    refine lv_aload_n hx hb dX11_log_15 rfl (lv_at hl 0 rfl) ?_
    refine va_get (D := g.1) (ci := 9) (v := .int 0) (C := RX9) (T := TX9) (N := 14) hx hb hT inF_X9 hown hK.1 hP 2 rfl rfl 6 (by decide) (hT _ bw_59) (fun _ h9 => h9) rfl dX11_log_16 ?_
    refine lv_icmp_ge (tgt := 31) hx hb dX11_log_19 (by decide) (fun _ => ?_) (fun c9 => absurd (by have e0 : (0 : Int32).toInt = 0 := (by decide); simp only [Int32.lt_iff_toInt_lt, Int32.le_iff_toInt_le, ← Int32.toInt_inj, e0] at c_1 ⊢; omega) c9)
    refine lv_iconst (v := (-1)) hx hb dX11_log_31 (by decide) ?_
    have hP9 : va_P g.1 vwCl [] H := hP.sub [] rfl
    have hD9 : va_D A [] := ⟨fun i j p q h => by simp at h, fun k q h => by simp at h⟩
    exact W.iret (v := (-1)) hx hb hr (fun t ht hW => ⟨⟨(-1), (), rfl, rfl, by rw [ht]; exact hP9, by rw [hAe]; exact hD9⟩, hS.F ht⟩) hS.2.2 dX11_log_32

theorem bw_61 : Cond.code yX11_began cX11_began 4 (some .int) ∈ gT := gT_tb 1245 (by decide +kernel) (by decide +kernel)
theorem dX11_began_0 : decode cX11_began 0 = .ok (.aload_n 0, 1) := by decide +kernel
theorem dX11_began_1 : decode cX11_began 1 = .ok (.getfield 32, 3) := by decide +kernel
theorem dX11_began_4 : decode cX11_began 4 = .ok (.aload_n 0, 1) := by decide +kernel
theorem dX11_began_5 : decode cX11_began 5 = .ok (.getfield 84, 3) := by decide +kernel
theorem dX11_began_8 : decode cX11_began 8 = .ok (.aaload, 1) := by decide +kernel
theorem dX11_began_9 : decode cX11_began 9 = .ok (.astore_n 2, 1) := by decide +kernel
theorem dX11_began_10 : decode cX11_began 10 = .ok (.aload_n 2, 1) := by decide +kernel
theorem dX11_began_11 : decode cX11_began 11 = .ok (.iload_n 1, 1) := by decide +kernel
theorem dX11_began_12 : decode cX11_began 12 = .ok (.invokevirtual 132, 3) := by decide +kernel
theorem dX11_began_15 : decode cX11_began 15 = .ok (.ifCond .ne 6, 3) := by decide +kernel
theorem dX11_began_18 : decode cX11_began 18 = .ok (.bipush (-2), 2) := by decide +kernel
theorem dX11_began_20 : decode cX11_began 20 = .ok (.ireturn, 1) := by decide +kernel
set_option maxHeartbeats 4000000 in
set_option maxRecDepth 100000 in
theorem c_X11_began (l : Launch) (g : GG) (sz : Nat) (x : Nat) (xt : Nat) (xr : Nat) (la : Nat) (lb : Nat) (sa : Nat) (ba : Nat) (se : Nat) (si : Nat) (pa : Nat) (he : Nat) (s1 : Nat) (s0 : Nat) (t1u : Nat) (t2u : Nat) (t3u : Nat) (t4u : Nat) (t5u : Nat) (t6u : Nat) (t7u : Nat) (fs : Nat → Option Nat) (p0 : Int32) : Met l yX11_began (.code yX11_began cX11_began 4 (some .int) :: gT) ({ frames := 1, cells := 0, slots := 0, locals := 21 }) (va_Pc [.ref x, .int p0] (Pst g sz [(x, .inr (11, [.ref xt, .int 0, .ref xr, .ref la, .ref lb, .ref sa, .int 0, .int 0, .ref ba, .int 0, .ref se, .ref si, .ref pa, .ref he])), (sa, aO g 41 (va_up (va_up fs 0 (some s0)) 1 (some s1))), (s0, .inr (9, [.int 0, .int 0, .int 0, .int 0, .int 0, .int 0, .int 0, .ref t1u, .ref t2u, .ref t3u, .ref t4u, .ref t5u, .ref t6u, .ref t7u]))] nX)) (va_Qi (fun (r : Int32) (_ : Unit) => r = (-2)) (Qst g [] sz (fun _ => [])) (va_A [] sz)) 0 0 (va_A [] sz) := by
  refine Met.ofW (cc := cX11_began) (maxL := 4) (ret := (some .int)) (by decide) rfl ?_
  intro p e s m args below meth c s₁ B hml hv
  obtain ⟨rfl, hsz, hP, hK, hD0, hX⟩ := hv
  have hx := B.exec
  have hb := B.bytes
  have hr := B.returns
  have hT : ∀ w ∈ gT, w.before _ s = true := fun w h => atoms_spec (ws := .code yX11_began cX11_began 4 (some .int) :: gT) B.pre w (List.mem_cons_of_mem _ h)
  have hown : s.vm.findClass RX11 = some m.cls := findClass_of_methodNamed B.named
  have hlocks := B.notSynchronized
  subst hsz
  have hD := hD0
  generalize hAe : va_A [] s.heap.size = A at ⊢
  have hA : ∀ q : Nat, s.heap.size ≤ q → A q := fun q h => by rw [← hAe]; exact Or.inr h
  have hS : va_S A s.heap s.heap [] := va_S.rf
  have hl := lv_entry ([.ref x, .int p0]) (n := 4) (Nat.le_of_ble_eq_true rfl)
  rw [lg_entry_eq]
  generalize (lg_sl ([.ref x, .int p0]) ++ List.replicate (4 - (lg_sl ([.ref x, .int p0])).length) Slot.unset).toArray = ls at hl ⊢
  have hl : lv_has ls 4 [(0, .ref x), (1, .int p0)] := hl
  refine p_nH (fun H hH => ?_)
  have hP : va_P g.1 vwCl [(x, .inr (11, [.ref xt, .int 0, .ref xr, .ref la, .ref lb, .ref sa, .int 0, .int 0, .ref ba, .int 0, .ref se, .ref si, .ref pa, .ref he])), (sa, aO g 41 (va_up (va_up fs 0 (some s0)) 1 (some s1))), (s0, .inr (9, [.int 0, .int 0, .int 0, .int 0, .int 0, .int 0, .int 0, .ref t1u, .ref t2u, .ref t3u, .ref t4u, .ref t5u, .ref t6u, .ref t7u]))] H := by rw [hH]; exact hP
  have hS : va_S A s.heap H [] := by rw [hH]; exact hS
  refine lv_aload_n hx hb dX11_began_0 rfl (lv_at hl 0 rfl) ?_
  refine va_get (D := g.1) (ci := 11) (v := .ref sa) (C := RX11) (T := TX11) (N := 14) hx hb hT inF_X11 hown hK.1 hP 0 rfl rfl 5 (by decide) (hT _ bw_20) (fun _ h9 => h9) rfl dX11_began_1 ?_
  refine lv_aload_n hx hb dX11_began_4 rfl (lv_at hl 0 rfl) ?_
  refine va_get (D := g.1) (ci := 11) (v := .int 0) (C := RX11) (T := TX11) (N := 14) hx hb hT inF_X11 hown hK.1 hP 0 rfl rfl 6 (by decide) (hT _ bw_21) (fun _ h9 => h9) rfl dX11_began_5 ?_
  refine va_aldq hx hb hK.1 hP 1 4 rfl rfl (i := 0) (by unfold vp_in; decide) dX11_began_8 ?_
  refine p_tr (x := s0) (rfl) ?_
  refine lv_astore_n (lv' := [(2, .ref s0), (0, .ref x), (1, .int p0)]) hx hb dX11_began_9 rfl hl (by decide) rfl (fun ls hl => ?_)
  refine lv_aload_n hx hb dX11_began_10 rfl (lv_at hl 0 rfl) ?_
  refine lv_iload_n hx hb dX11_began_11 rfl (lv_at hl 2 rfl) ?_
  refine k_iR (k_V (n := 1) ⟨hx, hb, hml, hown, hT⟩ hK hP hD [2] rfl (by decide) (c_X9_hasDuel l g H.size s0 t1u t2u t3u t4u t5u t6u t7u p0) (gV bw_22 bw_23 bw_24 bw_25 bw_5) rfl rfl (by decide +kernel) ⟨by decide, by decide⟩ (ci := 9) (q0 := 0) rfl rfl (fun _ _ _ _ _ => trivial) (fun _ _ _ => trivial) rfl rfl hl.1 (Nat.le_of_ble_eq_true rfl) dX11_began_12 ⟨by decide, by decide⟩) hP hS hA (fun r_1 _ H locs hw hP hS => ?_)
  have hw : r_1 = 0 := hw
  subst hw
  refine lv_if_ne (tgt := 21) hx hb dX11_began_15 (by decide) (fun c9 => absurd (by decide) c9) (fun _ => ?_)
  refine lv_bipush (v := (-2)) hx hb dX11_began_18 (by decide) ?_
  have hP9 : va_P g.1 vwCl [] H := hP.sub [] rfl
  have hD9 : va_D A [] := ⟨fun i j p q h => by simp at h, fun k q h => by simp at h⟩
  exact W.iret (v := (-2)) hx hb hr (fun t ht hW => ⟨⟨(-2), (), rfl, rfl, by rw [ht]; exact hP9, by rw [hAe]; exact hD9⟩, hS.F ht⟩) hS.2.2 dX11_began_20

theorem bw_62 : Cond.code yX11_sight cX11_sight 3 (some .int) ∈ gT := gT_tb 1249 (by decide +kernel) (by decide +kernel)
theorem dX11_sight_0 : decode cX11_sight 0 = .ok (.aload_n 0, 1) := by decide +kernel
theorem dX11_sight_1 : decode cX11_sight 1 = .ok (.getfield 23, 3) := by decide +kernel
theorem dX11_sight_4 : decode cX11_sight 4 = .ok (.getfield 157, 3) := by decide +kernel
theorem dX11_sight_7 : decode cX11_sight 7 = .ok (.iload_n 1, 1) := by decide +kernel
theorem dX11_sight_8 : decode cX11_sight 8 = .ok (.invokevirtual 161, 3) := by decide +kernel
theorem dX11_sight_11 : decode cX11_sight 11 = .ok (.ifCond .eq 14, 3) := by decide +kernel
theorem dX11_sight_25 : decode cX11_sight 25 = .ok (.iconst (-1), 1) := by decide +kernel
theorem dX11_sight_26 : decode cX11_sight 26 = .ok (.ireturn, 1) := by decide +kernel
set_option maxHeartbeats 4000000 in
set_option maxRecDepth 100000 in
theorem c_X11_sight (l : Launch) (g : GG) (sz : Nat) (x : Nat) (xt : Nat) (xr : Nat) (la : Nat) (lb : Nat) (sa : Nat) (ba : Nat) (se : Nat) (si : Nat) (pa : Nat) (he : Nat) (mea : Nat) (foa : Nat) (rea : Nat) (d1a : Nat) (d2a : Nat) (d3a : Nat) (r1a : Nat) (r2a : Nat) (r3a : Nat) (r4a : Nat) (r5a : Nat) (r6a : Nat) (r7a : Nat) (p0 : Int32) (p1 : Int32) : Met l yX11_sight (.code yX11_sight cX11_sight 3 (some .int) :: gT) ({ frames := 1, cells := 0, slots := 0, locals := 21 }) (va_Pc [.ref x, .int p0, .int p1] (Pst g sz [(x, .inr (11, [.ref xt, .int 0, .ref xr, .ref la, .ref lb, .ref sa, .int 0, .int 0, .ref ba, .int 0, .ref se, .ref si, .ref pa, .ref he])), (la, .inr (2, [.ref mea, .ref foa, .ref rea, .int 0, .ref d1a, .ref d2a, .int 9, .int 0, .ref d3a])), (rea, .inr (6, [.int 0, .ref r1a, .ref r2a, .ref r3a, .ref r4a, .ref r5a, .ref r6a, .ref r7a]))] nX)) (va_Qi (fun (r : Int32) (_ : Unit) => r = (-1)) (Qst g [] sz (fun _ => [])) (va_A [] sz)) 0 0 (va_A [] sz) := by
  refine Met.ofW (cc := cX11_sight) (maxL := 3) (ret := (some .int)) (by decide) rfl ?_
  intro p e s m args below meth c s₁ B hml hv
  obtain ⟨rfl, hsz, hP, hK, hD0, hX⟩ := hv
  have hx := B.exec
  have hb := B.bytes
  have hr := B.returns
  have hT : ∀ w ∈ gT, w.before _ s = true := fun w h => atoms_spec (ws := .code yX11_sight cX11_sight 3 (some .int) :: gT) B.pre w (List.mem_cons_of_mem _ h)
  have hown : s.vm.findClass RX11 = some m.cls := findClass_of_methodNamed B.named
  have hlocks := B.notSynchronized
  subst hsz
  have hD := hD0
  generalize hAe : va_A [] s.heap.size = A at ⊢
  have hA : ∀ q : Nat, s.heap.size ≤ q → A q := fun q h => by rw [← hAe]; exact Or.inr h
  have hS : va_S A s.heap s.heap [] := va_S.rf
  have hl := lv_entry ([.ref x, .int p0, .int p1]) (n := 3) (Nat.le_of_ble_eq_true rfl)
  rw [lg_entry_eq]
  generalize (lg_sl ([.ref x, .int p0, .int p1]) ++ List.replicate (3 - (lg_sl ([.ref x, .int p0, .int p1])).length) Slot.unset).toArray = ls at hl ⊢
  have hl : lv_has ls 3 [(0, .ref x), (1, .int p0), (2, .int p1)] := hl
  refine p_nH (fun H hH => ?_)
  have hP : va_P g.1 vwCl [(x, .inr (11, [.ref xt, .int 0, .ref xr, .ref la, .ref lb, .ref sa, .int 0, .int 0, .ref ba, .int 0, .ref se, .ref si, .ref pa, .ref he])), (la, .inr (2, [.ref mea, .ref foa, .ref rea, .int 0, .ref d1a, .ref d2a, .int 9, .int 0, .ref d3a])), (rea, .inr (6, [.int 0, .ref r1a, .ref r2a, .ref r3a, .ref r4a, .ref r5a, .ref r6a, .ref r7a]))] H := by rw [hH]; exact hP
  have hS : va_S A s.heap H [] := by rw [hH]; exact hS
  refine lv_aload_n hx hb dX11_sight_0 rfl (lv_at hl 0 rfl) ?_
  refine va_get (D := g.1) (ci := 11) (v := .ref la) (C := RX11) (T := TX11) (N := 14) hx hb hT inF_X11 hown hK.1 hP 0 rfl rfl 3 (by decide) (hT _ bw_13) (fun _ h9 => h9) rfl dX11_sight_1 ?_
  refine va_get (D := g.1) (ci := 2) (v := .ref rea) (C := RX2) (T := TX2) (N := 9) hx hb hT inF_X2 hown hK.1 hP 1 rfl rfl 2 (by decide) (hT _ bw_27) (fun _ h9 => h9) rfl dX11_sight_4 ?_
  refine lv_iload_n hx hb dX11_sight_7 rfl (lv_at hl 1 rfl) ?_
  refine k_iR (k_V (n := 1) ⟨hx, hb, hml, hown, hT⟩ hK hP hD [2] rfl (by decide) (c_X6_has l g H.size rea r1a r2a r3a r4a r5a r6a r7a p0) (gV bw_28 bw_29 bw_30 bw_31 bw_3) rfl rfl (by decide +kernel) ⟨by decide, by decide⟩ (ci := 6) (q0 := 0) rfl rfl (fun _ _ _ _ _ => trivial) (fun _ _ _ => trivial) rfl rfl hl.1 (Nat.le_of_ble_eq_true rfl) dX11_sight_8 ⟨by decide, by decide⟩) hP hS hA (fun r_1 _ H locs hw hP hS => ?_)
  have hw : r_1 = 0 := hw
  subst hw
  refine lv_if_eq (tgt := 25) hx hb dX11_sight_11 (by decide) (fun _ => ?_) (fun c9 => absurd (by decide) c9)
  refine lv_iconst (v := (-1)) hx hb dX11_sight_25 (by decide) ?_
  have hP9 : va_P g.1 vwCl [] H := hP.sub [] rfl
  have hD9 : va_D A [] := ⟨fun i j p q h => by simp at h, fun k q h => by simp at h⟩
  exact W.iret (v := (-1)) hx hb hr (fun t ht hW => ⟨⟨(-1), (), rfl, rfl, by rw [ht]; exact hP9, by rw [hAe]; exact hD9⟩, hS.F ht⟩) hS.2.2 dX11_sight_26

theorem bw_63 : Cond.fieldLink RX11 49 "DuelDelays" "sights" "LDuelDelays$Sights;" ∈ gT := gT_tb 532 (by decide +kernel) (by decide +kernel)
theorem bw_64 : Cond.methodLink RX11 320 yX8_takeBack ∈ gT := gT_tb 1258 (by decide +kernel) (by decide +kernel)
theorem bw_65 : Cond.instanceMethod yX8_takeBack ∈ gT := gT_tb 1259 (by decide +kernel) (by decide +kernel)
theorem bw_66 : Cond.selects RX8 yX8_takeBack yX8_takeBack ∈ gT := gT_tb 1260 (by decide +kernel) (by decide +kernel)
theorem bw_67 : Cond.initialized RX8 ∈ gT := gT_tb 13 (by decide +kernel) (by decide +kernel)
theorem bw_68 : Cond.code yX11_untell cX11_untell 2 (some .boolean) ∈ gT := gT_tb 1257 (by decide +kernel) (by decide +kernel)
theorem dX11_untell_0 : decode cX11_untell 0 = .ok (.aload_n 0, 1) := by decide +kernel
theorem dX11_untell_1 : decode cX11_untell 1 = .ok (.getfield 49, 3) := by decide +kernel
theorem dX11_untell_4 : decode cX11_untell 4 = .ok (.iload_n 1, 1) := by decide +kernel
theorem dX11_untell_5 : decode cX11_untell 5 = .ok (.invokevirtual 320, 3) := by decide +kernel
theorem dX11_untell_8 : decode cX11_untell 8 = .ok (.ireturn, 1) := by decide +kernel
set_option maxHeartbeats 4000000 in
set_option maxRecDepth 100000 in
theorem c_X11_untell (l : Launch) (g : GG) (sz : Nat) (x : Nat) (xt : Nat) (xr : Nat) (la : Nat) (lb : Nat) (sa : Nat) (ba : Nat) (se : Nat) (si : Nat) (pa : Nat) (he : Nat) (i1 : Nat) (i2 : Nat) (i3 : Nat) (i4 : Nat) (p0 : Int32) : Met l yX11_untell (.code yX11_untell cX11_untell 2 (some .boolean) :: gT) ({ frames := 1, cells := 0, slots := 0, locals := 21 }) (va_Pc [.ref x, .int p0] (Pst g sz [(x, .inr (11, [.ref xt, .int 0, .ref xr, .ref la, .ref lb, .ref sa, .int 0, .int 0, .ref ba, .int 0, .ref se, .ref si, .ref pa, .ref he])), (si, .inr (8, [.int 0, .int 0, .ref i1, .ref i2, .ref i3, .ref i4]))] nX)) (va_Qi (fun (r : Int32) (_ : Unit) => r = 0) (Qst g [] sz (fun _ => [])) (va_A [] sz)) 0 0 (va_A [] sz) := by
  refine Met.ofW (cc := cX11_untell) (maxL := 2) (ret := (some .boolean)) (by decide) rfl ?_
  intro p e s m args below meth c s₁ B hml hv
  obtain ⟨rfl, hsz, hP, hK, hD0, hX⟩ := hv
  have hx := B.exec
  have hb := B.bytes
  have hr := B.returns
  have hT : ∀ w ∈ gT, w.before _ s = true := fun w h => atoms_spec (ws := .code yX11_untell cX11_untell 2 (some .boolean) :: gT) B.pre w (List.mem_cons_of_mem _ h)
  have hown : s.vm.findClass RX11 = some m.cls := findClass_of_methodNamed B.named
  have hlocks := B.notSynchronized
  subst hsz
  have hD := hD0
  generalize hAe : va_A [] s.heap.size = A at ⊢
  have hA : ∀ q : Nat, s.heap.size ≤ q → A q := fun q h => by rw [← hAe]; exact Or.inr h
  have hS : va_S A s.heap s.heap [] := va_S.rf
  have hl := lv_entry ([.ref x, .int p0]) (n := 2) (Nat.le_of_ble_eq_true rfl)
  rw [lg_entry_eq]
  generalize (lg_sl ([.ref x, .int p0]) ++ List.replicate (2 - (lg_sl ([.ref x, .int p0])).length) Slot.unset).toArray = ls at hl ⊢
  have hl : lv_has ls 2 [(0, .ref x), (1, .int p0)] := hl
  refine p_nH (fun H hH => ?_)
  have hP : va_P g.1 vwCl [(x, .inr (11, [.ref xt, .int 0, .ref xr, .ref la, .ref lb, .ref sa, .int 0, .int 0, .ref ba, .int 0, .ref se, .ref si, .ref pa, .ref he])), (si, .inr (8, [.int 0, .int 0, .ref i1, .ref i2, .ref i3, .ref i4]))] H := by rw [hH]; exact hP
  have hS : va_S A s.heap H [] := by rw [hH]; exact hS
  refine lv_aload_n hx hb dX11_untell_0 rfl (lv_at hl 0 rfl) ?_
  refine va_get (D := g.1) (ci := 11) (v := .ref si) (C := RX11) (T := TX11) (N := 14) hx hb hT inF_X11 hown hK.1 hP 0 rfl rfl 11 (by decide) (hT _ bw_63) (fun _ h9 => h9) rfl dX11_untell_1 ?_
  refine lv_iload_n hx hb dX11_untell_4 rfl (lv_at hl 1 rfl) ?_
  refine k_iR (k_V (n := 1) ⟨hx, hb, hml, hown, hT⟩ hK hP hD [1] rfl (by decide) (c_X8_takeBack l g H.size si i1 i2 i3 i4 p0) (gV bw_64 bw_65 bw_66 bw_67 bw_8) rfl rfl (by decide +kernel) ⟨by decide, by decide⟩ (ci := 8) (q0 := 0) rfl rfl (fun _ _ _ _ _ => trivial) (fun _ _ _ => trivial) rfl rfl hl.1 (Nat.le_of_ble_eq_true rfl) dX11_untell_5 ⟨by decide, by decide⟩) hP hS hA (fun r_1 _ H locs hw hP hS => ?_)
  have hw : r_1 = 0 := hw
  subst hw
  have hP9 : va_P g.1 vwCl [] H := hP.sub [] rfl
  have hD9 : va_D A [] := ⟨fun i j p q h => by simp at h, fun k q h => by simp at h⟩
  exact W.zret (v := 0) (ty := .boolean) hx hb hr rfl (fun t ht hW => ⟨⟨0, (), rfl, rfl, by rw [ht]; exact hP9, by rw [hAe]; exact hD9⟩, hS.F ht⟩) hS.2.2 dX11_untell_8

theorem bw_69 : Cond.fieldLink RX11 94 "DuelDelays" "fullBoxes" "I" ∈ gT := gT_tb 530 (by decide +kernel) (by decide +kernel)
theorem bw_70 : Cond.code yX11_back cX11_back 2 (some .int) ∈ gT := gT_tb 1282 (by decide +kernel) (by decide +kernel)
theorem dX11_back_0 : decode cX11_back 0 = .ok (.iload_n 1, 1) := by decide +kernel
theorem dX11_back_1 : decode cX11_back 1 = .ok (.ifCond .lt 19, 3) := by decide +kernel
theorem dX11_back_4 : decode cX11_back 4 = .ok (.iload_n 1, 1) := by decide +kernel
theorem dX11_back_5 : decode cX11_back 5 = .ok (.iconst 3, 1) := by decide +kernel
theorem dX11_back_6 : decode cX11_back 6 = .ok (.if_icmp .ge 14, 3) := by decide +kernel
theorem dX11_back_9 : decode cX11_back 9 = .ok (.aload_n 0, 1) := by decide +kernel
theorem dX11_back_10 : decode cX11_back 10 = .ok (.getfield 94, 3) := by decide +kernel
theorem dX11_back_13 : decode cX11_back 13 = .ok (.iload_n 1, 1) := by decide +kernel
theorem dX11_back_14 : decode cX11_back 14 = .ok (.ishr, 1) := by decide +kernel
theorem dX11_back_15 : decode cX11_back 15 = .ok (.iconst 1, 1) := by decide +kernel
theorem dX11_back_16 : decode cX11_back 16 = .ok (.iand, 1) := by decide +kernel
theorem dX11_back_17 : decode cX11_back 17 = .ok (.ifCond .ne 5, 3) := by decide +kernel
theorem dX11_back_20 : decode cX11_back 20 = .ok (.iconst (-1), 1) := by decide +kernel
theorem dX11_back_21 : decode cX11_back 21 = .ok (.ireturn, 1) := by decide +kernel
set_option maxHeartbeats 4000000 in
set_option maxRecDepth 100000 in
theorem c_X11_back (l : Launch) (g : GG) (sz : Nat) (x : Nat) (xt : Nat) (xr : Nat) (la : Nat) (lb : Nat) (sa : Nat) (ba : Nat) (se : Nat) (si : Nat) (pa : Nat) (he : Nat) (p0 : Int32) : Met l yX11_back (.code yX11_back cX11_back 2 (some .int) :: gT) ({ frames := 0, cells := 0, slots := 0, locals := 0 }) (va_Pc [.ref x, .int p0] (Pst g sz [(x, .inr (11, [.ref xt, .int 0, .ref xr, .ref la, .ref lb, .ref sa, .int 0, .int 0, .ref ba, .int 0, .ref se, .ref si, .ref pa, .ref he]))] nX)) (va_Qi (fun (r : Int32) (_ : Unit) => r = (-1)) (Qst g [] sz (fun _ => [])) (va_A [] sz)) 0 0 (va_A [] sz) := by
  refine Met.ofW (cc := cX11_back) (maxL := 2) (ret := (some .int)) (by decide) rfl ?_
  intro p e s m args below meth c s₁ B hml hv
  obtain ⟨rfl, hsz, hP, hK, hD0, hX⟩ := hv
  have hx := B.exec
  have hb := B.bytes
  have hr := B.returns
  have hT : ∀ w ∈ gT, w.before _ s = true := fun w h => atoms_spec (ws := .code yX11_back cX11_back 2 (some .int) :: gT) B.pre w (List.mem_cons_of_mem _ h)
  have hown : s.vm.findClass RX11 = some m.cls := findClass_of_methodNamed B.named
  have hlocks := B.notSynchronized
  subst hsz
  have hD := hD0
  generalize hAe : va_A [] s.heap.size = A at ⊢
  have hA : ∀ q : Nat, s.heap.size ≤ q → A q := fun q h => by rw [← hAe]; exact Or.inr h
  have hS : va_S A s.heap s.heap [] := va_S.rf
  have hl := lv_entry ([.ref x, .int p0]) (n := 2) (Nat.le_of_ble_eq_true rfl)
  rw [lg_entry_eq]
  generalize (lg_sl ([.ref x, .int p0]) ++ List.replicate (2 - (lg_sl ([.ref x, .int p0])).length) Slot.unset).toArray = ls at hl ⊢
  have hl : lv_has ls 2 [(0, .ref x), (1, .int p0)] := hl
  refine p_nH (fun H hH => ?_)
  have hP : va_P g.1 vwCl [(x, .inr (11, [.ref xt, .int 0, .ref xr, .ref la, .ref lb, .ref sa, .int 0, .int 0, .ref ba, .int 0, .ref se, .ref si, .ref pa, .ref he]))] H := by rw [hH]; exact hP
  have hS : va_S A s.heap H [] := by rw [hH]; exact hS
  refine lv_iload_n hx hb dX11_back_0 rfl (lv_at hl 1 rfl) ?_
  refine lv_if_lt (tgt := 20) hx hb dX11_back_1 (by decide) (fun c_1 => ?_) (fun c_1 => ?_)
  · refine lv_iconst (v := (-1)) hx hb dX11_back_20 (by decide) ?_
    have hP9 : va_P g.1 vwCl [] H := hP.sub [] rfl
    have hD9 : va_D A [] := ⟨fun i j p q h => by simp at h, fun k q h => by simp at h⟩
    exact W.iret (v := (-1)) hx hb hr (fun t ht hW => ⟨⟨(-1), (), rfl, rfl, by rw [ht]; exact hP9, by rw [hAe]; exact hD9⟩, hS.F ht⟩) hS.2.2 dX11_back_21
  · refine lv_iload_n hx hb dX11_back_4 rfl (lv_at hl 1 rfl) ?_
    refine lv_iconst (v := 3) hx hb dX11_back_5 (by decide) ?_
    refine lv_icmp_ge (tgt := 20) hx hb dX11_back_6 (by decide) (fun c_2 => ?_) (fun c_2 => ?_)
    · refine lv_iconst (v := (-1)) hx hb dX11_back_20 (by decide) ?_
      have hP9 : va_P g.1 vwCl [] H := hP.sub [] rfl
      have hD9 : va_D A [] := ⟨fun i j p q h => by simp at h, fun k q h => by simp at h⟩
      exact W.iret (v := (-1)) hx hb hr (fun t ht hW => ⟨⟨(-1), (), rfl, rfl, by rw [ht]; exact hP9, by rw [hAe]; exact hD9⟩, hS.F ht⟩) hS.2.2 dX11_back_21
    · refine lv_aload_n hx hb dX11_back_9 rfl (lv_at hl 0 rfl) ?_
      refine va_get (D := g.1) (ci := 11) (v := .int 0) (C := RX11) (T := TX11) (N := 14) hx hb hT inF_X11 hown hK.1 hP 0 rfl rfl 9 (by decide) (hT _ bw_69) (fun _ h9 => h9) rfl dX11_back_10 ?_
      refine lv_iload_n hx hb dX11_back_13 rfl (lv_at hl 1 rfl) ?_
      refine lv_ishr hx hb dX11_back_14 ?_
      refine p_ti (v := 0) (zshr _) ?_
      refine lv_iconst (v := 1) hx hb dX11_back_15 (by decide) ?_
      refine lv_iand hx hb dX11_back_16 ?_
      refine p_ti (v := 0) (by decide +kernel) ?_
      refine lv_if_ne (tgt := 22) hx hb dX11_back_17 (by decide) (fun c9 => absurd (by decide) c9) (fun _ => ?_)
      refine lv_iconst (v := (-1)) hx hb dX11_back_20 (by decide) ?_
      have hP9 : va_P g.1 vwCl [] H := hP.sub [] rfl
      have hD9 : va_D A [] := ⟨fun i j p q h => by simp at h, fun k q h => by simp at h⟩
      exact W.iret (v := (-1)) hx hb hr (fun t ht hW => ⟨⟨(-1), (), rfl, rfl, by rw [ht]; exact hP9, by rw [hAe]; exact hD9⟩, hS.F ht⟩) hS.2.2 dX11_back_21

theorem bw_71 : Cond.methodLink RX11 93 yX1_clear ∈ gT := gT_tb 831 (by decide +kernel) (by decide +kernel)
theorem bw_72 : Cond.instanceMethod yX1_clear ∈ gT := gT_tb 832 (by decide +kernel) (by decide +kernel)
theorem bw_73 : Cond.selects RX1 yX1_clear yX1_clear ∈ gT := gT_tb 833 (by decide +kernel) (by decide +kernel)
theorem bw_74 : Cond.initialized RX1 ∈ gT := gT_tb 15 (by decide +kernel) (by decide +kernel)
theorem bw_75 : Cond.code yX11_life cX11_life 7 (some .int) ∈ gT := gT_tb 1056 (by decide +kernel) (by decide +kernel)
theorem dX11_life_0 : decode cX11_life 0 = .ok (.aload_n 0, 1) := by decide +kernel
theorem dX11_life_1 : decode cX11_life 1 = .ok (.getfield 63, 3) := by decide +kernel
theorem dX11_life_4 : decode cX11_life 4 = .ok (.invokevirtual 93, 3) := by decide +kernel
theorem dX11_life_7 : decode cX11_life 7 = .ok (.aload_n 0, 1) := by decide +kernel
theorem dX11_life_8 : decode cX11_life 8 = .ok (.getfield 32, 3) := by decide +kernel
theorem dX11_life_11 : decode cX11_life 11 = .ok (.aload_n 0, 1) := by decide +kernel
theorem dX11_life_12 : decode cX11_life 12 = .ok (.getfield 84, 3) := by decide +kernel
theorem dX11_life_15 : decode cX11_life 15 = .ok (.aaload, 1) := by decide +kernel
theorem dX11_life_16 : decode cX11_life 16 = .ok (.astore_n 2, 1) := by decide +kernel
theorem dX11_life_17 : decode cX11_life 17 = .ok (.aload_n 2, 1) := by decide +kernel
theorem dX11_life_18 : decode cX11_life 18 = .ok (.iload_n 1, 1) := by decide +kernel
theorem dX11_life_19 : decode cX11_life 19 = .ok (.invokevirtual 132, 3) := by decide +kernel
theorem dX11_life_22 : decode cX11_life 22 = .ok (.ifCond .eq 11, 3) := by decide +kernel
theorem dX11_life_33 : decode cX11_life 33 = .ok (.iconst (-1), 1) := by decide +kernel
theorem dX11_life_34 : decode cX11_life 34 = .ok (.ireturn, 1) := by decide +kernel
set_option maxHeartbeats 4000000 in
set_option maxRecDepth 100000 in
theorem c_X11_life (l : Launch) (g : GG) (sz : Nat) (x : Nat) (xt : Nat) (xr : Nat) (la : Nat) (lb : Nat) (sa : Nat) (ba : Nat) (se : Nat) (si : Nat) (pa : Nat) (he : Nat) (s1 : Nat) (s0 : Nat) (t1u : Nat) (t2u : Nat) (t3u : Nat) (t4u : Nat) (t5u : Nat) (t6u : Nat) (t7u : Nat) (k3 : Nat) (fs : Nat → Option Nat) (p0 : Int32) : Met l yX11_life (.code yX11_life cX11_life 7 (some .int) :: gT) ({ frames := 1, cells := 0, slots := 0, locals := 21 }) (va_Pc [.ref x, .int p0] (Pst g sz [(x, .inr (11, [.ref xt, .int 0, .ref xr, .ref la, .ref lb, .ref sa, .int 0, .int 0, .ref ba, .int 0, .ref se, .ref si, .ref pa, .ref he])), (sa, aO g 41 (va_up (va_up fs 0 (some s0)) 1 (some s1))), (s0, .inr (9, [.int 0, .int 0, .int 0, .int 0, .int 0, .int 0, .int 0, .ref t1u, .ref t2u, .ref t3u, .ref t4u, .ref t5u, .ref t6u, .ref t7u])), (he, .inr (1, [.int 0, .ref k3]))] nX)) (va_Qi (fun (r : Int32) (_ : Unit) => r = (-1)) (Qst g [(x, .inr (11, [.ref xt, .int 0, .ref xr, .ref la, .ref lb, .ref sa, .int 0, .int 0, .ref ba, .int 0, .ref se, .ref si, .ref pa, .ref he])), (sa, aO g 41 (va_up (va_up fs 0 (some s0)) 1 (some s1))), (s0, .inr (9, [.int 0, .int 0, .int 0, .int 0, .int 0, .int 0, .int 0, .ref t1u, .ref t2u, .ref t3u, .ref t4u, .ref t5u, .ref t6u, .ref t7u])), (he, .inr (1, [.int 0, .ref k3]))] sz (fun _ => [])) (va_A [(x, .inr (11, [.ref xt, .int 0, .ref xr, .ref la, .ref lb, .ref sa, .int 0, .int 0, .ref ba, .int 0, .ref se, .ref si, .ref pa, .ref he])), (sa, aO g 41 (va_up (va_up fs 0 (some s0)) 1 (some s1))), (s0, .inr (9, [.int 0, .int 0, .int 0, .int 0, .int 0, .int 0, .int 0, .ref t1u, .ref t2u, .ref t3u, .ref t4u, .ref t5u, .ref t6u, .ref t7u])), (he, .inr (1, [.int 0, .ref k3]))] sz)) 0 0 (va_A [(x, .inr (11, [.ref xt, .int 0, .ref xr, .ref la, .ref lb, .ref sa, .int 0, .int 0, .ref ba, .int 0, .ref se, .ref si, .ref pa, .ref he])), (sa, aO g 41 (va_up (va_up fs 0 (some s0)) 1 (some s1))), (s0, .inr (9, [.int 0, .int 0, .int 0, .int 0, .int 0, .int 0, .int 0, .ref t1u, .ref t2u, .ref t3u, .ref t4u, .ref t5u, .ref t6u, .ref t7u])), (he, .inr (1, [.int 0, .ref k3]))] sz) := by
  refine Met.ofW (cc := cX11_life) (maxL := 7) (ret := (some .int)) (by decide) rfl ?_
  intro p e s m args below meth c s₁ B hml hv
  obtain ⟨rfl, hsz, hP, hK, hD0, hX⟩ := hv
  have hx := B.exec
  have hb := B.bytes
  have hr := B.returns
  have hT : ∀ w ∈ gT, w.before _ s = true := fun w h => atoms_spec (ws := .code yX11_life cX11_life 7 (some .int) :: gT) B.pre w (List.mem_cons_of_mem _ h)
  have hown : s.vm.findClass RX11 = some m.cls := findClass_of_methodNamed B.named
  have hlocks := B.notSynchronized
  subst hsz
  have hD := hD0.self (sz := s.heap.size)
  generalize hAe : va_A [(x, .inr (11, [.ref xt, .int 0, .ref xr, .ref la, .ref lb, .ref sa, .int 0, .int 0, .ref ba, .int 0, .ref se, .ref si, .ref pa, .ref he])), (sa, aO g 41 (va_up (va_up fs 0 (some s0)) 1 (some s1))), (s0, .inr (9, [.int 0, .int 0, .int 0, .int 0, .int 0, .int 0, .int 0, .ref t1u, .ref t2u, .ref t3u, .ref t4u, .ref t5u, .ref t6u, .ref t7u])), (he, .inr (1, [.int 0, .ref k3]))] s.heap.size = A at hD ⊢
  have hA : ∀ q : Nat, s.heap.size ≤ q → A q := fun q h => by rw [← hAe]; exact Or.inr h
  have hS : va_S A s.heap s.heap [] := va_S.rf
  have hl := lv_entry ([.ref x, .int p0]) (n := 7) (Nat.le_of_ble_eq_true rfl)
  rw [lg_entry_eq]
  generalize (lg_sl ([.ref x, .int p0]) ++ List.replicate (7 - (lg_sl ([.ref x, .int p0])).length) Slot.unset).toArray = ls at hl ⊢
  have hl : lv_has ls 7 [(0, .ref x), (1, .int p0)] := hl
  refine p_nH (fun H hH => ?_)
  have hP : va_P g.1 vwCl [(x, .inr (11, [.ref xt, .int 0, .ref xr, .ref la, .ref lb, .ref sa, .int 0, .int 0, .ref ba, .int 0, .ref se, .ref si, .ref pa, .ref he])), (sa, aO g 41 (va_up (va_up fs 0 (some s0)) 1 (some s1))), (s0, .inr (9, [.int 0, .int 0, .int 0, .int 0, .int 0, .int 0, .int 0, .ref t1u, .ref t2u, .ref t3u, .ref t4u, .ref t5u, .ref t6u, .ref t7u])), (he, .inr (1, [.int 0, .ref k3]))] H := by rw [hH]; exact hP
  have hS : va_S A s.heap H [] := by rw [hH]; exact hS
  refine lv_aload_n hx hb dX11_life_0 rfl (lv_at hl 0 rfl) ?_
  refine va_get (D := g.1) (ci := 11) (v := .ref he) (C := RX11) (T := TX11) (N := 14) hx hb hT inF_X11 hown hK.1 hP 0 rfl rfl 13 (by decide) (hT _ bw_56) (fun _ h9 => h9) rfl dX11_life_1 ?_
  refine k_v (wr := [(x, .inr (11, [.ref xt, .int 0, .ref xr, .ref la, .ref lb, .ref sa, .int 0, .int 0, .ref ba, .int 0, .ref se, .ref si, .ref pa, .ref he])), (sa, aO g 41 (va_up (va_up fs 0 (some s0)) 1 (some s1))), (s0, .inr (9, [.int 0, .int 0, .int 0, .int 0, .int 0, .int 0, .int 0, .ref t1u, .ref t2u, .ref t3u, .ref t4u, .ref t5u, .ref t6u, .ref t7u]))]) (k_V (n := 0) ⟨hx, hb, hml, hown, hT⟩ hK hP hD [3] rfl (by decide) (c_X1_clear l g H.size he k3) (gV bw_71 bw_72 bw_73 bw_74 bw_10) rfl rfl (by decide +kernel) ⟨by decide, by decide⟩ (ci := 1) (q0 := 0) rfl rfl (fun _ _ _ _ _ => trivial) (fun _ _ _ => trivial) rfl rfl hl.1 (Nat.le_of_ble_eq_true rfl) dX11_life_4 ⟨by decide, by decide⟩) hP hD hS hA [3] [0, 1, 2] rfl rfl (by decide) (by decide) (fun u H locs hw hP hD hS => ?_)
  have hP : va_P g.1 vwCl [(x, .inr (11, [.ref xt, .int 0, .ref xr, .ref la, .ref lb, .ref sa, .int 0, .int 0, .ref ba, .int 0, .ref se, .ref si, .ref pa, .ref he])), (sa, aO g 41 (va_up (va_up fs 0 (some s0)) 1 (some s1))), (s0, .inr (9, [.int 0, .int 0, .int 0, .int 0, .int 0, .int 0, .int 0, .ref t1u, .ref t2u, .ref t3u, .ref t4u, .ref t5u, .ref t6u, .ref t7u])), (he, .inr (1, [.int 0, .ref k3]))] H := hP
  have hD : va_D A [(x, .inr (11, [.ref xt, .int 0, .ref xr, .ref la, .ref lb, .ref sa, .int 0, .int 0, .ref ba, .int 0, .ref se, .ref si, .ref pa, .ref he])), (sa, aO g 41 (va_up (va_up fs 0 (some s0)) 1 (some s1))), (s0, .inr (9, [.int 0, .int 0, .int 0, .int 0, .int 0, .int 0, .int 0, .ref t1u, .ref t2u, .ref t3u, .ref t4u, .ref t5u, .ref t6u, .ref t7u])), (he, .inr (1, [.int 0, .ref k3]))] := hD
  refine lv_aload_n hx hb dX11_life_7 rfl (lv_at hl 0 rfl) ?_
  refine va_get (D := g.1) (ci := 11) (v := .ref sa) (C := RX11) (T := TX11) (N := 14) hx hb hT inF_X11 hown hK.1 hP 0 rfl rfl 5 (by decide) (hT _ bw_20) (fun _ h9 => h9) rfl dX11_life_8 ?_
  refine lv_aload_n hx hb dX11_life_11 rfl (lv_at hl 0 rfl) ?_
  refine va_get (D := g.1) (ci := 11) (v := .int 0) (C := RX11) (T := TX11) (N := 14) hx hb hT inF_X11 hown hK.1 hP 0 rfl rfl 6 (by decide) (hT _ bw_21) (fun _ h9 => h9) rfl dX11_life_12 ?_
  refine va_aldq hx hb hK.1 hP 1 4 rfl rfl (i := 0) (by unfold vp_in; decide) dX11_life_15 ?_
  refine p_tr (x := s0) (rfl) ?_
  refine lv_astore_n (lv' := [(2, .ref s0), (0, .ref x), (1, .int p0)]) hx hb dX11_life_16 rfl hl (by decide) rfl (fun ls hl => ?_)
  refine lv_aload_n hx hb dX11_life_17 rfl (lv_at hl 0 rfl) ?_
  refine lv_iload_n hx hb dX11_life_18 rfl (lv_at hl 2 rfl) ?_
  refine k_iR (k_V (n := 1) ⟨hx, hb, hml, hown, hT⟩ hK hP hD [2] rfl (by decide) (c_X9_hasDuel l g H.size s0 t1u t2u t3u t4u t5u t6u t7u p0) (gV bw_22 bw_23 bw_24 bw_25 bw_5) rfl rfl (by decide +kernel) ⟨by decide, by decide⟩ (ci := 9) (q0 := 0) rfl rfl (fun _ _ _ _ _ => trivial) (fun _ _ _ => trivial) rfl rfl hl.1 (Nat.le_of_ble_eq_true rfl) dX11_life_19 ⟨by decide, by decide⟩) hP hS hA (fun r_1 _ H locs hw hP hS => ?_)
  have hw : r_1 = 0 := hw
  subst hw
  refine lv_if_eq (tgt := 33) hx hb dX11_life_22 (by decide) (fun _ => ?_) (fun c9 => absurd (by decide) c9)
  refine lv_iconst (v := (-1)) hx hb dX11_life_33 (by decide) ?_
  have hP9 : va_P g.1 vwCl [] H := hP.sub [] rfl
  have hD9 : va_D A [] := ⟨fun i j p q h => by simp at h, fun k q h => by simp at h⟩
  exact W.iret (v := (-1)) hx hb hr (fun t ht hW => ⟨⟨(-1), (), rfl, rfl, by rw [ht]; exact hP9, by rw [hAe]; exact hD9⟩, hS.F ht⟩) hS.2.2 dX11_life_34

theorem bw_76 : Cond.code yX11_hire cX11_hire 9 (some .int) ∈ gT := gT_tb 1160 (by decide +kernel) (by decide +kernel)
theorem dX11_hire_0 : decode cX11_hire 0 = .ok (.aload_n 0, 1) := by decide +kernel
theorem dX11_hire_1 : decode cX11_hire 1 = .ok (.getfield 63, 3) := by decide +kernel
theorem dX11_hire_4 : decode cX11_hire 4 = .ok (.invokevirtual 93, 3) := by decide +kernel
theorem dX11_hire_7 : decode cX11_hire 7 = .ok (.aload_n 0, 1) := by decide +kernel
theorem dX11_hire_8 : decode cX11_hire 8 = .ok (.getfield 32, 3) := by decide +kernel
theorem dX11_hire_11 : decode cX11_hire 11 = .ok (.aload_n 0, 1) := by decide +kernel
theorem dX11_hire_12 : decode cX11_hire 12 = .ok (.getfield 84, 3) := by decide +kernel
theorem dX11_hire_15 : decode cX11_hire 15 = .ok (.aaload, 1) := by decide +kernel
theorem dX11_hire_16 : decode cX11_hire 16 = .ok (.astore_n 3, 1) := by decide +kernel
theorem dX11_hire_17 : decode cX11_hire 17 = .ok (.iload_n 2, 1) := by decide +kernel
theorem dX11_hire_18 : decode cX11_hire 18 = .ok (.invokestatic 193, 3) := by decide +kernel
theorem dX11_hire_21 : decode cX11_hire 21 = .ok (.ifCond .eq 19, 3) := by decide +kernel
theorem dX11_hire_24 : decode cX11_hire 24 = .ok (.aload_n 3, 1) := by decide +kernel
theorem dX11_hire_25 : decode cX11_hire 25 = .ok (.iload_n 1, 1) := by decide +kernel
theorem dX11_hire_26 : decode cX11_hire 26 = .ok (.invokevirtual 132, 3) := by decide +kernel
theorem dX11_hire_29 : decode cX11_hire 29 = .ok (.ifCond .eq 11, 3) := by decide +kernel
theorem dX11_hire_40 : decode cX11_hire 40 = .ok (.iconst (-1), 1) := by decide +kernel
theorem dX11_hire_41 : decode cX11_hire 41 = .ok (.ireturn, 1) := by decide +kernel
set_option maxHeartbeats 4000000 in
set_option maxRecDepth 100000 in
theorem c_X11_hire (l : Launch) (g : GG) (sz : Nat) (x : Nat) (xt : Nat) (xr : Nat) (la : Nat) (lb : Nat) (sa : Nat) (ba : Nat) (se : Nat) (si : Nat) (pa : Nat) (he : Nat) (s1 : Nat) (s0 : Nat) (t1u : Nat) (t2u : Nat) (t3u : Nat) (t4u : Nat) (t5u : Nat) (t6u : Nat) (t7u : Nat) (k3 : Nat) (fs : Nat → Option Nat) (p0 : Int32) (p1 : Int32) : Met l yX11_hire (.code yX11_hire cX11_hire 9 (some .int) :: gT) ({ frames := 1, cells := 0, slots := 0, locals := 21 }) (va_Pc [.ref x, .int p0, .int p1] (Pst g sz [(x, .inr (11, [.ref xt, .int 0, .ref xr, .ref la, .ref lb, .ref sa, .int 0, .int 0, .ref ba, .int 0, .ref se, .ref si, .ref pa, .ref he])), (sa, aO g 41 (va_up (va_up fs 0 (some s0)) 1 (some s1))), (s0, .inr (9, [.int 0, .int 0, .int 0, .int 0, .int 0, .int 0, .int 0, .ref t1u, .ref t2u, .ref t3u, .ref t4u, .ref t5u, .ref t6u, .ref t7u])), (he, .inr (1, [.int 0, .ref k3]))] nX)) (va_Qi (fun (r : Int32) (_ : Unit) => r = (-1)) (Qst g [(x, .inr (11, [.ref xt, .int 0, .ref xr, .ref la, .ref lb, .ref sa, .int 0, .int 0, .ref ba, .int 0, .ref se, .ref si, .ref pa, .ref he])), (sa, aO g 41 (va_up (va_up fs 0 (some s0)) 1 (some s1))), (s0, .inr (9, [.int 0, .int 0, .int 0, .int 0, .int 0, .int 0, .int 0, .ref t1u, .ref t2u, .ref t3u, .ref t4u, .ref t5u, .ref t6u, .ref t7u])), (he, .inr (1, [.int 0, .ref k3]))] sz (fun _ => [])) (va_A [(x, .inr (11, [.ref xt, .int 0, .ref xr, .ref la, .ref lb, .ref sa, .int 0, .int 0, .ref ba, .int 0, .ref se, .ref si, .ref pa, .ref he])), (sa, aO g 41 (va_up (va_up fs 0 (some s0)) 1 (some s1))), (s0, .inr (9, [.int 0, .int 0, .int 0, .int 0, .int 0, .int 0, .int 0, .ref t1u, .ref t2u, .ref t3u, .ref t4u, .ref t5u, .ref t6u, .ref t7u])), (he, .inr (1, [.int 0, .ref k3]))] sz)) 0 0 (va_A [(x, .inr (11, [.ref xt, .int 0, .ref xr, .ref la, .ref lb, .ref sa, .int 0, .int 0, .ref ba, .int 0, .ref se, .ref si, .ref pa, .ref he])), (sa, aO g 41 (va_up (va_up fs 0 (some s0)) 1 (some s1))), (s0, .inr (9, [.int 0, .int 0, .int 0, .int 0, .int 0, .int 0, .int 0, .ref t1u, .ref t2u, .ref t3u, .ref t4u, .ref t5u, .ref t6u, .ref t7u])), (he, .inr (1, [.int 0, .ref k3]))] sz) := by
  refine Met.ofW (cc := cX11_hire) (maxL := 9) (ret := (some .int)) (by decide) rfl ?_
  intro p e s m args below meth c s₁ B hml hv
  obtain ⟨rfl, hsz, hP, hK, hD0, hX⟩ := hv
  have hx := B.exec
  have hb := B.bytes
  have hr := B.returns
  have hT : ∀ w ∈ gT, w.before _ s = true := fun w h => atoms_spec (ws := .code yX11_hire cX11_hire 9 (some .int) :: gT) B.pre w (List.mem_cons_of_mem _ h)
  have hown : s.vm.findClass RX11 = some m.cls := findClass_of_methodNamed B.named
  have hlocks := B.notSynchronized
  subst hsz
  have hD := hD0.self (sz := s.heap.size)
  generalize hAe : va_A [(x, .inr (11, [.ref xt, .int 0, .ref xr, .ref la, .ref lb, .ref sa, .int 0, .int 0, .ref ba, .int 0, .ref se, .ref si, .ref pa, .ref he])), (sa, aO g 41 (va_up (va_up fs 0 (some s0)) 1 (some s1))), (s0, .inr (9, [.int 0, .int 0, .int 0, .int 0, .int 0, .int 0, .int 0, .ref t1u, .ref t2u, .ref t3u, .ref t4u, .ref t5u, .ref t6u, .ref t7u])), (he, .inr (1, [.int 0, .ref k3]))] s.heap.size = A at hD ⊢
  have hA : ∀ q : Nat, s.heap.size ≤ q → A q := fun q h => by rw [← hAe]; exact Or.inr h
  have hS : va_S A s.heap s.heap [] := va_S.rf
  have hl := lv_entry ([.ref x, .int p0, .int p1]) (n := 9) (Nat.le_of_ble_eq_true rfl)
  rw [lg_entry_eq]
  generalize (lg_sl ([.ref x, .int p0, .int p1]) ++ List.replicate (9 - (lg_sl ([.ref x, .int p0, .int p1])).length) Slot.unset).toArray = ls at hl ⊢
  have hl : lv_has ls 9 [(0, .ref x), (1, .int p0), (2, .int p1)] := hl
  refine p_nH (fun H hH => ?_)
  have hP : va_P g.1 vwCl [(x, .inr (11, [.ref xt, .int 0, .ref xr, .ref la, .ref lb, .ref sa, .int 0, .int 0, .ref ba, .int 0, .ref se, .ref si, .ref pa, .ref he])), (sa, aO g 41 (va_up (va_up fs 0 (some s0)) 1 (some s1))), (s0, .inr (9, [.int 0, .int 0, .int 0, .int 0, .int 0, .int 0, .int 0, .ref t1u, .ref t2u, .ref t3u, .ref t4u, .ref t5u, .ref t6u, .ref t7u])), (he, .inr (1, [.int 0, .ref k3]))] H := by rw [hH]; exact hP
  have hS : va_S A s.heap H [] := by rw [hH]; exact hS
  refine lv_aload_n hx hb dX11_hire_0 rfl (lv_at hl 0 rfl) ?_
  refine va_get (D := g.1) (ci := 11) (v := .ref he) (C := RX11) (T := TX11) (N := 14) hx hb hT inF_X11 hown hK.1 hP 0 rfl rfl 13 (by decide) (hT _ bw_56) (fun _ h9 => h9) rfl dX11_hire_1 ?_
  refine k_v (wr := [(x, .inr (11, [.ref xt, .int 0, .ref xr, .ref la, .ref lb, .ref sa, .int 0, .int 0, .ref ba, .int 0, .ref se, .ref si, .ref pa, .ref he])), (sa, aO g 41 (va_up (va_up fs 0 (some s0)) 1 (some s1))), (s0, .inr (9, [.int 0, .int 0, .int 0, .int 0, .int 0, .int 0, .int 0, .ref t1u, .ref t2u, .ref t3u, .ref t4u, .ref t5u, .ref t6u, .ref t7u]))]) (k_V (n := 0) ⟨hx, hb, hml, hown, hT⟩ hK hP hD [3] rfl (by decide) (c_X1_clear l g H.size he k3) (gV bw_71 bw_72 bw_73 bw_74 bw_10) rfl rfl (by decide +kernel) ⟨by decide, by decide⟩ (ci := 1) (q0 := 0) rfl rfl (fun _ _ _ _ _ => trivial) (fun _ _ _ => trivial) rfl rfl hl.1 (Nat.le_of_ble_eq_true rfl) dX11_hire_4 ⟨by decide, by decide⟩) hP hD hS hA [3] [0, 1, 2] rfl rfl (by decide) (by decide) (fun u H locs hw hP hD hS => ?_)
  have hP : va_P g.1 vwCl [(x, .inr (11, [.ref xt, .int 0, .ref xr, .ref la, .ref lb, .ref sa, .int 0, .int 0, .ref ba, .int 0, .ref se, .ref si, .ref pa, .ref he])), (sa, aO g 41 (va_up (va_up fs 0 (some s0)) 1 (some s1))), (s0, .inr (9, [.int 0, .int 0, .int 0, .int 0, .int 0, .int 0, .int 0, .ref t1u, .ref t2u, .ref t3u, .ref t4u, .ref t5u, .ref t6u, .ref t7u])), (he, .inr (1, [.int 0, .ref k3]))] H := hP
  have hD : va_D A [(x, .inr (11, [.ref xt, .int 0, .ref xr, .ref la, .ref lb, .ref sa, .int 0, .int 0, .ref ba, .int 0, .ref se, .ref si, .ref pa, .ref he])), (sa, aO g 41 (va_up (va_up fs 0 (some s0)) 1 (some s1))), (s0, .inr (9, [.int 0, .int 0, .int 0, .int 0, .int 0, .int 0, .int 0, .ref t1u, .ref t2u, .ref t3u, .ref t4u, .ref t5u, .ref t6u, .ref t7u])), (he, .inr (1, [.int 0, .ref k3]))] := hD
  refine lv_aload_n hx hb dX11_hire_7 rfl (lv_at hl 0 rfl) ?_
  refine va_get (D := g.1) (ci := 11) (v := .ref sa) (C := RX11) (T := TX11) (N := 14) hx hb hT inF_X11 hown hK.1 hP 0 rfl rfl 5 (by decide) (hT _ bw_20) (fun _ h9 => h9) rfl dX11_hire_8 ?_
  refine lv_aload_n hx hb dX11_hire_11 rfl (lv_at hl 0 rfl) ?_
  refine va_get (D := g.1) (ci := 11) (v := .int 0) (C := RX11) (T := TX11) (N := 14) hx hb hT inF_X11 hown hK.1 hP 0 rfl rfl 6 (by decide) (hT _ bw_21) (fun _ h9 => h9) rfl dX11_hire_12 ?_
  refine va_aldq hx hb hK.1 hP 1 4 rfl rfl (i := 0) (by unfold vp_in; decide) dX11_hire_15 ?_
  refine p_tr (x := s0) (rfl) ?_
  refine lv_astore_n (lv' := [(3, .ref s0), (0, .ref x), (1, .int p0), (2, .int p1)]) hx hb dX11_hire_16 rfl hl (by decide) rfl (fun ls hl => ?_)
  refine lv_iload_n hx hb dX11_hire_17 rfl (lv_at hl 3 rfl) ?_
  refine k_iR (k_S (n := 1) ⟨hx, hb, hml, hown, hT⟩ hK hP hD [] rfl (by decide) (c_X11_isSide l g H.size p1) (gS bw_50 bw_51 bw_52 bw_12) rfl rfl (by decide +kernel) ⟨by decide, by decide⟩ (fun _ _ _ _ _ => trivial) (fun _ _ _ => trivial) rfl rfl hl.1 (Nat.le_of_ble_eq_true rfl) dX11_hire_18 ⟨by decide, by decide⟩) hP hS hA (fun r_1 _ H locs hw hP hS => ?_)
  refine lv_if_eq (tgt := 40) hx hb dX11_hire_21 (by decide) (fun c_2 => ?_) (fun c_2 => ?_)
  · refine lv_iconst (v := (-1)) hx hb dX11_hire_40 (by decide) ?_
    have hP9 : va_P g.1 vwCl [] H := hP.sub [] rfl
    have hD9 : va_D A [] := ⟨fun i j p q h => by simp at h, fun k q h => by simp at h⟩
    exact W.iret (v := (-1)) hx hb hr (fun t ht hW => ⟨⟨(-1), (), rfl, rfl, by rw [ht]; exact hP9, by rw [hAe]; exact hD9⟩, hS.F ht⟩) hS.2.2 dX11_hire_41
  · refine lv_aload_n hx hb dX11_hire_24 rfl (lv_at hl 0 rfl) ?_
    refine lv_iload_n hx hb dX11_hire_25 rfl (lv_at hl 2 rfl) ?_
    refine k_iR (k_V (n := 1) ⟨hx, hb, hml, hown, hT⟩ hK hP hD [2] rfl (by decide) (c_X9_hasDuel l g H.size s0 t1u t2u t3u t4u t5u t6u t7u p0) (gV bw_22 bw_23 bw_24 bw_25 bw_5) rfl rfl (by decide +kernel) ⟨by decide, by decide⟩ (ci := 9) (q0 := 0) rfl rfl (fun _ _ _ _ _ => trivial) (fun _ _ _ => trivial) rfl rfl hl.1 (Nat.le_of_ble_eq_true rfl) dX11_hire_26 ⟨by decide, by decide⟩) hP hS hA (fun r_3 _ H locs hw hP hS => ?_)
    have hw : r_3 = 0 := hw
    subst hw
    refine lv_if_eq (tgt := 40) hx hb dX11_hire_29 (by decide) (fun _ => ?_) (fun c9 => absurd (by decide) c9)
    refine lv_iconst (v := (-1)) hx hb dX11_hire_40 (by decide) ?_
    have hP9 : va_P g.1 vwCl [] H := hP.sub [] rfl
    have hD9 : va_D A [] := ⟨fun i j p q h => by simp at h, fun k q h => by simp at h⟩
    exact W.iret (v := (-1)) hx hb hr (fun t ht hW => ⟨⟨(-1), (), rfl, rfl, by rw [ht]; exact hP9, by rw [hAe]; exact hD9⟩, hS.F ht⟩) hS.2.2 dX11_hire_41

theorem bw_77 : Cond.code yX11_part cX11_part 3 (some .int) ∈ gT := gT_tb 1185 (by decide +kernel) (by decide +kernel)
theorem dX11_part_0 : decode cX11_part 0 = .ok (.aload_n 0, 1) := by decide +kernel
theorem dX11_part_1 : decode cX11_part 1 = .ok (.getfield 63, 3) := by decide +kernel
theorem dX11_part_4 : decode cX11_part 4 = .ok (.invokevirtual 93, 3) := by decide +kernel
theorem dX11_part_7 : decode cX11_part 7 = .ok (.aload_n 0, 1) := by decide +kernel
theorem dX11_part_8 : decode cX11_part 8 = .ok (.getfield 23, 3) := by decide +kernel
theorem dX11_part_11 : decode cX11_part 11 = .ok (.getfield 97, 3) := by decide +kernel
theorem dX11_part_14 : decode cX11_part 14 = .ok (.iload_n 1, 1) := by decide +kernel
theorem dX11_part_15 : decode cX11_part 15 = .ok (.invokevirtual 112, 3) := by decide +kernel
theorem dX11_part_18 : decode cX11_part 18 = .ok (.ifCond .ne 5, 3) := by decide +kernel
theorem dX11_part_21 : decode cX11_part 21 = .ok (.iconst (-1), 1) := by decide +kernel
theorem dX11_part_22 : decode cX11_part 22 = .ok (.ireturn, 1) := by decide +kernel
set_option maxHeartbeats 4000000 in
set_option maxRecDepth 100000 in
theorem c_X11_part (l : Launch) (g : GG) (sz : Nat) (x : Nat) (xt : Nat) (xr : Nat) (la : Nat) (lb : Nat) (sa : Nat) (ba : Nat) (se : Nat) (si : Nat) (pa : Nat) (he : Nat) (mea : Nat) (foa : Nat) (rea : Nat) (d1a : Nat) (d2a : Nat) (d3a : Nat) (m1a : Nat) (m2a : Nat) (m3a : Nat) (m4a : Nat) (k3 : Nat) (p0 : Int32) : Met l yX11_part (.code yX11_part cX11_part 3 (some .int) :: gT) ({ frames := 1, cells := 0, slots := 0, locals := 21 }) (va_Pc [.ref x, .int p0] (Pst g sz [(x, .inr (11, [.ref xt, .int 0, .ref xr, .ref la, .ref lb, .ref sa, .int 0, .int 0, .ref ba, .int 0, .ref se, .ref si, .ref pa, .ref he])), (la, .inr (2, [.ref mea, .ref foa, .ref rea, .int 0, .ref d1a, .ref d2a, .int 9, .int 0, .ref d3a])), (mea, .inr (3, [.int 0, .ref m1a, .ref m2a, .ref m3a, .ref m4a])), (he, .inr (1, [.int 0, .ref k3]))] nX)) (va_Qi (fun (r : Int32) (_ : Unit) => r = (-1)) (Qst g [(x, .inr (11, [.ref xt, .int 0, .ref xr, .ref la, .ref lb, .ref sa, .int 0, .int 0, .ref ba, .int 0, .ref se, .ref si, .ref pa, .ref he])), (la, .inr (2, [.ref mea, .ref foa, .ref rea, .int 0, .ref d1a, .ref d2a, .int 9, .int 0, .ref d3a])), (mea, .inr (3, [.int 0, .ref m1a, .ref m2a, .ref m3a, .ref m4a])), (he, .inr (1, [.int 0, .ref k3]))] sz (fun _ => [])) (va_A [(x, .inr (11, [.ref xt, .int 0, .ref xr, .ref la, .ref lb, .ref sa, .int 0, .int 0, .ref ba, .int 0, .ref se, .ref si, .ref pa, .ref he])), (la, .inr (2, [.ref mea, .ref foa, .ref rea, .int 0, .ref d1a, .ref d2a, .int 9, .int 0, .ref d3a])), (mea, .inr (3, [.int 0, .ref m1a, .ref m2a, .ref m3a, .ref m4a])), (he, .inr (1, [.int 0, .ref k3]))] sz)) 0 0 (va_A [(x, .inr (11, [.ref xt, .int 0, .ref xr, .ref la, .ref lb, .ref sa, .int 0, .int 0, .ref ba, .int 0, .ref se, .ref si, .ref pa, .ref he])), (la, .inr (2, [.ref mea, .ref foa, .ref rea, .int 0, .ref d1a, .ref d2a, .int 9, .int 0, .ref d3a])), (mea, .inr (3, [.int 0, .ref m1a, .ref m2a, .ref m3a, .ref m4a])), (he, .inr (1, [.int 0, .ref k3]))] sz) := by
  refine Met.ofW (cc := cX11_part) (maxL := 3) (ret := (some .int)) (by decide) rfl ?_
  intro p e s m args below meth c s₁ B hml hv
  obtain ⟨rfl, hsz, hP, hK, hD0, hX⟩ := hv
  have hx := B.exec
  have hb := B.bytes
  have hr := B.returns
  have hT : ∀ w ∈ gT, w.before _ s = true := fun w h => atoms_spec (ws := .code yX11_part cX11_part 3 (some .int) :: gT) B.pre w (List.mem_cons_of_mem _ h)
  have hown : s.vm.findClass RX11 = some m.cls := findClass_of_methodNamed B.named
  have hlocks := B.notSynchronized
  subst hsz
  have hD := hD0.self (sz := s.heap.size)
  generalize hAe : va_A [(x, .inr (11, [.ref xt, .int 0, .ref xr, .ref la, .ref lb, .ref sa, .int 0, .int 0, .ref ba, .int 0, .ref se, .ref si, .ref pa, .ref he])), (la, .inr (2, [.ref mea, .ref foa, .ref rea, .int 0, .ref d1a, .ref d2a, .int 9, .int 0, .ref d3a])), (mea, .inr (3, [.int 0, .ref m1a, .ref m2a, .ref m3a, .ref m4a])), (he, .inr (1, [.int 0, .ref k3]))] s.heap.size = A at hD ⊢
  have hA : ∀ q : Nat, s.heap.size ≤ q → A q := fun q h => by rw [← hAe]; exact Or.inr h
  have hS : va_S A s.heap s.heap [] := va_S.rf
  have hl := lv_entry ([.ref x, .int p0]) (n := 3) (Nat.le_of_ble_eq_true rfl)
  rw [lg_entry_eq]
  generalize (lg_sl ([.ref x, .int p0]) ++ List.replicate (3 - (lg_sl ([.ref x, .int p0])).length) Slot.unset).toArray = ls at hl ⊢
  have hl : lv_has ls 3 [(0, .ref x), (1, .int p0)] := hl
  refine p_nH (fun H hH => ?_)
  have hP : va_P g.1 vwCl [(x, .inr (11, [.ref xt, .int 0, .ref xr, .ref la, .ref lb, .ref sa, .int 0, .int 0, .ref ba, .int 0, .ref se, .ref si, .ref pa, .ref he])), (la, .inr (2, [.ref mea, .ref foa, .ref rea, .int 0, .ref d1a, .ref d2a, .int 9, .int 0, .ref d3a])), (mea, .inr (3, [.int 0, .ref m1a, .ref m2a, .ref m3a, .ref m4a])), (he, .inr (1, [.int 0, .ref k3]))] H := by rw [hH]; exact hP
  have hS : va_S A s.heap H [] := by rw [hH]; exact hS
  refine lv_aload_n hx hb dX11_part_0 rfl (lv_at hl 0 rfl) ?_
  refine va_get (D := g.1) (ci := 11) (v := .ref he) (C := RX11) (T := TX11) (N := 14) hx hb hT inF_X11 hown hK.1 hP 0 rfl rfl 13 (by decide) (hT _ bw_56) (fun _ h9 => h9) rfl dX11_part_1 ?_
  refine k_v (wr := [(x, .inr (11, [.ref xt, .int 0, .ref xr, .ref la, .ref lb, .ref sa, .int 0, .int 0, .ref ba, .int 0, .ref se, .ref si, .ref pa, .ref he])), (la, .inr (2, [.ref mea, .ref foa, .ref rea, .int 0, .ref d1a, .ref d2a, .int 9, .int 0, .ref d3a])), (mea, .inr (3, [.int 0, .ref m1a, .ref m2a, .ref m3a, .ref m4a]))]) (k_V (n := 0) ⟨hx, hb, hml, hown, hT⟩ hK hP hD [3] rfl (by decide) (c_X1_clear l g H.size he k3) (gV bw_71 bw_72 bw_73 bw_74 bw_10) rfl rfl (by decide +kernel) ⟨by decide, by decide⟩ (ci := 1) (q0 := 0) rfl rfl (fun _ _ _ _ _ => trivial) (fun _ _ _ => trivial) rfl rfl hl.1 (Nat.le_of_ble_eq_true rfl) dX11_part_4 ⟨by decide, by decide⟩) hP hD hS hA [3] [0, 1, 2] rfl rfl (by decide) (by decide) (fun u H locs hw hP hD hS => ?_)
  have hP : va_P g.1 vwCl [(x, .inr (11, [.ref xt, .int 0, .ref xr, .ref la, .ref lb, .ref sa, .int 0, .int 0, .ref ba, .int 0, .ref se, .ref si, .ref pa, .ref he])), (la, .inr (2, [.ref mea, .ref foa, .ref rea, .int 0, .ref d1a, .ref d2a, .int 9, .int 0, .ref d3a])), (mea, .inr (3, [.int 0, .ref m1a, .ref m2a, .ref m3a, .ref m4a])), (he, .inr (1, [.int 0, .ref k3]))] H := hP
  have hD : va_D A [(x, .inr (11, [.ref xt, .int 0, .ref xr, .ref la, .ref lb, .ref sa, .int 0, .int 0, .ref ba, .int 0, .ref se, .ref si, .ref pa, .ref he])), (la, .inr (2, [.ref mea, .ref foa, .ref rea, .int 0, .ref d1a, .ref d2a, .int 9, .int 0, .ref d3a])), (mea, .inr (3, [.int 0, .ref m1a, .ref m2a, .ref m3a, .ref m4a])), (he, .inr (1, [.int 0, .ref k3]))] := hD
  refine lv_aload_n hx hb dX11_part_7 rfl (lv_at hl 0 rfl) ?_
  refine va_get (D := g.1) (ci := 11) (v := .ref la) (C := RX11) (T := TX11) (N := 14) hx hb hT inF_X11 hown hK.1 hP 0 rfl rfl 3 (by decide) (hT _ bw_13) (fun _ h9 => h9) rfl dX11_part_8 ?_
  refine va_get (D := g.1) (ci := 2) (v := .ref mea) (C := RX2) (T := TX2) (N := 9) hx hb hT inF_X2 hown hK.1 hP 1 rfl rfl 0 (by decide) (hT _ bw_14) (fun _ h9 => h9) rfl dX11_part_11 ?_
  refine lv_iload_n hx hb dX11_part_14 rfl (lv_at hl 1 rfl) ?_
  refine k_iR (k_V (n := 1) ⟨hx, hb, hml, hown, hT⟩ hK hP hD [2] rfl (by decide) (c_X3_has l g H.size mea m1a m2a m3a m4a p0) (gV bw_15 bw_16 bw_17 bw_18 bw_1) rfl rfl (by decide +kernel) ⟨by decide, by decide⟩ (ci := 3) (q0 := 0) rfl rfl (fun _ _ _ _ _ => trivial) (fun _ _ _ => trivial) rfl rfl hl.1 (Nat.le_of_ble_eq_true rfl) dX11_part_15 ⟨by decide, by decide⟩) hP hS hA (fun r_1 _ H locs hw hP hS => ?_)
  have hw : r_1 = 0 := hw
  subst hw
  refine lv_if_ne (tgt := 23) hx hb dX11_part_18 (by decide) (fun c9 => absurd (by decide) c9) (fun _ => ?_)
  refine lv_iconst (v := (-1)) hx hb dX11_part_21 (by decide) ?_
  have hP9 : va_P g.1 vwCl [] H := hP.sub [] rfl
  have hD9 : va_D A [] := ⟨fun i j p q h => by simp at h, fun k q h => by simp at h⟩
  exact W.iret (v := (-1)) hx hb hr (fun t ht hW => ⟨⟨(-1), (), rfl, rfl, by rw [ht]; exact hP9, by rw [hAe]; exact hD9⟩, hS.F ht⟩) hS.2.2 dX11_part_22

theorem bw_78 : Cond.code yX11_falses cX11_falses 5 (some .int) ∈ gT := gT_tb 1270 (by decide +kernel) (by decide +kernel)
theorem dX11_falses_0 : decode cX11_falses 0 = .ok (.aload_n 0, 1) := by decide +kernel
theorem dX11_falses_1 : decode cX11_falses 1 = .ok (.getfield 63, 3) := by decide +kernel
theorem dX11_falses_4 : decode cX11_falses 4 = .ok (.invokevirtual 93, 3) := by decide +kernel
theorem dX11_falses_7 : decode cX11_falses 7 = .ok (.aload_n 0, 1) := by decide +kernel
theorem dX11_falses_8 : decode cX11_falses 8 = .ok (.getfield 32, 3) := by decide +kernel
theorem dX11_falses_11 : decode cX11_falses 11 = .ok (.aload_n 0, 1) := by decide +kernel
theorem dX11_falses_12 : decode cX11_falses 12 = .ok (.getfield 84, 3) := by decide +kernel
theorem dX11_falses_15 : decode cX11_falses 15 = .ok (.aaload, 1) := by decide +kernel
theorem dX11_falses_16 : decode cX11_falses 16 = .ok (.astore_n 2, 1) := by decide +kernel
theorem dX11_falses_17 : decode cX11_falses 17 = .ok (.iconst 0, 1) := by decide +kernel
theorem dX11_falses_18 : decode cX11_falses 18 = .ok (.istore_n 3, 1) := by decide +kernel
theorem dX11_falses_19 : decode cX11_falses 19 = .ok (.iconst 0, 1) := by decide +kernel
theorem dX11_falses_20 : decode cX11_falses 20 = .ok (.istore 4, 2) := by decide +kernel
theorem dX11_falses_22 : decode cX11_falses 22 = .ok (.iload 4, 2) := by decide +kernel
theorem dX11_falses_24 : decode cX11_falses 24 = .ok (.aload_n 2, 1) := by decide +kernel
theorem dX11_falses_25 : decode cX11_falses 25 = .ok (.getfield 311, 3) := by decide +kernel
theorem dX11_falses_28 : decode cX11_falses 28 = .ok (.if_icmp .ge 52, 3) := by decide +kernel
theorem dX11_falses_80 : decode cX11_falses 80 = .ok (.iload_n 3, 1) := by decide +kernel
theorem dX11_falses_81 : decode cX11_falses 81 = .ok (.ireturn, 1) := by decide +kernel
set_option maxHeartbeats 4000000 in
set_option maxRecDepth 100000 in
theorem c_X11_falses (l : Launch) (g : GG) (sz : Nat) (x : Nat) (xt : Nat) (xr : Nat) (la : Nat) (lb : Nat) (sa : Nat) (ba : Nat) (se : Nat) (si : Nat) (pa : Nat) (he : Nat) (s1 : Nat) (s0 : Nat) (t1u : Nat) (t2u : Nat) (t3u : Nat) (t4u : Nat) (t5u : Nat) (t6u : Nat) (t7u : Nat) (k3 : Nat) (fs : Nat → Option Nat) (p0 : Int32) : Met l yX11_falses (.code yX11_falses cX11_falses 5 (some .int) :: gT) ({ frames := 1, cells := 0, slots := 0, locals := 20 }) (va_Pc [.ref x, .int p0] (Pst g sz [(x, .inr (11, [.ref xt, .int 0, .ref xr, .ref la, .ref lb, .ref sa, .int 0, .int 0, .ref ba, .int 0, .ref se, .ref si, .ref pa, .ref he])), (sa, aO g 41 (va_up (va_up fs 0 (some s0)) 1 (some s1))), (s0, .inr (9, [.int 0, .int 0, .int 0, .int 0, .int 0, .int 0, .int 0, .ref t1u, .ref t2u, .ref t3u, .ref t4u, .ref t5u, .ref t6u, .ref t7u])), (he, .inr (1, [.int 0, .ref k3]))] nX)) (va_Qi (fun (r : Int32) (_ : Unit) => r = 0) (Qst g [(x, .inr (11, [.ref xt, .int 0, .ref xr, .ref la, .ref lb, .ref sa, .int 0, .int 0, .ref ba, .int 0, .ref se, .ref si, .ref pa, .ref he])), (sa, aO g 41 (va_up (va_up fs 0 (some s0)) 1 (some s1))), (s0, .inr (9, [.int 0, .int 0, .int 0, .int 0, .int 0, .int 0, .int 0, .ref t1u, .ref t2u, .ref t3u, .ref t4u, .ref t5u, .ref t6u, .ref t7u])), (he, .inr (1, [.int 0, .ref k3]))] sz (fun _ => [])) (va_A [(x, .inr (11, [.ref xt, .int 0, .ref xr, .ref la, .ref lb, .ref sa, .int 0, .int 0, .ref ba, .int 0, .ref se, .ref si, .ref pa, .ref he])), (sa, aO g 41 (va_up (va_up fs 0 (some s0)) 1 (some s1))), (s0, .inr (9, [.int 0, .int 0, .int 0, .int 0, .int 0, .int 0, .int 0, .ref t1u, .ref t2u, .ref t3u, .ref t4u, .ref t5u, .ref t6u, .ref t7u])), (he, .inr (1, [.int 0, .ref k3]))] sz)) 0 0 (va_A [(x, .inr (11, [.ref xt, .int 0, .ref xr, .ref la, .ref lb, .ref sa, .int 0, .int 0, .ref ba, .int 0, .ref se, .ref si, .ref pa, .ref he])), (sa, aO g 41 (va_up (va_up fs 0 (some s0)) 1 (some s1))), (s0, .inr (9, [.int 0, .int 0, .int 0, .int 0, .int 0, .int 0, .int 0, .ref t1u, .ref t2u, .ref t3u, .ref t4u, .ref t5u, .ref t6u, .ref t7u])), (he, .inr (1, [.int 0, .ref k3]))] sz) := by
  refine Met.ofW (cc := cX11_falses) (maxL := 5) (ret := (some .int)) (by decide) rfl ?_
  intro p e s m args below meth c s₁ B hml hv
  obtain ⟨rfl, hsz, hP, hK, hD0, hX⟩ := hv
  have hx := B.exec
  have hb := B.bytes
  have hr := B.returns
  have hT : ∀ w ∈ gT, w.before _ s = true := fun w h => atoms_spec (ws := .code yX11_falses cX11_falses 5 (some .int) :: gT) B.pre w (List.mem_cons_of_mem _ h)
  have hown : s.vm.findClass RX11 = some m.cls := findClass_of_methodNamed B.named
  have hlocks := B.notSynchronized
  subst hsz
  have hD := hD0.self (sz := s.heap.size)
  generalize hAe : va_A [(x, .inr (11, [.ref xt, .int 0, .ref xr, .ref la, .ref lb, .ref sa, .int 0, .int 0, .ref ba, .int 0, .ref se, .ref si, .ref pa, .ref he])), (sa, aO g 41 (va_up (va_up fs 0 (some s0)) 1 (some s1))), (s0, .inr (9, [.int 0, .int 0, .int 0, .int 0, .int 0, .int 0, .int 0, .ref t1u, .ref t2u, .ref t3u, .ref t4u, .ref t5u, .ref t6u, .ref t7u])), (he, .inr (1, [.int 0, .ref k3]))] s.heap.size = A at hD ⊢
  have hA : ∀ q : Nat, s.heap.size ≤ q → A q := fun q h => by rw [← hAe]; exact Or.inr h
  have hS : va_S A s.heap s.heap [] := va_S.rf
  have hl := lv_entry ([.ref x, .int p0]) (n := 5) (Nat.le_of_ble_eq_true rfl)
  rw [lg_entry_eq]
  generalize (lg_sl ([.ref x, .int p0]) ++ List.replicate (5 - (lg_sl ([.ref x, .int p0])).length) Slot.unset).toArray = ls at hl ⊢
  have hl : lv_has ls 5 [(0, .ref x), (1, .int p0)] := hl
  refine p_nH (fun H hH => ?_)
  have hP : va_P g.1 vwCl [(x, .inr (11, [.ref xt, .int 0, .ref xr, .ref la, .ref lb, .ref sa, .int 0, .int 0, .ref ba, .int 0, .ref se, .ref si, .ref pa, .ref he])), (sa, aO g 41 (va_up (va_up fs 0 (some s0)) 1 (some s1))), (s0, .inr (9, [.int 0, .int 0, .int 0, .int 0, .int 0, .int 0, .int 0, .ref t1u, .ref t2u, .ref t3u, .ref t4u, .ref t5u, .ref t6u, .ref t7u])), (he, .inr (1, [.int 0, .ref k3]))] H := by rw [hH]; exact hP
  have hS : va_S A s.heap H [] := by rw [hH]; exact hS
  refine lv_aload_n hx hb dX11_falses_0 rfl (lv_at hl 0 rfl) ?_
  refine va_get (D := g.1) (ci := 11) (v := .ref he) (C := RX11) (T := TX11) (N := 14) hx hb hT inF_X11 hown hK.1 hP 0 rfl rfl 13 (by decide) (hT _ bw_56) (fun _ h9 => h9) rfl dX11_falses_1 ?_
  refine k_v (wr := [(x, .inr (11, [.ref xt, .int 0, .ref xr, .ref la, .ref lb, .ref sa, .int 0, .int 0, .ref ba, .int 0, .ref se, .ref si, .ref pa, .ref he])), (sa, aO g 41 (va_up (va_up fs 0 (some s0)) 1 (some s1))), (s0, .inr (9, [.int 0, .int 0, .int 0, .int 0, .int 0, .int 0, .int 0, .ref t1u, .ref t2u, .ref t3u, .ref t4u, .ref t5u, .ref t6u, .ref t7u]))]) (k_V (n := 0) ⟨hx, hb, hml, hown, hT⟩ hK hP hD [3] rfl (by decide) (c_X1_clear l g H.size he k3) (gV bw_71 bw_72 bw_73 bw_74 bw_10) rfl rfl (by decide +kernel) ⟨by decide, by decide⟩ (ci := 1) (q0 := 0) rfl rfl (fun _ _ _ _ _ => trivial) (fun _ _ _ => trivial) rfl rfl hl.1 (Nat.le_of_ble_eq_true rfl) dX11_falses_4 ⟨by decide, by decide⟩) hP hD hS hA [3] [0, 1, 2] rfl rfl (by decide) (by decide) (fun u H locs hw hP hD hS => ?_)
  have hP : va_P g.1 vwCl [(x, .inr (11, [.ref xt, .int 0, .ref xr, .ref la, .ref lb, .ref sa, .int 0, .int 0, .ref ba, .int 0, .ref se, .ref si, .ref pa, .ref he])), (sa, aO g 41 (va_up (va_up fs 0 (some s0)) 1 (some s1))), (s0, .inr (9, [.int 0, .int 0, .int 0, .int 0, .int 0, .int 0, .int 0, .ref t1u, .ref t2u, .ref t3u, .ref t4u, .ref t5u, .ref t6u, .ref t7u])), (he, .inr (1, [.int 0, .ref k3]))] H := hP
  have hD : va_D A [(x, .inr (11, [.ref xt, .int 0, .ref xr, .ref la, .ref lb, .ref sa, .int 0, .int 0, .ref ba, .int 0, .ref se, .ref si, .ref pa, .ref he])), (sa, aO g 41 (va_up (va_up fs 0 (some s0)) 1 (some s1))), (s0, .inr (9, [.int 0, .int 0, .int 0, .int 0, .int 0, .int 0, .int 0, .ref t1u, .ref t2u, .ref t3u, .ref t4u, .ref t5u, .ref t6u, .ref t7u])), (he, .inr (1, [.int 0, .ref k3]))] := hD
  refine lv_aload_n hx hb dX11_falses_7 rfl (lv_at hl 0 rfl) ?_
  refine va_get (D := g.1) (ci := 11) (v := .ref sa) (C := RX11) (T := TX11) (N := 14) hx hb hT inF_X11 hown hK.1 hP 0 rfl rfl 5 (by decide) (hT _ bw_20) (fun _ h9 => h9) rfl dX11_falses_8 ?_
  refine lv_aload_n hx hb dX11_falses_11 rfl (lv_at hl 0 rfl) ?_
  refine va_get (D := g.1) (ci := 11) (v := .int 0) (C := RX11) (T := TX11) (N := 14) hx hb hT inF_X11 hown hK.1 hP 0 rfl rfl 6 (by decide) (hT _ bw_21) (fun _ h9 => h9) rfl dX11_falses_12 ?_
  refine va_aldq hx hb hK.1 hP 1 4 rfl rfl (i := 0) (by unfold vp_in; decide) dX11_falses_15 ?_
  refine p_tr (x := s0) (rfl) ?_
  refine lv_astore_n (lv' := [(2, .ref s0), (0, .ref x), (1, .int p0)]) hx hb dX11_falses_16 rfl hl (by decide) rfl (fun ls hl => ?_)
  refine lv_iconst (v := 0) hx hb dX11_falses_17 (by decide) ?_
  refine lv_istore_n (lv' := [(3, .int 0), (2, .ref s0), (0, .ref x), (1, .int p0)]) hx hb dX11_falses_18 rfl hl (by decide) rfl (fun ls hl => ?_)
  refine lv_iconst (v := 0) hx hb dX11_falses_19 (by decide) ?_
  refine lv_istore (lv' := [(4, .int 0), (3, .int 0), (2, .ref s0), (0, .ref x), (1, .int p0)]) hx hb dX11_falses_20 hl (by decide) rfl (fun ls hl => ?_)
  refine lv_iload hx hb dX11_falses_22 (lv_at hl 0 rfl) ?_
  refine lv_aload_n hx hb dX11_falses_24 rfl (lv_at hl 2 rfl) ?_
  refine va_get (D := g.1) (ci := 9) (v := .int 0) (C := RX9) (T := TX9) (N := 14) hx hb hT inF_X9 hown hK.1 hP 2 rfl rfl 6 (by decide) (hT _ bw_59) (fun _ h9 => h9) rfl dX11_falses_25 ?_
  refine lv_icmp_ge (tgt := 80) hx hb dX11_falses_28 (by decide) (fun _ => ?_) (fun c9 => absurd (by decide) c9)
  refine lv_iload_n hx hb dX11_falses_80 rfl (lv_at hl 1 rfl) ?_
  have hP9 : va_P g.1 vwCl [] H := hP.sub [] rfl
  have hD9 : va_D A [] := ⟨fun i j p q h => by simp at h, fun k q h => by simp at h⟩
  exact W.iret (v := 0) hx hb hr (fun t ht hW => ⟨⟨0, (), rfl, rfl, by rw [ht]; exact hP9, by rw [hAe]; exact hD9⟩, hS.F ht⟩) hS.2.2 dX11_falses_81
