theorem bw_384 : Cond.methodLink RX5 3 objectInit ∈ gT := gT_tb 36 (by decide +kernel) (by decide +kernel)
theorem bw_385 : Cond.classLink RX5 15 RX10 ∈ gT := gT_tb 37 (by decide +kernel) (by decide +kernel)
theorem bw_386 : Cond.instantiable RX10 8 ∈ gT := gT_tb 38 (by decide +kernel) (by decide +kernel)
theorem bw_387 : Cond.initialized yX10_init.cls ∈ gT := gT_tb 3 (by decide +kernel) (by decide +kernel)
theorem bw_388 : Cond.methodLink RX5 17 yX10_init ∈ gT := gT_tb 39 (by decide +kernel) (by decide +kernel)
theorem bw_389 : Cond.instanceMethod yX10_init ∈ gT := gT_tb 40 (by decide +kernel) (by decide +kernel)
theorem bw_390 : Cond.code yX5_init cX5_init 1 none ∈ gT := gT_tb 35 (by decide +kernel) (by decide +kernel)
theorem dX5_init_0 : decode cX5_init 0 = .ok (.aload_n 0, 1) := by decide +kernel
theorem dX5_init_1 : decode cX5_init 1 = .ok (.invokespecial 3, 3) := by decide +kernel
theorem dX5_init_4 : decode cX5_init 4 = .ok (.aload_n 0, 1) := by decide +kernel
theorem dX5_init_5 : decode cX5_init 5 = .ok (.iconst (-1), 1) := by decide +kernel
theorem dX5_init_6 : decode cX5_init 6 = .ok (.putfield 9, 3) := by decide +kernel
theorem dX5_init_9 : decode cX5_init 9 = .ok (.aload_n 0, 1) := by decide +kernel
theorem dX5_init_10 : decode cX5_init 10 = .ok (.new 15, 3) := by decide +kernel
theorem dX5_init_13 : decode cX5_init 13 = .ok (.dup, 1) := by decide +kernel
theorem dX5_init_14 : decode cX5_init 14 = .ok (.invokespecial 17, 3) := by decide +kernel
theorem dX5_init_17 : decode cX5_init 17 = .ok (.putfield 18, 3) := by decide +kernel
theorem dX5_init_20 : decode cX5_init 20 = .ok (.return_, 1) := by decide +kernel
set_option maxHeartbeats 4000000 in
set_option maxRecDepth 100000 in
theorem c_X5_init (l : Launch) (g : GG) (sz : Nat) (h : Nat) (aV : Nat) (fb : Nat → Int32) : Met l yX5_init (.code yX5_init cX5_init 1 none :: gT) ({ frames := 5, cells := 2, slots := 32, locals := 109 }) (va_Pc [.ref h] (Pst g sz [(h, .inr (5, [.int 0, .int 0, .null, .null, .int 0, .int 0, .int 0]))] (sX g aV fb (va_A [(h, .inr (5, [.int 0, .int 0, .null, .null, .int 0, .int 0, .int 0]))] sz)))) (va_Qv (fun (_ : Nat × Nat × (Nat → Int64)) => True) (Qst g [(h, .inr (5, [.int 0, .int 0, .null, .null, .int 0, .int 0, .int 0]))] sz (fun ((q_1, q_2, f_3) : Nat × Nat × (Nat → Int64)) => [(h, .inr (5, [.int 0, .int (-1), .ref q_1, .null, .int 0, .int 0, .int 0])), (q_1, .inr (10, [.int 0, .int 0, .int 0, .long 0, .null, .int 0, .int 0, .ref q_2])), (q_2, aJ g 24 f_3)])) (va_A [(h, .inr (5, [.int 0, .int 0, .null, .null, .int 0, .int 0, .int 0]))] sz)) 2 32 (va_A [(h, .inr (5, [.int 0, .int 0, .null, .null, .int 0, .int 0, .int 0]))] sz) := by
  refine Met.ofW (cc := cX5_init) (maxL := 1) (ret := none) (by decide) rfl ?_
  intro p e s m args below meth c s₁ B hml hv
  obtain ⟨rfl, hsz, hP, hK, hD0, hX⟩ := hv
  have hx := B.exec
  have hb := B.bytes
  have hr := B.returns
  have hT : ∀ w ∈ gT, w.before _ s = true := fun w h => atoms_spec (ws := .code yX5_init cX5_init 1 none :: gT) B.pre w (List.mem_cons_of_mem _ h)
  have hown : s.vm.findClass RX5 = some m.cls := findClass_of_methodNamed B.named
  have hlocks := B.notSynchronized
  have hin : meth.name = "<init>" := (name_of_methodNamed B.named B.method).1
  subst hsz
  have hD := hD0.self (sz := s.heap.size)
  generalize hAe : va_A [(h, .inr (5, [.int 0, .int 0, .null, .null, .int 0, .int 0, .int 0]))] s.heap.size = A at hD hX ⊢
  have hA : ∀ q : Nat, s.heap.size ≤ q → A q := fun q h => by rw [← hAe]; exact Or.inr h
  have hS : va_S A s.heap s.heap [] := va_S.rf
  have hl := lv_entry ([.ref h]) (n := 1) (Nat.le_of_ble_eq_true rfl)
  rw [lg_entry_eq]
  generalize (lg_sl ([.ref h]) ++ List.replicate (1 - (lg_sl ([.ref h])).length) Slot.unset).toArray = ls at hl ⊢
  have hl : lv_has ls 1 [(0, .ref h)] := hl
  refine p_nH (fun H hH => ?_)
  have hP : va_P g.1 vwCl [(h, .inr (5, [.int 0, .int 0, .null, .null, .int 0, .int 0, .int 0]))] H := by rw [hH]; exact hP
  have hS : va_S A s.heap H [] := by rw [hH]; exact hS
  refine lv_aload_n hx hb dX5_init_0 rfl (lv_at hl 0 rfl) ?_
  refine W.objInit hx hb hown (hT _ bw_384) (hT _ bw_370) (hT _ bw_371) rfl (by rw [hml]; exact hl.1) rfl dX5_init_1 (Nat.le_of_ble_eq_true rfl) (Nat.le_of_ble_eq_true rfl) ?_
  refine W.eq (g2 := F0 m 4 ls []) rfl ?_
  refine lv_aload_n hx hb dX5_init_4 rfl (lv_at hl 0 rfl) ?_
  refine lv_iconst (v := (-1)) hx hb dX5_init_5 (by decide) ?_
  refine va_put (D := g.1) (ci := 5) (v := .int (-1)) (ty := .int) (C := RX5) (T := TX5) (N := 7) hx hb hT inF_X5 tyX5 tyX5_ok nmX5 hown hK.1 hP hD hS 0 rfl rfl 1 (by decide) (hT _ bw_145) (fun _ h9 => h9) rfl (by decide +kernel) rfl rfl (Nat.le_of_ble_eq_true rfl) dX5_init_6 (fun H locs hP hD hS => ?_)
  have hP : va_P g.1 vwCl [(h, .inr (5, [.int 0, .int (-1), .null, .null, .int 0, .int 0, .int 0]))] H := hP
  have hD : va_D A [(h, .inr (5, [.int 0, .int (-1), .null, .null, .int 0, .int 0, .int 0]))] := hD
  refine lv_aload_n hx hb dX5_init_9 rfl (lv_at hl 0 rfl) ?_
  refine va_new (D := g.1) (ci := 10) (fs := [.int 0, .int 0, .int 0, .long 0, .null, .int 0, .int 0, .null]) (C := RX10) (T := TX10) (N := 8) hx hb hT inF_X10 tyX10 tyX10_ok hown (hT _ bw_385) (hT _ bw_386) (hT _ bw_142) hK.1 hP hD hS hA rfl (by decide +kernel) (by decide) (by decide) dX5_init_10 (fun q_1 H hP hD hS => ?_)
  have hP : va_P g.1 vwCl [(h, .inr (5, [.int 0, .int (-1), .null, .null, .int 0, .int 0, .int 0])), (q_1, .inr (10, [.int 0, .int 0, .int 0, .long 0, .null, .int 0, .int 0, .null]))] H := hP
  have hD : va_D A [(h, .inr (5, [.int 0, .int (-1), .null, .null, .int 0, .int 0, .int 0])), (q_1, .inr (10, [.int 0, .int 0, .int 0, .long 0, .null, .int 0, .int 0, .null]))] := hD
  refine W.widen (k := 1) (n := 8) (by decide) (by decide) ?_
  refine lv_dup hx hb dX5_init_13 rfl ?_
  refine k_v (wr := [(h, .inr (5, [.int 0, .int (-1), .null, .null, .int 0, .int 0, .int 0]))]) (k_I (n := 0) ⟨hx, hb, hml, hown, hT⟩ hK hP hD [1] rfl (by decide) (c_X10_init l g H.size q_1 aV fb) (gI bw_383) bw_387 bw_388 bw_389 rfl rfl rfl (by decide +kernel) ⟨by decide, by decide⟩ sX.calling (hX.go hS (va_free (wc := [(q_1, .inr (10, [.int 0, .int 0, .int 0, .long 0, .null, .int 0, .int 0, .null]))]) hD hS hA [1] rfl)) rfl rfl hl.1 (Nat.le_of_ble_eq_true rfl) dX5_init_14 ⟨by decide, by decide⟩) hP hD hS hA [1] [0] rfl rfl (by decide) (by decide) (fun u H locs hw hP hD hS => ?_)
  obtain ⟨q_2, f_3⟩ := u
  have hP : va_P g.1 vwCl [(h, .inr (5, [.int 0, .int (-1), .null, .null, .int 0, .int 0, .int 0])), (q_1, .inr (10, [.int 0, .int 0, .int 0, .long 0, .null, .int 0, .int 0, .ref q_2])), (q_2, aJ g 24 f_3)] H := hP
  have hD : va_D A [(h, .inr (5, [.int 0, .int (-1), .null, .null, .int 0, .int 0, .int 0])), (q_1, .inr (10, [.int 0, .int 0, .int 0, .long 0, .null, .int 0, .int 0, .ref q_2])), (q_2, aJ g 24 f_3)] := hD
  refine W.widen (k := 2) (n := 32) (by decide) (by decide) ?_
  refine va_putF (D := g.1) (ci := 5) (v := .ref q_1) (ty := .object "DuelDelays$Tokens") (C := RX5) (T := TX5) (N := 7) hx hb hT inF_X5 tyX5 tyX5_ok nmX5 hown hK.1 hP hD hS 0 rfl rfl 2 (by decide) (hT _ bw_153) (fun _ h9 => h9) rfl hin rfl (by decide +kernel) rfl rfl (Nat.le_of_ble_eq_true rfl) dX5_init_17 (fun H locs hP hD hS => ?_)
  have hP : va_P g.1 vwCl [(h, .inr (5, [.int 0, .int (-1), .ref q_1, .null, .int 0, .int 0, .int 0])), (q_1, .inr (10, [.int 0, .int 0, .int 0, .long 0, .null, .int 0, .int 0, .ref q_2])), (q_2, aJ g 24 f_3)] H := hP
  have hD : va_D A [(h, .inr (5, [.int 0, .int (-1), .ref q_1, .null, .int 0, .int 0, .int 0])), (q_1, .inr (10, [.int 0, .int 0, .int 0, .long 0, .null, .int 0, .int 0, .ref q_2])), (q_2, aJ g 24 f_3)] := hD
  have hP9 : va_P g.1 vwCl [(h, .inr (5, [.int 0, .int (-1), .ref q_1, .null, .int 0, .int 0, .int 0])), (q_1, .inr (10, [.int 0, .int 0, .int 0, .long 0, .null, .int 0, .int 0, .ref q_2])), (q_2, aJ g 24 f_3)] H := hP.sub [0, 1, 2] rfl
  have hD9 : va_D A [(h, .inr (5, [.int 0, .int (-1), .ref q_1, .null, .int 0, .int 0, .int 0])), (q_1, .inr (10, [.int 0, .int 0, .int 0, .long 0, .null, .int 0, .int 0, .ref q_2])), (q_2, aJ g 24 f_3)] := hD.sub [0, 1, 2] (by decide) rfl
  exact W.vret hx hb hr (fun t ht hW => ⟨⟨(q_1, q_2, f_3), rfl, trivial, by rw [ht]; exact hP9, by rw [hAe]; exact hD9⟩, hS.F ht⟩) hS.2.2 dX5_init_20

theorem bw_391 : Cond.methodLink RX1 3 objectInit ∈ gT := gT_tb 433 (by decide +kernel) (by decide +kernel)
theorem bw_392 : Cond.arrayClass .int ∈ gT := gT_tb 193 (by decide +kernel) (by decide +kernel)
theorem bw_393 : Cond.fieldLink RX1 9 "DuelDelays$Heap" "numbers" "[I" ∈ gT := gT_tb 436 (by decide +kernel) (by decide +kernel)
theorem bw_394 : Cond.code yX1_init cX1_init 1 none ∈ gT := gT_tb 432 (by decide +kernel) (by decide +kernel)
theorem dX1_init_0 : decode cX1_init 0 = .ok (.aload_n 0, 1) := by decide +kernel
theorem dX1_init_1 : decode cX1_init 1 = .ok (.invokespecial 3, 3) := by decide +kernel
theorem dX1_init_4 : decode cX1_init 4 = .ok (.aload_n 0, 1) := by decide +kernel
theorem dX1_init_5 : decode cX1_init 5 = .ok (.bipush 16, 2) := by decide +kernel
theorem dX1_init_7 : decode cX1_init 7 = .ok (.newarray .int, 2) := by decide +kernel
theorem dX1_init_9 : decode cX1_init 9 = .ok (.putfield 9, 3) := by decide +kernel
theorem dX1_init_12 : decode cX1_init 12 = .ok (.return_, 1) := by decide +kernel
set_option maxHeartbeats 4000000 in
set_option maxRecDepth 100000 in
theorem c_X1_init (l : Launch) (g : GG) (sz : Nat) (h : Nat) : Met l yX1_init (.code yX1_init cX1_init 1 none :: gT) ({ frames := 1, cells := 1, slots := 16, locals := 40 }) (va_Pc [.ref h] (Pst g sz [(h, .inr (1, [.int 0, .null]))] nX)) (va_Qv (fun (_ : Nat) => True) (Qst g [(h, .inr (1, [.int 0, .null]))] sz (fun (q_1 : Nat) => [(h, .inr (1, [.int 0, .ref q_1])), (q_1, aI g 16 z0)])) (va_A [(h, .inr (1, [.int 0, .null]))] sz)) 1 16 (va_A [(h, .inr (1, [.int 0, .null]))] sz) := by
  refine Met.ofW (cc := cX1_init) (maxL := 1) (ret := none) (by decide) rfl ?_
  intro p e s m args below meth c s₁ B hml hv
  obtain ⟨rfl, hsz, hP, hK, hD0, hX⟩ := hv
  have hx := B.exec
  have hb := B.bytes
  have hr := B.returns
  have hT : ∀ w ∈ gT, w.before _ s = true := fun w h => atoms_spec (ws := .code yX1_init cX1_init 1 none :: gT) B.pre w (List.mem_cons_of_mem _ h)
  have hown : s.vm.findClass RX1 = some m.cls := findClass_of_methodNamed B.named
  have hlocks := B.notSynchronized
  have hin : meth.name = "<init>" := (name_of_methodNamed B.named B.method).1
  subst hsz
  have hD := hD0.self (sz := s.heap.size)
  generalize hAe : va_A [(h, .inr (1, [.int 0, .null]))] s.heap.size = A at hD ⊢
  have hA : ∀ q : Nat, s.heap.size ≤ q → A q := fun q h => by rw [← hAe]; exact Or.inr h
  have hS : va_S A s.heap s.heap [] := va_S.rf
  have hl := lv_entry ([.ref h]) (n := 1) (Nat.le_of_ble_eq_true rfl)
  rw [lg_entry_eq]
  generalize (lg_sl ([.ref h]) ++ List.replicate (1 - (lg_sl ([.ref h])).length) Slot.unset).toArray = ls at hl ⊢
  have hl : lv_has ls 1 [(0, .ref h)] := hl
  refine p_nH (fun H hH => ?_)
  have hP : va_P g.1 vwCl [(h, .inr (1, [.int 0, .null]))] H := by rw [hH]; exact hP
  have hS : va_S A s.heap H [] := by rw [hH]; exact hS
  refine lv_aload_n hx hb dX1_init_0 rfl (lv_at hl 0 rfl) ?_
  refine W.objInit hx hb hown (hT _ bw_391) (hT _ bw_370) (hT _ bw_371) rfl (by rw [hml]; exact hl.1) rfl dX1_init_1 (Nat.le_of_ble_eq_true rfl) (Nat.le_of_ble_eq_true rfl) ?_
  refine W.eq (g2 := F0 m 4 ls []) rfl ?_
  refine lv_aload_n hx hb dX1_init_4 rfl (lv_at hl 0 rfl) ?_
  refine lv_bipush (v := 16) hx hb dX1_init_5 (by decide) ?_
  refine p_newa (atype := .int) (ty := .int) hx hb (hT _ bw_392) rfl hK.1 hP hD hS hA 1 rfl (fun _ h9 => h9) (a0 := (16, .inl z0)) (fun _ => rfl) (by decide) (N' := 16) rfl (by decide) (by decide) (by decide) dX1_init_7 (fun q_1 H hP hD hS => ?_)
  have hP : va_P g.1 vwCl [(h, .inr (1, [.int 0, .null])), (q_1, aI g 16 z0)] H := hP
  have hD : va_D A [(h, .inr (1, [.int 0, .null])), (q_1, aI g 16 z0)] := hD
  refine W.widen (k := 1) (n := 16) (by decide) (by decide) ?_
  refine va_putF (D := g.1) (ci := 1) (v := .ref q_1) (ty := .array .int) (C := RX1) (T := TX1) (N := 2) hx hb hT inF_X1 tyX1 tyX1_ok nmX1 hown hK.1 hP hD hS 0 rfl rfl 1 (by decide) (hT _ bw_393) (fun _ h9 => h9) rfl hin rfl (by decide +kernel) rfl rfl (Nat.le_of_ble_eq_true rfl) dX1_init_9 (fun H locs hP hD hS => ?_)
  have hP : va_P g.1 vwCl [(h, .inr (1, [.int 0, .ref q_1])), (q_1, aI g 16 z0)] H := hP
  have hD : va_D A [(h, .inr (1, [.int 0, .ref q_1])), (q_1, aI g 16 z0)] := hD
  have hP9 : va_P g.1 vwCl [(h, .inr (1, [.int 0, .ref q_1])), (q_1, aI g 16 z0)] H := hP.sub [0, 1] rfl
  have hD9 : va_D A [(h, .inr (1, [.int 0, .ref q_1])), (q_1, aI g 16 z0)] := hD.sub [0, 1] (by decide) rfl
  exact W.vret hx hb hr (fun t ht hW => ⟨⟨q_1, rfl, trivial, by rw [ht]; exact hP9, by rw [hAe]; exact hD9⟩, hS.F ht⟩) hS.2.2 dX1_init_12

theorem bw_395 : Cond.methodLink RX3 3 objectInit ∈ gT := gT_tb 162 (by decide +kernel) (by decide +kernel)
theorem bw_396 : Cond.fieldLink RX3 9 "DuelDelays$Men" "names" "[J" ∈ gT := gT_tb 168 (by decide +kernel) (by decide +kernel)
theorem bw_397 : Cond.fieldLink RX3 15 "DuelDelays$Men" "dies" "[I" ∈ gT := gT_tb 170 (by decide +kernel) (by decide +kernel)
theorem bw_398 : Cond.fieldLink RX3 19 "DuelDelays$Men" "coins" "[I" ∈ gT := gT_tb 175 (by decide +kernel) (by decide +kernel)
theorem bw_399 : Cond.fieldLink RX3 22 "DuelDelays$Men" "fathers" "[I" ∈ gT := gT_tb 178 (by decide +kernel) (by decide +kernel)
theorem bw_400 : Cond.code yX3_init cX3_init 1 none ∈ gT := gT_tb 161 (by decide +kernel) (by decide +kernel)
theorem dX3_init_0 : decode cX3_init 0 = .ok (.aload_n 0, 1) := by decide +kernel
theorem dX3_init_1 : decode cX3_init 1 = .ok (.invokespecial 3, 3) := by decide +kernel
theorem dX3_init_4 : decode cX3_init 4 = .ok (.aload_n 0, 1) := by decide +kernel
theorem dX3_init_5 : decode cX3_init 5 = .ok (.bipush 6, 2) := by decide +kernel
theorem dX3_init_7 : decode cX3_init 7 = .ok (.newarray .long, 2) := by decide +kernel
theorem dX3_init_9 : decode cX3_init 9 = .ok (.putfield 9, 3) := by decide +kernel
theorem dX3_init_12 : decode cX3_init 12 = .ok (.aload_n 0, 1) := by decide +kernel
theorem dX3_init_13 : decode cX3_init 13 = .ok (.bipush 6, 2) := by decide +kernel
theorem dX3_init_15 : decode cX3_init 15 = .ok (.newarray .int, 2) := by decide +kernel
theorem dX3_init_17 : decode cX3_init 17 = .ok (.putfield 15, 3) := by decide +kernel
theorem dX3_init_20 : decode cX3_init 20 = .ok (.aload_n 0, 1) := by decide +kernel
theorem dX3_init_21 : decode cX3_init 21 = .ok (.bipush 6, 2) := by decide +kernel
theorem dX3_init_23 : decode cX3_init 23 = .ok (.newarray .int, 2) := by decide +kernel
theorem dX3_init_25 : decode cX3_init 25 = .ok (.putfield 19, 3) := by decide +kernel
theorem dX3_init_28 : decode cX3_init 28 = .ok (.aload_n 0, 1) := by decide +kernel
theorem dX3_init_29 : decode cX3_init 29 = .ok (.bipush 6, 2) := by decide +kernel
theorem dX3_init_31 : decode cX3_init 31 = .ok (.newarray .int, 2) := by decide +kernel
theorem dX3_init_33 : decode cX3_init 33 = .ok (.putfield 22, 3) := by decide +kernel
theorem dX3_init_36 : decode cX3_init 36 = .ok (.return_, 1) := by decide +kernel
set_option maxHeartbeats 4000000 in
set_option maxRecDepth 100000 in
theorem c_X3_init (l : Launch) (g : GG) (sz : Nat) (h : Nat) : Met l yX3_init (.code yX3_init cX3_init 1 none :: gT) ({ frames := 1, cells := 4, slots := 24, locals := 40 }) (va_Pc [.ref h] (Pst g sz [(h, .inr (3, [.int 0, .null, .null, .null, .null]))] nX)) (va_Qv (fun (_ : Nat × Nat × Nat × Nat) => True) (Qst g [(h, .inr (3, [.int 0, .null, .null, .null, .null]))] sz (fun ((q_1, q_2, q_3, q_4) : Nat × Nat × Nat × Nat) => [(h, .inr (3, [.int 0, .ref q_1, .ref q_2, .ref q_3, .ref q_4])), (q_1, aJ g 6 zL), (q_2, aI g 6 z0), (q_3, aI g 6 z0), (q_4, aI g 6 z0)])) (va_A [(h, .inr (3, [.int 0, .null, .null, .null, .null]))] sz)) 4 24 (va_A [(h, .inr (3, [.int 0, .null, .null, .null, .null]))] sz) := by
  refine Met.ofW (cc := cX3_init) (maxL := 1) (ret := none) (by decide) rfl ?_
  intro p e s m args below meth c s₁ B hml hv
  obtain ⟨rfl, hsz, hP, hK, hD0, hX⟩ := hv
  have hx := B.exec
  have hb := B.bytes
  have hr := B.returns
  have hT : ∀ w ∈ gT, w.before _ s = true := fun w h => atoms_spec (ws := .code yX3_init cX3_init 1 none :: gT) B.pre w (List.mem_cons_of_mem _ h)
  have hown : s.vm.findClass RX3 = some m.cls := findClass_of_methodNamed B.named
  have hlocks := B.notSynchronized
  have hin : meth.name = "<init>" := (name_of_methodNamed B.named B.method).1
  subst hsz
  have hD := hD0.self (sz := s.heap.size)
  generalize hAe : va_A [(h, .inr (3, [.int 0, .null, .null, .null, .null]))] s.heap.size = A at hD ⊢
  have hA : ∀ q : Nat, s.heap.size ≤ q → A q := fun q h => by rw [← hAe]; exact Or.inr h
  have hS : va_S A s.heap s.heap [] := va_S.rf
  have hl := lv_entry ([.ref h]) (n := 1) (Nat.le_of_ble_eq_true rfl)
  rw [lg_entry_eq]
  generalize (lg_sl ([.ref h]) ++ List.replicate (1 - (lg_sl ([.ref h])).length) Slot.unset).toArray = ls at hl ⊢
  have hl : lv_has ls 1 [(0, .ref h)] := hl
  refine p_nH (fun H hH => ?_)
  have hP : va_P g.1 vwCl [(h, .inr (3, [.int 0, .null, .null, .null, .null]))] H := by rw [hH]; exact hP
  have hS : va_S A s.heap H [] := by rw [hH]; exact hS
  refine lv_aload_n hx hb dX3_init_0 rfl (lv_at hl 0 rfl) ?_
  refine W.objInit hx hb hown (hT _ bw_395) (hT _ bw_370) (hT _ bw_371) rfl (by rw [hml]; exact hl.1) rfl dX3_init_1 (Nat.le_of_ble_eq_true rfl) (Nat.le_of_ble_eq_true rfl) ?_
  refine W.eq (g2 := F0 m 4 ls []) rfl ?_
  refine lv_aload_n hx hb dX3_init_4 rfl (lv_at hl 0 rfl) ?_
  refine lv_bipush (v := 6) hx hb dX3_init_5 (by decide) ?_
  refine p_newa (atype := .long) (ty := .long) hx hb (hT _ bw_372) rfl hK.1 hP hD hS hA 2 rfl (fun _ h9 => h9) (a0 := (6, .inr (.inl zL))) (fun _ => rfl) (by decide) (N' := 6) rfl (by decide) (by decide) (by decide) dX3_init_7 (fun q_1 H hP hD hS => ?_)
  have hP : va_P g.1 vwCl [(h, .inr (3, [.int 0, .null, .null, .null, .null])), (q_1, aJ g 6 zL)] H := hP
  have hD : va_D A [(h, .inr (3, [.int 0, .null, .null, .null, .null])), (q_1, aJ g 6 zL)] := hD
  refine W.widen (k := 1) (n := 6) (by decide) (by decide) ?_
  refine va_putF (D := g.1) (ci := 3) (v := .ref q_1) (ty := .array .long) (C := RX3) (T := TX3) (N := 5) hx hb hT inF_X3 tyX3 tyX3_ok nmX3 hown hK.1 hP hD hS 0 rfl rfl 1 (by decide) (hT _ bw_396) (fun _ h9 => h9) rfl hin rfl (by decide +kernel) rfl rfl (Nat.le_of_ble_eq_true rfl) dX3_init_9 (fun H locs hP hD hS => ?_)
  have hP : va_P g.1 vwCl [(h, .inr (3, [.int 0, .ref q_1, .null, .null, .null])), (q_1, aJ g 6 zL)] H := hP
  have hD : va_D A [(h, .inr (3, [.int 0, .ref q_1, .null, .null, .null])), (q_1, aJ g 6 zL)] := hD
  refine lv_aload_n hx hb dX3_init_12 rfl (lv_at hl 0 rfl) ?_
  refine lv_bipush (v := 6) hx hb dX3_init_13 (by decide) ?_
  refine p_newa (atype := .int) (ty := .int) hx hb (hT _ bw_392) rfl hK.1 hP hD hS hA 1 rfl (fun _ h9 => h9) (a0 := (6, .inl z0)) (fun _ => rfl) (by decide) (N' := 6) rfl (by decide) (by decide) (by decide) dX3_init_15 (fun q_2 H hP hD hS => ?_)
  have hP : va_P g.1 vwCl [(h, .inr (3, [.int 0, .ref q_1, .null, .null, .null])), (q_1, aJ g 6 zL), (q_2, aI g 6 z0)] H := hP
  have hD : va_D A [(h, .inr (3, [.int 0, .ref q_1, .null, .null, .null])), (q_1, aJ g 6 zL), (q_2, aI g 6 z0)] := hD
  refine W.widen (k := 2) (n := 12) (by decide) (by decide) ?_
  refine va_putF (D := g.1) (ci := 3) (v := .ref q_2) (ty := .array .int) (C := RX3) (T := TX3) (N := 5) hx hb hT inF_X3 tyX3 tyX3_ok nmX3 hown hK.1 hP hD hS 0 rfl rfl 2 (by decide) (hT _ bw_397) (fun _ h9 => h9) rfl hin rfl (by decide +kernel) rfl rfl (Nat.le_of_ble_eq_true rfl) dX3_init_17 (fun H locs hP hD hS => ?_)
  have hP : va_P g.1 vwCl [(h, .inr (3, [.int 0, .ref q_1, .ref q_2, .null, .null])), (q_1, aJ g 6 zL), (q_2, aI g 6 z0)] H := hP
  have hD : va_D A [(h, .inr (3, [.int 0, .ref q_1, .ref q_2, .null, .null])), (q_1, aJ g 6 zL), (q_2, aI g 6 z0)] := hD
  refine lv_aload_n hx hb dX3_init_20 rfl (lv_at hl 0 rfl) ?_
  refine lv_bipush (v := 6) hx hb dX3_init_21 (by decide) ?_
  refine p_newa (atype := .int) (ty := .int) hx hb (hT _ bw_392) rfl hK.1 hP hD hS hA 1 rfl (fun _ h9 => h9) (a0 := (6, .inl z0)) (fun _ => rfl) (by decide) (N' := 6) rfl (by decide) (by decide) (by decide) dX3_init_23 (fun q_3 H hP hD hS => ?_)
  have hP : va_P g.1 vwCl [(h, .inr (3, [.int 0, .ref q_1, .ref q_2, .null, .null])), (q_1, aJ g 6 zL), (q_2, aI g 6 z0), (q_3, aI g 6 z0)] H := hP
  have hD : va_D A [(h, .inr (3, [.int 0, .ref q_1, .ref q_2, .null, .null])), (q_1, aJ g 6 zL), (q_2, aI g 6 z0), (q_3, aI g 6 z0)] := hD
  refine W.widen (k := 3) (n := 18) (by decide) (by decide) ?_
  refine va_putF (D := g.1) (ci := 3) (v := .ref q_3) (ty := .array .int) (C := RX3) (T := TX3) (N := 5) hx hb hT inF_X3 tyX3 tyX3_ok nmX3 hown hK.1 hP hD hS 0 rfl rfl 3 (by decide) (hT _ bw_398) (fun _ h9 => h9) rfl hin rfl (by decide +kernel) rfl rfl (Nat.le_of_ble_eq_true rfl) dX3_init_25 (fun H locs hP hD hS => ?_)
  have hP : va_P g.1 vwCl [(h, .inr (3, [.int 0, .ref q_1, .ref q_2, .ref q_3, .null])), (q_1, aJ g 6 zL), (q_2, aI g 6 z0), (q_3, aI g 6 z0)] H := hP
  have hD : va_D A [(h, .inr (3, [.int 0, .ref q_1, .ref q_2, .ref q_3, .null])), (q_1, aJ g 6 zL), (q_2, aI g 6 z0), (q_3, aI g 6 z0)] := hD
  refine lv_aload_n hx hb dX3_init_28 rfl (lv_at hl 0 rfl) ?_
  refine lv_bipush (v := 6) hx hb dX3_init_29 (by decide) ?_
  refine p_newa (atype := .int) (ty := .int) hx hb (hT _ bw_392) rfl hK.1 hP hD hS hA 1 rfl (fun _ h9 => h9) (a0 := (6, .inl z0)) (fun _ => rfl) (by decide) (N' := 6) rfl (by decide) (by decide) (by decide) dX3_init_31 (fun q_4 H hP hD hS => ?_)
  have hP : va_P g.1 vwCl [(h, .inr (3, [.int 0, .ref q_1, .ref q_2, .ref q_3, .null])), (q_1, aJ g 6 zL), (q_2, aI g 6 z0), (q_3, aI g 6 z0), (q_4, aI g 6 z0)] H := hP
  have hD : va_D A [(h, .inr (3, [.int 0, .ref q_1, .ref q_2, .ref q_3, .null])), (q_1, aJ g 6 zL), (q_2, aI g 6 z0), (q_3, aI g 6 z0), (q_4, aI g 6 z0)] := hD
  refine W.widen (k := 4) (n := 24) (by decide) (by decide) ?_
  refine va_putF (D := g.1) (ci := 3) (v := .ref q_4) (ty := .array .int) (C := RX3) (T := TX3) (N := 5) hx hb hT inF_X3 tyX3 tyX3_ok nmX3 hown hK.1 hP hD hS 0 rfl rfl 4 (by decide) (hT _ bw_399) (fun _ h9 => h9) rfl hin rfl (by decide +kernel) rfl rfl (Nat.le_of_ble_eq_true rfl) dX3_init_33 (fun H locs hP hD hS => ?_)
  have hP : va_P g.1 vwCl [(h, .inr (3, [.int 0, .ref q_1, .ref q_2, .ref q_3, .ref q_4])), (q_1, aJ g 6 zL), (q_2, aI g 6 z0), (q_3, aI g 6 z0), (q_4, aI g 6 z0)] H := hP
  have hD : va_D A [(h, .inr (3, [.int 0, .ref q_1, .ref q_2, .ref q_3, .ref q_4])), (q_1, aJ g 6 zL), (q_2, aI g 6 z0), (q_3, aI g 6 z0), (q_4, aI g 6 z0)] := hD
  have hP9 : va_P g.1 vwCl [(h, .inr (3, [.int 0, .ref q_1, .ref q_2, .ref q_3, .ref q_4])), (q_1, aJ g 6 zL), (q_2, aI g 6 z0), (q_3, aI g 6 z0), (q_4, aI g 6 z0)] H := hP.sub [0, 1, 2, 3, 4] rfl
  have hD9 : va_D A [(h, .inr (3, [.int 0, .ref q_1, .ref q_2, .ref q_3, .ref q_4])), (q_1, aJ g 6 zL), (q_2, aI g 6 z0), (q_3, aI g 6 z0), (q_4, aI g 6 z0)] := hD.sub [0, 1, 2, 3, 4] (by decide) rfl
  exact W.vret hx hb hr (fun t ht hW => ⟨⟨(q_1, q_2, q_3, q_4), rfl, trivial, by rw [ht]; exact hP9, by rw [hAe]; exact hD9⟩, hS.F ht⟩) hS.2.2 dX3_init_36

theorem bw_401 : Cond.methodLink RX0 3 objectInit ∈ gT := gT_tb 199 (by decide +kernel) (by decide +kernel)
theorem bw_402 : Cond.fieldLink RX0 9 "DuelDelays$Formulas" "names" "[J" ∈ gT := gT_tb 205 (by decide +kernel) (by decide +kernel)
theorem bw_403 : Cond.fieldLink RX0 15 "DuelDelays$Formulas" "starts" "[I" ∈ gT := gT_tb 209 (by decide +kernel) (by decide +kernel)
theorem bw_404 : Cond.fieldLink RX0 19 "DuelDelays$Formulas" "steps" "[I" ∈ gT := gT_tb 210 (by decide +kernel) (by decide +kernel)
theorem bw_405 : Cond.fieldLink RX0 22 "DuelDelays$Formulas" "stack" "[I" ∈ gT := gT_tb 211 (by decide +kernel) (by decide +kernel)
theorem bw_406 : Cond.code yX0_init cX0_init 1 none ∈ gT := gT_tb 198 (by decide +kernel) (by decide +kernel)
theorem dX0_init_0 : decode cX0_init 0 = .ok (.aload_n 0, 1) := by decide +kernel
theorem dX0_init_1 : decode cX0_init 1 = .ok (.invokespecial 3, 3) := by decide +kernel
theorem dX0_init_4 : decode cX0_init 4 = .ok (.aload_n 0, 1) := by decide +kernel
theorem dX0_init_5 : decode cX0_init 5 = .ok (.iconst 4, 1) := by decide +kernel
theorem dX0_init_6 : decode cX0_init 6 = .ok (.newarray .long, 2) := by decide +kernel
theorem dX0_init_8 : decode cX0_init 8 = .ok (.putfield 9, 3) := by decide +kernel
theorem dX0_init_11 : decode cX0_init 11 = .ok (.aload_n 0, 1) := by decide +kernel
theorem dX0_init_12 : decode cX0_init 12 = .ok (.iconst 5, 1) := by decide +kernel
theorem dX0_init_13 : decode cX0_init 13 = .ok (.newarray .int, 2) := by decide +kernel
theorem dX0_init_15 : decode cX0_init 15 = .ok (.putfield 15, 3) := by decide +kernel
theorem dX0_init_18 : decode cX0_init 18 = .ok (.aload_n 0, 1) := by decide +kernel
theorem dX0_init_19 : decode cX0_init 19 = .ok (.sipush 640, 3) := by decide +kernel
theorem dX0_init_22 : decode cX0_init 22 = .ok (.newarray .int, 2) := by decide +kernel
theorem dX0_init_24 : decode cX0_init 24 = .ok (.putfield 19, 3) := by decide +kernel
theorem dX0_init_27 : decode cX0_init 27 = .ok (.aload_n 0, 1) := by decide +kernel
theorem dX0_init_28 : decode cX0_init 28 = .ok (.bipush 32, 2) := by decide +kernel
theorem dX0_init_30 : decode cX0_init 30 = .ok (.newarray .int, 2) := by decide +kernel
theorem dX0_init_32 : decode cX0_init 32 = .ok (.putfield 22, 3) := by decide +kernel
theorem dX0_init_35 : decode cX0_init 35 = .ok (.return_, 1) := by decide +kernel
set_option maxHeartbeats 4000000 in
set_option maxRecDepth 100000 in
theorem c_X0_init (l : Launch) (g : GG) (sz : Nat) (h : Nat) : Met l yX0_init (.code yX0_init cX0_init 1 none :: gT) ({ frames := 1, cells := 4, slots := 681, locals := 40 }) (va_Pc [.ref h] (Pst g sz [(h, .inr (0, [.int 0, .int 0, .null, .int 0, .int 0, .null, .null, .null]))] nX)) (va_Qv (fun (_ : Nat × Nat × Nat × Nat) => True) (Qst g [(h, .inr (0, [.int 0, .int 0, .null, .int 0, .int 0, .null, .null, .null]))] sz (fun ((q_1, q_2, q_3, q_4) : Nat × Nat × Nat × Nat) => [(h, .inr (0, [.int 0, .int 0, .ref q_1, .int 0, .int 0, .ref q_2, .ref q_3, .ref q_4])), (q_1, aJ g 4 zL), (q_2, aI g 5 z0), (q_3, aI g 640 z0), (q_4, aI g 32 z0)])) (va_A [(h, .inr (0, [.int 0, .int 0, .null, .int 0, .int 0, .null, .null, .null]))] sz)) 4 681 (va_A [(h, .inr (0, [.int 0, .int 0, .null, .int 0, .int 0, .null, .null, .null]))] sz) := by
  refine Met.ofW (cc := cX0_init) (maxL := 1) (ret := none) (by decide) rfl ?_
  intro p e s m args below meth c s₁ B hml hv
  obtain ⟨rfl, hsz, hP, hK, hD0, hX⟩ := hv
  have hx := B.exec
  have hb := B.bytes
  have hr := B.returns
  have hT : ∀ w ∈ gT, w.before _ s = true := fun w h => atoms_spec (ws := .code yX0_init cX0_init 1 none :: gT) B.pre w (List.mem_cons_of_mem _ h)
  have hown : s.vm.findClass RX0 = some m.cls := findClass_of_methodNamed B.named
  have hlocks := B.notSynchronized
  have hin : meth.name = "<init>" := (name_of_methodNamed B.named B.method).1
  subst hsz
  have hD := hD0.self (sz := s.heap.size)
  generalize hAe : va_A [(h, .inr (0, [.int 0, .int 0, .null, .int 0, .int 0, .null, .null, .null]))] s.heap.size = A at hD ⊢
  have hA : ∀ q : Nat, s.heap.size ≤ q → A q := fun q h => by rw [← hAe]; exact Or.inr h
  have hS : va_S A s.heap s.heap [] := va_S.rf
  have hl := lv_entry ([.ref h]) (n := 1) (Nat.le_of_ble_eq_true rfl)
  rw [lg_entry_eq]
  generalize (lg_sl ([.ref h]) ++ List.replicate (1 - (lg_sl ([.ref h])).length) Slot.unset).toArray = ls at hl ⊢
  have hl : lv_has ls 1 [(0, .ref h)] := hl
  refine p_nH (fun H hH => ?_)
  have hP : va_P g.1 vwCl [(h, .inr (0, [.int 0, .int 0, .null, .int 0, .int 0, .null, .null, .null]))] H := by rw [hH]; exact hP
  have hS : va_S A s.heap H [] := by rw [hH]; exact hS
  refine lv_aload_n hx hb dX0_init_0 rfl (lv_at hl 0 rfl) ?_
  refine W.objInit hx hb hown (hT _ bw_401) (hT _ bw_370) (hT _ bw_371) rfl (by rw [hml]; exact hl.1) rfl dX0_init_1 (Nat.le_of_ble_eq_true rfl) (Nat.le_of_ble_eq_true rfl) ?_
  refine W.eq (g2 := F0 m 4 ls []) rfl ?_
  refine lv_aload_n hx hb dX0_init_4 rfl (lv_at hl 0 rfl) ?_
  refine lv_iconst (v := 4) hx hb dX0_init_5 (by decide) ?_
  refine p_newa (atype := .long) (ty := .long) hx hb (hT _ bw_372) rfl hK.1 hP hD hS hA 2 rfl (fun _ h9 => h9) (a0 := (4, .inr (.inl zL))) (fun _ => rfl) (by decide) (N' := 4) rfl (by decide) (by decide) (by decide) dX0_init_6 (fun q_1 H hP hD hS => ?_)
  have hP : va_P g.1 vwCl [(h, .inr (0, [.int 0, .int 0, .null, .int 0, .int 0, .null, .null, .null])), (q_1, aJ g 4 zL)] H := hP
  have hD : va_D A [(h, .inr (0, [.int 0, .int 0, .null, .int 0, .int 0, .null, .null, .null])), (q_1, aJ g 4 zL)] := hD
  refine W.widen (k := 1) (n := 4) (by decide) (by decide) ?_
  refine va_putF (D := g.1) (ci := 0) (v := .ref q_1) (ty := .array .long) (C := RX0) (T := TX0) (N := 8) hx hb hT inF_X0 tyX0 tyX0_ok nmX0 hown hK.1 hP hD hS 0 rfl rfl 2 (by decide) (hT _ bw_402) (fun _ h9 => h9) rfl hin rfl (by decide +kernel) rfl rfl (Nat.le_of_ble_eq_true rfl) dX0_init_8 (fun H locs hP hD hS => ?_)
  have hP : va_P g.1 vwCl [(h, .inr (0, [.int 0, .int 0, .ref q_1, .int 0, .int 0, .null, .null, .null])), (q_1, aJ g 4 zL)] H := hP
  have hD : va_D A [(h, .inr (0, [.int 0, .int 0, .ref q_1, .int 0, .int 0, .null, .null, .null])), (q_1, aJ g 4 zL)] := hD
  refine lv_aload_n hx hb dX0_init_11 rfl (lv_at hl 0 rfl) ?_
  refine lv_iconst (v := 5) hx hb dX0_init_12 (by decide) ?_
  refine p_newa (atype := .int) (ty := .int) hx hb (hT _ bw_392) rfl hK.1 hP hD hS hA 1 rfl (fun _ h9 => h9) (a0 := (5, .inl z0)) (fun _ => rfl) (by decide) (N' := 5) rfl (by decide) (by decide) (by decide) dX0_init_13 (fun q_2 H hP hD hS => ?_)
  have hP : va_P g.1 vwCl [(h, .inr (0, [.int 0, .int 0, .ref q_1, .int 0, .int 0, .null, .null, .null])), (q_1, aJ g 4 zL), (q_2, aI g 5 z0)] H := hP
  have hD : va_D A [(h, .inr (0, [.int 0, .int 0, .ref q_1, .int 0, .int 0, .null, .null, .null])), (q_1, aJ g 4 zL), (q_2, aI g 5 z0)] := hD
  refine W.widen (k := 2) (n := 9) (by decide) (by decide) ?_
  refine va_putF (D := g.1) (ci := 0) (v := .ref q_2) (ty := .array .int) (C := RX0) (T := TX0) (N := 8) hx hb hT inF_X0 tyX0 tyX0_ok nmX0 hown hK.1 hP hD hS 0 rfl rfl 5 (by decide) (hT _ bw_403) (fun _ h9 => h9) rfl hin rfl (by decide +kernel) rfl rfl (Nat.le_of_ble_eq_true rfl) dX0_init_15 (fun H locs hP hD hS => ?_)
  have hP : va_P g.1 vwCl [(h, .inr (0, [.int 0, .int 0, .ref q_1, .int 0, .int 0, .ref q_2, .null, .null])), (q_1, aJ g 4 zL), (q_2, aI g 5 z0)] H := hP
  have hD : va_D A [(h, .inr (0, [.int 0, .int 0, .ref q_1, .int 0, .int 0, .ref q_2, .null, .null])), (q_1, aJ g 4 zL), (q_2, aI g 5 z0)] := hD
  refine lv_aload_n hx hb dX0_init_18 rfl (lv_at hl 0 rfl) ?_
  refine lv_sipush (v := 640) hx hb dX0_init_19 (by decide) ?_
  refine p_newa (atype := .int) (ty := .int) hx hb (hT _ bw_392) rfl hK.1 hP hD hS hA 1 rfl (fun _ h9 => h9) (a0 := (640, .inl z0)) (fun _ => rfl) (by decide) (N' := 640) rfl (by decide) (by decide) (by decide) dX0_init_22 (fun q_3 H hP hD hS => ?_)
  have hP : va_P g.1 vwCl [(h, .inr (0, [.int 0, .int 0, .ref q_1, .int 0, .int 0, .ref q_2, .null, .null])), (q_1, aJ g 4 zL), (q_2, aI g 5 z0), (q_3, aI g 640 z0)] H := hP
  have hD : va_D A [(h, .inr (0, [.int 0, .int 0, .ref q_1, .int 0, .int 0, .ref q_2, .null, .null])), (q_1, aJ g 4 zL), (q_2, aI g 5 z0), (q_3, aI g 640 z0)] := hD
  refine W.widen (k := 3) (n := 649) (by decide) (by decide) ?_
  refine va_putF (D := g.1) (ci := 0) (v := .ref q_3) (ty := .array .int) (C := RX0) (T := TX0) (N := 8) hx hb hT inF_X0 tyX0 tyX0_ok nmX0 hown hK.1 hP hD hS 0 rfl rfl 6 (by decide) (hT _ bw_404) (fun _ h9 => h9) rfl hin rfl (by decide +kernel) rfl rfl (Nat.le_of_ble_eq_true rfl) dX0_init_24 (fun H locs hP hD hS => ?_)
  have hP : va_P g.1 vwCl [(h, .inr (0, [.int 0, .int 0, .ref q_1, .int 0, .int 0, .ref q_2, .ref q_3, .null])), (q_1, aJ g 4 zL), (q_2, aI g 5 z0), (q_3, aI g 640 z0)] H := hP
  have hD : va_D A [(h, .inr (0, [.int 0, .int 0, .ref q_1, .int 0, .int 0, .ref q_2, .ref q_3, .null])), (q_1, aJ g 4 zL), (q_2, aI g 5 z0), (q_3, aI g 640 z0)] := hD
  refine lv_aload_n hx hb dX0_init_27 rfl (lv_at hl 0 rfl) ?_
  refine lv_bipush (v := 32) hx hb dX0_init_28 (by decide) ?_
  refine p_newa (atype := .int) (ty := .int) hx hb (hT _ bw_392) rfl hK.1 hP hD hS hA 1 rfl (fun _ h9 => h9) (a0 := (32, .inl z0)) (fun _ => rfl) (by decide) (N' := 32) rfl (by decide) (by decide) (by decide) dX0_init_30 (fun q_4 H hP hD hS => ?_)
  have hP : va_P g.1 vwCl [(h, .inr (0, [.int 0, .int 0, .ref q_1, .int 0, .int 0, .ref q_2, .ref q_3, .null])), (q_1, aJ g 4 zL), (q_2, aI g 5 z0), (q_3, aI g 640 z0), (q_4, aI g 32 z0)] H := hP
  have hD : va_D A [(h, .inr (0, [.int 0, .int 0, .ref q_1, .int 0, .int 0, .ref q_2, .ref q_3, .null])), (q_1, aJ g 4 zL), (q_2, aI g 5 z0), (q_3, aI g 640 z0), (q_4, aI g 32 z0)] := hD
  refine W.widen (k := 4) (n := 681) (by decide) (by decide) ?_
  refine va_putF (D := g.1) (ci := 0) (v := .ref q_4) (ty := .array .int) (C := RX0) (T := TX0) (N := 8) hx hb hT inF_X0 tyX0 tyX0_ok nmX0 hown hK.1 hP hD hS 0 rfl rfl 7 (by decide) (hT _ bw_405) (fun _ h9 => h9) rfl hin rfl (by decide +kernel) rfl rfl (Nat.le_of_ble_eq_true rfl) dX0_init_32 (fun H locs hP hD hS => ?_)
  have hP : va_P g.1 vwCl [(h, .inr (0, [.int 0, .int 0, .ref q_1, .int 0, .int 0, .ref q_2, .ref q_3, .ref q_4])), (q_1, aJ g 4 zL), (q_2, aI g 5 z0), (q_3, aI g 640 z0), (q_4, aI g 32 z0)] H := hP
  have hD : va_D A [(h, .inr (0, [.int 0, .int 0, .ref q_1, .int 0, .int 0, .ref q_2, .ref q_3, .ref q_4])), (q_1, aJ g 4 zL), (q_2, aI g 5 z0), (q_3, aI g 640 z0), (q_4, aI g 32 z0)] := hD
  have hP9 : va_P g.1 vwCl [(h, .inr (0, [.int 0, .int 0, .ref q_1, .int 0, .int 0, .ref q_2, .ref q_3, .ref q_4])), (q_1, aJ g 4 zL), (q_2, aI g 5 z0), (q_3, aI g 640 z0), (q_4, aI g 32 z0)] H := hP.sub [0, 1, 2, 3, 4] rfl
  have hD9 : va_D A [(h, .inr (0, [.int 0, .int 0, .ref q_1, .int 0, .int 0, .ref q_2, .ref q_3, .ref q_4])), (q_1, aJ g 4 zL), (q_2, aI g 5 z0), (q_3, aI g 640 z0), (q_4, aI g 32 z0)] := hD.sub [0, 1, 2, 3, 4] (by decide) rfl
  exact W.vret hx hb hr (fun t ht hW => ⟨⟨(q_1, q_2, q_3, q_4), rfl, trivial, by rw [ht]; exact hP9, by rw [hAe]; exact hD9⟩, hS.F ht⟩) hS.2.2 dX0_init_35

theorem bw_407 : Cond.methodLink RX6 3 objectInit ∈ gT := gT_tb 234 (by decide +kernel) (by decide +kernel)
theorem bw_408 : Cond.fieldLink RX6 9 "DuelDelays$Reasons" "names" "[J" ∈ gT := gT_tb 241 (by decide +kernel) (by decide +kernel)
theorem bw_409 : Cond.fieldLink RX6 15 "DuelDelays$Reasons" "kinds" "[I" ∈ gT := gT_tb 243 (by decide +kernel) (by decide +kernel)
theorem bw_410 : Cond.fieldLink RX6 19 "DuelDelays$Reasons" "owners" "[I" ∈ gT := gT_tb 248 (by decide +kernel) (by decide +kernel)
theorem bw_411 : Cond.fieldLink RX6 22 "DuelDelays$Reasons" "froms" "[I" ∈ gT := gT_tb 252 (by decide +kernel) (by decide +kernel)
theorem bw_412 : Cond.fieldLink RX6 25 "DuelDelays$Reasons" "tos" "[I" ∈ gT := gT_tb 255 (by decide +kernel) (by decide +kernel)
theorem bw_413 : Cond.fieldLink RX6 28 "DuelDelays$Reasons" "rents" "[I" ∈ gT := gT_tb 258 (by decide +kernel) (by decide +kernel)
theorem bw_414 : Cond.fieldLink RX6 31 "DuelDelays$Reasons" "sorts" "[I" ∈ gT := gT_tb 261 (by decide +kernel) (by decide +kernel)
theorem bw_415 : Cond.code yX6_init cX6_init 1 none ∈ gT := gT_tb 233 (by decide +kernel) (by decide +kernel)
theorem dX6_init_0 : decode cX6_init 0 = .ok (.aload_n 0, 1) := by decide +kernel
theorem dX6_init_1 : decode cX6_init 1 = .ok (.invokespecial 3, 3) := by decide +kernel
theorem dX6_init_4 : decode cX6_init 4 = .ok (.aload_n 0, 1) := by decide +kernel
theorem dX6_init_5 : decode cX6_init 5 = .ok (.bipush 8, 2) := by decide +kernel
theorem dX6_init_7 : decode cX6_init 7 = .ok (.newarray .long, 2) := by decide +kernel
theorem dX6_init_9 : decode cX6_init 9 = .ok (.putfield 9, 3) := by decide +kernel
theorem dX6_init_12 : decode cX6_init 12 = .ok (.aload_n 0, 1) := by decide +kernel
theorem dX6_init_13 : decode cX6_init 13 = .ok (.bipush 8, 2) := by decide +kernel
theorem dX6_init_15 : decode cX6_init 15 = .ok (.newarray .int, 2) := by decide +kernel
theorem dX6_init_17 : decode cX6_init 17 = .ok (.putfield 15, 3) := by decide +kernel
theorem dX6_init_20 : decode cX6_init 20 = .ok (.aload_n 0, 1) := by decide +kernel
theorem dX6_init_21 : decode cX6_init 21 = .ok (.bipush 8, 2) := by decide +kernel
theorem dX6_init_23 : decode cX6_init 23 = .ok (.newarray .int, 2) := by decide +kernel
theorem dX6_init_25 : decode cX6_init 25 = .ok (.putfield 19, 3) := by decide +kernel
theorem dX6_init_28 : decode cX6_init 28 = .ok (.aload_n 0, 1) := by decide +kernel
theorem dX6_init_29 : decode cX6_init 29 = .ok (.bipush 8, 2) := by decide +kernel
theorem dX6_init_31 : decode cX6_init 31 = .ok (.newarray .int, 2) := by decide +kernel
theorem dX6_init_33 : decode cX6_init 33 = .ok (.putfield 22, 3) := by decide +kernel
theorem dX6_init_36 : decode cX6_init 36 = .ok (.aload_n 0, 1) := by decide +kernel
theorem dX6_init_37 : decode cX6_init 37 = .ok (.bipush 8, 2) := by decide +kernel
theorem dX6_init_39 : decode cX6_init 39 = .ok (.newarray .int, 2) := by decide +kernel
theorem dX6_init_41 : decode cX6_init 41 = .ok (.putfield 25, 3) := by decide +kernel
theorem dX6_init_44 : decode cX6_init 44 = .ok (.aload_n 0, 1) := by decide +kernel
theorem dX6_init_45 : decode cX6_init 45 = .ok (.bipush 8, 2) := by decide +kernel
theorem dX6_init_47 : decode cX6_init 47 = .ok (.newarray .int, 2) := by decide +kernel
theorem dX6_init_49 : decode cX6_init 49 = .ok (.putfield 28, 3) := by decide +kernel
theorem dX6_init_52 : decode cX6_init 52 = .ok (.aload_n 0, 1) := by decide +kernel
theorem dX6_init_53 : decode cX6_init 53 = .ok (.bipush 8, 2) := by decide +kernel
theorem dX6_init_55 : decode cX6_init 55 = .ok (.newarray .int, 2) := by decide +kernel
theorem dX6_init_57 : decode cX6_init 57 = .ok (.putfield 31, 3) := by decide +kernel
theorem dX6_init_60 : decode cX6_init 60 = .ok (.return_, 1) := by decide +kernel
set_option maxHeartbeats 4000000 in
set_option maxRecDepth 100000 in
theorem c_X6_init (l : Launch) (g : GG) (sz : Nat) (h : Nat) : Met l yX6_init (.code yX6_init cX6_init 1 none :: gT) ({ frames := 1, cells := 7, slots := 56, locals := 40 }) (va_Pc [.ref h] (Pst g sz [(h, .inr (6, [.int 0, .null, .null, .null, .null, .null, .null, .null]))] nX)) (va_Qv (fun (_ : Nat × Nat × Nat × Nat × Nat × Nat × Nat) => True) (Qst g [(h, .inr (6, [.int 0, .null, .null, .null, .null, .null, .null, .null]))] sz (fun ((q_1, q_2, q_3, q_4, q_5, q_6, q_7) : Nat × Nat × Nat × Nat × Nat × Nat × Nat) => [(h, .inr (6, [.int 0, .ref q_1, .ref q_2, .ref q_3, .ref q_4, .ref q_5, .ref q_6, .ref q_7])), (q_1, aJ g 8 zL), (q_2, aI g 8 z0), (q_3, aI g 8 z0), (q_4, aI g 8 z0), (q_5, aI g 8 z0), (q_6, aI g 8 z0), (q_7, aI g 8 z0)])) (va_A [(h, .inr (6, [.int 0, .null, .null, .null, .null, .null, .null, .null]))] sz)) 7 56 (va_A [(h, .inr (6, [.int 0, .null, .null, .null, .null, .null, .null, .null]))] sz) := by
  refine Met.ofW (cc := cX6_init) (maxL := 1) (ret := none) (by decide) rfl ?_
  intro p e s m args below meth c s₁ B hml hv
  obtain ⟨rfl, hsz, hP, hK, hD0, hX⟩ := hv
  have hx := B.exec
  have hb := B.bytes
  have hr := B.returns
  have hT : ∀ w ∈ gT, w.before _ s = true := fun w h => atoms_spec (ws := .code yX6_init cX6_init 1 none :: gT) B.pre w (List.mem_cons_of_mem _ h)
  have hown : s.vm.findClass RX6 = some m.cls := findClass_of_methodNamed B.named
  have hlocks := B.notSynchronized
  have hin : meth.name = "<init>" := (name_of_methodNamed B.named B.method).1
  subst hsz
  have hD := hD0.self (sz := s.heap.size)
  generalize hAe : va_A [(h, .inr (6, [.int 0, .null, .null, .null, .null, .null, .null, .null]))] s.heap.size = A at hD ⊢
  have hA : ∀ q : Nat, s.heap.size ≤ q → A q := fun q h => by rw [← hAe]; exact Or.inr h
  have hS : va_S A s.heap s.heap [] := va_S.rf
  have hl := lv_entry ([.ref h]) (n := 1) (Nat.le_of_ble_eq_true rfl)
  rw [lg_entry_eq]
  generalize (lg_sl ([.ref h]) ++ List.replicate (1 - (lg_sl ([.ref h])).length) Slot.unset).toArray = ls at hl ⊢
  have hl : lv_has ls 1 [(0, .ref h)] := hl
  refine p_nH (fun H hH => ?_)
  have hP : va_P g.1 vwCl [(h, .inr (6, [.int 0, .null, .null, .null, .null, .null, .null, .null]))] H := by rw [hH]; exact hP
  have hS : va_S A s.heap H [] := by rw [hH]; exact hS
  refine lv_aload_n hx hb dX6_init_0 rfl (lv_at hl 0 rfl) ?_
  refine W.objInit hx hb hown (hT _ bw_407) (hT _ bw_370) (hT _ bw_371) rfl (by rw [hml]; exact hl.1) rfl dX6_init_1 (Nat.le_of_ble_eq_true rfl) (Nat.le_of_ble_eq_true rfl) ?_
  refine W.eq (g2 := F0 m 4 ls []) rfl ?_
  refine lv_aload_n hx hb dX6_init_4 rfl (lv_at hl 0 rfl) ?_
  refine lv_bipush (v := 8) hx hb dX6_init_5 (by decide) ?_
  refine p_newa (atype := .long) (ty := .long) hx hb (hT _ bw_372) rfl hK.1 hP hD hS hA 2 rfl (fun _ h9 => h9) (a0 := (8, .inr (.inl zL))) (fun _ => rfl) (by decide) (N' := 8) rfl (by decide) (by decide) (by decide) dX6_init_7 (fun q_1 H hP hD hS => ?_)
  have hP : va_P g.1 vwCl [(h, .inr (6, [.int 0, .null, .null, .null, .null, .null, .null, .null])), (q_1, aJ g 8 zL)] H := hP
  have hD : va_D A [(h, .inr (6, [.int 0, .null, .null, .null, .null, .null, .null, .null])), (q_1, aJ g 8 zL)] := hD
  refine W.widen (k := 1) (n := 8) (by decide) (by decide) ?_
  refine va_putF (D := g.1) (ci := 6) (v := .ref q_1) (ty := .array .long) (C := RX6) (T := TX6) (N := 8) hx hb hT inF_X6 tyX6 tyX6_ok nmX6 hown hK.1 hP hD hS 0 rfl rfl 1 (by decide) (hT _ bw_408) (fun _ h9 => h9) rfl hin rfl (by decide +kernel) rfl rfl (Nat.le_of_ble_eq_true rfl) dX6_init_9 (fun H locs hP hD hS => ?_)
  have hP : va_P g.1 vwCl [(h, .inr (6, [.int 0, .ref q_1, .null, .null, .null, .null, .null, .null])), (q_1, aJ g 8 zL)] H := hP
  have hD : va_D A [(h, .inr (6, [.int 0, .ref q_1, .null, .null, .null, .null, .null, .null])), (q_1, aJ g 8 zL)] := hD
  refine lv_aload_n hx hb dX6_init_12 rfl (lv_at hl 0 rfl) ?_
  refine lv_bipush (v := 8) hx hb dX6_init_13 (by decide) ?_
  refine p_newa (atype := .int) (ty := .int) hx hb (hT _ bw_392) rfl hK.1 hP hD hS hA 1 rfl (fun _ h9 => h9) (a0 := (8, .inl z0)) (fun _ => rfl) (by decide) (N' := 8) rfl (by decide) (by decide) (by decide) dX6_init_15 (fun q_2 H hP hD hS => ?_)
  have hP : va_P g.1 vwCl [(h, .inr (6, [.int 0, .ref q_1, .null, .null, .null, .null, .null, .null])), (q_1, aJ g 8 zL), (q_2, aI g 8 z0)] H := hP
  have hD : va_D A [(h, .inr (6, [.int 0, .ref q_1, .null, .null, .null, .null, .null, .null])), (q_1, aJ g 8 zL), (q_2, aI g 8 z0)] := hD
  refine W.widen (k := 2) (n := 16) (by decide) (by decide) ?_
  refine va_putF (D := g.1) (ci := 6) (v := .ref q_2) (ty := .array .int) (C := RX6) (T := TX6) (N := 8) hx hb hT inF_X6 tyX6 tyX6_ok nmX6 hown hK.1 hP hD hS 0 rfl rfl 2 (by decide) (hT _ bw_409) (fun _ h9 => h9) rfl hin rfl (by decide +kernel) rfl rfl (Nat.le_of_ble_eq_true rfl) dX6_init_17 (fun H locs hP hD hS => ?_)
  have hP : va_P g.1 vwCl [(h, .inr (6, [.int 0, .ref q_1, .ref q_2, .null, .null, .null, .null, .null])), (q_1, aJ g 8 zL), (q_2, aI g 8 z0)] H := hP
  have hD : va_D A [(h, .inr (6, [.int 0, .ref q_1, .ref q_2, .null, .null, .null, .null, .null])), (q_1, aJ g 8 zL), (q_2, aI g 8 z0)] := hD
  refine lv_aload_n hx hb dX6_init_20 rfl (lv_at hl 0 rfl) ?_
  refine lv_bipush (v := 8) hx hb dX6_init_21 (by decide) ?_
  refine p_newa (atype := .int) (ty := .int) hx hb (hT _ bw_392) rfl hK.1 hP hD hS hA 1 rfl (fun _ h9 => h9) (a0 := (8, .inl z0)) (fun _ => rfl) (by decide) (N' := 8) rfl (by decide) (by decide) (by decide) dX6_init_23 (fun q_3 H hP hD hS => ?_)
  have hP : va_P g.1 vwCl [(h, .inr (6, [.int 0, .ref q_1, .ref q_2, .null, .null, .null, .null, .null])), (q_1, aJ g 8 zL), (q_2, aI g 8 z0), (q_3, aI g 8 z0)] H := hP
  have hD : va_D A [(h, .inr (6, [.int 0, .ref q_1, .ref q_2, .null, .null, .null, .null, .null])), (q_1, aJ g 8 zL), (q_2, aI g 8 z0), (q_3, aI g 8 z0)] := hD
  refine W.widen (k := 3) (n := 24) (by decide) (by decide) ?_
  refine va_putF (D := g.1) (ci := 6) (v := .ref q_3) (ty := .array .int) (C := RX6) (T := TX6) (N := 8) hx hb hT inF_X6 tyX6 tyX6_ok nmX6 hown hK.1 hP hD hS 0 rfl rfl 3 (by decide) (hT _ bw_410) (fun _ h9 => h9) rfl hin rfl (by decide +kernel) rfl rfl (Nat.le_of_ble_eq_true rfl) dX6_init_25 (fun H locs hP hD hS => ?_)
  have hP : va_P g.1 vwCl [(h, .inr (6, [.int 0, .ref q_1, .ref q_2, .ref q_3, .null, .null, .null, .null])), (q_1, aJ g 8 zL), (q_2, aI g 8 z0), (q_3, aI g 8 z0)] H := hP
  have hD : va_D A [(h, .inr (6, [.int 0, .ref q_1, .ref q_2, .ref q_3, .null, .null, .null, .null])), (q_1, aJ g 8 zL), (q_2, aI g 8 z0), (q_3, aI g 8 z0)] := hD
  refine lv_aload_n hx hb dX6_init_28 rfl (lv_at hl 0 rfl) ?_
  refine lv_bipush (v := 8) hx hb dX6_init_29 (by decide) ?_
  refine p_newa (atype := .int) (ty := .int) hx hb (hT _ bw_392) rfl hK.1 hP hD hS hA 1 rfl (fun _ h9 => h9) (a0 := (8, .inl z0)) (fun _ => rfl) (by decide) (N' := 8) rfl (by decide) (by decide) (by decide) dX6_init_31 (fun q_4 H hP hD hS => ?_)
  have hP : va_P g.1 vwCl [(h, .inr (6, [.int 0, .ref q_1, .ref q_2, .ref q_3, .null, .null, .null, .null])), (q_1, aJ g 8 zL), (q_2, aI g 8 z0), (q_3, aI g 8 z0), (q_4, aI g 8 z0)] H := hP
  have hD : va_D A [(h, .inr (6, [.int 0, .ref q_1, .ref q_2, .ref q_3, .null, .null, .null, .null])), (q_1, aJ g 8 zL), (q_2, aI g 8 z0), (q_3, aI g 8 z0), (q_4, aI g 8 z0)] := hD
  refine W.widen (k := 4) (n := 32) (by decide) (by decide) ?_
  refine va_putF (D := g.1) (ci := 6) (v := .ref q_4) (ty := .array .int) (C := RX6) (T := TX6) (N := 8) hx hb hT inF_X6 tyX6 tyX6_ok nmX6 hown hK.1 hP hD hS 0 rfl rfl 4 (by decide) (hT _ bw_411) (fun _ h9 => h9) rfl hin rfl (by decide +kernel) rfl rfl (Nat.le_of_ble_eq_true rfl) dX6_init_33 (fun H locs hP hD hS => ?_)
  have hP : va_P g.1 vwCl [(h, .inr (6, [.int 0, .ref q_1, .ref q_2, .ref q_3, .ref q_4, .null, .null, .null])), (q_1, aJ g 8 zL), (q_2, aI g 8 z0), (q_3, aI g 8 z0), (q_4, aI g 8 z0)] H := hP
  have hD : va_D A [(h, .inr (6, [.int 0, .ref q_1, .ref q_2, .ref q_3, .ref q_4, .null, .null, .null])), (q_1, aJ g 8 zL), (q_2, aI g 8 z0), (q_3, aI g 8 z0), (q_4, aI g 8 z0)] := hD
  refine lv_aload_n hx hb dX6_init_36 rfl (lv_at hl 0 rfl) ?_
  refine lv_bipush (v := 8) hx hb dX6_init_37 (by decide) ?_
  refine p_newa (atype := .int) (ty := .int) hx hb (hT _ bw_392) rfl hK.1 hP hD hS hA 1 rfl (fun _ h9 => h9) (a0 := (8, .inl z0)) (fun _ => rfl) (by decide) (N' := 8) rfl (by decide) (by decide) (by decide) dX6_init_39 (fun q_5 H hP hD hS => ?_)
  have hP : va_P g.1 vwCl [(h, .inr (6, [.int 0, .ref q_1, .ref q_2, .ref q_3, .ref q_4, .null, .null, .null])), (q_1, aJ g 8 zL), (q_2, aI g 8 z0), (q_3, aI g 8 z0), (q_4, aI g 8 z0), (q_5, aI g 8 z0)] H := hP
  have hD : va_D A [(h, .inr (6, [.int 0, .ref q_1, .ref q_2, .ref q_3, .ref q_4, .null, .null, .null])), (q_1, aJ g 8 zL), (q_2, aI g 8 z0), (q_3, aI g 8 z0), (q_4, aI g 8 z0), (q_5, aI g 8 z0)] := hD
  refine W.widen (k := 5) (n := 40) (by decide) (by decide) ?_
  refine va_putF (D := g.1) (ci := 6) (v := .ref q_5) (ty := .array .int) (C := RX6) (T := TX6) (N := 8) hx hb hT inF_X6 tyX6 tyX6_ok nmX6 hown hK.1 hP hD hS 0 rfl rfl 5 (by decide) (hT _ bw_412) (fun _ h9 => h9) rfl hin rfl (by decide +kernel) rfl rfl (Nat.le_of_ble_eq_true rfl) dX6_init_41 (fun H locs hP hD hS => ?_)
  have hP : va_P g.1 vwCl [(h, .inr (6, [.int 0, .ref q_1, .ref q_2, .ref q_3, .ref q_4, .ref q_5, .null, .null])), (q_1, aJ g 8 zL), (q_2, aI g 8 z0), (q_3, aI g 8 z0), (q_4, aI g 8 z0), (q_5, aI g 8 z0)] H := hP
  have hD : va_D A [(h, .inr (6, [.int 0, .ref q_1, .ref q_2, .ref q_3, .ref q_4, .ref q_5, .null, .null])), (q_1, aJ g 8 zL), (q_2, aI g 8 z0), (q_3, aI g 8 z0), (q_4, aI g 8 z0), (q_5, aI g 8 z0)] := hD
  refine lv_aload_n hx hb dX6_init_44 rfl (lv_at hl 0 rfl) ?_
  refine lv_bipush (v := 8) hx hb dX6_init_45 (by decide) ?_
  refine p_newa (atype := .int) (ty := .int) hx hb (hT _ bw_392) rfl hK.1 hP hD hS hA 1 rfl (fun _ h9 => h9) (a0 := (8, .inl z0)) (fun _ => rfl) (by decide) (N' := 8) rfl (by decide) (by decide) (by decide) dX6_init_47 (fun q_6 H hP hD hS => ?_)
  have hP : va_P g.1 vwCl [(h, .inr (6, [.int 0, .ref q_1, .ref q_2, .ref q_3, .ref q_4, .ref q_5, .null, .null])), (q_1, aJ g 8 zL), (q_2, aI g 8 z0), (q_3, aI g 8 z0), (q_4, aI g 8 z0), (q_5, aI g 8 z0), (q_6, aI g 8 z0)] H := hP
  have hD : va_D A [(h, .inr (6, [.int 0, .ref q_1, .ref q_2, .ref q_3, .ref q_4, .ref q_5, .null, .null])), (q_1, aJ g 8 zL), (q_2, aI g 8 z0), (q_3, aI g 8 z0), (q_4, aI g 8 z0), (q_5, aI g 8 z0), (q_6, aI g 8 z0)] := hD
  refine W.widen (k := 6) (n := 48) (by decide) (by decide) ?_
  refine va_putF (D := g.1) (ci := 6) (v := .ref q_6) (ty := .array .int) (C := RX6) (T := TX6) (N := 8) hx hb hT inF_X6 tyX6 tyX6_ok nmX6 hown hK.1 hP hD hS 0 rfl rfl 6 (by decide) (hT _ bw_413) (fun _ h9 => h9) rfl hin rfl (by decide +kernel) rfl rfl (Nat.le_of_ble_eq_true rfl) dX6_init_49 (fun H locs hP hD hS => ?_)
  have hP : va_P g.1 vwCl [(h, .inr (6, [.int 0, .ref q_1, .ref q_2, .ref q_3, .ref q_4, .ref q_5, .ref q_6, .null])), (q_1, aJ g 8 zL), (q_2, aI g 8 z0), (q_3, aI g 8 z0), (q_4, aI g 8 z0), (q_5, aI g 8 z0), (q_6, aI g 8 z0)] H := hP
  have hD : va_D A [(h, .inr (6, [.int 0, .ref q_1, .ref q_2, .ref q_3, .ref q_4, .ref q_5, .ref q_6, .null])), (q_1, aJ g 8 zL), (q_2, aI g 8 z0), (q_3, aI g 8 z0), (q_4, aI g 8 z0), (q_5, aI g 8 z0), (q_6, aI g 8 z0)] := hD
  refine lv_aload_n hx hb dX6_init_52 rfl (lv_at hl 0 rfl) ?_
  refine lv_bipush (v := 8) hx hb dX6_init_53 (by decide) ?_
  refine p_newa (atype := .int) (ty := .int) hx hb (hT _ bw_392) rfl hK.1 hP hD hS hA 1 rfl (fun _ h9 => h9) (a0 := (8, .inl z0)) (fun _ => rfl) (by decide) (N' := 8) rfl (by decide) (by decide) (by decide) dX6_init_55 (fun q_7 H hP hD hS => ?_)
  have hP : va_P g.1 vwCl [(h, .inr (6, [.int 0, .ref q_1, .ref q_2, .ref q_3, .ref q_4, .ref q_5, .ref q_6, .null])), (q_1, aJ g 8 zL), (q_2, aI g 8 z0), (q_3, aI g 8 z0), (q_4, aI g 8 z0), (q_5, aI g 8 z0), (q_6, aI g 8 z0), (q_7, aI g 8 z0)] H := hP
  have hD : va_D A [(h, .inr (6, [.int 0, .ref q_1, .ref q_2, .ref q_3, .ref q_4, .ref q_5, .ref q_6, .null])), (q_1, aJ g 8 zL), (q_2, aI g 8 z0), (q_3, aI g 8 z0), (q_4, aI g 8 z0), (q_5, aI g 8 z0), (q_6, aI g 8 z0), (q_7, aI g 8 z0)] := hD
  refine W.widen (k := 7) (n := 56) (by decide) (by decide) ?_
  refine va_putF (D := g.1) (ci := 6) (v := .ref q_7) (ty := .array .int) (C := RX6) (T := TX6) (N := 8) hx hb hT inF_X6 tyX6 tyX6_ok nmX6 hown hK.1 hP hD hS 0 rfl rfl 7 (by decide) (hT _ bw_414) (fun _ h9 => h9) rfl hin rfl (by decide +kernel) rfl rfl (Nat.le_of_ble_eq_true rfl) dX6_init_57 (fun H locs hP hD hS => ?_)
  have hP : va_P g.1 vwCl [(h, .inr (6, [.int 0, .ref q_1, .ref q_2, .ref q_3, .ref q_4, .ref q_5, .ref q_6, .ref q_7])), (q_1, aJ g 8 zL), (q_2, aI g 8 z0), (q_3, aI g 8 z0), (q_4, aI g 8 z0), (q_5, aI g 8 z0), (q_6, aI g 8 z0), (q_7, aI g 8 z0)] H := hP
  have hD : va_D A [(h, .inr (6, [.int 0, .ref q_1, .ref q_2, .ref q_3, .ref q_4, .ref q_5, .ref q_6, .ref q_7])), (q_1, aJ g 8 zL), (q_2, aI g 8 z0), (q_3, aI g 8 z0), (q_4, aI g 8 z0), (q_5, aI g 8 z0), (q_6, aI g 8 z0), (q_7, aI g 8 z0)] := hD
  have hP9 : va_P g.1 vwCl [(h, .inr (6, [.int 0, .ref q_1, .ref q_2, .ref q_3, .ref q_4, .ref q_5, .ref q_6, .ref q_7])), (q_1, aJ g 8 zL), (q_2, aI g 8 z0), (q_3, aI g 8 z0), (q_4, aI g 8 z0), (q_5, aI g 8 z0), (q_6, aI g 8 z0), (q_7, aI g 8 z0)] H := hP.sub [0, 1, 2, 3, 4, 5, 6, 7] rfl
  have hD9 : va_D A [(h, .inr (6, [.int 0, .ref q_1, .ref q_2, .ref q_3, .ref q_4, .ref q_5, .ref q_6, .ref q_7])), (q_1, aJ g 8 zL), (q_2, aI g 8 z0), (q_3, aI g 8 z0), (q_4, aI g 8 z0), (q_5, aI g 8 z0), (q_6, aI g 8 z0), (q_7, aI g 8 z0)] := hD.sub [0, 1, 2, 3, 4, 5, 6, 7] (by decide) rfl
  exact W.vret hx hb hr (fun t ht hW => ⟨⟨(q_1, q_2, q_3, q_4, q_5, q_6, q_7), rfl, trivial, by rw [ht]; exact hP9, by rw [hAe]; exact hD9⟩, hS.F ht⟩) hS.2.2 dX6_init_60

theorem bw_416 : Cond.methodLink RX8 3 objectInit ∈ gT := gT_tb 385 (by decide +kernel) (by decide +kernel)
theorem bw_417 : Cond.fieldLink RX8 9 "DuelDelays$Sights" "reasons" "[I" ∈ gT := gT_tb 390 (by decide +kernel) (by decide +kernel)
theorem bw_418 : Cond.fieldLink RX8 15 "DuelDelays$Sights" "days" "[I" ∈ gT := gT_tb 391 (by decide +kernel) (by decide +kernel)
theorem bw_419 : Cond.fieldLink RX8 18 "DuelDelays$Sights" "toldAt" "[I" ∈ gT := gT_tb 392 (by decide +kernel) (by decide +kernel)
theorem bw_420 : Cond.fieldLink RX8 21 "DuelDelays$Sights" "untoldAt" "[I" ∈ gT := gT_tb 393 (by decide +kernel) (by decide +kernel)
theorem bw_421 : Cond.code yX8_init cX8_init 1 none ∈ gT := gT_tb 384 (by decide +kernel) (by decide +kernel)
theorem dX8_init_0 : decode cX8_init 0 = .ok (.aload_n 0, 1) := by decide +kernel
theorem dX8_init_1 : decode cX8_init 1 = .ok (.invokespecial 3, 3) := by decide +kernel
theorem dX8_init_4 : decode cX8_init 4 = .ok (.aload_n 0, 1) := by decide +kernel
theorem dX8_init_5 : decode cX8_init 5 = .ok (.bipush 30, 2) := by decide +kernel
theorem dX8_init_7 : decode cX8_init 7 = .ok (.newarray .int, 2) := by decide +kernel
theorem dX8_init_9 : decode cX8_init 9 = .ok (.putfield 9, 3) := by decide +kernel
theorem dX8_init_12 : decode cX8_init 12 = .ok (.aload_n 0, 1) := by decide +kernel
theorem dX8_init_13 : decode cX8_init 13 = .ok (.bipush 30, 2) := by decide +kernel
theorem dX8_init_15 : decode cX8_init 15 = .ok (.newarray .int, 2) := by decide +kernel
theorem dX8_init_17 : decode cX8_init 17 = .ok (.putfield 15, 3) := by decide +kernel
theorem dX8_init_20 : decode cX8_init 20 = .ok (.aload_n 0, 1) := by decide +kernel
theorem dX8_init_21 : decode cX8_init 21 = .ok (.bipush 30, 2) := by decide +kernel
theorem dX8_init_23 : decode cX8_init 23 = .ok (.newarray .int, 2) := by decide +kernel
theorem dX8_init_25 : decode cX8_init 25 = .ok (.putfield 18, 3) := by decide +kernel
theorem dX8_init_28 : decode cX8_init 28 = .ok (.aload_n 0, 1) := by decide +kernel
theorem dX8_init_29 : decode cX8_init 29 = .ok (.bipush 30, 2) := by decide +kernel
theorem dX8_init_31 : decode cX8_init 31 = .ok (.newarray .int, 2) := by decide +kernel
theorem dX8_init_33 : decode cX8_init 33 = .ok (.putfield 21, 3) := by decide +kernel
theorem dX8_init_36 : decode cX8_init 36 = .ok (.return_, 1) := by decide +kernel
set_option maxHeartbeats 4000000 in
set_option maxRecDepth 100000 in
theorem c_X8_init (l : Launch) (g : GG) (sz : Nat) (h : Nat) : Met l yX8_init (.code yX8_init cX8_init 1 none :: gT) ({ frames := 1, cells := 4, slots := 120, locals := 40 }) (va_Pc [.ref h] (Pst g sz [(h, .inr (8, [.int 0, .int 0, .null, .null, .null, .null]))] nX)) (va_Qv (fun (_ : Nat × Nat × Nat × Nat) => True) (Qst g [(h, .inr (8, [.int 0, .int 0, .null, .null, .null, .null]))] sz (fun ((q_1, q_2, q_3, q_4) : Nat × Nat × Nat × Nat) => [(h, .inr (8, [.int 0, .int 0, .ref q_1, .ref q_2, .ref q_3, .ref q_4])), (q_1, aI g 30 z0), (q_2, aI g 30 z0), (q_3, aI g 30 z0), (q_4, aI g 30 z0)])) (va_A [(h, .inr (8, [.int 0, .int 0, .null, .null, .null, .null]))] sz)) 4 120 (va_A [(h, .inr (8, [.int 0, .int 0, .null, .null, .null, .null]))] sz) := by
  refine Met.ofW (cc := cX8_init) (maxL := 1) (ret := none) (by decide) rfl ?_
  intro p e s m args below meth c s₁ B hml hv
  obtain ⟨rfl, hsz, hP, hK, hD0, hX⟩ := hv
  have hx := B.exec
  have hb := B.bytes
  have hr := B.returns
  have hT : ∀ w ∈ gT, w.before _ s = true := fun w h => atoms_spec (ws := .code yX8_init cX8_init 1 none :: gT) B.pre w (List.mem_cons_of_mem _ h)
  have hown : s.vm.findClass RX8 = some m.cls := findClass_of_methodNamed B.named
  have hlocks := B.notSynchronized
  have hin : meth.name = "<init>" := (name_of_methodNamed B.named B.method).1
  subst hsz
  have hD := hD0.self (sz := s.heap.size)
  generalize hAe : va_A [(h, .inr (8, [.int 0, .int 0, .null, .null, .null, .null]))] s.heap.size = A at hD ⊢
  have hA : ∀ q : Nat, s.heap.size ≤ q → A q := fun q h => by rw [← hAe]; exact Or.inr h
  have hS : va_S A s.heap s.heap [] := va_S.rf
  have hl := lv_entry ([.ref h]) (n := 1) (Nat.le_of_ble_eq_true rfl)
  rw [lg_entry_eq]
  generalize (lg_sl ([.ref h]) ++ List.replicate (1 - (lg_sl ([.ref h])).length) Slot.unset).toArray = ls at hl ⊢
  have hl : lv_has ls 1 [(0, .ref h)] := hl
  refine p_nH (fun H hH => ?_)
  have hP : va_P g.1 vwCl [(h, .inr (8, [.int 0, .int 0, .null, .null, .null, .null]))] H := by rw [hH]; exact hP
  have hS : va_S A s.heap H [] := by rw [hH]; exact hS
  refine lv_aload_n hx hb dX8_init_0 rfl (lv_at hl 0 rfl) ?_
  refine W.objInit hx hb hown (hT _ bw_416) (hT _ bw_370) (hT _ bw_371) rfl (by rw [hml]; exact hl.1) rfl dX8_init_1 (Nat.le_of_ble_eq_true rfl) (Nat.le_of_ble_eq_true rfl) ?_
  refine W.eq (g2 := F0 m 4 ls []) rfl ?_
  refine lv_aload_n hx hb dX8_init_4 rfl (lv_at hl 0 rfl) ?_
  refine lv_bipush (v := 30) hx hb dX8_init_5 (by decide) ?_
  refine p_newa (atype := .int) (ty := .int) hx hb (hT _ bw_392) rfl hK.1 hP hD hS hA 1 rfl (fun _ h9 => h9) (a0 := (30, .inl z0)) (fun _ => rfl) (by decide) (N' := 30) rfl (by decide) (by decide) (by decide) dX8_init_7 (fun q_1 H hP hD hS => ?_)
  have hP : va_P g.1 vwCl [(h, .inr (8, [.int 0, .int 0, .null, .null, .null, .null])), (q_1, aI g 30 z0)] H := hP
  have hD : va_D A [(h, .inr (8, [.int 0, .int 0, .null, .null, .null, .null])), (q_1, aI g 30 z0)] := hD
  refine W.widen (k := 1) (n := 30) (by decide) (by decide) ?_
  refine va_putF (D := g.1) (ci := 8) (v := .ref q_1) (ty := .array .int) (C := RX8) (T := TX8) (N := 6) hx hb hT inF_X8 tyX8 tyX8_ok nmX8 hown hK.1 hP hD hS 0 rfl rfl 2 (by decide) (hT _ bw_417) (fun _ h9 => h9) rfl hin rfl (by decide +kernel) rfl rfl (Nat.le_of_ble_eq_true rfl) dX8_init_9 (fun H locs hP hD hS => ?_)
  have hP : va_P g.1 vwCl [(h, .inr (8, [.int 0, .int 0, .ref q_1, .null, .null, .null])), (q_1, aI g 30 z0)] H := hP
  have hD : va_D A [(h, .inr (8, [.int 0, .int 0, .ref q_1, .null, .null, .null])), (q_1, aI g 30 z0)] := hD
  refine lv_aload_n hx hb dX8_init_12 rfl (lv_at hl 0 rfl) ?_
  refine lv_bipush (v := 30) hx hb dX8_init_13 (by decide) ?_
  refine p_newa (atype := .int) (ty := .int) hx hb (hT _ bw_392) rfl hK.1 hP hD hS hA 1 rfl (fun _ h9 => h9) (a0 := (30, .inl z0)) (fun _ => rfl) (by decide) (N' := 30) rfl (by decide) (by decide) (by decide) dX8_init_15 (fun q_2 H hP hD hS => ?_)
  have hP : va_P g.1 vwCl [(h, .inr (8, [.int 0, .int 0, .ref q_1, .null, .null, .null])), (q_1, aI g 30 z0), (q_2, aI g 30 z0)] H := hP
  have hD : va_D A [(h, .inr (8, [.int 0, .int 0, .ref q_1, .null, .null, .null])), (q_1, aI g 30 z0), (q_2, aI g 30 z0)] := hD
  refine W.widen (k := 2) (n := 60) (by decide) (by decide) ?_
  refine va_putF (D := g.1) (ci := 8) (v := .ref q_2) (ty := .array .int) (C := RX8) (T := TX8) (N := 6) hx hb hT inF_X8 tyX8 tyX8_ok nmX8 hown hK.1 hP hD hS 0 rfl rfl 3 (by decide) (hT _ bw_418) (fun _ h9 => h9) rfl hin rfl (by decide +kernel) rfl rfl (Nat.le_of_ble_eq_true rfl) dX8_init_17 (fun H locs hP hD hS => ?_)
  have hP : va_P g.1 vwCl [(h, .inr (8, [.int 0, .int 0, .ref q_1, .ref q_2, .null, .null])), (q_1, aI g 30 z0), (q_2, aI g 30 z0)] H := hP
  have hD : va_D A [(h, .inr (8, [.int 0, .int 0, .ref q_1, .ref q_2, .null, .null])), (q_1, aI g 30 z0), (q_2, aI g 30 z0)] := hD
  refine lv_aload_n hx hb dX8_init_20 rfl (lv_at hl 0 rfl) ?_
  refine lv_bipush (v := 30) hx hb dX8_init_21 (by decide) ?_
  refine p_newa (atype := .int) (ty := .int) hx hb (hT _ bw_392) rfl hK.1 hP hD hS hA 1 rfl (fun _ h9 => h9) (a0 := (30, .inl z0)) (fun _ => rfl) (by decide) (N' := 30) rfl (by decide) (by decide) (by decide) dX8_init_23 (fun q_3 H hP hD hS => ?_)
  have hP : va_P g.1 vwCl [(h, .inr (8, [.int 0, .int 0, .ref q_1, .ref q_2, .null, .null])), (q_1, aI g 30 z0), (q_2, aI g 30 z0), (q_3, aI g 30 z0)] H := hP
  have hD : va_D A [(h, .inr (8, [.int 0, .int 0, .ref q_1, .ref q_2, .null, .null])), (q_1, aI g 30 z0), (q_2, aI g 30 z0), (q_3, aI g 30 z0)] := hD
  refine W.widen (k := 3) (n := 90) (by decide) (by decide) ?_
  refine va_putF (D := g.1) (ci := 8) (v := .ref q_3) (ty := .array .int) (C := RX8) (T := TX8) (N := 6) hx hb hT inF_X8 tyX8 tyX8_ok nmX8 hown hK.1 hP hD hS 0 rfl rfl 4 (by decide) (hT _ bw_419) (fun _ h9 => h9) rfl hin rfl (by decide +kernel) rfl rfl (Nat.le_of_ble_eq_true rfl) dX8_init_25 (fun H locs hP hD hS => ?_)
  have hP : va_P g.1 vwCl [(h, .inr (8, [.int 0, .int 0, .ref q_1, .ref q_2, .ref q_3, .null])), (q_1, aI g 30 z0), (q_2, aI g 30 z0), (q_3, aI g 30 z0)] H := hP
  have hD : va_D A [(h, .inr (8, [.int 0, .int 0, .ref q_1, .ref q_2, .ref q_3, .null])), (q_1, aI g 30 z0), (q_2, aI g 30 z0), (q_3, aI g 30 z0)] := hD
  refine lv_aload_n hx hb dX8_init_28 rfl (lv_at hl 0 rfl) ?_
  refine lv_bipush (v := 30) hx hb dX8_init_29 (by decide) ?_
  refine p_newa (atype := .int) (ty := .int) hx hb (hT _ bw_392) rfl hK.1 hP hD hS hA 1 rfl (fun _ h9 => h9) (a0 := (30, .inl z0)) (fun _ => rfl) (by decide) (N' := 30) rfl (by decide) (by decide) (by decide) dX8_init_31 (fun q_4 H hP hD hS => ?_)
  have hP : va_P g.1 vwCl [(h, .inr (8, [.int 0, .int 0, .ref q_1, .ref q_2, .ref q_3, .null])), (q_1, aI g 30 z0), (q_2, aI g 30 z0), (q_3, aI g 30 z0), (q_4, aI g 30 z0)] H := hP
  have hD : va_D A [(h, .inr (8, [.int 0, .int 0, .ref q_1, .ref q_2, .ref q_3, .null])), (q_1, aI g 30 z0), (q_2, aI g 30 z0), (q_3, aI g 30 z0), (q_4, aI g 30 z0)] := hD
  refine W.widen (k := 4) (n := 120) (by decide) (by decide) ?_
  refine va_putF (D := g.1) (ci := 8) (v := .ref q_4) (ty := .array .int) (C := RX8) (T := TX8) (N := 6) hx hb hT inF_X8 tyX8 tyX8_ok nmX8 hown hK.1 hP hD hS 0 rfl rfl 5 (by decide) (hT _ bw_420) (fun _ h9 => h9) rfl hin rfl (by decide +kernel) rfl rfl (Nat.le_of_ble_eq_true rfl) dX8_init_33 (fun H locs hP hD hS => ?_)
  have hP : va_P g.1 vwCl [(h, .inr (8, [.int 0, .int 0, .ref q_1, .ref q_2, .ref q_3, .ref q_4])), (q_1, aI g 30 z0), (q_2, aI g 30 z0), (q_3, aI g 30 z0), (q_4, aI g 30 z0)] H := hP
  have hD : va_D A [(h, .inr (8, [.int 0, .int 0, .ref q_1, .ref q_2, .ref q_3, .ref q_4])), (q_1, aI g 30 z0), (q_2, aI g 30 z0), (q_3, aI g 30 z0), (q_4, aI g 30 z0)] := hD
  have hP9 : va_P g.1 vwCl [(h, .inr (8, [.int 0, .int 0, .ref q_1, .ref q_2, .ref q_3, .ref q_4])), (q_1, aI g 30 z0), (q_2, aI g 30 z0), (q_3, aI g 30 z0), (q_4, aI g 30 z0)] H := hP.sub [0, 1, 2, 3, 4] rfl
  have hD9 : va_D A [(h, .inr (8, [.int 0, .int 0, .ref q_1, .ref q_2, .ref q_3, .ref q_4])), (q_1, aI g 30 z0), (q_2, aI g 30 z0), (q_3, aI g 30 z0), (q_4, aI g 30 z0)] := hD.sub [0, 1, 2, 3, 4] (by decide) rfl
  exact W.vret hx hb hr (fun t ht hW => ⟨⟨(q_1, q_2, q_3, q_4), rfl, trivial, by rw [ht]; exact hP9, by rw [hAe]; exact hD9⟩, hS.F ht⟩) hS.2.2 dX8_init_36

set_option maxRecDepth 20000 in
theorem inF_X4 : ∀ w ∈ u_ws RX4 TX4 4, w ∈ gT := gT_u [419, 421, 423, 425] (by decide +kernel) (by decide +kernel)
theorem bw_422 : Cond.methodLink RX4 3 objectInit ∈ gT := gT_tb 412 (by decide +kernel) (by decide +kernel)
theorem bw_423 : Cond.fieldLink RX4 9 "DuelDelays$Parting" "behind" "[I" ∈ gT := gT_tb 417 (by decide +kernel) (by decide +kernel)
theorem bw_424 : Cond.fieldLink RX4 15 "DuelDelays$Parting" "mornings" "[I" ∈ gT := gT_tb 418 (by decide +kernel) (by decide +kernel)
theorem bw_425 : Cond.code yX4_init cX4_init 1 none ∈ gT := gT_tb 411 (by decide +kernel) (by decide +kernel)
theorem dX4_init_0 : decode cX4_init 0 = .ok (.aload_n 0, 1) := by decide +kernel
theorem dX4_init_1 : decode cX4_init 1 = .ok (.invokespecial 3, 3) := by decide +kernel
theorem dX4_init_4 : decode cX4_init 4 = .ok (.aload_n 0, 1) := by decide +kernel
theorem dX4_init_5 : decode cX4_init 5 = .ok (.sipush 128, 3) := by decide +kernel
theorem dX4_init_8 : decode cX4_init 8 = .ok (.newarray .int, 2) := by decide +kernel
theorem dX4_init_10 : decode cX4_init 10 = .ok (.putfield 9, 3) := by decide +kernel
theorem dX4_init_13 : decode cX4_init 13 = .ok (.aload_n 0, 1) := by decide +kernel
theorem dX4_init_14 : decode cX4_init 14 = .ok (.bipush 8, 2) := by decide +kernel
theorem dX4_init_16 : decode cX4_init 16 = .ok (.newarray .int, 2) := by decide +kernel
theorem dX4_init_18 : decode cX4_init 18 = .ok (.putfield 15, 3) := by decide +kernel
theorem dX4_init_21 : decode cX4_init 21 = .ok (.return_, 1) := by decide +kernel
set_option maxHeartbeats 4000000 in
set_option maxRecDepth 100000 in
theorem c_X4_init (l : Launch) (g : GG) (sz : Nat) (h : Nat) : Met l yX4_init (.code yX4_init cX4_init 1 none :: gT) ({ frames := 1, cells := 2, slots := 136, locals := 40 }) (va_Pc [.ref h] (Pst g sz [(h, .inr (4, [.int 0, .int 0, .null, .null]))] nX)) (va_Qv (fun (_ : Nat × Nat) => True) (Qst g [(h, .inr (4, [.int 0, .int 0, .null, .null]))] sz (fun ((q_1, q_2) : Nat × Nat) => [(h, .inr (4, [.int 0, .int 0, .ref q_1, .ref q_2])), (q_1, aI g 128 z0), (q_2, aI g 8 z0)])) (va_A [(h, .inr (4, [.int 0, .int 0, .null, .null]))] sz)) 2 136 (va_A [(h, .inr (4, [.int 0, .int 0, .null, .null]))] sz) := by
  refine Met.ofW (cc := cX4_init) (maxL := 1) (ret := none) (by decide) rfl ?_
  intro p e s m args below meth c s₁ B hml hv
  obtain ⟨rfl, hsz, hP, hK, hD0, hX⟩ := hv
  have hx := B.exec
  have hb := B.bytes
  have hr := B.returns
  have hT : ∀ w ∈ gT, w.before _ s = true := fun w h => atoms_spec (ws := .code yX4_init cX4_init 1 none :: gT) B.pre w (List.mem_cons_of_mem _ h)
  have hown : s.vm.findClass RX4 = some m.cls := findClass_of_methodNamed B.named
  have hlocks := B.notSynchronized
  have hin : meth.name = "<init>" := (name_of_methodNamed B.named B.method).1
  subst hsz
  have hD := hD0.self (sz := s.heap.size)
  generalize hAe : va_A [(h, .inr (4, [.int 0, .int 0, .null, .null]))] s.heap.size = A at hD ⊢
  have hA : ∀ q : Nat, s.heap.size ≤ q → A q := fun q h => by rw [← hAe]; exact Or.inr h
  have hS : va_S A s.heap s.heap [] := va_S.rf
  have hl := lv_entry ([.ref h]) (n := 1) (Nat.le_of_ble_eq_true rfl)
  rw [lg_entry_eq]
  generalize (lg_sl ([.ref h]) ++ List.replicate (1 - (lg_sl ([.ref h])).length) Slot.unset).toArray = ls at hl ⊢
  have hl : lv_has ls 1 [(0, .ref h)] := hl
  refine p_nH (fun H hH => ?_)
  have hP : va_P g.1 vwCl [(h, .inr (4, [.int 0, .int 0, .null, .null]))] H := by rw [hH]; exact hP
  have hS : va_S A s.heap H [] := by rw [hH]; exact hS
  refine lv_aload_n hx hb dX4_init_0 rfl (lv_at hl 0 rfl) ?_
  refine W.objInit hx hb hown (hT _ bw_422) (hT _ bw_370) (hT _ bw_371) rfl (by rw [hml]; exact hl.1) rfl dX4_init_1 (Nat.le_of_ble_eq_true rfl) (Nat.le_of_ble_eq_true rfl) ?_
  refine W.eq (g2 := F0 m 4 ls []) rfl ?_
  refine lv_aload_n hx hb dX4_init_4 rfl (lv_at hl 0 rfl) ?_
  refine lv_sipush (v := 128) hx hb dX4_init_5 (by decide) ?_
  refine p_newa (atype := .int) (ty := .int) hx hb (hT _ bw_392) rfl hK.1 hP hD hS hA 1 rfl (fun _ h9 => h9) (a0 := (128, .inl z0)) (fun _ => rfl) (by decide) (N' := 128) rfl (by decide) (by decide) (by decide) dX4_init_8 (fun q_1 H hP hD hS => ?_)
  have hP : va_P g.1 vwCl [(h, .inr (4, [.int 0, .int 0, .null, .null])), (q_1, aI g 128 z0)] H := hP
  have hD : va_D A [(h, .inr (4, [.int 0, .int 0, .null, .null])), (q_1, aI g 128 z0)] := hD
  refine W.widen (k := 1) (n := 128) (by decide) (by decide) ?_
  refine va_putF (D := g.1) (ci := 4) (v := .ref q_1) (ty := .array .int) (C := RX4) (T := TX4) (N := 4) hx hb hT inF_X4 tyX4 tyX4_ok nmX4 hown hK.1 hP hD hS 0 rfl rfl 2 (by decide) (hT _ bw_423) (fun _ h9 => h9) rfl hin rfl (by decide +kernel) rfl rfl (Nat.le_of_ble_eq_true rfl) dX4_init_10 (fun H locs hP hD hS => ?_)
  have hP : va_P g.1 vwCl [(h, .inr (4, [.int 0, .int 0, .ref q_1, .null])), (q_1, aI g 128 z0)] H := hP
  have hD : va_D A [(h, .inr (4, [.int 0, .int 0, .ref q_1, .null])), (q_1, aI g 128 z0)] := hD
  refine lv_aload_n hx hb dX4_init_13 rfl (lv_at hl 0 rfl) ?_
  refine lv_bipush (v := 8) hx hb dX4_init_14 (by decide) ?_
  refine p_newa (atype := .int) (ty := .int) hx hb (hT _ bw_392) rfl hK.1 hP hD hS hA 1 rfl (fun _ h9 => h9) (a0 := (8, .inl z0)) (fun _ => rfl) (by decide) (N' := 8) rfl (by decide) (by decide) (by decide) dX4_init_16 (fun q_2 H hP hD hS => ?_)
  have hP : va_P g.1 vwCl [(h, .inr (4, [.int 0, .int 0, .ref q_1, .null])), (q_1, aI g 128 z0), (q_2, aI g 8 z0)] H := hP
  have hD : va_D A [(h, .inr (4, [.int 0, .int 0, .ref q_1, .null])), (q_1, aI g 128 z0), (q_2, aI g 8 z0)] := hD
  refine W.widen (k := 2) (n := 136) (by decide) (by decide) ?_
  refine va_putF (D := g.1) (ci := 4) (v := .ref q_2) (ty := .array .int) (C := RX4) (T := TX4) (N := 4) hx hb hT inF_X4 tyX4 tyX4_ok nmX4 hown hK.1 hP hD hS 0 rfl rfl 3 (by decide) (hT _ bw_424) (fun _ h9 => h9) rfl hin rfl (by decide +kernel) rfl rfl (Nat.le_of_ble_eq_true rfl) dX4_init_18 (fun H locs hP hD hS => ?_)
  have hP : va_P g.1 vwCl [(h, .inr (4, [.int 0, .int 0, .ref q_1, .ref q_2])), (q_1, aI g 128 z0), (q_2, aI g 8 z0)] H := hP
  have hD : va_D A [(h, .inr (4, [.int 0, .int 0, .ref q_1, .ref q_2])), (q_1, aI g 128 z0), (q_2, aI g 8 z0)] := hD
  have hP9 : va_P g.1 vwCl [(h, .inr (4, [.int 0, .int 0, .ref q_1, .ref q_2])), (q_1, aI g 128 z0), (q_2, aI g 8 z0)] H := hP.sub [0, 1, 2] rfl
  have hD9 : va_D A [(h, .inr (4, [.int 0, .int 0, .ref q_1, .ref q_2])), (q_1, aI g 128 z0), (q_2, aI g 8 z0)] := hD.sub [0, 1, 2] (by decide) rfl
  exact W.vret hx hb hr (fun t ht hW => ⟨⟨(q_1, q_2), rfl, trivial, by rw [ht]; exact hP9, by rw [hAe]; exact hD9⟩, hS.F ht⟩) hS.2.2 dX4_init_21

set_option maxRecDepth 20000 in
theorem inF_X7 : ∀ w ∈ u_ws RX7 TX7 12, w ∈ gT := gT_u [354, 356, 358, 360, 362, 364, 366, 368, 370, 372, 374, 376] (by decide +kernel) (by decide +kernel)
theorem bw_426 : Cond.methodLink RX7 5 objectInit ∈ gT := gT_tb 341 (by decide +kernel) (by decide +kernel)
theorem bw_427 : Cond.fieldLink RX7 11 "DuelDelays$Search" "freeFrom" "[I" ∈ gT := gT_tb 344 (by decide +kernel) (by decide +kernel)
theorem bw_428 : Cond.fieldLink RX7 15 "DuelDelays$Search" "barring" "[I" ∈ gT := gT_tb 345 (by decide +kernel) (by decide +kernel)
theorem bw_429 : Cond.fieldLink RX7 18 "DuelDelays$Search" "keys" "[I" ∈ gT := gT_tb 346 (by decide +kernel) (by decide +kernel)
theorem bw_430 : Cond.fieldLink RX7 21 "DuelDelays$Search" "ways" "[I" ∈ gT := gT_tb 347 (by decide +kernel) (by decide +kernel)
theorem bw_431 : Cond.arrayClass .boolean ∈ gT := gT_tb 379 (by decide +kernel) (by decide +kernel)
theorem bw_432 : Cond.fieldLink RX7 24 "DuelDelays$Search" "wins" "[Z" ∈ gT := gT_tb 349 (by decide +kernel) (by decide +kernel)
theorem bw_433 : Cond.fieldLink RX7 28 "DuelDelays$Search" "slots" "[I" ∈ gT := gT_tb 350 (by decide +kernel) (by decide +kernel)
theorem bw_434 : Cond.fieldLink RX7 31 "DuelDelays$Search" "worths" "[I" ∈ gT := gT_tb 352 (by decide +kernel) (by decide +kernel)
theorem bw_435 : Cond.fieldLink RX7 34 "DuelDelays$Search" "path" "[I" ∈ gT := gT_tb 353 (by decide +kernel) (by decide +kernel)
theorem bw_436 : Cond.code yX7_init cX7_init 1 none ∈ gT := gT_tb 340 (by decide +kernel) (by decide +kernel)
theorem dX7_init_0 : decode cX7_init 0 = .ok (.aload_n 0, 1) := by decide +kernel
theorem dX7_init_1 : decode cX7_init 1 = .ok (.invokespecial 5, 3) := by decide +kernel
theorem dX7_init_4 : decode cX7_init 4 = .ok (.aload_n 0, 1) := by decide +kernel
theorem dX7_init_5 : decode cX7_init 5 = .ok (.bipush 16, 2) := by decide +kernel
theorem dX7_init_7 : decode cX7_init 7 = .ok (.newarray .int, 2) := by decide +kernel
theorem dX7_init_9 : decode cX7_init 9 = .ok (.putfield 11, 3) := by decide +kernel
theorem dX7_init_12 : decode cX7_init 12 = .ok (.aload_n 0, 1) := by decide +kernel
theorem dX7_init_13 : decode cX7_init 13 = .ok (.bipush 16, 2) := by decide +kernel
theorem dX7_init_15 : decode cX7_init 15 = .ok (.newarray .int, 2) := by decide +kernel
theorem dX7_init_17 : decode cX7_init 17 = .ok (.putfield 15, 3) := by decide +kernel
theorem dX7_init_20 : decode cX7_init 20 = .ok (.aload_n 0, 1) := by decide +kernel
theorem dX7_init_21 : decode cX7_init 21 = .ok (.sipush 3000, 3) := by decide +kernel
theorem dX7_init_24 : decode cX7_init 24 = .ok (.newarray .int, 2) := by decide +kernel
theorem dX7_init_26 : decode cX7_init 26 = .ok (.putfield 18, 3) := by decide +kernel
theorem dX7_init_29 : decode cX7_init 29 = .ok (.aload_n 0, 1) := by decide +kernel
theorem dX7_init_30 : decode cX7_init 30 = .ok (.sipush 3000, 3) := by decide +kernel
theorem dX7_init_33 : decode cX7_init 33 = .ok (.newarray .int, 2) := by decide +kernel
theorem dX7_init_35 : decode cX7_init 35 = .ok (.putfield 21, 3) := by decide +kernel
theorem dX7_init_38 : decode cX7_init 38 = .ok (.aload_n 0, 1) := by decide +kernel
theorem dX7_init_39 : decode cX7_init 39 = .ok (.sipush 3000, 3) := by decide +kernel
theorem dX7_init_42 : decode cX7_init 42 = .ok (.newarray .boolean, 2) := by decide +kernel
theorem dX7_init_44 : decode cX7_init 44 = .ok (.putfield 24, 3) := by decide +kernel
theorem dX7_init_47 : decode cX7_init 47 = .ok (.aload_n 0, 1) := by decide +kernel
theorem dX7_init_48 : decode cX7_init 48 = .ok (.sipush 8192, 3) := by decide +kernel
theorem dX7_init_51 : decode cX7_init 51 = .ok (.newarray .int, 2) := by decide +kernel
theorem dX7_init_53 : decode cX7_init 53 = .ok (.putfield 28, 3) := by decide +kernel
theorem dX7_init_56 : decode cX7_init 56 = .ok (.aload_n 0, 1) := by decide +kernel
theorem dX7_init_57 : decode cX7_init 57 = .ok (.iconst 4, 1) := by decide +kernel
theorem dX7_init_58 : decode cX7_init 58 = .ok (.newarray .int, 2) := by decide +kernel
theorem dX7_init_60 : decode cX7_init 60 = .ok (.putfield 31, 3) := by decide +kernel
theorem dX7_init_63 : decode cX7_init 63 = .ok (.aload_n 0, 1) := by decide +kernel
theorem dX7_init_64 : decode cX7_init 64 = .ok (.bipush 16, 2) := by decide +kernel
theorem dX7_init_66 : decode cX7_init 66 = .ok (.newarray .int, 2) := by decide +kernel
theorem dX7_init_68 : decode cX7_init 68 = .ok (.putfield 34, 3) := by decide +kernel
theorem dX7_init_71 : decode cX7_init 71 = .ok (.return_, 1) := by decide +kernel
set_option maxHeartbeats 4000000 in
set_option maxRecDepth 100000 in
theorem c_X7_init (l : Launch) (g : GG) (sz : Nat) (h : Nat) : Met l yX7_init (.code yX7_init cX7_init 1 none :: gT) ({ frames := 1, cells := 8, slots := 17244, locals := 40 }) (va_Pc [.ref h] (Pst g sz [(h, .inr (7, [.null, .int 0, .null, .null, .null, .null, .int 0, .null, .null, .int 0, .null, .null]))] nX)) (va_Qv (fun (_ : Nat × Nat × Nat × Nat × Nat × Nat × Nat × Nat) => True) (Qst g [(h, .inr (7, [.null, .int 0, .null, .null, .null, .null, .int 0, .null, .null, .int 0, .null, .null]))] sz (fun ((q_1, q_2, q_3, q_4, q_5, q_6, q_7, q_8) : Nat × Nat × Nat × Nat × Nat × Nat × Nat × Nat) => [(h, .inr (7, [.null, .int 0, .ref q_1, .ref q_2, .ref q_3, .ref q_4, .int 0, .ref q_5, .ref q_6, .int 0, .ref q_7, .ref q_8])), (q_1, aI g 16 z0), (q_2, aI g 16 z0), (q_3, aI g 3000 z0), (q_4, aI g 3000 z0), (q_5, aZ g 3000 z0), (q_6, aI g 8192 z0), (q_7, aI g 4 z0), (q_8, aI g 16 z0)])) (va_A [(h, .inr (7, [.null, .int 0, .null, .null, .null, .null, .int 0, .null, .null, .int 0, .null, .null]))] sz)) 8 17244 (va_A [(h, .inr (7, [.null, .int 0, .null, .null, .null, .null, .int 0, .null, .null, .int 0, .null, .null]))] sz) := by
  refine Met.ofW (cc := cX7_init) (maxL := 1) (ret := none) (by decide) rfl ?_
  intro p e s m args below meth c s₁ B hml hv
  obtain ⟨rfl, hsz, hP, hK, hD0, hX⟩ := hv
  have hx := B.exec
  have hb := B.bytes
  have hr := B.returns
  have hT : ∀ w ∈ gT, w.before _ s = true := fun w h => atoms_spec (ws := .code yX7_init cX7_init 1 none :: gT) B.pre w (List.mem_cons_of_mem _ h)
  have hown : s.vm.findClass RX7 = some m.cls := findClass_of_methodNamed B.named
  have hlocks := B.notSynchronized
  have hin : meth.name = "<init>" := (name_of_methodNamed B.named B.method).1
  subst hsz
  have hD := hD0.self (sz := s.heap.size)
  generalize hAe : va_A [(h, .inr (7, [.null, .int 0, .null, .null, .null, .null, .int 0, .null, .null, .int 0, .null, .null]))] s.heap.size = A at hD ⊢
  have hA : ∀ q : Nat, s.heap.size ≤ q → A q := fun q h => by rw [← hAe]; exact Or.inr h
  have hS : va_S A s.heap s.heap [] := va_S.rf
  have hl := lv_entry ([.ref h]) (n := 1) (Nat.le_of_ble_eq_true rfl)
  rw [lg_entry_eq]
  generalize (lg_sl ([.ref h]) ++ List.replicate (1 - (lg_sl ([.ref h])).length) Slot.unset).toArray = ls at hl ⊢
  have hl : lv_has ls 1 [(0, .ref h)] := hl
  refine p_nH (fun H hH => ?_)
  have hP : va_P g.1 vwCl [(h, .inr (7, [.null, .int 0, .null, .null, .null, .null, .int 0, .null, .null, .int 0, .null, .null]))] H := by rw [hH]; exact hP
  have hS : va_S A s.heap H [] := by rw [hH]; exact hS
  refine lv_aload_n hx hb dX7_init_0 rfl (lv_at hl 0 rfl) ?_
  refine W.objInit hx hb hown (hT _ bw_426) (hT _ bw_370) (hT _ bw_371) rfl (by rw [hml]; exact hl.1) rfl dX7_init_1 (Nat.le_of_ble_eq_true rfl) (Nat.le_of_ble_eq_true rfl) ?_
  refine W.eq (g2 := F0 m 4 ls []) rfl ?_
  refine lv_aload_n hx hb dX7_init_4 rfl (lv_at hl 0 rfl) ?_
  refine lv_bipush (v := 16) hx hb dX7_init_5 (by decide) ?_
  refine p_newa (atype := .int) (ty := .int) hx hb (hT _ bw_392) rfl hK.1 hP hD hS hA 1 rfl (fun _ h9 => h9) (a0 := (16, .inl z0)) (fun _ => rfl) (by decide) (N' := 16) rfl (by decide) (by decide) (by decide) dX7_init_7 (fun q_1 H hP hD hS => ?_)
  have hP : va_P g.1 vwCl [(h, .inr (7, [.null, .int 0, .null, .null, .null, .null, .int 0, .null, .null, .int 0, .null, .null])), (q_1, aI g 16 z0)] H := hP
  have hD : va_D A [(h, .inr (7, [.null, .int 0, .null, .null, .null, .null, .int 0, .null, .null, .int 0, .null, .null])), (q_1, aI g 16 z0)] := hD
  refine W.widen (k := 1) (n := 16) (by decide) (by decide) ?_
  refine va_putF (D := g.1) (ci := 7) (v := .ref q_1) (ty := .array .int) (C := RX7) (T := TX7) (N := 12) hx hb hT inF_X7 tyX7 tyX7_ok nmX7 hown hK.1 hP hD hS 0 rfl rfl 2 (by decide) (hT _ bw_427) (fun _ h9 => h9) rfl hin rfl (by decide +kernel) rfl rfl (Nat.le_of_ble_eq_true rfl) dX7_init_9 (fun H locs hP hD hS => ?_)
  have hP : va_P g.1 vwCl [(h, .inr (7, [.null, .int 0, .ref q_1, .null, .null, .null, .int 0, .null, .null, .int 0, .null, .null])), (q_1, aI g 16 z0)] H := hP
  have hD : va_D A [(h, .inr (7, [.null, .int 0, .ref q_1, .null, .null, .null, .int 0, .null, .null, .int 0, .null, .null])), (q_1, aI g 16 z0)] := hD
  refine lv_aload_n hx hb dX7_init_12 rfl (lv_at hl 0 rfl) ?_
  refine lv_bipush (v := 16) hx hb dX7_init_13 (by decide) ?_
  refine p_newa (atype := .int) (ty := .int) hx hb (hT _ bw_392) rfl hK.1 hP hD hS hA 1 rfl (fun _ h9 => h9) (a0 := (16, .inl z0)) (fun _ => rfl) (by decide) (N' := 16) rfl (by decide) (by decide) (by decide) dX7_init_15 (fun q_2 H hP hD hS => ?_)
  have hP : va_P g.1 vwCl [(h, .inr (7, [.null, .int 0, .ref q_1, .null, .null, .null, .int 0, .null, .null, .int 0, .null, .null])), (q_1, aI g 16 z0), (q_2, aI g 16 z0)] H := hP
  have hD : va_D A [(h, .inr (7, [.null, .int 0, .ref q_1, .null, .null, .null, .int 0, .null, .null, .int 0, .null, .null])), (q_1, aI g 16 z0), (q_2, aI g 16 z0)] := hD
  refine W.widen (k := 2) (n := 32) (by decide) (by decide) ?_
  refine va_putF (D := g.1) (ci := 7) (v := .ref q_2) (ty := .array .int) (C := RX7) (T := TX7) (N := 12) hx hb hT inF_X7 tyX7 tyX7_ok nmX7 hown hK.1 hP hD hS 0 rfl rfl 3 (by decide) (hT _ bw_428) (fun _ h9 => h9) rfl hin rfl (by decide +kernel) rfl rfl (Nat.le_of_ble_eq_true rfl) dX7_init_17 (fun H locs hP hD hS => ?_)
  have hP : va_P g.1 vwCl [(h, .inr (7, [.null, .int 0, .ref q_1, .ref q_2, .null, .null, .int 0, .null, .null, .int 0, .null, .null])), (q_1, aI g 16 z0), (q_2, aI g 16 z0)] H := hP
  have hD : va_D A [(h, .inr (7, [.null, .int 0, .ref q_1, .ref q_2, .null, .null, .int 0, .null, .null, .int 0, .null, .null])), (q_1, aI g 16 z0), (q_2, aI g 16 z0)] := hD
  refine lv_aload_n hx hb dX7_init_20 rfl (lv_at hl 0 rfl) ?_
  refine lv_sipush (v := 3000) hx hb dX7_init_21 (by decide) ?_
  refine p_newa (atype := .int) (ty := .int) hx hb (hT _ bw_392) rfl hK.1 hP hD hS hA 1 rfl (fun _ h9 => h9) (a0 := (3000, .inl z0)) (fun _ => rfl) (by decide) (N' := 3000) rfl (by decide) (by decide) (by decide) dX7_init_24 (fun q_3 H hP hD hS => ?_)
  have hP : va_P g.1 vwCl [(h, .inr (7, [.null, .int 0, .ref q_1, .ref q_2, .null, .null, .int 0, .null, .null, .int 0, .null, .null])), (q_1, aI g 16 z0), (q_2, aI g 16 z0), (q_3, aI g 3000 z0)] H := hP
  have hD : va_D A [(h, .inr (7, [.null, .int 0, .ref q_1, .ref q_2, .null, .null, .int 0, .null, .null, .int 0, .null, .null])), (q_1, aI g 16 z0), (q_2, aI g 16 z0), (q_3, aI g 3000 z0)] := hD
  refine W.widen (k := 3) (n := 3032) (by decide) (by decide) ?_
  refine va_putF (D := g.1) (ci := 7) (v := .ref q_3) (ty := .array .int) (C := RX7) (T := TX7) (N := 12) hx hb hT inF_X7 tyX7 tyX7_ok nmX7 hown hK.1 hP hD hS 0 rfl rfl 4 (by decide) (hT _ bw_429) (fun _ h9 => h9) rfl hin rfl (by decide +kernel) rfl rfl (Nat.le_of_ble_eq_true rfl) dX7_init_26 (fun H locs hP hD hS => ?_)
  have hP : va_P g.1 vwCl [(h, .inr (7, [.null, .int 0, .ref q_1, .ref q_2, .ref q_3, .null, .int 0, .null, .null, .int 0, .null, .null])), (q_1, aI g 16 z0), (q_2, aI g 16 z0), (q_3, aI g 3000 z0)] H := hP
  have hD : va_D A [(h, .inr (7, [.null, .int 0, .ref q_1, .ref q_2, .ref q_3, .null, .int 0, .null, .null, .int 0, .null, .null])), (q_1, aI g 16 z0), (q_2, aI g 16 z0), (q_3, aI g 3000 z0)] := hD
  refine lv_aload_n hx hb dX7_init_29 rfl (lv_at hl 0 rfl) ?_
  refine lv_sipush (v := 3000) hx hb dX7_init_30 (by decide) ?_
  refine p_newa (atype := .int) (ty := .int) hx hb (hT _ bw_392) rfl hK.1 hP hD hS hA 1 rfl (fun _ h9 => h9) (a0 := (3000, .inl z0)) (fun _ => rfl) (by decide) (N' := 3000) rfl (by decide) (by decide) (by decide) dX7_init_33 (fun q_4 H hP hD hS => ?_)
  have hP : va_P g.1 vwCl [(h, .inr (7, [.null, .int 0, .ref q_1, .ref q_2, .ref q_3, .null, .int 0, .null, .null, .int 0, .null, .null])), (q_1, aI g 16 z0), (q_2, aI g 16 z0), (q_3, aI g 3000 z0), (q_4, aI g 3000 z0)] H := hP
  have hD : va_D A [(h, .inr (7, [.null, .int 0, .ref q_1, .ref q_2, .ref q_3, .null, .int 0, .null, .null, .int 0, .null, .null])), (q_1, aI g 16 z0), (q_2, aI g 16 z0), (q_3, aI g 3000 z0), (q_4, aI g 3000 z0)] := hD
  refine W.widen (k := 4) (n := 6032) (by decide) (by decide) ?_
  refine va_putF (D := g.1) (ci := 7) (v := .ref q_4) (ty := .array .int) (C := RX7) (T := TX7) (N := 12) hx hb hT inF_X7 tyX7 tyX7_ok nmX7 hown hK.1 hP hD hS 0 rfl rfl 5 (by decide) (hT _ bw_430) (fun _ h9 => h9) rfl hin rfl (by decide +kernel) rfl rfl (Nat.le_of_ble_eq_true rfl) dX7_init_35 (fun H locs hP hD hS => ?_)
  have hP : va_P g.1 vwCl [(h, .inr (7, [.null, .int 0, .ref q_1, .ref q_2, .ref q_3, .ref q_4, .int 0, .null, .null, .int 0, .null, .null])), (q_1, aI g 16 z0), (q_2, aI g 16 z0), (q_3, aI g 3000 z0), (q_4, aI g 3000 z0)] H := hP
  have hD : va_D A [(h, .inr (7, [.null, .int 0, .ref q_1, .ref q_2, .ref q_3, .ref q_4, .int 0, .null, .null, .int 0, .null, .null])), (q_1, aI g 16 z0), (q_2, aI g 16 z0), (q_3, aI g 3000 z0), (q_4, aI g 3000 z0)] := hD
  refine lv_aload_n hx hb dX7_init_38 rfl (lv_at hl 0 rfl) ?_
  refine lv_sipush (v := 3000) hx hb dX7_init_39 (by decide) ?_
  refine p_newa (atype := .boolean) (ty := .boolean) hx hb (hT _ bw_431) rfl hK.1 hP hD hS hA 3 rfl (fun _ h9 => h9) (a0 := (3000, .inl z0)) (fun _ => rfl) (by decide) (N' := 3000) rfl (by decide) (by decide) (by decide) dX7_init_42 (fun q_5 H hP hD hS => ?_)
  have hP : va_P g.1 vwCl [(h, .inr (7, [.null, .int 0, .ref q_1, .ref q_2, .ref q_3, .ref q_4, .int 0, .null, .null, .int 0, .null, .null])), (q_1, aI g 16 z0), (q_2, aI g 16 z0), (q_3, aI g 3000 z0), (q_4, aI g 3000 z0), (q_5, aZ g 3000 z0)] H := hP
  have hD : va_D A [(h, .inr (7, [.null, .int 0, .ref q_1, .ref q_2, .ref q_3, .ref q_4, .int 0, .null, .null, .int 0, .null, .null])), (q_1, aI g 16 z0), (q_2, aI g 16 z0), (q_3, aI g 3000 z0), (q_4, aI g 3000 z0), (q_5, aZ g 3000 z0)] := hD
  refine W.widen (k := 5) (n := 9032) (by decide) (by decide) ?_
  refine va_putF (D := g.1) (ci := 7) (v := .ref q_5) (ty := .array .boolean) (C := RX7) (T := TX7) (N := 12) hx hb hT inF_X7 tyX7 tyX7_ok nmX7 hown hK.1 hP hD hS 0 rfl rfl 7 (by decide) (hT _ bw_432) (fun _ h9 => h9) rfl hin rfl (by decide +kernel) rfl rfl (Nat.le_of_ble_eq_true rfl) dX7_init_44 (fun H locs hP hD hS => ?_)
  have hP : va_P g.1 vwCl [(h, .inr (7, [.null, .int 0, .ref q_1, .ref q_2, .ref q_3, .ref q_4, .int 0, .ref q_5, .null, .int 0, .null, .null])), (q_1, aI g 16 z0), (q_2, aI g 16 z0), (q_3, aI g 3000 z0), (q_4, aI g 3000 z0), (q_5, aZ g 3000 z0)] H := hP
  have hD : va_D A [(h, .inr (7, [.null, .int 0, .ref q_1, .ref q_2, .ref q_3, .ref q_4, .int 0, .ref q_5, .null, .int 0, .null, .null])), (q_1, aI g 16 z0), (q_2, aI g 16 z0), (q_3, aI g 3000 z0), (q_4, aI g 3000 z0), (q_5, aZ g 3000 z0)] := hD
  refine lv_aload_n hx hb dX7_init_47 rfl (lv_at hl 0 rfl) ?_
  refine lv_sipush (v := 8192) hx hb dX7_init_48 (by decide) ?_
  refine p_newa (atype := .int) (ty := .int) hx hb (hT _ bw_392) rfl hK.1 hP hD hS hA 1 rfl (fun _ h9 => h9) (a0 := (8192, .inl z0)) (fun _ => rfl) (by decide) (N' := 8192) rfl (by decide) (by decide) (by decide) dX7_init_51 (fun q_6 H hP hD hS => ?_)
  have hP : va_P g.1 vwCl [(h, .inr (7, [.null, .int 0, .ref q_1, .ref q_2, .ref q_3, .ref q_4, .int 0, .ref q_5, .null, .int 0, .null, .null])), (q_1, aI g 16 z0), (q_2, aI g 16 z0), (q_3, aI g 3000 z0), (q_4, aI g 3000 z0), (q_5, aZ g 3000 z0), (q_6, aI g 8192 z0)] H := hP
  have hD : va_D A [(h, .inr (7, [.null, .int 0, .ref q_1, .ref q_2, .ref q_3, .ref q_4, .int 0, .ref q_5, .null, .int 0, .null, .null])), (q_1, aI g 16 z0), (q_2, aI g 16 z0), (q_3, aI g 3000 z0), (q_4, aI g 3000 z0), (q_5, aZ g 3000 z0), (q_6, aI g 8192 z0)] := hD
  refine W.widen (k := 6) (n := 17224) (by decide) (by decide) ?_
  refine va_putF (D := g.1) (ci := 7) (v := .ref q_6) (ty := .array .int) (C := RX7) (T := TX7) (N := 12) hx hb hT inF_X7 tyX7 tyX7_ok nmX7 hown hK.1 hP hD hS 0 rfl rfl 8 (by decide) (hT _ bw_433) (fun _ h9 => h9) rfl hin rfl (by decide +kernel) rfl rfl (Nat.le_of_ble_eq_true rfl) dX7_init_53 (fun H locs hP hD hS => ?_)
  have hP : va_P g.1 vwCl [(h, .inr (7, [.null, .int 0, .ref q_1, .ref q_2, .ref q_3, .ref q_4, .int 0, .ref q_5, .ref q_6, .int 0, .null, .null])), (q_1, aI g 16 z0), (q_2, aI g 16 z0), (q_3, aI g 3000 z0), (q_4, aI g 3000 z0), (q_5, aZ g 3000 z0), (q_6, aI g 8192 z0)] H := hP
  have hD : va_D A [(h, .inr (7, [.null, .int 0, .ref q_1, .ref q_2, .ref q_3, .ref q_4, .int 0, .ref q_5, .ref q_6, .int 0, .null, .null])), (q_1, aI g 16 z0), (q_2, aI g 16 z0), (q_3, aI g 3000 z0), (q_4, aI g 3000 z0), (q_5, aZ g 3000 z0), (q_6, aI g 8192 z0)] := hD
  refine lv_aload_n hx hb dX7_init_56 rfl (lv_at hl 0 rfl) ?_
  refine lv_iconst (v := 4) hx hb dX7_init_57 (by decide) ?_
  refine p_newa (atype := .int) (ty := .int) hx hb (hT _ bw_392) rfl hK.1 hP hD hS hA 1 rfl (fun _ h9 => h9) (a0 := (4, .inl z0)) (fun _ => rfl) (by decide) (N' := 4) rfl (by decide) (by decide) (by decide) dX7_init_58 (fun q_7 H hP hD hS => ?_)
  have hP : va_P g.1 vwCl [(h, .inr (7, [.null, .int 0, .ref q_1, .ref q_2, .ref q_3, .ref q_4, .int 0, .ref q_5, .ref q_6, .int 0, .null, .null])), (q_1, aI g 16 z0), (q_2, aI g 16 z0), (q_3, aI g 3000 z0), (q_4, aI g 3000 z0), (q_5, aZ g 3000 z0), (q_6, aI g 8192 z0), (q_7, aI g 4 z0)] H := hP
  have hD : va_D A [(h, .inr (7, [.null, .int 0, .ref q_1, .ref q_2, .ref q_3, .ref q_4, .int 0, .ref q_5, .ref q_6, .int 0, .null, .null])), (q_1, aI g 16 z0), (q_2, aI g 16 z0), (q_3, aI g 3000 z0), (q_4, aI g 3000 z0), (q_5, aZ g 3000 z0), (q_6, aI g 8192 z0), (q_7, aI g 4 z0)] := hD
  refine W.widen (k := 7) (n := 17228) (by decide) (by decide) ?_
  refine va_putF (D := g.1) (ci := 7) (v := .ref q_7) (ty := .array .int) (C := RX7) (T := TX7) (N := 12) hx hb hT inF_X7 tyX7 tyX7_ok nmX7 hown hK.1 hP hD hS 0 rfl rfl 10 (by decide) (hT _ bw_434) (fun _ h9 => h9) rfl hin rfl (by decide +kernel) rfl rfl (Nat.le_of_ble_eq_true rfl) dX7_init_60 (fun H locs hP hD hS => ?_)
  have hP : va_P g.1 vwCl [(h, .inr (7, [.null, .int 0, .ref q_1, .ref q_2, .ref q_3, .ref q_4, .int 0, .ref q_5, .ref q_6, .int 0, .ref q_7, .null])), (q_1, aI g 16 z0), (q_2, aI g 16 z0), (q_3, aI g 3000 z0), (q_4, aI g 3000 z0), (q_5, aZ g 3000 z0), (q_6, aI g 8192 z0), (q_7, aI g 4 z0)] H := hP
  have hD : va_D A [(h, .inr (7, [.null, .int 0, .ref q_1, .ref q_2, .ref q_3, .ref q_4, .int 0, .ref q_5, .ref q_6, .int 0, .ref q_7, .null])), (q_1, aI g 16 z0), (q_2, aI g 16 z0), (q_3, aI g 3000 z0), (q_4, aI g 3000 z0), (q_5, aZ g 3000 z0), (q_6, aI g 8192 z0), (q_7, aI g 4 z0)] := hD
  refine lv_aload_n hx hb dX7_init_63 rfl (lv_at hl 0 rfl) ?_
  refine lv_bipush (v := 16) hx hb dX7_init_64 (by decide) ?_
  refine p_newa (atype := .int) (ty := .int) hx hb (hT _ bw_392) rfl hK.1 hP hD hS hA 1 rfl (fun _ h9 => h9) (a0 := (16, .inl z0)) (fun _ => rfl) (by decide) (N' := 16) rfl (by decide) (by decide) (by decide) dX7_init_66 (fun q_8 H hP hD hS => ?_)
  have hP : va_P g.1 vwCl [(h, .inr (7, [.null, .int 0, .ref q_1, .ref q_2, .ref q_3, .ref q_4, .int 0, .ref q_5, .ref q_6, .int 0, .ref q_7, .null])), (q_1, aI g 16 z0), (q_2, aI g 16 z0), (q_3, aI g 3000 z0), (q_4, aI g 3000 z0), (q_5, aZ g 3000 z0), (q_6, aI g 8192 z0), (q_7, aI g 4 z0), (q_8, aI g 16 z0)] H := hP
  have hD : va_D A [(h, .inr (7, [.null, .int 0, .ref q_1, .ref q_2, .ref q_3, .ref q_4, .int 0, .ref q_5, .ref q_6, .int 0, .ref q_7, .null])), (q_1, aI g 16 z0), (q_2, aI g 16 z0), (q_3, aI g 3000 z0), (q_4, aI g 3000 z0), (q_5, aZ g 3000 z0), (q_6, aI g 8192 z0), (q_7, aI g 4 z0), (q_8, aI g 16 z0)] := hD
  refine W.widen (k := 8) (n := 17244) (by decide) (by decide) ?_
  refine va_putF (D := g.1) (ci := 7) (v := .ref q_8) (ty := .array .int) (C := RX7) (T := TX7) (N := 12) hx hb hT inF_X7 tyX7 tyX7_ok nmX7 hown hK.1 hP hD hS 0 rfl rfl 11 (by decide) (hT _ bw_435) (fun _ h9 => h9) rfl hin rfl (by decide +kernel) rfl rfl (Nat.le_of_ble_eq_true rfl) dX7_init_68 (fun H locs hP hD hS => ?_)
  have hP : va_P g.1 vwCl [(h, .inr (7, [.null, .int 0, .ref q_1, .ref q_2, .ref q_3, .ref q_4, .int 0, .ref q_5, .ref q_6, .int 0, .ref q_7, .ref q_8])), (q_1, aI g 16 z0), (q_2, aI g 16 z0), (q_3, aI g 3000 z0), (q_4, aI g 3000 z0), (q_5, aZ g 3000 z0), (q_6, aI g 8192 z0), (q_7, aI g 4 z0), (q_8, aI g 16 z0)] H := hP
  have hD : va_D A [(h, .inr (7, [.null, .int 0, .ref q_1, .ref q_2, .ref q_3, .ref q_4, .int 0, .ref q_5, .ref q_6, .int 0, .ref q_7, .ref q_8])), (q_1, aI g 16 z0), (q_2, aI g 16 z0), (q_3, aI g 3000 z0), (q_4, aI g 3000 z0), (q_5, aZ g 3000 z0), (q_6, aI g 8192 z0), (q_7, aI g 4 z0), (q_8, aI g 16 z0)] := hD
  have hP9 : va_P g.1 vwCl [(h, .inr (7, [.null, .int 0, .ref q_1, .ref q_2, .ref q_3, .ref q_4, .int 0, .ref q_5, .ref q_6, .int 0, .ref q_7, .ref q_8])), (q_1, aI g 16 z0), (q_2, aI g 16 z0), (q_3, aI g 3000 z0), (q_4, aI g 3000 z0), (q_5, aZ g 3000 z0), (q_6, aI g 8192 z0), (q_7, aI g 4 z0), (q_8, aI g 16 z0)] H := hP.sub [0, 1, 2, 3, 4, 5, 6, 7, 8] rfl
  have hD9 : va_D A [(h, .inr (7, [.null, .int 0, .ref q_1, .ref q_2, .ref q_3, .ref q_4, .int 0, .ref q_5, .ref q_6, .int 0, .ref q_7, .ref q_8])), (q_1, aI g 16 z0), (q_2, aI g 16 z0), (q_3, aI g 3000 z0), (q_4, aI g 3000 z0), (q_5, aZ g 3000 z0), (q_6, aI g 8192 z0), (q_7, aI g 4 z0), (q_8, aI g 16 z0)] := hD.sub [0, 1, 2, 3, 4, 5, 6, 7, 8] (by decide) rfl
  exact W.vret hx hb hr (fun t ht hW => ⟨⟨(q_1, q_2, q_3, q_4, q_5, q_6, q_7, q_8), rfl, trivial, by rw [ht]; exact hP9, by rw [hAe]; exact hD9⟩, hS.F ht⟩) hS.2.2 dX7_init_71

theorem bw_437 : Cond.methodLink RX9 3 objectInit ∈ gT := gT_tb 447 (by decide +kernel) (by decide +kernel)
theorem bw_438 : Cond.code yX9_init cX9_init 1 none ∈ gT := gT_tb 446 (by decide +kernel) (by decide +kernel)
theorem dX9_init_0 : decode cX9_init 0 = .ok (.aload_n 0, 1) := by decide +kernel
theorem dX9_init_1 : decode cX9_init 1 = .ok (.invokespecial 3, 3) := by decide +kernel
theorem dX9_init_4 : decode cX9_init 4 = .ok (.aload_n 0, 1) := by decide +kernel
theorem dX9_init_5 : decode cX9_init 5 = .ok (.bipush 6, 2) := by decide +kernel
theorem dX9_init_7 : decode cX9_init 7 = .ok (.newarray .int, 2) := by decide +kernel
theorem dX9_init_9 : decode cX9_init 9 = .ok (.putfield 9, 3) := by decide +kernel
theorem dX9_init_12 : decode cX9_init 12 = .ok (.aload_n 0, 1) := by decide +kernel
theorem dX9_init_13 : decode cX9_init 13 = .ok (.bipush 6, 2) := by decide +kernel
theorem dX9_init_15 : decode cX9_init 15 = .ok (.newarray .int, 2) := by decide +kernel
theorem dX9_init_17 : decode cX9_init 17 = .ok (.putfield 15, 3) := by decide +kernel
theorem dX9_init_20 : decode cX9_init 20 = .ok (.aload_n 0, 1) := by decide +kernel
theorem dX9_init_21 : decode cX9_init 21 = .ok (.bipush 8, 2) := by decide +kernel
theorem dX9_init_23 : decode cX9_init 23 = .ok (.newarray .int, 2) := by decide +kernel
theorem dX9_init_25 : decode cX9_init 25 = .ok (.putfield 18, 3) := by decide +kernel
theorem dX9_init_28 : decode cX9_init 28 = .ok (.aload_n 0, 1) := by decide +kernel
theorem dX9_init_29 : decode cX9_init 29 = .ok (.bipush 8, 2) := by decide +kernel
theorem dX9_init_31 : decode cX9_init 31 = .ok (.newarray .int, 2) := by decide +kernel
theorem dX9_init_33 : decode cX9_init 33 = .ok (.putfield 21, 3) := by decide +kernel
theorem dX9_init_36 : decode cX9_init 36 = .ok (.aload_n 0, 1) := by decide +kernel
theorem dX9_init_37 : decode cX9_init 37 = .ok (.bipush 8, 2) := by decide +kernel
theorem dX9_init_39 : decode cX9_init 39 = .ok (.newarray .int, 2) := by decide +kernel
theorem dX9_init_41 : decode cX9_init 41 = .ok (.putfield 24, 3) := by decide +kernel
theorem dX9_init_44 : decode cX9_init 44 = .ok (.aload_n 0, 1) := by decide +kernel
theorem dX9_init_45 : decode cX9_init 45 = .ok (.bipush 16, 2) := by decide +kernel
theorem dX9_init_47 : decode cX9_init 47 = .ok (.newarray .int, 2) := by decide +kernel
theorem dX9_init_49 : decode cX9_init 49 = .ok (.putfield 27, 3) := by decide +kernel
theorem dX9_init_52 : decode cX9_init 52 = .ok (.aload_n 0, 1) := by decide +kernel
theorem dX9_init_53 : decode cX9_init 53 = .ok (.bipush 60, 2) := by decide +kernel
theorem dX9_init_55 : decode cX9_init 55 = .ok (.newarray .int, 2) := by decide +kernel
theorem dX9_init_57 : decode cX9_init 57 = .ok (.putfield 30, 3) := by decide +kernel
theorem dX9_init_60 : decode cX9_init 60 = .ok (.return_, 1) := by decide +kernel
set_option maxHeartbeats 4000000 in
set_option maxRecDepth 100000 in
theorem c_X9_init (l : Launch) (g : GG) (sz : Nat) (h : Nat) : Met l yX9_init (.code yX9_init cX9_init 1 none :: gT) ({ frames := 1, cells := 7, slots := 112, locals := 40 }) (va_Pc [.ref h] (Pst g sz [(h, .inr (9, [.int 0, .int 0, .int 0, .int 0, .int 0, .int 0, .int 0, .null, .null, .null, .null, .null, .null, .null]))] nX)) (va_Qv (fun (_ : Nat × Nat × Nat × Nat × Nat × Nat × Nat) => True) (Qst g [(h, .inr (9, [.int 0, .int 0, .int 0, .int 0, .int 0, .int 0, .int 0, .null, .null, .null, .null, .null, .null, .null]))] sz (fun ((q_1, q_2, q_3, q_4, q_5, q_6, q_7) : Nat × Nat × Nat × Nat × Nat × Nat × Nat) => [(h, .inr (9, [.int 0, .int 0, .int 0, .int 0, .int 0, .int 0, .int 0, .ref q_1, .ref q_2, .ref q_3, .ref q_4, .ref q_5, .ref q_6, .ref q_7])), (q_1, aI g 6 z0), (q_2, aI g 6 z0), (q_3, aI g 8 z0), (q_4, aI g 8 z0), (q_5, aI g 8 z0), (q_6, aI g 16 z0), (q_7, aI g 60 z0)])) (va_A [(h, .inr (9, [.int 0, .int 0, .int 0, .int 0, .int 0, .int 0, .int 0, .null, .null, .null, .null, .null, .null, .null]))] sz)) 7 112 (va_A [(h, .inr (9, [.int 0, .int 0, .int 0, .int 0, .int 0, .int 0, .int 0, .null, .null, .null, .null, .null, .null, .null]))] sz) := by
  refine Met.ofW (cc := cX9_init) (maxL := 1) (ret := none) (by decide) rfl ?_
  intro p e s m args below meth c s₁ B hml hv
  obtain ⟨rfl, hsz, hP, hK, hD0, hX⟩ := hv
  have hx := B.exec
  have hb := B.bytes
  have hr := B.returns
  have hT : ∀ w ∈ gT, w.before _ s = true := fun w h => atoms_spec (ws := .code yX9_init cX9_init 1 none :: gT) B.pre w (List.mem_cons_of_mem _ h)
  have hown : s.vm.findClass RX9 = some m.cls := findClass_of_methodNamed B.named
  have hlocks := B.notSynchronized
  have hin : meth.name = "<init>" := (name_of_methodNamed B.named B.method).1
  subst hsz
  have hD := hD0.self (sz := s.heap.size)
  generalize hAe : va_A [(h, .inr (9, [.int 0, .int 0, .int 0, .int 0, .int 0, .int 0, .int 0, .null, .null, .null, .null, .null, .null, .null]))] s.heap.size = A at hD ⊢
  have hA : ∀ q : Nat, s.heap.size ≤ q → A q := fun q h => by rw [← hAe]; exact Or.inr h
  have hS : va_S A s.heap s.heap [] := va_S.rf
  have hl := lv_entry ([.ref h]) (n := 1) (Nat.le_of_ble_eq_true rfl)
  rw [lg_entry_eq]
  generalize (lg_sl ([.ref h]) ++ List.replicate (1 - (lg_sl ([.ref h])).length) Slot.unset).toArray = ls at hl ⊢
  have hl : lv_has ls 1 [(0, .ref h)] := hl
  refine p_nH (fun H hH => ?_)
  have hP : va_P g.1 vwCl [(h, .inr (9, [.int 0, .int 0, .int 0, .int 0, .int 0, .int 0, .int 0, .null, .null, .null, .null, .null, .null, .null]))] H := by rw [hH]; exact hP
  have hS : va_S A s.heap H [] := by rw [hH]; exact hS
  refine lv_aload_n hx hb dX9_init_0 rfl (lv_at hl 0 rfl) ?_
  refine W.objInit hx hb hown (hT _ bw_437) (hT _ bw_370) (hT _ bw_371) rfl (by rw [hml]; exact hl.1) rfl dX9_init_1 (Nat.le_of_ble_eq_true rfl) (Nat.le_of_ble_eq_true rfl) ?_
  refine W.eq (g2 := F0 m 4 ls []) rfl ?_
  refine lv_aload_n hx hb dX9_init_4 rfl (lv_at hl 0 rfl) ?_
  refine lv_bipush (v := 6) hx hb dX9_init_5 (by decide) ?_
  refine p_newa (atype := .int) (ty := .int) hx hb (hT _ bw_392) rfl hK.1 hP hD hS hA 1 rfl (fun _ h9 => h9) (a0 := (6, .inl z0)) (fun _ => rfl) (by decide) (N' := 6) rfl (by decide) (by decide) (by decide) dX9_init_7 (fun q_1 H hP hD hS => ?_)
  have hP : va_P g.1 vwCl [(h, .inr (9, [.int 0, .int 0, .int 0, .int 0, .int 0, .int 0, .int 0, .null, .null, .null, .null, .null, .null, .null])), (q_1, aI g 6 z0)] H := hP
  have hD : va_D A [(h, .inr (9, [.int 0, .int 0, .int 0, .int 0, .int 0, .int 0, .int 0, .null, .null, .null, .null, .null, .null, .null])), (q_1, aI g 6 z0)] := hD
  refine W.widen (k := 1) (n := 6) (by decide) (by decide) ?_
  refine va_putF (D := g.1) (ci := 9) (v := .ref q_1) (ty := .array .int) (C := RX9) (T := TX9) (N := 14) hx hb hT inF_X9 tyX9 tyX9_ok nmX9 hown hK.1 hP hD hS 0 rfl rfl 7 (by decide) (hT _ bw_111) (fun _ h9 => h9) rfl hin rfl (by decide +kernel) rfl rfl (Nat.le_of_ble_eq_true rfl) dX9_init_9 (fun H locs hP hD hS => ?_)
  have hP : va_P g.1 vwCl [(h, .inr (9, [.int 0, .int 0, .int 0, .int 0, .int 0, .int 0, .int 0, .ref q_1, .null, .null, .null, .null, .null, .null])), (q_1, aI g 6 z0)] H := hP
  have hD : va_D A [(h, .inr (9, [.int 0, .int 0, .int 0, .int 0, .int 0, .int 0, .int 0, .ref q_1, .null, .null, .null, .null, .null, .null])), (q_1, aI g 6 z0)] := hD
  refine lv_aload_n hx hb dX9_init_12 rfl (lv_at hl 0 rfl) ?_
  refine lv_bipush (v := 6) hx hb dX9_init_13 (by decide) ?_
  refine p_newa (atype := .int) (ty := .int) hx hb (hT _ bw_392) rfl hK.1 hP hD hS hA 1 rfl (fun _ h9 => h9) (a0 := (6, .inl z0)) (fun _ => rfl) (by decide) (N' := 6) rfl (by decide) (by decide) (by decide) dX9_init_15 (fun q_2 H hP hD hS => ?_)
  have hP : va_P g.1 vwCl [(h, .inr (9, [.int 0, .int 0, .int 0, .int 0, .int 0, .int 0, .int 0, .ref q_1, .null, .null, .null, .null, .null, .null])), (q_1, aI g 6 z0), (q_2, aI g 6 z0)] H := hP
  have hD : va_D A [(h, .inr (9, [.int 0, .int 0, .int 0, .int 0, .int 0, .int 0, .int 0, .ref q_1, .null, .null, .null, .null, .null, .null])), (q_1, aI g 6 z0), (q_2, aI g 6 z0)] := hD
  refine W.widen (k := 2) (n := 12) (by decide) (by decide) ?_
  refine va_putF (D := g.1) (ci := 9) (v := .ref q_2) (ty := .array .int) (C := RX9) (T := TX9) (N := 14) hx hb hT inF_X9 tyX9 tyX9_ok nmX9 hown hK.1 hP hD hS 0 rfl rfl 8 (by decide) (hT _ bw_116) (fun _ h9 => h9) rfl hin rfl (by decide +kernel) rfl rfl (Nat.le_of_ble_eq_true rfl) dX9_init_17 (fun H locs hP hD hS => ?_)
  have hP : va_P g.1 vwCl [(h, .inr (9, [.int 0, .int 0, .int 0, .int 0, .int 0, .int 0, .int 0, .ref q_1, .ref q_2, .null, .null, .null, .null, .null])), (q_1, aI g 6 z0), (q_2, aI g 6 z0)] H := hP
  have hD : va_D A [(h, .inr (9, [.int 0, .int 0, .int 0, .int 0, .int 0, .int 0, .int 0, .ref q_1, .ref q_2, .null, .null, .null, .null, .null])), (q_1, aI g 6 z0), (q_2, aI g 6 z0)] := hD
  refine lv_aload_n hx hb dX9_init_20 rfl (lv_at hl 0 rfl) ?_
  refine lv_bipush (v := 8) hx hb dX9_init_21 (by decide) ?_
  refine p_newa (atype := .int) (ty := .int) hx hb (hT _ bw_392) rfl hK.1 hP hD hS hA 1 rfl (fun _ h9 => h9) (a0 := (8, .inl z0)) (fun _ => rfl) (by decide) (N' := 8) rfl (by decide) (by decide) (by decide) dX9_init_23 (fun q_3 H hP hD hS => ?_)
  have hP : va_P g.1 vwCl [(h, .inr (9, [.int 0, .int 0, .int 0, .int 0, .int 0, .int 0, .int 0, .ref q_1, .ref q_2, .null, .null, .null, .null, .null])), (q_1, aI g 6 z0), (q_2, aI g 6 z0), (q_3, aI g 8 z0)] H := hP
  have hD : va_D A [(h, .inr (9, [.int 0, .int 0, .int 0, .int 0, .int 0, .int 0, .int 0, .ref q_1, .ref q_2, .null, .null, .null, .null, .null])), (q_1, aI g 6 z0), (q_2, aI g 6 z0), (q_3, aI g 8 z0)] := hD
  refine W.widen (k := 3) (n := 20) (by decide) (by decide) ?_
  refine va_putF (D := g.1) (ci := 9) (v := .ref q_3) (ty := .array .int) (C := RX9) (T := TX9) (N := 14) hx hb hT inF_X9 tyX9 tyX9_ok nmX9 hown hK.1 hP hD hS 0 rfl rfl 9 (by decide) (hT _ bw_120) (fun _ h9 => h9) rfl hin rfl (by decide +kernel) rfl rfl (Nat.le_of_ble_eq_true rfl) dX9_init_25 (fun H locs hP hD hS => ?_)
  have hP : va_P g.1 vwCl [(h, .inr (9, [.int 0, .int 0, .int 0, .int 0, .int 0, .int 0, .int 0, .ref q_1, .ref q_2, .ref q_3, .null, .null, .null, .null])), (q_1, aI g 6 z0), (q_2, aI g 6 z0), (q_3, aI g 8 z0)] H := hP
  have hD : va_D A [(h, .inr (9, [.int 0, .int 0, .int 0, .int 0, .int 0, .int 0, .int 0, .ref q_1, .ref q_2, .ref q_3, .null, .null, .null, .null])), (q_1, aI g 6 z0), (q_2, aI g 6 z0), (q_3, aI g 8 z0)] := hD
  refine lv_aload_n hx hb dX9_init_28 rfl (lv_at hl 0 rfl) ?_
  refine lv_bipush (v := 8) hx hb dX9_init_29 (by decide) ?_
  refine p_newa (atype := .int) (ty := .int) hx hb (hT _ bw_392) rfl hK.1 hP hD hS hA 1 rfl (fun _ h9 => h9) (a0 := (8, .inl z0)) (fun _ => rfl) (by decide) (N' := 8) rfl (by decide) (by decide) (by decide) dX9_init_31 (fun q_4 H hP hD hS => ?_)
  have hP : va_P g.1 vwCl [(h, .inr (9, [.int 0, .int 0, .int 0, .int 0, .int 0, .int 0, .int 0, .ref q_1, .ref q_2, .ref q_3, .null, .null, .null, .null])), (q_1, aI g 6 z0), (q_2, aI g 6 z0), (q_3, aI g 8 z0), (q_4, aI g 8 z0)] H := hP
  have hD : va_D A [(h, .inr (9, [.int 0, .int 0, .int 0, .int 0, .int 0, .int 0, .int 0, .ref q_1, .ref q_2, .ref q_3, .null, .null, .null, .null])), (q_1, aI g 6 z0), (q_2, aI g 6 z0), (q_3, aI g 8 z0), (q_4, aI g 8 z0)] := hD
  refine W.widen (k := 4) (n := 28) (by decide) (by decide) ?_
  refine va_putF (D := g.1) (ci := 9) (v := .ref q_4) (ty := .array .int) (C := RX9) (T := TX9) (N := 14) hx hb hT inF_X9 tyX9 tyX9_ok nmX9 hown hK.1 hP hD hS 0 rfl rfl 10 (by decide) (hT _ bw_121) (fun _ h9 => h9) rfl hin rfl (by decide +kernel) rfl rfl (Nat.le_of_ble_eq_true rfl) dX9_init_33 (fun H locs hP hD hS => ?_)
  have hP : va_P g.1 vwCl [(h, .inr (9, [.int 0, .int 0, .int 0, .int 0, .int 0, .int 0, .int 0, .ref q_1, .ref q_2, .ref q_3, .ref q_4, .null, .null, .null])), (q_1, aI g 6 z0), (q_2, aI g 6 z0), (q_3, aI g 8 z0), (q_4, aI g 8 z0)] H := hP
  have hD : va_D A [(h, .inr (9, [.int 0, .int 0, .int 0, .int 0, .int 0, .int 0, .int 0, .ref q_1, .ref q_2, .ref q_3, .ref q_4, .null, .null, .null])), (q_1, aI g 6 z0), (q_2, aI g 6 z0), (q_3, aI g 8 z0), (q_4, aI g 8 z0)] := hD
  refine lv_aload_n hx hb dX9_init_36 rfl (lv_at hl 0 rfl) ?_
  refine lv_bipush (v := 8) hx hb dX9_init_37 (by decide) ?_
  refine p_newa (atype := .int) (ty := .int) hx hb (hT _ bw_392) rfl hK.1 hP hD hS hA 1 rfl (fun _ h9 => h9) (a0 := (8, .inl z0)) (fun _ => rfl) (by decide) (N' := 8) rfl (by decide) (by decide) (by decide) dX9_init_39 (fun q_5 H hP hD hS => ?_)
  have hP : va_P g.1 vwCl [(h, .inr (9, [.int 0, .int 0, .int 0, .int 0, .int 0, .int 0, .int 0, .ref q_1, .ref q_2, .ref q_3, .ref q_4, .null, .null, .null])), (q_1, aI g 6 z0), (q_2, aI g 6 z0), (q_3, aI g 8 z0), (q_4, aI g 8 z0), (q_5, aI g 8 z0)] H := hP
  have hD : va_D A [(h, .inr (9, [.int 0, .int 0, .int 0, .int 0, .int 0, .int 0, .int 0, .ref q_1, .ref q_2, .ref q_3, .ref q_4, .null, .null, .null])), (q_1, aI g 6 z0), (q_2, aI g 6 z0), (q_3, aI g 8 z0), (q_4, aI g 8 z0), (q_5, aI g 8 z0)] := hD
  refine W.widen (k := 5) (n := 36) (by decide) (by decide) ?_
  refine va_putF (D := g.1) (ci := 9) (v := .ref q_5) (ty := .array .int) (C := RX9) (T := TX9) (N := 14) hx hb hT inF_X9 tyX9 tyX9_ok nmX9 hown hK.1 hP hD hS 0 rfl rfl 11 (by decide) (hT _ bw_122) (fun _ h9 => h9) rfl hin rfl (by decide +kernel) rfl rfl (Nat.le_of_ble_eq_true rfl) dX9_init_41 (fun H locs hP hD hS => ?_)
  have hP : va_P g.1 vwCl [(h, .inr (9, [.int 0, .int 0, .int 0, .int 0, .int 0, .int 0, .int 0, .ref q_1, .ref q_2, .ref q_3, .ref q_4, .ref q_5, .null, .null])), (q_1, aI g 6 z0), (q_2, aI g 6 z0), (q_3, aI g 8 z0), (q_4, aI g 8 z0), (q_5, aI g 8 z0)] H := hP
  have hD : va_D A [(h, .inr (9, [.int 0, .int 0, .int 0, .int 0, .int 0, .int 0, .int 0, .ref q_1, .ref q_2, .ref q_3, .ref q_4, .ref q_5, .null, .null])), (q_1, aI g 6 z0), (q_2, aI g 6 z0), (q_3, aI g 8 z0), (q_4, aI g 8 z0), (q_5, aI g 8 z0)] := hD
  refine lv_aload_n hx hb dX9_init_44 rfl (lv_at hl 0 rfl) ?_
  refine lv_bipush (v := 16) hx hb dX9_init_45 (by decide) ?_
  refine p_newa (atype := .int) (ty := .int) hx hb (hT _ bw_392) rfl hK.1 hP hD hS hA 1 rfl (fun _ h9 => h9) (a0 := (16, .inl z0)) (fun _ => rfl) (by decide) (N' := 16) rfl (by decide) (by decide) (by decide) dX9_init_47 (fun q_6 H hP hD hS => ?_)
  have hP : va_P g.1 vwCl [(h, .inr (9, [.int 0, .int 0, .int 0, .int 0, .int 0, .int 0, .int 0, .ref q_1, .ref q_2, .ref q_3, .ref q_4, .ref q_5, .null, .null])), (q_1, aI g 6 z0), (q_2, aI g 6 z0), (q_3, aI g 8 z0), (q_4, aI g 8 z0), (q_5, aI g 8 z0), (q_6, aI g 16 z0)] H := hP
  have hD : va_D A [(h, .inr (9, [.int 0, .int 0, .int 0, .int 0, .int 0, .int 0, .int 0, .ref q_1, .ref q_2, .ref q_3, .ref q_4, .ref q_5, .null, .null])), (q_1, aI g 6 z0), (q_2, aI g 6 z0), (q_3, aI g 8 z0), (q_4, aI g 8 z0), (q_5, aI g 8 z0), (q_6, aI g 16 z0)] := hD
  refine W.widen (k := 6) (n := 52) (by decide) (by decide) ?_
  refine va_putF (D := g.1) (ci := 9) (v := .ref q_6) (ty := .array .int) (C := RX9) (T := TX9) (N := 14) hx hb hT inF_X9 tyX9 tyX9_ok nmX9 hown hK.1 hP hD hS 0 rfl rfl 12 (by decide) (hT _ bw_123) (fun _ h9 => h9) rfl hin rfl (by decide +kernel) rfl rfl (Nat.le_of_ble_eq_true rfl) dX9_init_49 (fun H locs hP hD hS => ?_)
  have hP : va_P g.1 vwCl [(h, .inr (9, [.int 0, .int 0, .int 0, .int 0, .int 0, .int 0, .int 0, .ref q_1, .ref q_2, .ref q_3, .ref q_4, .ref q_5, .ref q_6, .null])), (q_1, aI g 6 z0), (q_2, aI g 6 z0), (q_3, aI g 8 z0), (q_4, aI g 8 z0), (q_5, aI g 8 z0), (q_6, aI g 16 z0)] H := hP
  have hD : va_D A [(h, .inr (9, [.int 0, .int 0, .int 0, .int 0, .int 0, .int 0, .int 0, .ref q_1, .ref q_2, .ref q_3, .ref q_4, .ref q_5, .ref q_6, .null])), (q_1, aI g 6 z0), (q_2, aI g 6 z0), (q_3, aI g 8 z0), (q_4, aI g 8 z0), (q_5, aI g 8 z0), (q_6, aI g 16 z0)] := hD
  refine lv_aload_n hx hb dX9_init_52 rfl (lv_at hl 0 rfl) ?_
  refine lv_bipush (v := 60) hx hb dX9_init_53 (by decide) ?_
  refine p_newa (atype := .int) (ty := .int) hx hb (hT _ bw_392) rfl hK.1 hP hD hS hA 1 rfl (fun _ h9 => h9) (a0 := (60, .inl z0)) (fun _ => rfl) (by decide) (N' := 60) rfl (by decide) (by decide) (by decide) dX9_init_55 (fun q_7 H hP hD hS => ?_)
  have hP : va_P g.1 vwCl [(h, .inr (9, [.int 0, .int 0, .int 0, .int 0, .int 0, .int 0, .int 0, .ref q_1, .ref q_2, .ref q_3, .ref q_4, .ref q_5, .ref q_6, .null])), (q_1, aI g 6 z0), (q_2, aI g 6 z0), (q_3, aI g 8 z0), (q_4, aI g 8 z0), (q_5, aI g 8 z0), (q_6, aI g 16 z0), (q_7, aI g 60 z0)] H := hP
  have hD : va_D A [(h, .inr (9, [.int 0, .int 0, .int 0, .int 0, .int 0, .int 0, .int 0, .ref q_1, .ref q_2, .ref q_3, .ref q_4, .ref q_5, .ref q_6, .null])), (q_1, aI g 6 z0), (q_2, aI g 6 z0), (q_3, aI g 8 z0), (q_4, aI g 8 z0), (q_5, aI g 8 z0), (q_6, aI g 16 z0), (q_7, aI g 60 z0)] := hD
  refine W.widen (k := 7) (n := 112) (by decide) (by decide) ?_
  refine va_putF (D := g.1) (ci := 9) (v := .ref q_7) (ty := .array .int) (C := RX9) (T := TX9) (N := 14) hx hb hT inF_X9 tyX9 tyX9_ok nmX9 hown hK.1 hP hD hS 0 rfl rfl 13 (by decide) (hT _ bw_124) (fun _ h9 => h9) rfl hin rfl (by decide +kernel) rfl rfl (Nat.le_of_ble_eq_true rfl) dX9_init_57 (fun H locs hP hD hS => ?_)
  have hP : va_P g.1 vwCl [(h, .inr (9, [.int 0, .int 0, .int 0, .int 0, .int 0, .int 0, .int 0, .ref q_1, .ref q_2, .ref q_3, .ref q_4, .ref q_5, .ref q_6, .ref q_7])), (q_1, aI g 6 z0), (q_2, aI g 6 z0), (q_3, aI g 8 z0), (q_4, aI g 8 z0), (q_5, aI g 8 z0), (q_6, aI g 16 z0), (q_7, aI g 60 z0)] H := hP
  have hD : va_D A [(h, .inr (9, [.int 0, .int 0, .int 0, .int 0, .int 0, .int 0, .int 0, .ref q_1, .ref q_2, .ref q_3, .ref q_4, .ref q_5, .ref q_6, .ref q_7])), (q_1, aI g 6 z0), (q_2, aI g 6 z0), (q_3, aI g 8 z0), (q_4, aI g 8 z0), (q_5, aI g 8 z0), (q_6, aI g 16 z0), (q_7, aI g 60 z0)] := hD
  have hP9 : va_P g.1 vwCl [(h, .inr (9, [.int 0, .int 0, .int 0, .int 0, .int 0, .int 0, .int 0, .ref q_1, .ref q_2, .ref q_3, .ref q_4, .ref q_5, .ref q_6, .ref q_7])), (q_1, aI g 6 z0), (q_2, aI g 6 z0), (q_3, aI g 8 z0), (q_4, aI g 8 z0), (q_5, aI g 8 z0), (q_6, aI g 16 z0), (q_7, aI g 60 z0)] H := hP.sub [0, 1, 2, 3, 4, 5, 6, 7] rfl
  have hD9 : va_D A [(h, .inr (9, [.int 0, .int 0, .int 0, .int 0, .int 0, .int 0, .int 0, .ref q_1, .ref q_2, .ref q_3, .ref q_4, .ref q_5, .ref q_6, .ref q_7])), (q_1, aI g 6 z0), (q_2, aI g 6 z0), (q_3, aI g 8 z0), (q_4, aI g 8 z0), (q_5, aI g 8 z0), (q_6, aI g 16 z0), (q_7, aI g 60 z0)] := hD.sub [0, 1, 2, 3, 4, 5, 6, 7] (by decide) rfl
  exact W.vret hx hb hr (fun t ht hW => ⟨⟨(q_1, q_2, q_3, q_4, q_5, q_6, q_7), rfl, trivial, by rw [ht]; exact hP9, by rw [hAe]; exact hD9⟩, hS.F ht⟩) hS.2.2 dX9_init_60

theorem bw_439 : Cond.methodLink RX2 3 objectInit ∈ gT := gT_tb 156 (by decide +kernel) (by decide +kernel)
theorem bw_440 : Cond.classLink RX2 9 RX3 ∈ gT := gT_tb 157 (by decide +kernel) (by decide +kernel)
theorem bw_441 : Cond.instantiable RX3 5 ∈ gT := gT_tb 158 (by decide +kernel) (by decide +kernel)
theorem bw_442 : Cond.initialized yX3_init.cls ∈ gT := gT_tb 9 (by decide +kernel) (by decide +kernel)
theorem bw_443 : Cond.instanceMethod yX3_init ∈ gT := gT_tb 160 (by decide +kernel) (by decide +kernel)
theorem bw_444 : Cond.classLink RX2 18 RX0 ∈ gT := gT_tb 194 (by decide +kernel) (by decide +kernel)
theorem bw_445 : Cond.instantiable RX0 8 ∈ gT := gT_tb 195 (by decide +kernel) (by decide +kernel)
theorem bw_446 : Cond.initialized yX0_init.cls ∈ gT := gT_tb 10 (by decide +kernel) (by decide +kernel)
theorem bw_447 : Cond.instanceMethod yX0_init ∈ gT := gT_tb 197 (by decide +kernel) (by decide +kernel)
theorem bw_448 : Cond.classLink RX2 25 RX6 ∈ gT := gT_tb 229 (by decide +kernel) (by decide +kernel)
theorem bw_449 : Cond.instantiable RX6 8 ∈ gT := gT_tb 230 (by decide +kernel) (by decide +kernel)
theorem bw_450 : Cond.initialized yX6_init.cls ∈ gT := gT_tb 11 (by decide +kernel) (by decide +kernel)
theorem bw_451 : Cond.instanceMethod yX6_init ∈ gT := gT_tb 232 (by decide +kernel) (by decide +kernel)
theorem bw_452 : Cond.fieldLink RX2 32 "DuelDelays$Land" "duelSides" "[I" ∈ gT := gT_tb 301 (by decide +kernel) (by decide +kernel)
theorem bw_453 : Cond.fieldLink RX2 36 "DuelDelays$Land" "duelMornings" "[I" ∈ gT := gT_tb 304 (by decide +kernel) (by decide +kernel)
theorem bw_454 : Cond.code yX2_init cX2_init 1 none ∈ gT := gT_tb 155 (by decide +kernel) (by decide +kernel)
theorem dX2_init_0 : decode cX2_init 0 = .ok (.aload_n 0, 1) := by decide +kernel
theorem dX2_init_1 : decode cX2_init 1 = .ok (.invokespecial 3, 3) := by decide +kernel
theorem dX2_init_4 : decode cX2_init 4 = .ok (.aload_n 0, 1) := by decide +kernel
theorem dX2_init_5 : decode cX2_init 5 = .ok (.new 9, 3) := by decide +kernel
theorem dX2_init_8 : decode cX2_init 8 = .ok (.dup, 1) := by decide +kernel
theorem dX2_init_9 : decode cX2_init 9 = .ok (.invokespecial 11, 3) := by decide +kernel
theorem dX2_init_12 : decode cX2_init 12 = .ok (.putfield 12, 3) := by decide +kernel
theorem dX2_init_15 : decode cX2_init 15 = .ok (.aload_n 0, 1) := by decide +kernel
theorem dX2_init_16 : decode cX2_init 16 = .ok (.new 18, 3) := by decide +kernel
theorem dX2_init_19 : decode cX2_init 19 = .ok (.dup, 1) := by decide +kernel
theorem dX2_init_20 : decode cX2_init 20 = .ok (.invokespecial 20, 3) := by decide +kernel
theorem dX2_init_23 : decode cX2_init 23 = .ok (.putfield 21, 3) := by decide +kernel
theorem dX2_init_26 : decode cX2_init 26 = .ok (.aload_n 0, 1) := by decide +kernel
theorem dX2_init_27 : decode cX2_init 27 = .ok (.new 25, 3) := by decide +kernel
theorem dX2_init_30 : decode cX2_init 30 = .ok (.dup, 1) := by decide +kernel
theorem dX2_init_31 : decode cX2_init 31 = .ok (.invokespecial 27, 3) := by decide +kernel
theorem dX2_init_34 : decode cX2_init 34 = .ok (.putfield 28, 3) := by decide +kernel
theorem dX2_init_37 : decode cX2_init 37 = .ok (.aload_n 0, 1) := by decide +kernel
theorem dX2_init_38 : decode cX2_init 38 = .ok (.bipush 12, 2) := by decide +kernel
theorem dX2_init_40 : decode cX2_init 40 = .ok (.newarray .int, 2) := by decide +kernel
theorem dX2_init_42 : decode cX2_init 42 = .ok (.putfield 32, 3) := by decide +kernel
theorem dX2_init_45 : decode cX2_init 45 = .ok (.aload_n 0, 1) := by decide +kernel
theorem dX2_init_46 : decode cX2_init 46 = .ok (.bipush 6, 2) := by decide +kernel
theorem dX2_init_48 : decode cX2_init 48 = .ok (.newarray .int, 2) := by decide +kernel
theorem dX2_init_50 : decode cX2_init 50 = .ok (.putfield 36, 3) := by decide +kernel
theorem dX2_init_53 : decode cX2_init 53 = .ok (.aload_n 0, 1) := by decide +kernel
theorem dX2_init_54 : decode cX2_init 54 = .ok (.bipush 9, 2) := by decide +kernel
theorem dX2_init_56 : decode cX2_init 56 = .ok (.putfield 39, 3) := by decide +kernel
theorem dX2_init_59 : decode cX2_init 59 = .ok (.aload_n 0, 1) := by decide +kernel
theorem dX2_init_60 : decode cX2_init 60 = .ok (.iconst 4, 1) := by decide +kernel
theorem dX2_init_61 : decode cX2_init 61 = .ok (.newarray .int, 2) := by decide +kernel
theorem dX2_init_63 : decode cX2_init 63 = .ok (.putfield 43, 3) := by decide +kernel
theorem dX2_init_66 : decode cX2_init 66 = .ok (.return_, 1) := by decide +kernel
set_option maxHeartbeats 4000000 in
set_option maxRecDepth 100000 in
theorem c_X2_init (l : Launch) (g : GG) (sz : Nat) (h : Nat) : Met l yX2_init (.code yX2_init cX2_init 1 none :: gT) ({ frames := 2, cells := 21, slots := 804, locals := 60 }) (va_Pc [.ref h] (Pst g sz [(h, .inr (2, [.null, .null, .null, .int 0, .null, .null, .int 0, .int 0, .null]))] nX)) (va_Qv (fun (_ : Nat × Nat × Nat × Nat × Nat × Nat × Nat × Nat × Nat × Nat × Nat × Nat × Nat × Nat × Nat × Nat × Nat × Nat × Nat × Nat × Nat) => True) (Qst g [(h, .inr (2, [.null, .null, .null, .int 0, .null, .null, .int 0, .int 0, .null]))] sz (fun ((q_1, q_2, q_3, q_4, q_5, q_6, q_7, q_8, q_9, q_10, q_11, q_12, q_13, q_14, q_15, q_16, q_17, q_18, q_19, q_20, q_21) : Nat × Nat × Nat × Nat × Nat × Nat × Nat × Nat × Nat × Nat × Nat × Nat × Nat × Nat × Nat × Nat × Nat × Nat × Nat × Nat × Nat) => [(h, .inr (2, [.ref q_1, .ref q_6, .ref q_11, .int 0, .ref q_19, .ref q_20, .int 9, .int 0, .ref q_21])), (q_1, .inr (3, [.int 0, .ref q_2, .ref q_3, .ref q_4, .ref q_5])), (q_2, aJ g 6 zL), (q_3, aI g 6 z0), (q_4, aI g 6 z0), (q_5, aI g 6 z0), (q_6, .inr (0, [.int 0, .int 0, .ref q_7, .int 0, .int 0, .ref q_8, .ref q_9, .ref q_10])), (q_7, aJ g 4 zL), (q_8, aI g 5 z0), (q_9, aI g 640 z0), (q_10, aI g 32 z0), (q_11, .inr (6, [.int 0, .ref q_12, .ref q_13, .ref q_14, .ref q_15, .ref q_16, .ref q_17, .ref q_18])), (q_12, aJ g 8 zL), (q_13, aI g 8 z0), (q_14, aI g 8 z0), (q_15, aI g 8 z0), (q_16, aI g 8 z0), (q_17, aI g 8 z0), (q_18, aI g 8 z0), (q_19, aI g 12 z0), (q_20, aI g 6 z0), (q_21, aI g 4 z0)])) (va_A [(h, .inr (2, [.null, .null, .null, .int 0, .null, .null, .int 0, .int 0, .null]))] sz)) 21 804 (va_A [(h, .inr (2, [.null, .null, .null, .int 0, .null, .null, .int 0, .int 0, .null]))] sz) := by
  refine Met.ofW (cc := cX2_init) (maxL := 1) (ret := none) (by decide) rfl ?_
  intro p e s m args below meth c s₁ B hml hv
  obtain ⟨rfl, hsz, hP, hK, hD0, hX⟩ := hv
  have hx := B.exec
  have hb := B.bytes
  have hr := B.returns
  have hT : ∀ w ∈ gT, w.before _ s = true := fun w h => atoms_spec (ws := .code yX2_init cX2_init 1 none :: gT) B.pre w (List.mem_cons_of_mem _ h)
  have hown : s.vm.findClass RX2 = some m.cls := findClass_of_methodNamed B.named
  have hlocks := B.notSynchronized
  have hin : meth.name = "<init>" := (name_of_methodNamed B.named B.method).1
  subst hsz
  have hD := hD0.self (sz := s.heap.size)
  generalize hAe : va_A [(h, .inr (2, [.null, .null, .null, .int 0, .null, .null, .int 0, .int 0, .null]))] s.heap.size = A at hD ⊢
  have hA : ∀ q : Nat, s.heap.size ≤ q → A q := fun q h => by rw [← hAe]; exact Or.inr h
  have hS : va_S A s.heap s.heap [] := va_S.rf
  have hl := lv_entry ([.ref h]) (n := 1) (Nat.le_of_ble_eq_true rfl)
  rw [lg_entry_eq]
  generalize (lg_sl ([.ref h]) ++ List.replicate (1 - (lg_sl ([.ref h])).length) Slot.unset).toArray = ls at hl ⊢
  have hl : lv_has ls 1 [(0, .ref h)] := hl
  refine p_nH (fun H hH => ?_)
  have hP : va_P g.1 vwCl [(h, .inr (2, [.null, .null, .null, .int 0, .null, .null, .int 0, .int 0, .null]))] H := by rw [hH]; exact hP
  have hS : va_S A s.heap H [] := by rw [hH]; exact hS
  refine lv_aload_n hx hb dX2_init_0 rfl (lv_at hl 0 rfl) ?_
  refine W.objInit hx hb hown (hT _ bw_439) (hT _ bw_370) (hT _ bw_371) rfl (by rw [hml]; exact hl.1) rfl dX2_init_1 (Nat.le_of_ble_eq_true rfl) (Nat.le_of_ble_eq_true rfl) ?_
  refine W.eq (g2 := F0 m 4 ls []) rfl ?_
  refine lv_aload_n hx hb dX2_init_4 rfl (lv_at hl 0 rfl) ?_
  refine va_new (D := g.1) (ci := 3) (fs := [.int 0, .null, .null, .null, .null]) (C := RX3) (T := TX3) (N := 5) hx hb hT inF_X3 tyX3 tyX3_ok hown (hT _ bw_440) (hT _ bw_441) (hT _ bw_18) hK.1 hP hD hS hA rfl (by decide +kernel) (by decide) (by decide) dX2_init_5 (fun q_1 H hP hD hS => ?_)
  have hP : va_P g.1 vwCl [(h, .inr (2, [.null, .null, .null, .int 0, .null, .null, .int 0, .int 0, .null])), (q_1, .inr (3, [.int 0, .null, .null, .null, .null]))] H := hP
  have hD : va_D A [(h, .inr (2, [.null, .null, .null, .int 0, .null, .null, .int 0, .int 0, .null])), (q_1, .inr (3, [.int 0, .null, .null, .null, .null]))] := hD
  refine W.widen (k := 1) (n := 5) (by decide) (by decide) ?_
  refine lv_dup hx hb dX2_init_8 rfl ?_
  refine k_v (wr := [(h, .inr (2, [.null, .null, .null, .int 0, .null, .null, .int 0, .int 0, .null]))]) (k_N (n := 0) ⟨hx, hb, hml, hown, hT⟩ hK hP hD [1] rfl (by decide) (c_X3_init l g H.size q_1) (gI bw_400) bw_442 (eW_L_11 hK.2) bw_443 rfl rfl rfl (by decide +kernel) ⟨by decide, by decide⟩ (fun _ _ _ _ _ => trivial) (fun _ _ _ => trivial) rfl rfl hl.1 (Nat.le_of_ble_eq_true rfl) dX2_init_9 ⟨by decide, by decide⟩) hP hD hS hA [1] [0] rfl rfl (by decide) (by decide) (fun u H locs hw hP hD hS => ?_)
  obtain ⟨q_2, q_3, q_4, q_5⟩ := u
  have hP : va_P g.1 vwCl [(h, .inr (2, [.null, .null, .null, .int 0, .null, .null, .int 0, .int 0, .null])), (q_1, .inr (3, [.int 0, .ref q_2, .ref q_3, .ref q_4, .ref q_5])), (q_2, aJ g 6 zL), (q_3, aI g 6 z0), (q_4, aI g 6 z0), (q_5, aI g 6 z0)] H := hP
  have hD : va_D A [(h, .inr (2, [.null, .null, .null, .int 0, .null, .null, .int 0, .int 0, .null])), (q_1, .inr (3, [.int 0, .ref q_2, .ref q_3, .ref q_4, .ref q_5])), (q_2, aJ g 6 zL), (q_3, aI g 6 z0), (q_4, aI g 6 z0), (q_5, aI g 6 z0)] := hD
  refine W.widen (k := 5) (n := 29) (by decide) (by decide) ?_
  refine va_putF (D := g.1) (ci := 2) (v := .ref q_1) (ty := .object "DuelDelays$Men") (C := RX2) (T := TX2) (N := 9) hx hb hT inF_X2 tyX2 tyX2_ok nmX2 hown hK.1 hP hD hS 0 rfl rfl 0 (by decide) (hT _ bw_84) (fun _ h9 => h9) rfl hin rfl (by decide +kernel) rfl rfl (Nat.le_of_ble_eq_true rfl) dX2_init_12 (fun H locs hP hD hS => ?_)
  have hP : va_P g.1 vwCl [(h, .inr (2, [.ref q_1, .null, .null, .int 0, .null, .null, .int 0, .int 0, .null])), (q_1, .inr (3, [.int 0, .ref q_2, .ref q_3, .ref q_4, .ref q_5])), (q_2, aJ g 6 zL), (q_3, aI g 6 z0), (q_4, aI g 6 z0), (q_5, aI g 6 z0)] H := hP
  have hD : va_D A [(h, .inr (2, [.ref q_1, .null, .null, .int 0, .null, .null, .int 0, .int 0, .null])), (q_1, .inr (3, [.int 0, .ref q_2, .ref q_3, .ref q_4, .ref q_5])), (q_2, aJ g 6 zL), (q_3, aI g 6 z0), (q_4, aI g 6 z0), (q_5, aI g 6 z0)] := hD
  refine lv_aload_n hx hb dX2_init_15 rfl (lv_at hl 0 rfl) ?_
  refine va_new (D := g.1) (ci := 0) (fs := [.int 0, .int 0, .null, .int 0, .int 0, .null, .null, .null]) (C := RX0) (T := TX0) (N := 8) hx hb hT inF_X0 tyX0 tyX0_ok hown (hT _ bw_444) (hT _ bw_445) (hT _ bw_90) hK.1 hP hD hS hA rfl (by decide +kernel) (by decide) (by decide) dX2_init_16 (fun q_6 H hP hD hS => ?_)
  have hP : va_P g.1 vwCl [(h, .inr (2, [.ref q_1, .null, .null, .int 0, .null, .null, .int 0, .int 0, .null])), (q_1, .inr (3, [.int 0, .ref q_2, .ref q_3, .ref q_4, .ref q_5])), (q_2, aJ g 6 zL), (q_3, aI g 6 z0), (q_4, aI g 6 z0), (q_5, aI g 6 z0), (q_6, .inr (0, [.int 0, .int 0, .null, .int 0, .int 0, .null, .null, .null]))] H := hP
  have hD : va_D A [(h, .inr (2, [.ref q_1, .null, .null, .int 0, .null, .null, .int 0, .int 0, .null])), (q_1, .inr (3, [.int 0, .ref q_2, .ref q_3, .ref q_4, .ref q_5])), (q_2, aJ g 6 zL), (q_3, aI g 6 z0), (q_4, aI g 6 z0), (q_5, aI g 6 z0), (q_6, .inr (0, [.int 0, .int 0, .null, .int 0, .int 0, .null, .null, .null]))] := hD
  refine W.widen (k := 6) (n := 37) (by decide) (by decide) ?_
  refine lv_dup hx hb dX2_init_19 rfl ?_
  refine k_v (wr := [(h, .inr (2, [.ref q_1, .null, .null, .int 0, .null, .null, .int 0, .int 0, .null])), (q_1, .inr (3, [.int 0, .ref q_2, .ref q_3, .ref q_4, .ref q_5])), (q_2, aJ g 6 zL), (q_3, aI g 6 z0), (q_4, aI g 6 z0), (q_5, aI g 6 z0)]) (k_N (n := 0) ⟨hx, hb, hml, hown, hT⟩ hK hP hD [6] rfl (by decide) (c_X0_init l g H.size q_6) (gI bw_406) bw_446 (eW_L_20 hK.2) bw_447 rfl rfl rfl (by decide +kernel) ⟨by decide, by decide⟩ (fun _ _ _ _ _ => trivial) (fun _ _ _ => trivial) rfl rfl hl.1 (Nat.le_of_ble_eq_true rfl) dX2_init_20 ⟨by decide, by decide⟩) hP hD hS hA [6] [0, 1, 2, 3, 4, 5] rfl rfl (by decide) (by decide) (fun u H locs hw hP hD hS => ?_)
  obtain ⟨q_7, q_8, q_9, q_10⟩ := u
  have hP : va_P g.1 vwCl [(h, .inr (2, [.ref q_1, .null, .null, .int 0, .null, .null, .int 0, .int 0, .null])), (q_1, .inr (3, [.int 0, .ref q_2, .ref q_3, .ref q_4, .ref q_5])), (q_2, aJ g 6 zL), (q_3, aI g 6 z0), (q_4, aI g 6 z0), (q_5, aI g 6 z0), (q_6, .inr (0, [.int 0, .int 0, .ref q_7, .int 0, .int 0, .ref q_8, .ref q_9, .ref q_10])), (q_7, aJ g 4 zL), (q_8, aI g 5 z0), (q_9, aI g 640 z0), (q_10, aI g 32 z0)] H := hP
  have hD : va_D A [(h, .inr (2, [.ref q_1, .null, .null, .int 0, .null, .null, .int 0, .int 0, .null])), (q_1, .inr (3, [.int 0, .ref q_2, .ref q_3, .ref q_4, .ref q_5])), (q_2, aJ g 6 zL), (q_3, aI g 6 z0), (q_4, aI g 6 z0), (q_5, aI g 6 z0), (q_6, .inr (0, [.int 0, .int 0, .ref q_7, .int 0, .int 0, .ref q_8, .ref q_9, .ref q_10])), (q_7, aJ g 4 zL), (q_8, aI g 5 z0), (q_9, aI g 640 z0), (q_10, aI g 32 z0)] := hD
  refine W.widen (k := 10) (n := 718) (by decide) (by decide) ?_
  refine va_putF (D := g.1) (ci := 2) (v := .ref q_6) (ty := .object "DuelDelays$Formulas") (C := RX2) (T := TX2) (N := 9) hx hb hT inF_X2 tyX2 tyX2_ok nmX2 hown hK.1 hP hD hS 0 rfl rfl 1 (by decide) (hT _ bw_86) (fun _ h9 => h9) rfl hin rfl (by decide +kernel) rfl rfl (Nat.le_of_ble_eq_true rfl) dX2_init_23 (fun H locs hP hD hS => ?_)
  have hP : va_P g.1 vwCl [(h, .inr (2, [.ref q_1, .ref q_6, .null, .int 0, .null, .null, .int 0, .int 0, .null])), (q_1, .inr (3, [.int 0, .ref q_2, .ref q_3, .ref q_4, .ref q_5])), (q_2, aJ g 6 zL), (q_3, aI g 6 z0), (q_4, aI g 6 z0), (q_5, aI g 6 z0), (q_6, .inr (0, [.int 0, .int 0, .ref q_7, .int 0, .int 0, .ref q_8, .ref q_9, .ref q_10])), (q_7, aJ g 4 zL), (q_8, aI g 5 z0), (q_9, aI g 640 z0), (q_10, aI g 32 z0)] H := hP
  have hD : va_D A [(h, .inr (2, [.ref q_1, .ref q_6, .null, .int 0, .null, .null, .int 0, .int 0, .null])), (q_1, .inr (3, [.int 0, .ref q_2, .ref q_3, .ref q_4, .ref q_5])), (q_2, aJ g 6 zL), (q_3, aI g 6 z0), (q_4, aI g 6 z0), (q_5, aI g 6 z0), (q_6, .inr (0, [.int 0, .int 0, .ref q_7, .int 0, .int 0, .ref q_8, .ref q_9, .ref q_10])), (q_7, aJ g 4 zL), (q_8, aI g 5 z0), (q_9, aI g 640 z0), (q_10, aI g 32 z0)] := hD
  refine lv_aload_n hx hb dX2_init_26 rfl (lv_at hl 0 rfl) ?_
  refine va_new (D := g.1) (ci := 6) (fs := [.int 0, .null, .null, .null, .null, .null, .null, .null]) (C := RX6) (T := TX6) (N := 8) hx hb hT inF_X6 tyX6 tyX6_ok hown (hT _ bw_448) (hT _ bw_449) (hT _ bw_31) hK.1 hP hD hS hA rfl (by decide +kernel) (by decide) (by decide) dX2_init_27 (fun q_11 H hP hD hS => ?_)
  have hP : va_P g.1 vwCl [(h, .inr (2, [.ref q_1, .ref q_6, .null, .int 0, .null, .null, .int 0, .int 0, .null])), (q_1, .inr (3, [.int 0, .ref q_2, .ref q_3, .ref q_4, .ref q_5])), (q_2, aJ g 6 zL), (q_3, aI g 6 z0), (q_4, aI g 6 z0), (q_5, aI g 6 z0), (q_6, .inr (0, [.int 0, .int 0, .ref q_7, .int 0, .int 0, .ref q_8, .ref q_9, .ref q_10])), (q_7, aJ g 4 zL), (q_8, aI g 5 z0), (q_9, aI g 640 z0), (q_10, aI g 32 z0), (q_11, .inr (6, [.int 0, .null, .null, .null, .null, .null, .null, .null]))] H := hP
  have hD : va_D A [(h, .inr (2, [.ref q_1, .ref q_6, .null, .int 0, .null, .null, .int 0, .int 0, .null])), (q_1, .inr (3, [.int 0, .ref q_2, .ref q_3, .ref q_4, .ref q_5])), (q_2, aJ g 6 zL), (q_3, aI g 6 z0), (q_4, aI g 6 z0), (q_5, aI g 6 z0), (q_6, .inr (0, [.int 0, .int 0, .ref q_7, .int 0, .int 0, .ref q_8, .ref q_9, .ref q_10])), (q_7, aJ g 4 zL), (q_8, aI g 5 z0), (q_9, aI g 640 z0), (q_10, aI g 32 z0), (q_11, .inr (6, [.int 0, .null, .null, .null, .null, .null, .null, .null]))] := hD
  refine W.widen (k := 11) (n := 726) (by decide) (by decide) ?_
  refine lv_dup hx hb dX2_init_30 rfl ?_
  refine k_v (wr := [(h, .inr (2, [.ref q_1, .ref q_6, .null, .int 0, .null, .null, .int 0, .int 0, .null])), (q_1, .inr (3, [.int 0, .ref q_2, .ref q_3, .ref q_4, .ref q_5])), (q_2, aJ g 6 zL), (q_3, aI g 6 z0), (q_4, aI g 6 z0), (q_5, aI g 6 z0), (q_6, .inr (0, [.int 0, .int 0, .ref q_7, .int 0, .int 0, .ref q_8, .ref q_9, .ref q_10])), (q_7, aJ g 4 zL), (q_8, aI g 5 z0), (q_9, aI g 640 z0), (q_10, aI g 32 z0)]) (k_N (n := 0) ⟨hx, hb, hml, hown, hT⟩ hK hP hD [11] rfl (by decide) (c_X6_init l g H.size q_11) (gI bw_415) bw_450 (eW_L_27 hK.2) bw_451 rfl rfl rfl (by decide +kernel) ⟨by decide, by decide⟩ (fun _ _ _ _ _ => trivial) (fun _ _ _ => trivial) rfl rfl hl.1 (Nat.le_of_ble_eq_true rfl) dX2_init_31 ⟨by decide, by decide⟩) hP hD hS hA [11] [0, 1, 2, 3, 4, 5, 6, 7, 8, 9, 10] rfl rfl (by decide) (by decide) (fun u H locs hw hP hD hS => ?_)
  obtain ⟨q_12, q_13, q_14, q_15, q_16, q_17, q_18⟩ := u
  have hP : va_P g.1 vwCl [(h, .inr (2, [.ref q_1, .ref q_6, .null, .int 0, .null, .null, .int 0, .int 0, .null])), (q_1, .inr (3, [.int 0, .ref q_2, .ref q_3, .ref q_4, .ref q_5])), (q_2, aJ g 6 zL), (q_3, aI g 6 z0), (q_4, aI g 6 z0), (q_5, aI g 6 z0), (q_6, .inr (0, [.int 0, .int 0, .ref q_7, .int 0, .int 0, .ref q_8, .ref q_9, .ref q_10])), (q_7, aJ g 4 zL), (q_8, aI g 5 z0), (q_9, aI g 640 z0), (q_10, aI g 32 z0), (q_11, .inr (6, [.int 0, .ref q_12, .ref q_13, .ref q_14, .ref q_15, .ref q_16, .ref q_17, .ref q_18])), (q_12, aJ g 8 zL), (q_13, aI g 8 z0), (q_14, aI g 8 z0), (q_15, aI g 8 z0), (q_16, aI g 8 z0), (q_17, aI g 8 z0), (q_18, aI g 8 z0)] H := hP
  have hD : va_D A [(h, .inr (2, [.ref q_1, .ref q_6, .null, .int 0, .null, .null, .int 0, .int 0, .null])), (q_1, .inr (3, [.int 0, .ref q_2, .ref q_3, .ref q_4, .ref q_5])), (q_2, aJ g 6 zL), (q_3, aI g 6 z0), (q_4, aI g 6 z0), (q_5, aI g 6 z0), (q_6, .inr (0, [.int 0, .int 0, .ref q_7, .int 0, .int 0, .ref q_8, .ref q_9, .ref q_10])), (q_7, aJ g 4 zL), (q_8, aI g 5 z0), (q_9, aI g 640 z0), (q_10, aI g 32 z0), (q_11, .inr (6, [.int 0, .ref q_12, .ref q_13, .ref q_14, .ref q_15, .ref q_16, .ref q_17, .ref q_18])), (q_12, aJ g 8 zL), (q_13, aI g 8 z0), (q_14, aI g 8 z0), (q_15, aI g 8 z0), (q_16, aI g 8 z0), (q_17, aI g 8 z0), (q_18, aI g 8 z0)] := hD
  refine W.widen (k := 18) (n := 782) (by decide) (by decide) ?_
  refine va_putF (D := g.1) (ci := 2) (v := .ref q_11) (ty := .object "DuelDelays$Reasons") (C := RX2) (T := TX2) (N := 9) hx hb hT inF_X2 tyX2 tyX2_ok nmX2 hown hK.1 hP hD hS 0 rfl rfl 2 (by decide) (hT _ bw_91) (fun _ h9 => h9) rfl hin rfl (by decide +kernel) rfl rfl (Nat.le_of_ble_eq_true rfl) dX2_init_34 (fun H locs hP hD hS => ?_)
  have hP : va_P g.1 vwCl [(h, .inr (2, [.ref q_1, .ref q_6, .ref q_11, .int 0, .null, .null, .int 0, .int 0, .null])), (q_1, .inr (3, [.int 0, .ref q_2, .ref q_3, .ref q_4, .ref q_5])), (q_2, aJ g 6 zL), (q_3, aI g 6 z0), (q_4, aI g 6 z0), (q_5, aI g 6 z0), (q_6, .inr (0, [.int 0, .int 0, .ref q_7, .int 0, .int 0, .ref q_8, .ref q_9, .ref q_10])), (q_7, aJ g 4 zL), (q_8, aI g 5 z0), (q_9, aI g 640 z0), (q_10, aI g 32 z0), (q_11, .inr (6, [.int 0, .ref q_12, .ref q_13, .ref q_14, .ref q_15, .ref q_16, .ref q_17, .ref q_18])), (q_12, aJ g 8 zL), (q_13, aI g 8 z0), (q_14, aI g 8 z0), (q_15, aI g 8 z0), (q_16, aI g 8 z0), (q_17, aI g 8 z0), (q_18, aI g 8 z0)] H := hP
  have hD : va_D A [(h, .inr (2, [.ref q_1, .ref q_6, .ref q_11, .int 0, .null, .null, .int 0, .int 0, .null])), (q_1, .inr (3, [.int 0, .ref q_2, .ref q_3, .ref q_4, .ref q_5])), (q_2, aJ g 6 zL), (q_3, aI g 6 z0), (q_4, aI g 6 z0), (q_5, aI g 6 z0), (q_6, .inr (0, [.int 0, .int 0, .ref q_7, .int 0, .int 0, .ref q_8, .ref q_9, .ref q_10])), (q_7, aJ g 4 zL), (q_8, aI g 5 z0), (q_9, aI g 640 z0), (q_10, aI g 32 z0), (q_11, .inr (6, [.int 0, .ref q_12, .ref q_13, .ref q_14, .ref q_15, .ref q_16, .ref q_17, .ref q_18])), (q_12, aJ g 8 zL), (q_13, aI g 8 z0), (q_14, aI g 8 z0), (q_15, aI g 8 z0), (q_16, aI g 8 z0), (q_17, aI g 8 z0), (q_18, aI g 8 z0)] := hD
  refine lv_aload_n hx hb dX2_init_37 rfl (lv_at hl 0 rfl) ?_
  refine lv_bipush (v := 12) hx hb dX2_init_38 (by decide) ?_
  refine p_newa (atype := .int) (ty := .int) hx hb (hT _ bw_392) rfl hK.1 hP hD hS hA 1 rfl (fun _ h9 => h9) (a0 := (12, .inl z0)) (fun _ => rfl) (by decide) (N' := 12) rfl (by decide) (by decide) (by decide) dX2_init_40 (fun q_19 H hP hD hS => ?_)
  have hP : va_P g.1 vwCl [(h, .inr (2, [.ref q_1, .ref q_6, .ref q_11, .int 0, .null, .null, .int 0, .int 0, .null])), (q_1, .inr (3, [.int 0, .ref q_2, .ref q_3, .ref q_4, .ref q_5])), (q_2, aJ g 6 zL), (q_3, aI g 6 z0), (q_4, aI g 6 z0), (q_5, aI g 6 z0), (q_6, .inr (0, [.int 0, .int 0, .ref q_7, .int 0, .int 0, .ref q_8, .ref q_9, .ref q_10])), (q_7, aJ g 4 zL), (q_8, aI g 5 z0), (q_9, aI g 640 z0), (q_10, aI g 32 z0), (q_11, .inr (6, [.int 0, .ref q_12, .ref q_13, .ref q_14, .ref q_15, .ref q_16, .ref q_17, .ref q_18])), (q_12, aJ g 8 zL), (q_13, aI g 8 z0), (q_14, aI g 8 z0), (q_15, aI g 8 z0), (q_16, aI g 8 z0), (q_17, aI g 8 z0), (q_18, aI g 8 z0), (q_19, aI g 12 z0)] H := hP
  have hD : va_D A [(h, .inr (2, [.ref q_1, .ref q_6, .ref q_11, .int 0, .null, .null, .int 0, .int 0, .null])), (q_1, .inr (3, [.int 0, .ref q_2, .ref q_3, .ref q_4, .ref q_5])), (q_2, aJ g 6 zL), (q_3, aI g 6 z0), (q_4, aI g 6 z0), (q_5, aI g 6 z0), (q_6, .inr (0, [.int 0, .int 0, .ref q_7, .int 0, .int 0, .ref q_8, .ref q_9, .ref q_10])), (q_7, aJ g 4 zL), (q_8, aI g 5 z0), (q_9, aI g 640 z0), (q_10, aI g 32 z0), (q_11, .inr (6, [.int 0, .ref q_12, .ref q_13, .ref q_14, .ref q_15, .ref q_16, .ref q_17, .ref q_18])), (q_12, aJ g 8 zL), (q_13, aI g 8 z0), (q_14, aI g 8 z0), (q_15, aI g 8 z0), (q_16, aI g 8 z0), (q_17, aI g 8 z0), (q_18, aI g 8 z0), (q_19, aI g 12 z0)] := hD
  refine W.widen (k := 19) (n := 794) (by decide) (by decide) ?_
  refine va_putF (D := g.1) (ci := 2) (v := .ref q_19) (ty := .array .int) (C := RX2) (T := TX2) (N := 9) hx hb hT inF_X2 tyX2 tyX2_ok nmX2 hown hK.1 hP hD hS 0 rfl rfl 4 (by decide) (hT _ bw_452) (fun _ h9 => h9) rfl hin rfl (by decide +kernel) rfl rfl (Nat.le_of_ble_eq_true rfl) dX2_init_42 (fun H locs hP hD hS => ?_)
  have hP : va_P g.1 vwCl [(h, .inr (2, [.ref q_1, .ref q_6, .ref q_11, .int 0, .ref q_19, .null, .int 0, .int 0, .null])), (q_1, .inr (3, [.int 0, .ref q_2, .ref q_3, .ref q_4, .ref q_5])), (q_2, aJ g 6 zL), (q_3, aI g 6 z0), (q_4, aI g 6 z0), (q_5, aI g 6 z0), (q_6, .inr (0, [.int 0, .int 0, .ref q_7, .int 0, .int 0, .ref q_8, .ref q_9, .ref q_10])), (q_7, aJ g 4 zL), (q_8, aI g 5 z0), (q_9, aI g 640 z0), (q_10, aI g 32 z0), (q_11, .inr (6, [.int 0, .ref q_12, .ref q_13, .ref q_14, .ref q_15, .ref q_16, .ref q_17, .ref q_18])), (q_12, aJ g 8 zL), (q_13, aI g 8 z0), (q_14, aI g 8 z0), (q_15, aI g 8 z0), (q_16, aI g 8 z0), (q_17, aI g 8 z0), (q_18, aI g 8 z0), (q_19, aI g 12 z0)] H := hP
  have hD : va_D A [(h, .inr (2, [.ref q_1, .ref q_6, .ref q_11, .int 0, .ref q_19, .null, .int 0, .int 0, .null])), (q_1, .inr (3, [.int 0, .ref q_2, .ref q_3, .ref q_4, .ref q_5])), (q_2, aJ g 6 zL), (q_3, aI g 6 z0), (q_4, aI g 6 z0), (q_5, aI g 6 z0), (q_6, .inr (0, [.int 0, .int 0, .ref q_7, .int 0, .int 0, .ref q_8, .ref q_9, .ref q_10])), (q_7, aJ g 4 zL), (q_8, aI g 5 z0), (q_9, aI g 640 z0), (q_10, aI g 32 z0), (q_11, .inr (6, [.int 0, .ref q_12, .ref q_13, .ref q_14, .ref q_15, .ref q_16, .ref q_17, .ref q_18])), (q_12, aJ g 8 zL), (q_13, aI g 8 z0), (q_14, aI g 8 z0), (q_15, aI g 8 z0), (q_16, aI g 8 z0), (q_17, aI g 8 z0), (q_18, aI g 8 z0), (q_19, aI g 12 z0)] := hD
  refine lv_aload_n hx hb dX2_init_45 rfl (lv_at hl 0 rfl) ?_
  refine lv_bipush (v := 6) hx hb dX2_init_46 (by decide) ?_
  refine p_newa (atype := .int) (ty := .int) hx hb (hT _ bw_392) rfl hK.1 hP hD hS hA 1 rfl (fun _ h9 => h9) (a0 := (6, .inl z0)) (fun _ => rfl) (by decide) (N' := 6) rfl (by decide) (by decide) (by decide) dX2_init_48 (fun q_20 H hP hD hS => ?_)
  have hP : va_P g.1 vwCl [(h, .inr (2, [.ref q_1, .ref q_6, .ref q_11, .int 0, .ref q_19, .null, .int 0, .int 0, .null])), (q_1, .inr (3, [.int 0, .ref q_2, .ref q_3, .ref q_4, .ref q_5])), (q_2, aJ g 6 zL), (q_3, aI g 6 z0), (q_4, aI g 6 z0), (q_5, aI g 6 z0), (q_6, .inr (0, [.int 0, .int 0, .ref q_7, .int 0, .int 0, .ref q_8, .ref q_9, .ref q_10])), (q_7, aJ g 4 zL), (q_8, aI g 5 z0), (q_9, aI g 640 z0), (q_10, aI g 32 z0), (q_11, .inr (6, [.int 0, .ref q_12, .ref q_13, .ref q_14, .ref q_15, .ref q_16, .ref q_17, .ref q_18])), (q_12, aJ g 8 zL), (q_13, aI g 8 z0), (q_14, aI g 8 z0), (q_15, aI g 8 z0), (q_16, aI g 8 z0), (q_17, aI g 8 z0), (q_18, aI g 8 z0), (q_19, aI g 12 z0), (q_20, aI g 6 z0)] H := hP
  have hD : va_D A [(h, .inr (2, [.ref q_1, .ref q_6, .ref q_11, .int 0, .ref q_19, .null, .int 0, .int 0, .null])), (q_1, .inr (3, [.int 0, .ref q_2, .ref q_3, .ref q_4, .ref q_5])), (q_2, aJ g 6 zL), (q_3, aI g 6 z0), (q_4, aI g 6 z0), (q_5, aI g 6 z0), (q_6, .inr (0, [.int 0, .int 0, .ref q_7, .int 0, .int 0, .ref q_8, .ref q_9, .ref q_10])), (q_7, aJ g 4 zL), (q_8, aI g 5 z0), (q_9, aI g 640 z0), (q_10, aI g 32 z0), (q_11, .inr (6, [.int 0, .ref q_12, .ref q_13, .ref q_14, .ref q_15, .ref q_16, .ref q_17, .ref q_18])), (q_12, aJ g 8 zL), (q_13, aI g 8 z0), (q_14, aI g 8 z0), (q_15, aI g 8 z0), (q_16, aI g 8 z0), (q_17, aI g 8 z0), (q_18, aI g 8 z0), (q_19, aI g 12 z0), (q_20, aI g 6 z0)] := hD
  refine W.widen (k := 20) (n := 800) (by decide) (by decide) ?_
  refine va_putF (D := g.1) (ci := 2) (v := .ref q_20) (ty := .array .int) (C := RX2) (T := TX2) (N := 9) hx hb hT inF_X2 tyX2 tyX2_ok nmX2 hown hK.1 hP hD hS 0 rfl rfl 5 (by decide) (hT _ bw_453) (fun _ h9 => h9) rfl hin rfl (by decide +kernel) rfl rfl (Nat.le_of_ble_eq_true rfl) dX2_init_50 (fun H locs hP hD hS => ?_)
  have hP : va_P g.1 vwCl [(h, .inr (2, [.ref q_1, .ref q_6, .ref q_11, .int 0, .ref q_19, .ref q_20, .int 0, .int 0, .null])), (q_1, .inr (3, [.int 0, .ref q_2, .ref q_3, .ref q_4, .ref q_5])), (q_2, aJ g 6 zL), (q_3, aI g 6 z0), (q_4, aI g 6 z0), (q_5, aI g 6 z0), (q_6, .inr (0, [.int 0, .int 0, .ref q_7, .int 0, .int 0, .ref q_8, .ref q_9, .ref q_10])), (q_7, aJ g 4 zL), (q_8, aI g 5 z0), (q_9, aI g 640 z0), (q_10, aI g 32 z0), (q_11, .inr (6, [.int 0, .ref q_12, .ref q_13, .ref q_14, .ref q_15, .ref q_16, .ref q_17, .ref q_18])), (q_12, aJ g 8 zL), (q_13, aI g 8 z0), (q_14, aI g 8 z0), (q_15, aI g 8 z0), (q_16, aI g 8 z0), (q_17, aI g 8 z0), (q_18, aI g 8 z0), (q_19, aI g 12 z0), (q_20, aI g 6 z0)] H := hP
  have hD : va_D A [(h, .inr (2, [.ref q_1, .ref q_6, .ref q_11, .int 0, .ref q_19, .ref q_20, .int 0, .int 0, .null])), (q_1, .inr (3, [.int 0, .ref q_2, .ref q_3, .ref q_4, .ref q_5])), (q_2, aJ g 6 zL), (q_3, aI g 6 z0), (q_4, aI g 6 z0), (q_5, aI g 6 z0), (q_6, .inr (0, [.int 0, .int 0, .ref q_7, .int 0, .int 0, .ref q_8, .ref q_9, .ref q_10])), (q_7, aJ g 4 zL), (q_8, aI g 5 z0), (q_9, aI g 640 z0), (q_10, aI g 32 z0), (q_11, .inr (6, [.int 0, .ref q_12, .ref q_13, .ref q_14, .ref q_15, .ref q_16, .ref q_17, .ref q_18])), (q_12, aJ g 8 zL), (q_13, aI g 8 z0), (q_14, aI g 8 z0), (q_15, aI g 8 z0), (q_16, aI g 8 z0), (q_17, aI g 8 z0), (q_18, aI g 8 z0), (q_19, aI g 12 z0), (q_20, aI g 6 z0)] := hD
  refine lv_aload_n hx hb dX2_init_53 rfl (lv_at hl 0 rfl) ?_
  refine lv_bipush (v := 9) hx hb dX2_init_54 (by decide) ?_
  refine va_put (D := g.1) (ci := 2) (v := .int 9) (ty := .int) (C := RX2) (T := TX2) (N := 9) hx hb hT inF_X2 tyX2 tyX2_ok nmX2 hown hK.1 hP hD hS 0 rfl rfl 6 (by decide) (hT _ bw_94) (fun _ h9 => h9) rfl (by decide +kernel) rfl rfl (Nat.le_of_ble_eq_true rfl) dX2_init_56 (fun H locs hP hD hS => ?_)
  have hP : va_P g.1 vwCl [(h, .inr (2, [.ref q_1, .ref q_6, .ref q_11, .int 0, .ref q_19, .ref q_20, .int 9, .int 0, .null])), (q_1, .inr (3, [.int 0, .ref q_2, .ref q_3, .ref q_4, .ref q_5])), (q_2, aJ g 6 zL), (q_3, aI g 6 z0), (q_4, aI g 6 z0), (q_5, aI g 6 z0), (q_6, .inr (0, [.int 0, .int 0, .ref q_7, .int 0, .int 0, .ref q_8, .ref q_9, .ref q_10])), (q_7, aJ g 4 zL), (q_8, aI g 5 z0), (q_9, aI g 640 z0), (q_10, aI g 32 z0), (q_11, .inr (6, [.int 0, .ref q_12, .ref q_13, .ref q_14, .ref q_15, .ref q_16, .ref q_17, .ref q_18])), (q_12, aJ g 8 zL), (q_13, aI g 8 z0), (q_14, aI g 8 z0), (q_15, aI g 8 z0), (q_16, aI g 8 z0), (q_17, aI g 8 z0), (q_18, aI g 8 z0), (q_19, aI g 12 z0), (q_20, aI g 6 z0)] H := hP
  have hD : va_D A [(h, .inr (2, [.ref q_1, .ref q_6, .ref q_11, .int 0, .ref q_19, .ref q_20, .int 9, .int 0, .null])), (q_1, .inr (3, [.int 0, .ref q_2, .ref q_3, .ref q_4, .ref q_5])), (q_2, aJ g 6 zL), (q_3, aI g 6 z0), (q_4, aI g 6 z0), (q_5, aI g 6 z0), (q_6, .inr (0, [.int 0, .int 0, .ref q_7, .int 0, .int 0, .ref q_8, .ref q_9, .ref q_10])), (q_7, aJ g 4 zL), (q_8, aI g 5 z0), (q_9, aI g 640 z0), (q_10, aI g 32 z0), (q_11, .inr (6, [.int 0, .ref q_12, .ref q_13, .ref q_14, .ref q_15, .ref q_16, .ref q_17, .ref q_18])), (q_12, aJ g 8 zL), (q_13, aI g 8 z0), (q_14, aI g 8 z0), (q_15, aI g 8 z0), (q_16, aI g 8 z0), (q_17, aI g 8 z0), (q_18, aI g 8 z0), (q_19, aI g 12 z0), (q_20, aI g 6 z0)] := hD
  refine lv_aload_n hx hb dX2_init_59 rfl (lv_at hl 0 rfl) ?_
  refine lv_iconst (v := 4) hx hb dX2_init_60 (by decide) ?_
  refine p_newa (atype := .int) (ty := .int) hx hb (hT _ bw_392) rfl hK.1 hP hD hS hA 1 rfl (fun _ h9 => h9) (a0 := (4, .inl z0)) (fun _ => rfl) (by decide) (N' := 4) rfl (by decide) (by decide) (by decide) dX2_init_61 (fun q_21 H hP hD hS => ?_)
  have hP : va_P g.1 vwCl [(h, .inr (2, [.ref q_1, .ref q_6, .ref q_11, .int 0, .ref q_19, .ref q_20, .int 9, .int 0, .null])), (q_1, .inr (3, [.int 0, .ref q_2, .ref q_3, .ref q_4, .ref q_5])), (q_2, aJ g 6 zL), (q_3, aI g 6 z0), (q_4, aI g 6 z0), (q_5, aI g 6 z0), (q_6, .inr (0, [.int 0, .int 0, .ref q_7, .int 0, .int 0, .ref q_8, .ref q_9, .ref q_10])), (q_7, aJ g 4 zL), (q_8, aI g 5 z0), (q_9, aI g 640 z0), (q_10, aI g 32 z0), (q_11, .inr (6, [.int 0, .ref q_12, .ref q_13, .ref q_14, .ref q_15, .ref q_16, .ref q_17, .ref q_18])), (q_12, aJ g 8 zL), (q_13, aI g 8 z0), (q_14, aI g 8 z0), (q_15, aI g 8 z0), (q_16, aI g 8 z0), (q_17, aI g 8 z0), (q_18, aI g 8 z0), (q_19, aI g 12 z0), (q_20, aI g 6 z0), (q_21, aI g 4 z0)] H := hP
  have hD : va_D A [(h, .inr (2, [.ref q_1, .ref q_6, .ref q_11, .int 0, .ref q_19, .ref q_20, .int 9, .int 0, .null])), (q_1, .inr (3, [.int 0, .ref q_2, .ref q_3, .ref q_4, .ref q_5])), (q_2, aJ g 6 zL), (q_3, aI g 6 z0), (q_4, aI g 6 z0), (q_5, aI g 6 z0), (q_6, .inr (0, [.int 0, .int 0, .ref q_7, .int 0, .int 0, .ref q_8, .ref q_9, .ref q_10])), (q_7, aJ g 4 zL), (q_8, aI g 5 z0), (q_9, aI g 640 z0), (q_10, aI g 32 z0), (q_11, .inr (6, [.int 0, .ref q_12, .ref q_13, .ref q_14, .ref q_15, .ref q_16, .ref q_17, .ref q_18])), (q_12, aJ g 8 zL), (q_13, aI g 8 z0), (q_14, aI g 8 z0), (q_15, aI g 8 z0), (q_16, aI g 8 z0), (q_17, aI g 8 z0), (q_18, aI g 8 z0), (q_19, aI g 12 z0), (q_20, aI g 6 z0), (q_21, aI g 4 z0)] := hD
  refine W.widen (k := 21) (n := 804) (by decide) (by decide) ?_
  refine va_putF (D := g.1) (ci := 2) (v := .ref q_21) (ty := .array .int) (C := RX2) (T := TX2) (N := 9) hx hb hT inF_X2 tyX2 tyX2_ok nmX2 hown hK.1 hP hD hS 0 rfl rfl 8 (by decide) (hT _ bw_96) (fun _ h9 => h9) rfl hin rfl (by decide +kernel) rfl rfl (Nat.le_of_ble_eq_true rfl) dX2_init_63 (fun H locs hP hD hS => ?_)
  have hP : va_P g.1 vwCl [(h, .inr (2, [.ref q_1, .ref q_6, .ref q_11, .int 0, .ref q_19, .ref q_20, .int 9, .int 0, .ref q_21])), (q_1, .inr (3, [.int 0, .ref q_2, .ref q_3, .ref q_4, .ref q_5])), (q_2, aJ g 6 zL), (q_3, aI g 6 z0), (q_4, aI g 6 z0), (q_5, aI g 6 z0), (q_6, .inr (0, [.int 0, .int 0, .ref q_7, .int 0, .int 0, .ref q_8, .ref q_9, .ref q_10])), (q_7, aJ g 4 zL), (q_8, aI g 5 z0), (q_9, aI g 640 z0), (q_10, aI g 32 z0), (q_11, .inr (6, [.int 0, .ref q_12, .ref q_13, .ref q_14, .ref q_15, .ref q_16, .ref q_17, .ref q_18])), (q_12, aJ g 8 zL), (q_13, aI g 8 z0), (q_14, aI g 8 z0), (q_15, aI g 8 z0), (q_16, aI g 8 z0), (q_17, aI g 8 z0), (q_18, aI g 8 z0), (q_19, aI g 12 z0), (q_20, aI g 6 z0), (q_21, aI g 4 z0)] H := hP
  have hD : va_D A [(h, .inr (2, [.ref q_1, .ref q_6, .ref q_11, .int 0, .ref q_19, .ref q_20, .int 9, .int 0, .ref q_21])), (q_1, .inr (3, [.int 0, .ref q_2, .ref q_3, .ref q_4, .ref q_5])), (q_2, aJ g 6 zL), (q_3, aI g 6 z0), (q_4, aI g 6 z0), (q_5, aI g 6 z0), (q_6, .inr (0, [.int 0, .int 0, .ref q_7, .int 0, .int 0, .ref q_8, .ref q_9, .ref q_10])), (q_7, aJ g 4 zL), (q_8, aI g 5 z0), (q_9, aI g 640 z0), (q_10, aI g 32 z0), (q_11, .inr (6, [.int 0, .ref q_12, .ref q_13, .ref q_14, .ref q_15, .ref q_16, .ref q_17, .ref q_18])), (q_12, aJ g 8 zL), (q_13, aI g 8 z0), (q_14, aI g 8 z0), (q_15, aI g 8 z0), (q_16, aI g 8 z0), (q_17, aI g 8 z0), (q_18, aI g 8 z0), (q_19, aI g 12 z0), (q_20, aI g 6 z0), (q_21, aI g 4 z0)] := hD
  have hP9 : va_P g.1 vwCl [(h, .inr (2, [.ref q_1, .ref q_6, .ref q_11, .int 0, .ref q_19, .ref q_20, .int 9, .int 0, .ref q_21])), (q_1, .inr (3, [.int 0, .ref q_2, .ref q_3, .ref q_4, .ref q_5])), (q_2, aJ g 6 zL), (q_3, aI g 6 z0), (q_4, aI g 6 z0), (q_5, aI g 6 z0), (q_6, .inr (0, [.int 0, .int 0, .ref q_7, .int 0, .int 0, .ref q_8, .ref q_9, .ref q_10])), (q_7, aJ g 4 zL), (q_8, aI g 5 z0), (q_9, aI g 640 z0), (q_10, aI g 32 z0), (q_11, .inr (6, [.int 0, .ref q_12, .ref q_13, .ref q_14, .ref q_15, .ref q_16, .ref q_17, .ref q_18])), (q_12, aJ g 8 zL), (q_13, aI g 8 z0), (q_14, aI g 8 z0), (q_15, aI g 8 z0), (q_16, aI g 8 z0), (q_17, aI g 8 z0), (q_18, aI g 8 z0), (q_19, aI g 12 z0), (q_20, aI g 6 z0), (q_21, aI g 4 z0)] H := hP.sub [0, 1, 2, 3, 4, 5, 6, 7, 8, 9, 10, 11, 12, 13, 14, 15, 16, 17, 18, 19, 20, 21] rfl
  have hD9 : va_D A [(h, .inr (2, [.ref q_1, .ref q_6, .ref q_11, .int 0, .ref q_19, .ref q_20, .int 9, .int 0, .ref q_21])), (q_1, .inr (3, [.int 0, .ref q_2, .ref q_3, .ref q_4, .ref q_5])), (q_2, aJ g 6 zL), (q_3, aI g 6 z0), (q_4, aI g 6 z0), (q_5, aI g 6 z0), (q_6, .inr (0, [.int 0, .int 0, .ref q_7, .int 0, .int 0, .ref q_8, .ref q_9, .ref q_10])), (q_7, aJ g 4 zL), (q_8, aI g 5 z0), (q_9, aI g 640 z0), (q_10, aI g 32 z0), (q_11, .inr (6, [.int 0, .ref q_12, .ref q_13, .ref q_14, .ref q_15, .ref q_16, .ref q_17, .ref q_18])), (q_12, aJ g 8 zL), (q_13, aI g 8 z0), (q_14, aI g 8 z0), (q_15, aI g 8 z0), (q_16, aI g 8 z0), (q_17, aI g 8 z0), (q_18, aI g 8 z0), (q_19, aI g 12 z0), (q_20, aI g 6 z0), (q_21, aI g 4 z0)] := hD.sub [0, 1, 2, 3, 4, 5, 6, 7, 8, 9, 10, 11, 12, 13, 14, 15, 16, 17, 18, 19, 20, 21] (by decide) rfl
  exact W.vret hx hb hr (fun t ht hW => ⟨⟨(q_1, q_2, q_3, q_4, q_5, q_6, q_7, q_8, q_9, q_10, q_11, q_12, q_13, q_14, q_15, q_16, q_17, q_18, q_19, q_20, q_21), rfl, trivial, by rw [ht]; exact hP9, by rw [hAe]; exact hD9⟩, hS.F ht⟩) hS.2.2 dX2_init_66
