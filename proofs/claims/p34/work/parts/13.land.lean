set_option maxRecDepth 20000 in
theorem inF_X0 : ∀ w ∈ u_ws RX0 TX0 8, w ∈ gT := gT_u [212, 214, 216, 218, 220, 222, 224, 226] (by decide +kernel) (by decide +kernel)
theorem bw_117 : Cond.fieldLink RX0 25 "DuelDelays$Formulas" "count" "I" ∈ gT := gT_tb 200 (by decide +kernel) (by decide +kernel)
theorem bw_118 : Cond.fieldLink RX0 29 "DuelDelays$Formulas" "units" "I" ∈ gT := gT_tb 203 (by decide +kernel) (by decide +kernel)
theorem bw_119 : Cond.fieldLink RX0 32 "DuelDelays$Formulas" "length" "I" ∈ gT := gT_tb 208 (by decide +kernel) (by decide +kernel)
theorem bw_120 : Cond.code yX0_clear cX0_clear 1 none ∈ gT := gT_tb 591 (by decide +kernel) (by decide +kernel)
theorem dX0_clear_0 : decode cX0_clear 0 = .ok (.aload_n 0, 1) := by decide +kernel
theorem dX0_clear_1 : decode cX0_clear 1 = .ok (.iconst 0, 1) := by decide +kernel
theorem dX0_clear_2 : decode cX0_clear 2 = .ok (.putfield 25, 3) := by decide +kernel
theorem dX0_clear_5 : decode cX0_clear 5 = .ok (.aload_n 0, 1) := by decide +kernel
theorem dX0_clear_6 : decode cX0_clear 6 = .ok (.iconst 0, 1) := by decide +kernel
theorem dX0_clear_7 : decode cX0_clear 7 = .ok (.putfield 29, 3) := by decide +kernel
theorem dX0_clear_10 : decode cX0_clear 10 = .ok (.aload_n 0, 1) := by decide +kernel
theorem dX0_clear_11 : decode cX0_clear 11 = .ok (.iconst 0, 1) := by decide +kernel
theorem dX0_clear_12 : decode cX0_clear 12 = .ok (.putfield 32, 3) := by decide +kernel
theorem dX0_clear_15 : decode cX0_clear 15 = .ok (.return_, 1) := by decide +kernel
set_option maxHeartbeats 4000000 in
set_option maxRecDepth 100000 in
theorem s_X0_clear (l : Launch) (g : GG) (sz : Nat) (h : Nat) (bcount : Int32) (bunits : Int32) (bnames : Nat) (bunitsOfThis : Int32) (blength : Int32) (bstarts : Nat) (bsteps : Nat) (bstack : Nat) (hh0 : 0 ≤ bcount.toInt ∧ bcount.toInt ≤ 4) (hh1 : 0 ≤ bunits.toInt ∧ bunits.toInt ≤ 60) (hh2 : 0 ≤ bunitsOfThis.toInt ∧ bunitsOfThis.toInt ≤ 30) (hh3 : 0 ≤ blength.toInt ∧ blength.toInt ≤ 640) : Met l yX0_clear (.code yX0_clear cX0_clear 1 none :: gT) ({ frames := 0, cells := 0, slots := 0, locals := 0 }) (va_Pc [.ref h] (Pst g sz [(h, .inr (0, [.int bcount, .int bunits, .ref bnames, .int bunitsOfThis, .int blength, .ref bstarts, .ref bsteps, .ref bstack]))] nX)) (va_Qv (fun (_ : Unit) => True) (Qst g [(h, .inr (0, [.int bcount, .int bunits, .ref bnames, .int bunitsOfThis, .int blength, .ref bstarts, .ref bsteps, .ref bstack]))] sz (fun (_ : Unit) => [(h, .inr (0, [.int 0, .int 0, .ref bnames, .int bunitsOfThis, .int 0, .ref bstarts, .ref bsteps, .ref bstack]))])) (va_A [(h, .inr (0, [.int bcount, .int bunits, .ref bnames, .int bunitsOfThis, .int blength, .ref bstarts, .ref bsteps, .ref bstack]))] sz)) 0 0 (va_A [(h, .inr (0, [.int bcount, .int bunits, .ref bnames, .int bunitsOfThis, .int blength, .ref bstarts, .ref bsteps, .ref bstack]))] sz) := by
  refine Met.ofW (cc := cX0_clear) (maxL := 1) (ret := none) (by decide) rfl ?_
  intro p e s m args below meth c s₁ B hml hv
  obtain ⟨rfl, hsz, hP, hK, hD0, hX⟩ := hv
  have hx := B.exec
  have hb := B.bytes
  have hr := B.returns
  have hT : ∀ w ∈ gT, w.before _ s = true := fun w h => atoms_spec (ws := .code yX0_clear cX0_clear 1 none :: gT) B.pre w (List.mem_cons_of_mem _ h)
  have hown : s.vm.findClass RX0 = some m.cls := findClass_of_methodNamed B.named
  have hlocks := B.notSynchronized
  subst hsz
  have hD := hD0.self (sz := s.heap.size)
  generalize hAe : va_A [(h, .inr (0, [.int bcount, .int bunits, .ref bnames, .int bunitsOfThis, .int blength, .ref bstarts, .ref bsteps, .ref bstack]))] s.heap.size = A at hD ⊢
  have hA : ∀ q : Nat, s.heap.size ≤ q → A q := fun q h => by rw [← hAe]; exact Or.inr h
  have hS : va_S A s.heap s.heap [] := va_S.rf
  have hl := lv_entry ([.ref h]) (n := 1) (Nat.le_of_ble_eq_true rfl)
  rw [lg_entry_eq]
  generalize (lg_sl ([.ref h]) ++ List.replicate (1 - (lg_sl ([.ref h])).length) Slot.unset).toArray = ls at hl ⊢
  have hl : lv_has ls 1 [(0, .ref h)] := hl
  refine p_nH (fun H hH => ?_)
  have hP : va_P g.1 vwCl [(h, .inr (0, [.int bcount, .int bunits, .ref bnames, .int bunitsOfThis, .int blength, .ref bstarts, .ref bsteps, .ref bstack]))] H := by rw [hH]; exact hP
  have hS : va_S A s.heap H [] := by rw [hH]; exact hS
  refine lv_aload_n hx hb dX0_clear_0 rfl (lv_at hl 0 rfl) ?_
  refine lv_iconst (v := 0) hx hb dX0_clear_1 (by decide) ?_
  refine va_put (D := g.1) (ci := 0) (v := .int 0) (ty := .int) (C := RX0) (T := TX0) (N := 8) hx hb hT inF_X0 tyX0 tyX0_ok nmX0 hown hK.1 hP hD hS 0 rfl rfl 0 (by decide) (hT _ bw_117) (fun _ h9 => h9) rfl (by decide +kernel) rfl rfl (Nat.le_of_ble_eq_true rfl) dX0_clear_2 (fun H locs hP hD hS => ?_)
  have hP : va_P g.1 vwCl [(h, .inr (0, [.int 0, .int bunits, .ref bnames, .int bunitsOfThis, .int blength, .ref bstarts, .ref bsteps, .ref bstack]))] H := hP
  have hD : va_D A [(h, .inr (0, [.int 0, .int bunits, .ref bnames, .int bunitsOfThis, .int blength, .ref bstarts, .ref bsteps, .ref bstack]))] := hD
  refine lv_aload_n hx hb dX0_clear_5 rfl (lv_at hl 0 rfl) ?_
  refine lv_iconst (v := 0) hx hb dX0_clear_6 (by decide) ?_
  refine va_put (D := g.1) (ci := 0) (v := .int 0) (ty := .int) (C := RX0) (T := TX0) (N := 8) hx hb hT inF_X0 tyX0 tyX0_ok nmX0 hown hK.1 hP hD hS 0 rfl rfl 1 (by decide) (hT _ bw_118) (fun _ h9 => h9) rfl (by decide +kernel) rfl rfl (Nat.le_of_ble_eq_true rfl) dX0_clear_7 (fun H locs hP hD hS => ?_)
  have hP : va_P g.1 vwCl [(h, .inr (0, [.int 0, .int 0, .ref bnames, .int bunitsOfThis, .int blength, .ref bstarts, .ref bsteps, .ref bstack]))] H := hP
  have hD : va_D A [(h, .inr (0, [.int 0, .int 0, .ref bnames, .int bunitsOfThis, .int blength, .ref bstarts, .ref bsteps, .ref bstack]))] := hD
  refine lv_aload_n hx hb dX0_clear_10 rfl (lv_at hl 0 rfl) ?_
  refine lv_iconst (v := 0) hx hb dX0_clear_11 (by decide) ?_
  refine va_put (D := g.1) (ci := 0) (v := .int 0) (ty := .int) (C := RX0) (T := TX0) (N := 8) hx hb hT inF_X0 tyX0 tyX0_ok nmX0 hown hK.1 hP hD hS 0 rfl rfl 4 (by decide) (hT _ bw_119) (fun _ h9 => h9) rfl (by decide +kernel) rfl rfl (Nat.le_of_ble_eq_true rfl) dX0_clear_12 (fun H locs hP hD hS => ?_)
  have hP : va_P g.1 vwCl [(h, .inr (0, [.int 0, .int 0, .ref bnames, .int bunitsOfThis, .int 0, .ref bstarts, .ref bsteps, .ref bstack]))] H := hP
  have hD : va_D A [(h, .inr (0, [.int 0, .int 0, .ref bnames, .int bunitsOfThis, .int 0, .ref bstarts, .ref bsteps, .ref bstack]))] := hD
  have hP9 : va_P g.1 vwCl [(h, .inr (0, [.int 0, .int 0, .ref bnames, .int bunitsOfThis, .int 0, .ref bstarts, .ref bsteps, .ref bstack]))] H := hP.sub [0] rfl
  have hD9 : va_D A [(h, .inr (0, [.int 0, .int 0, .ref bnames, .int bunitsOfThis, .int 0, .ref bstarts, .ref bsteps, .ref bstack]))] := hD.sub [0] (by decide +kernel) rfl
  exact W.vret hx hb hr (fun t ht hW => ⟨⟨(), rfl, trivial, by rw [ht]; exact hP9, by rw [hAe]; exact hD9⟩, hS.F ht⟩) hS.2.2 dX0_clear_15

theorem bw_121 : Cond.fieldLink RX0 15 "DuelDelays$Formulas" "starts" "[I" ∈ gT := gT_tb 209 (by decide +kernel) (by decide +kernel)
theorem bw_122 : Cond.fieldLink RX0 35 "DuelDelays$Formulas" "unitsOfThis" "I" ∈ gT := gT_tb 207 (by decide +kernel) (by decide +kernel)
theorem bw_123 : Cond.code yX0_beginKind cX0_beginKind 1 none ∈ gT := gT_tb 739 (by decide +kernel) (by decide +kernel)
theorem dX0_beginKind_0 : decode cX0_beginKind 0 = .ok (.aload_n 0, 1) := by decide +kernel
theorem dX0_beginKind_1 : decode cX0_beginKind 1 = .ok (.getfield 15, 3) := by decide +kernel
theorem dX0_beginKind_4 : decode cX0_beginKind 4 = .ok (.aload_n 0, 1) := by decide +kernel
theorem dX0_beginKind_5 : decode cX0_beginKind 5 = .ok (.getfield 25, 3) := by decide +kernel
theorem dX0_beginKind_8 : decode cX0_beginKind 8 = .ok (.aload_n 0, 1) := by decide +kernel
theorem dX0_beginKind_9 : decode cX0_beginKind 9 = .ok (.getfield 32, 3) := by decide +kernel
theorem dX0_beginKind_12 : decode cX0_beginKind 12 = .ok (.iastore, 1) := by decide +kernel
theorem dX0_beginKind_13 : decode cX0_beginKind 13 = .ok (.aload_n 0, 1) := by decide +kernel
theorem dX0_beginKind_14 : decode cX0_beginKind 14 = .ok (.iconst 0, 1) := by decide +kernel
theorem dX0_beginKind_15 : decode cX0_beginKind 15 = .ok (.putfield 35, 3) := by decide +kernel
theorem dX0_beginKind_18 : decode cX0_beginKind 18 = .ok (.return_, 1) := by decide +kernel
set_option maxHeartbeats 4000000 in
set_option maxRecDepth 100000 in
theorem s_X0_beginKind (l : Launch) (g : GG) (sz : Nat) (h : Nat) (bcount : Int32) (bunits : Int32) (bnames : Nat) (bunitsOfThis : Int32) (blength : Int32) (bstarts : Nat) (Fbstarts : Nat → Int32) (bsteps : Nat) (bstack : Nat) (hh0 : 0 ≤ bcount.toInt ∧ bcount.toInt ≤ 4) (hh1 : 0 ≤ bunits.toInt ∧ bunits.toInt ≤ 60) (hh2 : 0 ≤ bunitsOfThis.toInt ∧ bunitsOfThis.toInt ≤ 30) (hh3 : 0 ≤ blength.toInt ∧ blength.toInt ≤ 640) (hh4 : Rg 5 0 640 Fbstarts) (hh5 : 0 ≤ bcount.toInt ∧ bcount.toInt ≤ 4) : Met l yX0_beginKind (.code yX0_beginKind cX0_beginKind 1 none :: gT) ({ frames := 0, cells := 0, slots := 0, locals := 0 }) (va_Pc [.ref h] (Pst g sz [(h, .inr (0, [.int bcount, .int bunits, .ref bnames, .int bunitsOfThis, .int blength, .ref bstarts, .ref bsteps, .ref bstack])), (bstarts, aI g 5 Fbstarts)] nX)) (va_Qv (fun (o0_F : (Nat → Int32)) => Rg 5 0 640 o0_F) (Qst g [(h, .inr (0, [.int bcount, .int bunits, .ref bnames, .int bunitsOfThis, .int blength, .ref bstarts, .ref bsteps, .ref bstack])), (bstarts, aI g 5 Fbstarts)] sz (fun (o0_F : (Nat → Int32)) => [(h, .inr (0, [.int bcount, .int bunits, .ref bnames, .int 0, .int blength, .ref bstarts, .ref bsteps, .ref bstack])), (bstarts, aI g 5 o0_F)])) (va_A [(h, .inr (0, [.int bcount, .int bunits, .ref bnames, .int bunitsOfThis, .int blength, .ref bstarts, .ref bsteps, .ref bstack])), (bstarts, aI g 5 Fbstarts)] sz)) 0 0 (va_A [(h, .inr (0, [.int bcount, .int bunits, .ref bnames, .int bunitsOfThis, .int blength, .ref bstarts, .ref bsteps, .ref bstack])), (bstarts, aI g 5 Fbstarts)] sz) := by
  refine Met.ofW (cc := cX0_beginKind) (maxL := 1) (ret := none) (by decide) rfl ?_
  intro p e s m args below meth c s₁ B hml hv
  obtain ⟨rfl, hsz, hP, hK, hD0, hX⟩ := hv
  have hx := B.exec
  have hb := B.bytes
  have hr := B.returns
  have hT : ∀ w ∈ gT, w.before _ s = true := fun w h => atoms_spec (ws := .code yX0_beginKind cX0_beginKind 1 none :: gT) B.pre w (List.mem_cons_of_mem _ h)
  have hown : s.vm.findClass RX0 = some m.cls := findClass_of_methodNamed B.named
  have hlocks := B.notSynchronized
  subst hsz
  have hD := hD0.self (sz := s.heap.size)
  generalize hAe : va_A [(h, .inr (0, [.int bcount, .int bunits, .ref bnames, .int bunitsOfThis, .int blength, .ref bstarts, .ref bsteps, .ref bstack])), (bstarts, aI g 5 Fbstarts)] s.heap.size = A at hD ⊢
  have hA : ∀ q : Nat, s.heap.size ≤ q → A q := fun q h => by rw [← hAe]; exact Or.inr h
  have hS : va_S A s.heap s.heap [] := va_S.rf
  have hl := lv_entry ([.ref h]) (n := 1) (Nat.le_of_ble_eq_true rfl)
  rw [lg_entry_eq]
  generalize (lg_sl ([.ref h]) ++ List.replicate (1 - (lg_sl ([.ref h])).length) Slot.unset).toArray = ls at hl ⊢
  have hl : lv_has ls 1 [(0, .ref h)] := hl
  refine p_nH (fun H hH => ?_)
  have hP : va_P g.1 vwCl [(h, .inr (0, [.int bcount, .int bunits, .ref bnames, .int bunitsOfThis, .int blength, .ref bstarts, .ref bsteps, .ref bstack])), (bstarts, aI g 5 Fbstarts)] H := by rw [hH]; exact hP
  have hS : va_S A s.heap H [] := by rw [hH]; exact hS
  refine lv_aload_n hx hb dX0_beginKind_0 rfl (lv_at hl 0 rfl) ?_
  refine va_get (D := g.1) (ci := 0) (v := .ref bstarts) (C := RX0) (T := TX0) (N := 8) hx hb hT inF_X0 hown hK.1 hP 0 rfl rfl 5 (by decide) (hT _ bw_121) (fun _ h9 => h9) rfl dX0_beginKind_1 ?_
  refine lv_aload_n hx hb dX0_beginKind_4 rfl (lv_at hl 0 rfl) ?_
  refine va_get (D := g.1) (ci := 0) (v := .int bcount) (C := RX0) (T := TX0) (N := 8) hx hb hT inF_X0 hown hK.1 hP 0 rfl rfl 0 (by decide) (hT _ bw_117) (fun _ h9 => h9) rfl dX0_beginKind_5 ?_
  refine lv_aload_n hx hb dX0_beginKind_8 rfl (lv_at hl 0 rfl) ?_
  refine va_get (D := g.1) (ci := 0) (v := .int blength) (C := RX0) (T := TX0) (N := 8) hx hb hT inF_X0 hown hK.1 hP 0 rfl rfl 4 (by decide) (hT _ bw_119) (fun _ h9 => h9) rfl dX0_beginKind_9 ?_
  have h_1 : vp_in bcount 5 := vp_in_iff.mpr (by omega)
  refine va_iast hx hb hK.1 hP hD hS 1 1 rfl rfl (i := bcount) (x := blength) h_1 dX0_beginKind_12 (fun H locs hP hD hS => ?_)
  have gf_2 : Rg 5 0 640 (upd Fbstarts (bcount : Int32).toNatClampNeg blength) := Rg.upd hh4 (by omega)
  generalize upd Fbstarts (bcount : Int32).toNatClampNeg blength = f_2 at hP hD gf_2
  have hP : va_P g.1 vwCl [(h, .inr (0, [.int bcount, .int bunits, .ref bnames, .int bunitsOfThis, .int blength, .ref bstarts, .ref bsteps, .ref bstack])), (bstarts, aI g 5 f_2)] H := hP
  have hD : va_D A [(h, .inr (0, [.int bcount, .int bunits, .ref bnames, .int bunitsOfThis, .int blength, .ref bstarts, .ref bsteps, .ref bstack])), (bstarts, aI g 5 f_2)] := hD
  refine lv_aload_n hx hb dX0_beginKind_13 rfl (lv_at hl 0 rfl) ?_
  refine lv_iconst (v := 0) hx hb dX0_beginKind_14 (by decide) ?_
  refine va_put (D := g.1) (ci := 0) (v := .int 0) (ty := .int) (C := RX0) (T := TX0) (N := 8) hx hb hT inF_X0 tyX0 tyX0_ok nmX0 hown hK.1 hP hD hS 0 rfl rfl 3 (by decide) (hT _ bw_122) (fun _ h9 => h9) rfl (by decide +kernel) rfl rfl (Nat.le_of_ble_eq_true rfl) dX0_beginKind_15 (fun H locs hP hD hS => ?_)
  have hP : va_P g.1 vwCl [(h, .inr (0, [.int bcount, .int bunits, .ref bnames, .int 0, .int blength, .ref bstarts, .ref bsteps, .ref bstack])), (bstarts, aI g 5 f_2)] H := hP
  have hD : va_D A [(h, .inr (0, [.int bcount, .int bunits, .ref bnames, .int 0, .int blength, .ref bstarts, .ref bsteps, .ref bstack])), (bstarts, aI g 5 f_2)] := hD
  have hP9 : va_P g.1 vwCl [(h, .inr (0, [.int bcount, .int bunits, .ref bnames, .int 0, .int blength, .ref bstarts, .ref bsteps, .ref bstack])), (bstarts, aI g 5 f_2)] H := hP.sub [0, 1] rfl
  have hD9 : va_D A [(h, .inr (0, [.int bcount, .int bunits, .ref bnames, .int 0, .int blength, .ref bstarts, .ref bsteps, .ref bstack])), (bstarts, aI g 5 f_2)] := hD.sub [0, 1] (by decide +kernel) rfl
  exact W.vret hx hb hr (fun t ht hW => ⟨⟨f_2, rfl, gf_2, by rw [ht]; exact hP9, by rw [hAe]; exact hD9⟩, hS.F ht⟩) hS.2.2 dX0_beginKind_18

theorem bw_124 : Cond.code yX0_hasRoomForUnit cX0_hasRoomForUnit 1 (some .boolean) ∈ gT := gT_tb 775 (by decide +kernel) (by decide +kernel)
theorem dX0_hasRoomForUnit_0 : decode cX0_hasRoomForUnit 0 = .ok (.aload_n 0, 1) := by decide +kernel
theorem dX0_hasRoomForUnit_1 : decode cX0_hasRoomForUnit 1 = .ok (.getfield 29, 3) := by decide +kernel
theorem dX0_hasRoomForUnit_4 : decode cX0_hasRoomForUnit 4 = .ok (.bipush 60, 2) := by decide +kernel
theorem dX0_hasRoomForUnit_6 : decode cX0_hasRoomForUnit 6 = .ok (.if_icmp .ge 16, 3) := by decide +kernel
theorem dX0_hasRoomForUnit_9 : decode cX0_hasRoomForUnit 9 = .ok (.aload_n 0, 1) := by decide +kernel
theorem dX0_hasRoomForUnit_10 : decode cX0_hasRoomForUnit 10 = .ok (.getfield 35, 3) := by decide +kernel
theorem dX0_hasRoomForUnit_13 : decode cX0_hasRoomForUnit 13 = .ok (.bipush 30, 2) := by decide +kernel
theorem dX0_hasRoomForUnit_15 : decode cX0_hasRoomForUnit 15 = .ok (.if_icmp .ge 7, 3) := by decide +kernel
theorem dX0_hasRoomForUnit_18 : decode cX0_hasRoomForUnit 18 = .ok (.iconst 1, 1) := by decide +kernel
theorem dX0_hasRoomForUnit_19 : decode cX0_hasRoomForUnit 19 = .ok (.goto 4, 3) := by decide +kernel
theorem dX0_hasRoomForUnit_22 : decode cX0_hasRoomForUnit 22 = .ok (.iconst 0, 1) := by decide +kernel
theorem dX0_hasRoomForUnit_23 : decode cX0_hasRoomForUnit 23 = .ok (.ireturn, 1) := by decide +kernel
set_option maxHeartbeats 4000000 in
set_option maxRecDepth 100000 in
theorem s_X0_hasRoomForUnit (l : Launch) (g : GG) (sz : Nat) (h : Nat) (bcount : Int32) (bunits : Int32) (bnames : Nat) (bunitsOfThis : Int32) (blength : Int32) (bstarts : Nat) (bsteps : Nat) (bstack : Nat) (hh0 : 0 ≤ bcount.toInt ∧ bcount.toInt ≤ 4) (hh1 : 0 ≤ bunits.toInt ∧ bunits.toInt ≤ 60) (hh2 : 0 ≤ bunitsOfThis.toInt ∧ bunitsOfThis.toInt ≤ 30) (hh3 : 0 ≤ blength.toInt ∧ blength.toInt ≤ 640) : Met l yX0_hasRoomForUnit (.code yX0_hasRoomForUnit cX0_hasRoomForUnit 1 (some .boolean) :: gT) ({ frames := 0, cells := 0, slots := 0, locals := 0 }) (va_Pc [.ref h] (Pst g sz [(h, .inr (0, [.int bcount, .int bunits, .ref bnames, .int bunitsOfThis, .int blength, .ref bstarts, .ref bsteps, .ref bstack]))] nX)) (va_Qi (fun (r : Int32) => fun (_ : Unit) => (r = 1 ∧ (bunits.toInt < 60 ∧ bunitsOfThis.toInt < 30)) ∨ (r = 0)) (Qst g [] sz (fun _ => [])) (va_A [] sz)) 0 0 (va_A [] sz) := by
  refine Met.ofW (cc := cX0_hasRoomForUnit) (maxL := 1) (ret := (some .boolean)) (by decide) rfl ?_
  intro p e s m args below meth c s₁ B hml hv
  obtain ⟨rfl, hsz, hP, hK, hD0, hX⟩ := hv
  have hx := B.exec
  have hb := B.bytes
  have hr := B.returns
  have hT : ∀ w ∈ gT, w.before _ s = true := fun w h => atoms_spec (ws := .code yX0_hasRoomForUnit cX0_hasRoomForUnit 1 (some .boolean) :: gT) B.pre w (List.mem_cons_of_mem _ h)
  have hown : s.vm.findClass RX0 = some m.cls := findClass_of_methodNamed B.named
  have hlocks := B.notSynchronized
  subst hsz
  have hD := hD0
  generalize hAe : va_A [] s.heap.size = A at ⊢
  have hA : ∀ q : Nat, s.heap.size ≤ q → A q := fun q h => by rw [← hAe]; exact Or.inr h
  have hS : va_S A s.heap s.heap [] := va_S.rf
  have hl := lv_entry ([.ref h]) (n := 1) (Nat.le_of_ble_eq_true rfl)
  rw [lg_entry_eq]
  generalize (lg_sl ([.ref h]) ++ List.replicate (1 - (lg_sl ([.ref h])).length) Slot.unset).toArray = ls at hl ⊢
  have hl : lv_has ls 1 [(0, .ref h)] := hl
  refine p_nH (fun H hH => ?_)
  have hP : va_P g.1 vwCl [(h, .inr (0, [.int bcount, .int bunits, .ref bnames, .int bunitsOfThis, .int blength, .ref bstarts, .ref bsteps, .ref bstack]))] H := by rw [hH]; exact hP
  have hS : va_S A s.heap H [] := by rw [hH]; exact hS
  refine lv_aload_n hx hb dX0_hasRoomForUnit_0 rfl (lv_at hl 0 rfl) ?_
  refine va_get (D := g.1) (ci := 0) (v := .int bunits) (C := RX0) (T := TX0) (N := 8) hx hb hT inF_X0 hown hK.1 hP 0 rfl rfl 1 (by decide) (hT _ bw_118) (fun _ h9 => h9) rfl dX0_hasRoomForUnit_1 ?_
  refine lv_bipush (v := 60) hx hb dX0_hasRoomForUnit_4 (by decide) ?_
  refine lv_icmp_ge (tgt := 22) hx hb dX0_hasRoomForUnit_6 (by decide) (fun c_1 => ?_) (fun c_1 => ?_)
  · have f_2 := E_le (by decide : (60 : Int32).toInt = 60) (rfl : bunits.toInt = _) c_1
    refine lv_iconst (v := 0) hx hb dX0_hasRoomForUnit_22 (by decide) ?_
    have hP9 : va_P g.1 vwCl [] H := hP.sub [] rfl
    have hD9 : va_D A [] := ⟨fun i j p q h => by simp at h, fun k q h => by simp at h⟩
    exact W.zret (v := 0) (ty := .boolean) hx hb hr rfl (fun t ht hW => ⟨⟨0, (), rfl, (Or.inr (rfl)), by rw [ht]; exact hP9, by rw [hAe]; exact hD9⟩, hS.F ht⟩) hS.2.2 dX0_hasRoomForUnit_23
  · have f_3 := E_nle (by decide : (60 : Int32).toInt = 60) (rfl : bunits.toInt = _) c_1
    refine lv_aload_n hx hb dX0_hasRoomForUnit_9 rfl (lv_at hl 0 rfl) ?_
    refine va_get (D := g.1) (ci := 0) (v := .int bunitsOfThis) (C := RX0) (T := TX0) (N := 8) hx hb hT inF_X0 hown hK.1 hP 0 rfl rfl 3 (by decide) (hT _ bw_122) (fun _ h9 => h9) rfl dX0_hasRoomForUnit_10 ?_
    refine lv_bipush (v := 30) hx hb dX0_hasRoomForUnit_13 (by decide) ?_
    refine lv_icmp_ge (tgt := 22) hx hb dX0_hasRoomForUnit_15 (by decide) (fun c_4 => ?_) (fun c_4 => ?_)
    · have f_5 := E_le (by decide : (30 : Int32).toInt = 30) (rfl : bunitsOfThis.toInt = _) c_4
      refine lv_iconst (v := 0) hx hb dX0_hasRoomForUnit_22 (by decide) ?_
      have hP9 : va_P g.1 vwCl [] H := hP.sub [] rfl
      have hD9 : va_D A [] := ⟨fun i j p q h => by simp at h, fun k q h => by simp at h⟩
      exact W.zret (v := 0) (ty := .boolean) hx hb hr rfl (fun t ht hW => ⟨⟨0, (), rfl, (Or.inr (rfl)), by rw [ht]; exact hP9, by rw [hAe]; exact hD9⟩, hS.F ht⟩) hS.2.2 dX0_hasRoomForUnit_23
    · have f_6 := E_nle (by decide : (30 : Int32).toInt = 30) (rfl : bunitsOfThis.toInt = _) c_4
      refine lv_iconst (v := 1) hx hb dX0_hasRoomForUnit_18 (by decide) ?_
      refine lv_goto (tgt := 23) hx hb dX0_hasRoomForUnit_19 (by decide) ?_
      have hP9 : va_P g.1 vwCl [] H := hP.sub [] rfl
      have hD9 : va_D A [] := ⟨fun i j p q h => by simp at h, fun k q h => by simp at h⟩
      exact W.zret (v := 1) (ty := .boolean) hx hb hr rfl (fun t ht hW => ⟨⟨1, (), rfl, (Or.inl ⟨rfl, by omega⟩), by rw [ht]; exact hP9, by rw [hAe]; exact hD9⟩, hS.F ht⟩) hS.2.2 dX0_hasRoomForUnit_23

theorem bw_125 : Cond.fieldLink RX0 19 "DuelDelays$Formulas" "steps" "[I" ∈ gT := gT_tb 210 (by decide +kernel) (by decide +kernel)
theorem bw_126 : Cond.code yX0_addStep cX0_addStep 2 none ∈ gT := gT_tb 755 (by decide +kernel) (by decide +kernel)
theorem dX0_addStep_0 : decode cX0_addStep 0 = .ok (.aload_n 0, 1) := by decide +kernel
theorem dX0_addStep_1 : decode cX0_addStep 1 = .ok (.getfield 32, 3) := by decide +kernel
theorem dX0_addStep_4 : decode cX0_addStep 4 = .ok (.sipush 640, 3) := by decide +kernel
theorem dX0_addStep_7 : decode cX0_addStep 7 = .ok (.if_icmp .ge 23, 3) := by decide +kernel
theorem dX0_addStep_10 : decode cX0_addStep 10 = .ok (.aload_n 0, 1) := by decide +kernel
theorem dX0_addStep_11 : decode cX0_addStep 11 = .ok (.getfield 19, 3) := by decide +kernel
theorem dX0_addStep_14 : decode cX0_addStep 14 = .ok (.aload_n 0, 1) := by decide +kernel
theorem dX0_addStep_15 : decode cX0_addStep 15 = .ok (.getfield 32, 3) := by decide +kernel
theorem dX0_addStep_18 : decode cX0_addStep 18 = .ok (.iload_n 1, 1) := by decide +kernel
theorem dX0_addStep_19 : decode cX0_addStep 19 = .ok (.iastore, 1) := by decide +kernel
theorem dX0_addStep_20 : decode cX0_addStep 20 = .ok (.aload_n 0, 1) := by decide +kernel
theorem dX0_addStep_21 : decode cX0_addStep 21 = .ok (.dup, 1) := by decide +kernel
theorem dX0_addStep_22 : decode cX0_addStep 22 = .ok (.getfield 32, 3) := by decide +kernel
theorem dX0_addStep_25 : decode cX0_addStep 25 = .ok (.iconst 1, 1) := by decide +kernel
theorem dX0_addStep_26 : decode cX0_addStep 26 = .ok (.iadd, 1) := by decide +kernel
theorem dX0_addStep_27 : decode cX0_addStep 27 = .ok (.putfield 32, 3) := by decide +kernel
theorem dX0_addStep_30 : decode cX0_addStep 30 = .ok (.return_, 1) := by decide +kernel
set_option maxHeartbeats 4000000 in
set_option maxRecDepth 100000 in
theorem s_X0_addStep (l : Launch) (g : GG) (sz : Nat) (h : Nat) (bcount : Int32) (bunits : Int32) (bnames : Nat) (bunitsOfThis : Int32) (blength : Int32) (bstarts : Nat) (bsteps : Nat) (Fbsteps : Nat → Int32) (bstack : Nat) (p0 : Int32) (hh0 : 0 ≤ bcount.toInt ∧ bcount.toInt ≤ 4) (hh1 : 0 ≤ bunits.toInt ∧ bunits.toInt ≤ 60) (hh2 : 0 ≤ bunitsOfThis.toInt ∧ bunitsOfThis.toInt ≤ 30) (hh3 : 0 ≤ blength.toInt ∧ blength.toInt ≤ 640) : Met l yX0_addStep (.code yX0_addStep cX0_addStep 2 none :: gT) ({ frames := 0, cells := 0, slots := 0, locals := 0 }) (va_Pc [.ref h, .int p0] (Pst g sz [(h, .inr (0, [.int bcount, .int bunits, .ref bnames, .int bunitsOfThis, .int blength, .ref bstarts, .ref bsteps, .ref bstack])), (bsteps, aI g 640 Fbsteps)] nX)) (va_Qv (fun ((o0_length, o1_F) : Int32 × (Nat → Int32)) => 0 ≤ o0_length.toInt ∧ o0_length.toInt ≤ 640) (Qst g [(h, .inr (0, [.int bcount, .int bunits, .ref bnames, .int bunitsOfThis, .int blength, .ref bstarts, .ref bsteps, .ref bstack])), (bsteps, aI g 640 Fbsteps)] sz (fun ((o0_length, o1_F) : Int32 × (Nat → Int32)) => [(h, .inr (0, [.int bcount, .int bunits, .ref bnames, .int bunitsOfThis, .int o0_length, .ref bstarts, .ref bsteps, .ref bstack])), (bsteps, aI g 640 o1_F)])) (va_A [(h, .inr (0, [.int bcount, .int bunits, .ref bnames, .int bunitsOfThis, .int blength, .ref bstarts, .ref bsteps, .ref bstack])), (bsteps, aI g 640 Fbsteps)] sz)) 0 0 (va_A [(h, .inr (0, [.int bcount, .int bunits, .ref bnames, .int bunitsOfThis, .int blength, .ref bstarts, .ref bsteps, .ref bstack])), (bsteps, aI g 640 Fbsteps)] sz) := by
  refine Met.ofW (cc := cX0_addStep) (maxL := 2) (ret := none) (by decide) rfl ?_
  intro p e s m args below meth c s₁ B hml hv
  obtain ⟨rfl, hsz, hP, hK, hD0, hX⟩ := hv
  have hx := B.exec
  have hb := B.bytes
  have hr := B.returns
  have hT : ∀ w ∈ gT, w.before _ s = true := fun w h => atoms_spec (ws := .code yX0_addStep cX0_addStep 2 none :: gT) B.pre w (List.mem_cons_of_mem _ h)
  have hown : s.vm.findClass RX0 = some m.cls := findClass_of_methodNamed B.named
  have hlocks := B.notSynchronized
  subst hsz
  have hD := hD0.self (sz := s.heap.size)
  generalize hAe : va_A [(h, .inr (0, [.int bcount, .int bunits, .ref bnames, .int bunitsOfThis, .int blength, .ref bstarts, .ref bsteps, .ref bstack])), (bsteps, aI g 640 Fbsteps)] s.heap.size = A at hD ⊢
  have hA : ∀ q : Nat, s.heap.size ≤ q → A q := fun q h => by rw [← hAe]; exact Or.inr h
  have hS : va_S A s.heap s.heap [] := va_S.rf
  have hl := lv_entry ([.ref h, .int p0]) (n := 2) (Nat.le_of_ble_eq_true rfl)
  rw [lg_entry_eq]
  generalize (lg_sl ([.ref h, .int p0]) ++ List.replicate (2 - (lg_sl ([.ref h, .int p0])).length) Slot.unset).toArray = ls at hl ⊢
  have hl : lv_has ls 2 [(0, .ref h), (1, .int p0)] := hl
  refine p_nH (fun H hH => ?_)
  have hP : va_P g.1 vwCl [(h, .inr (0, [.int bcount, .int bunits, .ref bnames, .int bunitsOfThis, .int blength, .ref bstarts, .ref bsteps, .ref bstack])), (bsteps, aI g 640 Fbsteps)] H := by rw [hH]; exact hP
  have hS : va_S A s.heap H [] := by rw [hH]; exact hS
  refine lv_aload_n hx hb dX0_addStep_0 rfl (lv_at hl 0 rfl) ?_
  refine va_get (D := g.1) (ci := 0) (v := .int blength) (C := RX0) (T := TX0) (N := 8) hx hb hT inF_X0 hown hK.1 hP 0 rfl rfl 4 (by decide) (hT _ bw_119) (fun _ h9 => h9) rfl dX0_addStep_1 ?_
  refine lv_sipush (v := 640) hx hb dX0_addStep_4 (by decide) ?_
  refine lv_icmp_ge (tgt := 30) hx hb dX0_addStep_7 (by decide) (fun c_1 => ?_) (fun c_1 => ?_)
  · have f_2 := E_le (by decide : (640 : Int32).toInt = 640) (rfl : blength.toInt = _) c_1
    have hP9 : va_P g.1 vwCl [(h, .inr (0, [.int bcount, .int bunits, .ref bnames, .int bunitsOfThis, .int blength, .ref bstarts, .ref bsteps, .ref bstack])), (bsteps, aI g 640 Fbsteps)] H := hP.sub [0, 1] rfl
    have hD9 : va_D A [(h, .inr (0, [.int bcount, .int bunits, .ref bnames, .int bunitsOfThis, .int blength, .ref bstarts, .ref bsteps, .ref bstack])), (bsteps, aI g 640 Fbsteps)] := hD.sub [0, 1] (by decide +kernel) rfl
    exact W.vret hx hb hr (fun t ht hW => ⟨⟨(blength, Fbsteps), rfl, (by first | with_reducible assumption | omega), by rw [ht]; exact hP9, by rw [hAe]; exact hD9⟩, hS.F ht⟩) hS.2.2 dX0_addStep_30
  · have f_3 := E_nle (by decide : (640 : Int32).toInt = 640) (rfl : blength.toInt = _) c_1
    refine lv_aload_n hx hb dX0_addStep_10 rfl (lv_at hl 0 rfl) ?_
    refine va_get (D := g.1) (ci := 0) (v := .ref bsteps) (C := RX0) (T := TX0) (N := 8) hx hb hT inF_X0 hown hK.1 hP 0 rfl rfl 6 (by decide) (hT _ bw_125) (fun _ h9 => h9) rfl dX0_addStep_11 ?_
    refine lv_aload_n hx hb dX0_addStep_14 rfl (lv_at hl 0 rfl) ?_
    refine va_get (D := g.1) (ci := 0) (v := .int blength) (C := RX0) (T := TX0) (N := 8) hx hb hT inF_X0 hown hK.1 hP 0 rfl rfl 4 (by decide) (hT _ bw_119) (fun _ h9 => h9) rfl dX0_addStep_15 ?_
    refine lv_iload_n hx hb dX0_addStep_18 rfl (lv_at hl 1 rfl) ?_
    have h_4 : vp_in blength 640 := vp_in_iff.mpr (by omega)
    refine va_iast hx hb hK.1 hP hD hS 1 1 rfl rfl (i := blength) (x := p0) h_4 dX0_addStep_19 (fun H locs hP hD hS => ?_)
    generalize upd Fbsteps (blength : Int32).toNatClampNeg p0 = f_5 at hP hD
    have hP : va_P g.1 vwCl [(h, .inr (0, [.int bcount, .int bunits, .ref bnames, .int bunitsOfThis, .int blength, .ref bstarts, .ref bsteps, .ref bstack])), (bsteps, aI g 640 f_5)] H := hP
    have hD : va_D A [(h, .inr (0, [.int bcount, .int bunits, .ref bnames, .int bunitsOfThis, .int blength, .ref bstarts, .ref bsteps, .ref bstack])), (bsteps, aI g 640 f_5)] := hD
    refine lv_aload_n hx hb dX0_addStep_20 rfl (lv_at hl 0 rfl) ?_
    refine lv_dup hx hb dX0_addStep_21 rfl ?_
    refine va_get (D := g.1) (ci := 0) (v := .int blength) (C := RX0) (T := TX0) (N := 8) hx hb hT inF_X0 hown hK.1 hP 0 rfl rfl 4 (by decide) (hT _ bw_119) (fun _ h9 => h9) rfl dX0_addStep_22 ?_
    refine lv_iconst (v := 1) hx hb dX0_addStep_25 (by decide) ?_
    refine lv_iadd hx hb dX0_addStep_26 ?_
    refine lv_topi (fun x_6 ex_6 => ?_)
    have fx_6 : x_6.toInt = blength.toInt + 1 := by rw [ex_6]; exact I_add rfl (by decide : (1 : Int32).toInt = 1) (by omega) (by omega)
    refine va_put (D := g.1) (ci := 0) (v := .int x_6) (ty := .int) (C := RX0) (T := TX0) (N := 8) hx hb hT inF_X0 tyX0 tyX0_ok nmX0 hown hK.1 hP hD hS 0 rfl rfl 4 (by decide) (hT _ bw_119) (fun _ h9 => h9) rfl (by decide +kernel) rfl rfl (Nat.le_of_ble_eq_true rfl) dX0_addStep_27 (fun H locs hP hD hS => ?_)
    have hP : va_P g.1 vwCl [(h, .inr (0, [.int bcount, .int bunits, .ref bnames, .int bunitsOfThis, .int x_6, .ref bstarts, .ref bsteps, .ref bstack])), (bsteps, aI g 640 f_5)] H := hP
    have hD : va_D A [(h, .inr (0, [.int bcount, .int bunits, .ref bnames, .int bunitsOfThis, .int x_6, .ref bstarts, .ref bsteps, .ref bstack])), (bsteps, aI g 640 f_5)] := hD
    have hP9 : va_P g.1 vwCl [(h, .inr (0, [.int bcount, .int bunits, .ref bnames, .int bunitsOfThis, .int x_6, .ref bstarts, .ref bsteps, .ref bstack])), (bsteps, aI g 640 f_5)] H := hP.sub [0, 1] rfl
    have hD9 : va_D A [(h, .inr (0, [.int bcount, .int bunits, .ref bnames, .int bunitsOfThis, .int x_6, .ref bstarts, .ref bsteps, .ref bstack])), (bsteps, aI g 640 f_5)] := hD.sub [0, 1] (by decide +kernel) rfl
    exact W.vret hx hb hr (fun t ht hW => ⟨⟨(x_6, f_5), rfl, (by first | with_reducible assumption | omega), by rw [ht]; exact hP9, by rw [hAe]; exact hD9⟩, hS.F ht⟩) hS.2.2 dX0_addStep_30

theorem bw_127 : Cond.code yX0_leaf cX0_leaf 4 (some .int) ∈ gT := gT_tb 911 (by decide +kernel) (by decide +kernel)
theorem dX0_leaf_0 : decode cX0_leaf 0 = .ok (.iload_n 0, 1) := by decide +kernel
theorem dX0_leaf_1 : decode cX0_leaf 1 = .ok (.tableswitch 33 (-3) (-1) #[31, 29, 27], 27) := by decide +kernel
theorem dX0_leaf_28 : decode cX0_leaf 28 = .ok (.iload_n 1, 1) := by decide +kernel
theorem dX0_leaf_29 : decode cX0_leaf 29 = .ok (.ireturn, 1) := by decide +kernel
theorem dX0_leaf_30 : decode cX0_leaf 30 = .ok (.iload_n 2, 1) := by decide +kernel
theorem dX0_leaf_31 : decode cX0_leaf 31 = .ok (.ireturn, 1) := by decide +kernel
theorem dX0_leaf_32 : decode cX0_leaf 32 = .ok (.iload_n 3, 1) := by decide +kernel
theorem dX0_leaf_33 : decode cX0_leaf 33 = .ok (.ireturn, 1) := by decide +kernel
theorem dX0_leaf_34 : decode cX0_leaf 34 = .ok (.iload_n 0, 1) := by decide +kernel
theorem dX0_leaf_35 : decode cX0_leaf 35 = .ok (.ireturn, 1) := by decide +kernel
set_option maxHeartbeats 4000000 in
set_option maxRecDepth 100000 in
theorem s_X0_leaf (l : Launch) (g : GG) (sz : Nat) (p0 : Int32) (p1 : Int32) (p2 : Int32) (p3 : Int32) : Met l yX0_leaf (.code yX0_leaf cX0_leaf 4 (some .int) :: gT) ({ frames := 0, cells := 0, slots := 0, locals := 0 }) (va_Pc [.int p0, .int p1, .int p2, .int p3] (Pst g sz [] nX)) (va_Qi (fun (r : Int32) => fun (_ : Unit) => True) (Qst g [] sz (fun _ => [])) (va_A [] sz)) 0 0 (va_A [] sz) := by
  refine Met.ofW (cc := cX0_leaf) (maxL := 4) (ret := (some .int)) (by decide) rfl ?_
  intro p e s m args below meth c s₁ B hml hv
  obtain ⟨rfl, hsz, hP, hK, hD0, hX⟩ := hv
  have hx := B.exec
  have hb := B.bytes
  have hr := B.returns
  have hT : ∀ w ∈ gT, w.before _ s = true := fun w h => atoms_spec (ws := .code yX0_leaf cX0_leaf 4 (some .int) :: gT) B.pre w (List.mem_cons_of_mem _ h)
  have hown : s.vm.findClass RX0 = some m.cls := findClass_of_methodNamed B.named
  have hlocks := B.notSynchronized
  subst hsz
  have hD := hD0
  generalize hAe : va_A [] s.heap.size = A at ⊢
  have hA : ∀ q : Nat, s.heap.size ≤ q → A q := fun q h => by rw [← hAe]; exact Or.inr h
  have hS : va_S A s.heap s.heap [] := va_S.rf
  have hl := lv_entry ([.int p0, .int p1, .int p2, .int p3]) (n := 4) (Nat.le_of_ble_eq_true rfl)
  rw [lg_entry_eq]
  generalize (lg_sl ([.int p0, .int p1, .int p2, .int p3]) ++ List.replicate (4 - (lg_sl ([.int p0, .int p1, .int p2, .int p3])).length) Slot.unset).toArray = ls at hl ⊢
  have hl : lv_has ls 4 [(0, .int p0), (1, .int p1), (2, .int p2), (3, .int p3)] := hl
  refine p_nH (fun H hH => ?_)
  have hP : va_P g.1 vwCl [] H := by rw [hH]; exact hP
  have hS : va_S A s.heap H [] := by rw [hH]; exact hS
  refine lv_iload_n hx hb dX0_leaf_0 rfl (lv_at hl 0 rfl) ?_
  rcases tsplitL p0 (-3) 3 (by decide) (by decide) with h_1 | ⟨j, hj, eh_1⟩
  · refine lv_tableOut (tgt := 34) hx hb dX0_leaf_1 (by omega) (by decide) ?_
    refine lv_iload_n hx hb dX0_leaf_34 rfl (lv_at hl 0 rfl) ?_
    have hP9 : va_P g.1 vwCl [] H := hP.sub [] rfl
    have hD9 : va_D A [] := ⟨fun i j p q h => by simp at h, fun k q h => by simp at h⟩
    exact W.iret (v := p0) hx hb hr (fun t ht hW => ⟨⟨p0, (), rfl, trivial, by rw [ht]; exact hP9, by rw [hAe]; exact hD9⟩, hS.F ht⟩) hS.2.2 dX0_leaf_35
  · rcases (show j = 0 ∨ j = 1 ∨ j = 2 by omega) with rfl | rfl | rfl
    · obtain rfl : p0 = (-3) := eh_1.trans (by decide)
      refine lv_tableIn (tgt := 32) hx hb dX0_leaf_1 (by decide) (by decide) (off := 31) (by decide) (by decide) ?_
      refine lv_iload_n hx hb dX0_leaf_32 rfl (lv_at hl 3 rfl) ?_
      have hP9 : va_P g.1 vwCl [] H := hP.sub [] rfl
      have hD9 : va_D A [] := ⟨fun i j p q h => by simp at h, fun k q h => by simp at h⟩
      exact W.iret (v := p3) hx hb hr (fun t ht hW => ⟨⟨p3, (), rfl, trivial, by rw [ht]; exact hP9, by rw [hAe]; exact hD9⟩, hS.F ht⟩) hS.2.2 dX0_leaf_33
    · obtain rfl : p0 = (-2) := eh_1.trans (by decide)
      refine lv_tableIn (tgt := 30) hx hb dX0_leaf_1 (by decide) (by decide) (off := 29) (by decide) (by decide) ?_
      refine lv_iload_n hx hb dX0_leaf_30 rfl (lv_at hl 2 rfl) ?_
      have hP9 : va_P g.1 vwCl [] H := hP.sub [] rfl
      have hD9 : va_D A [] := ⟨fun i j p q h => by simp at h, fun k q h => by simp at h⟩
      exact W.iret (v := p2) hx hb hr (fun t ht hW => ⟨⟨p2, (), rfl, trivial, by rw [ht]; exact hP9, by rw [hAe]; exact hD9⟩, hS.F ht⟩) hS.2.2 dX0_leaf_31
    · obtain rfl : p0 = (-1) := eh_1.trans (by decide)
      refine lv_tableIn (tgt := 28) hx hb dX0_leaf_1 (by decide) (by decide) (off := 27) (by decide) (by decide) ?_
      refine lv_iload_n hx hb dX0_leaf_28 rfl (lv_at hl 1 rfl) ?_
      have hP9 : va_P g.1 vwCl [] H := hP.sub [] rfl
      have hD9 : va_D A [] := ⟨fun i j p q h => by simp at h, fun k q h => by simp at h⟩
      exact W.iret (v := p1) hx hb hr (fun t ht hW => ⟨⟨p1, (), rfl, trivial, by rw [ht]; exact hP9, by rw [hAe]; exact hD9⟩, hS.F ht⟩) hS.2.2 dX0_leaf_29

theorem bw_128 : Cond.code yX0_joined cX0_joined 3 (some .int) ∈ gT := gT_tb 914 (by decide +kernel) (by decide +kernel)
theorem dX0_joined_0 : decode cX0_joined 0 = .ok (.iload_n 0, 1) := by decide +kernel
theorem dX0_joined_1 : decode cX0_joined 1 = .ok (.tableswitch 152 (-14) (-5) #[140, 128, 124, 120, 116, 105, 94, 83, 69, 55], 55) := by decide +kernel
theorem dX0_joined_56 : decode cX0_joined 56 = .ok (.iload_n 1, 1) := by decide +kernel
theorem dX0_joined_57 : decode cX0_joined 57 = .ok (.ifCond .ne 7, 3) := by decide +kernel
theorem dX0_joined_60 : decode cX0_joined 60 = .ok (.iload_n 2, 1) := by decide +kernel
theorem dX0_joined_61 : decode cX0_joined 61 = .ok (.ifCond .eq 7, 3) := by decide +kernel
theorem dX0_joined_64 : decode cX0_joined 64 = .ok (.iconst 1, 1) := by decide +kernel
theorem dX0_joined_65 : decode cX0_joined 65 = .ok (.goto 4, 3) := by decide +kernel
theorem dX0_joined_68 : decode cX0_joined 68 = .ok (.iconst 0, 1) := by decide +kernel
theorem dX0_joined_69 : decode cX0_joined 69 = .ok (.ireturn, 1) := by decide +kernel
theorem dX0_joined_70 : decode cX0_joined 70 = .ok (.iload_n 1, 1) := by decide +kernel
theorem dX0_joined_71 : decode cX0_joined 71 = .ok (.ifCond .eq 11, 3) := by decide +kernel
theorem dX0_joined_74 : decode cX0_joined 74 = .ok (.iload_n 2, 1) := by decide +kernel
theorem dX0_joined_75 : decode cX0_joined 75 = .ok (.ifCond .eq 7, 3) := by decide +kernel
theorem dX0_joined_78 : decode cX0_joined 78 = .ok (.iconst 1, 1) := by decide +kernel
theorem dX0_joined_79 : decode cX0_joined 79 = .ok (.goto 4, 3) := by decide +kernel
theorem dX0_joined_82 : decode cX0_joined 82 = .ok (.iconst 0, 1) := by decide +kernel
theorem dX0_joined_83 : decode cX0_joined 83 = .ok (.ireturn, 1) := by decide +kernel
theorem dX0_joined_84 : decode cX0_joined 84 = .ok (.iload_n 1, 1) := by decide +kernel
theorem dX0_joined_85 : decode cX0_joined 85 = .ok (.iload_n 2, 1) := by decide +kernel
theorem dX0_joined_86 : decode cX0_joined 86 = .ok (.if_icmp .ge 7, 3) := by decide +kernel
theorem dX0_joined_89 : decode cX0_joined 89 = .ok (.iconst 1, 1) := by decide +kernel
theorem dX0_joined_90 : decode cX0_joined 90 = .ok (.goto 4, 3) := by decide +kernel
theorem dX0_joined_93 : decode cX0_joined 93 = .ok (.iconst 0, 1) := by decide +kernel
theorem dX0_joined_94 : decode cX0_joined 94 = .ok (.ireturn, 1) := by decide +kernel
theorem dX0_joined_95 : decode cX0_joined 95 = .ok (.iload_n 1, 1) := by decide +kernel
theorem dX0_joined_96 : decode cX0_joined 96 = .ok (.iload_n 2, 1) := by decide +kernel
theorem dX0_joined_97 : decode cX0_joined 97 = .ok (.if_icmp .le 7, 3) := by decide +kernel
theorem dX0_joined_100 : decode cX0_joined 100 = .ok (.iconst 1, 1) := by decide +kernel
theorem dX0_joined_101 : decode cX0_joined 101 = .ok (.goto 4, 3) := by decide +kernel
theorem dX0_joined_104 : decode cX0_joined 104 = .ok (.iconst 0, 1) := by decide +kernel
theorem dX0_joined_105 : decode cX0_joined 105 = .ok (.ireturn, 1) := by decide +kernel
theorem dX0_joined_106 : decode cX0_joined 106 = .ok (.iload_n 1, 1) := by decide +kernel
theorem dX0_joined_107 : decode cX0_joined 107 = .ok (.iload_n 2, 1) := by decide +kernel
theorem dX0_joined_108 : decode cX0_joined 108 = .ok (.if_icmp .ne 7, 3) := by decide +kernel
theorem dX0_joined_111 : decode cX0_joined 111 = .ok (.iconst 1, 1) := by decide +kernel
theorem dX0_joined_112 : decode cX0_joined 112 = .ok (.goto 4, 3) := by decide +kernel
theorem dX0_joined_115 : decode cX0_joined 115 = .ok (.iconst 0, 1) := by decide +kernel
theorem dX0_joined_116 : decode cX0_joined 116 = .ok (.ireturn, 1) := by decide +kernel
theorem dX0_joined_117 : decode cX0_joined 117 = .ok (.iload_n 1, 1) := by decide +kernel
theorem dX0_joined_118 : decode cX0_joined 118 = .ok (.iload_n 2, 1) := by decide +kernel
theorem dX0_joined_119 : decode cX0_joined 119 = .ok (.iadd, 1) := by decide +kernel
theorem dX0_joined_120 : decode cX0_joined 120 = .ok (.ireturn, 1) := by decide +kernel
theorem dX0_joined_121 : decode cX0_joined 121 = .ok (.iload_n 1, 1) := by decide +kernel
theorem dX0_joined_122 : decode cX0_joined 122 = .ok (.iload_n 2, 1) := by decide +kernel
theorem dX0_joined_123 : decode cX0_joined 123 = .ok (.isub, 1) := by decide +kernel
theorem dX0_joined_124 : decode cX0_joined 124 = .ok (.ireturn, 1) := by decide +kernel
theorem dX0_joined_125 : decode cX0_joined 125 = .ok (.iload_n 1, 1) := by decide +kernel
theorem dX0_joined_126 : decode cX0_joined 126 = .ok (.iload_n 2, 1) := by decide +kernel
theorem dX0_joined_127 : decode cX0_joined 127 = .ok (.imul, 1) := by decide +kernel
theorem dX0_joined_128 : decode cX0_joined 128 = .ok (.ireturn, 1) := by decide +kernel
theorem dX0_joined_129 : decode cX0_joined 129 = .ok (.iload_n 2, 1) := by decide +kernel
theorem dX0_joined_130 : decode cX0_joined 130 = .ok (.ifCond .ne 7, 3) := by decide +kernel
theorem dX0_joined_133 : decode cX0_joined 133 = .ok (.iconst 0, 1) := by decide +kernel
theorem dX0_joined_134 : decode cX0_joined 134 = .ok (.goto 6, 3) := by decide +kernel
theorem dX0_joined_137 : decode cX0_joined 137 = .ok (.iload_n 1, 1) := by decide +kernel
theorem dX0_joined_138 : decode cX0_joined 138 = .ok (.iload_n 2, 1) := by decide +kernel
theorem dX0_joined_139 : decode cX0_joined 139 = .ok (.idiv, 1) := by decide +kernel
theorem dX0_joined_140 : decode cX0_joined 140 = .ok (.ireturn, 1) := by decide +kernel
theorem dX0_joined_141 : decode cX0_joined 141 = .ok (.iload_n 2, 1) := by decide +kernel
theorem dX0_joined_142 : decode cX0_joined 142 = .ok (.ifCond .ne 7, 3) := by decide +kernel
theorem dX0_joined_145 : decode cX0_joined 145 = .ok (.iconst 0, 1) := by decide +kernel
theorem dX0_joined_146 : decode cX0_joined 146 = .ok (.goto 6, 3) := by decide +kernel
theorem dX0_joined_149 : decode cX0_joined 149 = .ok (.iload_n 1, 1) := by decide +kernel
theorem dX0_joined_150 : decode cX0_joined 150 = .ok (.iload_n 2, 1) := by decide +kernel
theorem dX0_joined_151 : decode cX0_joined 151 = .ok (.irem, 1) := by decide +kernel
theorem dX0_joined_152 : decode cX0_joined 152 = .ok (.ireturn, 1) := by decide +kernel
theorem dX0_joined_153 : decode cX0_joined 153 = .ok (.iconst 0, 1) := by decide +kernel
theorem dX0_joined_154 : decode cX0_joined 154 = .ok (.ireturn, 1) := by decide +kernel
set_option maxHeartbeats 4000000 in
set_option maxRecDepth 100000 in
theorem s_X0_joined (l : Launch) (g : GG) (sz : Nat) (p0 : Int32) (p1 : Int32) (p2 : Int32) : Met l yX0_joined (.code yX0_joined cX0_joined 3 (some .int) :: gT) ({ frames := 0, cells := 0, slots := 0, locals := 0 }) (va_Pc [.int p0, .int p1, .int p2] (Pst g sz [] nX)) (va_Qi (fun (r : Int32) => fun (_ : Unit) => True) (Qst g [] sz (fun _ => [])) (va_A [] sz)) 0 0 (va_A [] sz) := by
  refine Met.ofW (cc := cX0_joined) (maxL := 3) (ret := (some .int)) (by decide) rfl ?_
  intro p e s m args below meth c s₁ B hml hv
  obtain ⟨rfl, hsz, hP, hK, hD0, hX⟩ := hv
  have hx := B.exec
  have hb := B.bytes
  have hr := B.returns
  have hT : ∀ w ∈ gT, w.before _ s = true := fun w h => atoms_spec (ws := .code yX0_joined cX0_joined 3 (some .int) :: gT) B.pre w (List.mem_cons_of_mem _ h)
  have hown : s.vm.findClass RX0 = some m.cls := findClass_of_methodNamed B.named
  have hlocks := B.notSynchronized
  subst hsz
  have hD := hD0
  generalize hAe : va_A [] s.heap.size = A at ⊢
  have hA : ∀ q : Nat, s.heap.size ≤ q → A q := fun q h => by rw [← hAe]; exact Or.inr h
  have hS : va_S A s.heap s.heap [] := va_S.rf
  have hl := lv_entry ([.int p0, .int p1, .int p2]) (n := 3) (Nat.le_of_ble_eq_true rfl)
  rw [lg_entry_eq]
  generalize (lg_sl ([.int p0, .int p1, .int p2]) ++ List.replicate (3 - (lg_sl ([.int p0, .int p1, .int p2])).length) Slot.unset).toArray = ls at hl ⊢
  have hl : lv_has ls 3 [(0, .int p0), (1, .int p1), (2, .int p2)] := hl
  refine p_nH (fun H hH => ?_)
  have hP : va_P g.1 vwCl [] H := by rw [hH]; exact hP
  have hS : va_S A s.heap H [] := by rw [hH]; exact hS
  refine lv_iload_n hx hb dX0_joined_0 rfl (lv_at hl 0 rfl) ?_
  rcases tsplitL p0 (-14) 10 (by decide) (by decide) with h_1 | ⟨j, hj, eh_1⟩
  · refine lv_tableOut (tgt := 153) hx hb dX0_joined_1 (by omega) (by decide) ?_
    refine lv_iconst (v := 0) hx hb dX0_joined_153 (by decide) ?_
    have hP9 : va_P g.1 vwCl [] H := hP.sub [] rfl
    have hD9 : va_D A [] := ⟨fun i j p q h => by simp at h, fun k q h => by simp at h⟩
    exact W.iret (v := 0) hx hb hr (fun t ht hW => ⟨⟨0, (), rfl, trivial, by rw [ht]; exact hP9, by rw [hAe]; exact hD9⟩, hS.F ht⟩) hS.2.2 dX0_joined_154
  · rcases (show j = 0 ∨ j = 1 ∨ j = 2 ∨ j = 3 ∨ j = 4 ∨ j = 5 ∨ j = 6 ∨ j = 7 ∨ j = 8 ∨ j = 9 by omega) with rfl | rfl | rfl | rfl | rfl | rfl | rfl | rfl | rfl | rfl
    · obtain rfl : p0 = (-14) := eh_1.trans (by decide)
      refine lv_tableIn (tgt := 141) hx hb dX0_joined_1 (by decide) (by decide) (off := 140) (by decide) (by decide) ?_
      refine lv_iload_n hx hb dX0_joined_141 rfl (lv_at hl 2 rfl) ?_
      refine lv_if_ne (tgt := 149) hx hb dX0_joined_142 (by decide) (fun c_2 => ?_) (fun c_2 => ?_)
      · have f_3 := E_ne (rfl : p2.toInt = _) (by decide : (0 : Int32).toInt = 0) c_2
        refine lv_iload_n hx hb dX0_joined_149 rfl (lv_at hl 1 rfl) ?_
        refine lv_iload_n hx hb dX0_joined_150 rfl (lv_at hl 2 rfl) ?_
        refine lv_irem hx hb dX0_joined_151 (L_ne rfl (by decide : (0 : Int32).toInt = 0) (by omega)) ?_
        refine lv_topi (fun x_4 ex_4 => ?_)
        have hP9 : va_P g.1 vwCl [] H := hP.sub [] rfl
        have hD9 : va_D A [] := ⟨fun i j p q h => by simp at h, fun k q h => by simp at h⟩
        exact W.iret (v := x_4) hx hb hr (fun t ht hW => ⟨⟨x_4, (), rfl, trivial, by rw [ht]; exact hP9, by rw [hAe]; exact hD9⟩, hS.F ht⟩) hS.2.2 dX0_joined_152
      · have f_5 := E_eq (rfl : p2.toInt = _) (by decide : (0 : Int32).toInt = 0) c_2
        refine lv_iconst (v := 0) hx hb dX0_joined_145 (by decide) ?_
        refine lv_goto (tgt := 152) hx hb dX0_joined_146 (by decide) ?_
        have hP9 : va_P g.1 vwCl [] H := hP.sub [] rfl
        have hD9 : va_D A [] := ⟨fun i j p q h => by simp at h, fun k q h => by simp at h⟩
        exact W.iret (v := 0) hx hb hr (fun t ht hW => ⟨⟨0, (), rfl, trivial, by rw [ht]; exact hP9, by rw [hAe]; exact hD9⟩, hS.F ht⟩) hS.2.2 dX0_joined_152
    · obtain rfl : p0 = (-13) := eh_1.trans (by decide)
      refine lv_tableIn (tgt := 129) hx hb dX0_joined_1 (by decide) (by decide) (off := 128) (by decide) (by decide) ?_
      refine lv_iload_n hx hb dX0_joined_129 rfl (lv_at hl 2 rfl) ?_
      refine lv_if_ne (tgt := 137) hx hb dX0_joined_130 (by decide) (fun c_6 => ?_) (fun c_6 => ?_)
      · have f_7 := E_ne (rfl : p2.toInt = _) (by decide : (0 : Int32).toInt = 0) c_6
        refine lv_iload_n hx hb dX0_joined_137 rfl (lv_at hl 1 rfl) ?_
        refine lv_iload_n hx hb dX0_joined_138 rfl (lv_at hl 2 rfl) ?_
        refine lv_idiv hx hb dX0_joined_139 (L_ne rfl (by decide : (0 : Int32).toInt = 0) (by omega)) ?_
        refine lv_topi (fun x_8 ex_8 => ?_)
        have hP9 : va_P g.1 vwCl [] H := hP.sub [] rfl
        have hD9 : va_D A [] := ⟨fun i j p q h => by simp at h, fun k q h => by simp at h⟩
        exact W.iret (v := x_8) hx hb hr (fun t ht hW => ⟨⟨x_8, (), rfl, trivial, by rw [ht]; exact hP9, by rw [hAe]; exact hD9⟩, hS.F ht⟩) hS.2.2 dX0_joined_140
      · have f_9 := E_eq (rfl : p2.toInt = _) (by decide : (0 : Int32).toInt = 0) c_6
        refine lv_iconst (v := 0) hx hb dX0_joined_133 (by decide) ?_
        refine lv_goto (tgt := 140) hx hb dX0_joined_134 (by decide) ?_
        have hP9 : va_P g.1 vwCl [] H := hP.sub [] rfl
        have hD9 : va_D A [] := ⟨fun i j p q h => by simp at h, fun k q h => by simp at h⟩
        exact W.iret (v := 0) hx hb hr (fun t ht hW => ⟨⟨0, (), rfl, trivial, by rw [ht]; exact hP9, by rw [hAe]; exact hD9⟩, hS.F ht⟩) hS.2.2 dX0_joined_140
    · obtain rfl : p0 = (-12) := eh_1.trans (by decide)
      refine lv_tableIn (tgt := 125) hx hb dX0_joined_1 (by decide) (by decide) (off := 124) (by decide) (by decide) ?_
      refine lv_iload_n hx hb dX0_joined_125 rfl (lv_at hl 1 rfl) ?_
      refine lv_iload_n hx hb dX0_joined_126 rfl (lv_at hl 2 rfl) ?_
      refine lv_imul hx hb dX0_joined_127 ?_
      refine lv_topi (fun x_10 ex_10 => ?_)
      have hP9 : va_P g.1 vwCl [] H := hP.sub [] rfl
      have hD9 : va_D A [] := ⟨fun i j p q h => by simp at h, fun k q h => by simp at h⟩
      exact W.iret (v := x_10) hx hb hr (fun t ht hW => ⟨⟨x_10, (), rfl, trivial, by rw [ht]; exact hP9, by rw [hAe]; exact hD9⟩, hS.F ht⟩) hS.2.2 dX0_joined_128
    · obtain rfl : p0 = (-11) := eh_1.trans (by decide)
      refine lv_tableIn (tgt := 121) hx hb dX0_joined_1 (by decide) (by decide) (off := 120) (by decide) (by decide) ?_
      refine lv_iload_n hx hb dX0_joined_121 rfl (lv_at hl 1 rfl) ?_
      refine lv_iload_n hx hb dX0_joined_122 rfl (lv_at hl 2 rfl) ?_
      refine lv_isub hx hb dX0_joined_123 ?_
      refine lv_topi (fun x_11 ex_11 => ?_)
      have hP9 : va_P g.1 vwCl [] H := hP.sub [] rfl
      have hD9 : va_D A [] := ⟨fun i j p q h => by simp at h, fun k q h => by simp at h⟩
      exact W.iret (v := x_11) hx hb hr (fun t ht hW => ⟨⟨x_11, (), rfl, trivial, by rw [ht]; exact hP9, by rw [hAe]; exact hD9⟩, hS.F ht⟩) hS.2.2 dX0_joined_124
    · obtain rfl : p0 = (-10) := eh_1.trans (by decide)
      refine lv_tableIn (tgt := 117) hx hb dX0_joined_1 (by decide) (by decide) (off := 116) (by decide) (by decide) ?_
      refine lv_iload_n hx hb dX0_joined_117 rfl (lv_at hl 1 rfl) ?_
      refine lv_iload_n hx hb dX0_joined_118 rfl (lv_at hl 2 rfl) ?_
      refine lv_iadd hx hb dX0_joined_119 ?_
      refine lv_topi (fun x_12 ex_12 => ?_)
      have hP9 : va_P g.1 vwCl [] H := hP.sub [] rfl
      have hD9 : va_D A [] := ⟨fun i j p q h => by simp at h, fun k q h => by simp at h⟩
      exact W.iret (v := x_12) hx hb hr (fun t ht hW => ⟨⟨x_12, (), rfl, trivial, by rw [ht]; exact hP9, by rw [hAe]; exact hD9⟩, hS.F ht⟩) hS.2.2 dX0_joined_120
    · obtain rfl : p0 = (-9) := eh_1.trans (by decide)
      refine lv_tableIn (tgt := 106) hx hb dX0_joined_1 (by decide) (by decide) (off := 105) (by decide) (by decide) ?_
      refine lv_iload_n hx hb dX0_joined_106 rfl (lv_at hl 1 rfl) ?_
      refine lv_iload_n hx hb dX0_joined_107 rfl (lv_at hl 2 rfl) ?_
      refine lv_icmp_ne (tgt := 115) hx hb dX0_joined_108 (by decide) (fun c_13 => ?_) (fun c_13 => ?_)
      · have f_14 := E_ne (rfl : p1.toInt = _) (rfl : p2.toInt = _) c_13
        refine lv_iconst (v := 0) hx hb dX0_joined_115 (by decide) ?_
        have hP9 : va_P g.1 vwCl [] H := hP.sub [] rfl
        have hD9 : va_D A [] := ⟨fun i j p q h => by simp at h, fun k q h => by simp at h⟩
        exact W.iret (v := 0) hx hb hr (fun t ht hW => ⟨⟨0, (), rfl, trivial, by rw [ht]; exact hP9, by rw [hAe]; exact hD9⟩, hS.F ht⟩) hS.2.2 dX0_joined_116
      · have f_15 := E_eq (rfl : p1.toInt = _) (rfl : p2.toInt = _) c_13
        refine lv_iconst (v := 1) hx hb dX0_joined_111 (by decide) ?_
        refine lv_goto (tgt := 116) hx hb dX0_joined_112 (by decide) ?_
        have hP9 : va_P g.1 vwCl [] H := hP.sub [] rfl
        have hD9 : va_D A [] := ⟨fun i j p q h => by simp at h, fun k q h => by simp at h⟩
        exact W.iret (v := 1) hx hb hr (fun t ht hW => ⟨⟨1, (), rfl, trivial, by rw [ht]; exact hP9, by rw [hAe]; exact hD9⟩, hS.F ht⟩) hS.2.2 dX0_joined_116
    · obtain rfl : p0 = (-8) := eh_1.trans (by decide)
      refine lv_tableIn (tgt := 95) hx hb dX0_joined_1 (by decide) (by decide) (off := 94) (by decide) (by decide) ?_
      refine lv_iload_n hx hb dX0_joined_95 rfl (lv_at hl 1 rfl) ?_
      refine lv_iload_n hx hb dX0_joined_96 rfl (lv_at hl 2 rfl) ?_
      refine lv_icmp_le (tgt := 104) hx hb dX0_joined_97 (by decide) (fun c_16 => ?_) (fun c_16 => ?_)
      · have f_17 := E_le (rfl : p1.toInt = _) (rfl : p2.toInt = _) c_16
        refine lv_iconst (v := 0) hx hb dX0_joined_104 (by decide) ?_
        have hP9 : va_P g.1 vwCl [] H := hP.sub [] rfl
        have hD9 : va_D A [] := ⟨fun i j p q h => by simp at h, fun k q h => by simp at h⟩
        exact W.iret (v := 0) hx hb hr (fun t ht hW => ⟨⟨0, (), rfl, trivial, by rw [ht]; exact hP9, by rw [hAe]; exact hD9⟩, hS.F ht⟩) hS.2.2 dX0_joined_105
      · have f_18 := E_nle (rfl : p1.toInt = _) (rfl : p2.toInt = _) c_16
        refine lv_iconst (v := 1) hx hb dX0_joined_100 (by decide) ?_
        refine lv_goto (tgt := 105) hx hb dX0_joined_101 (by decide) ?_
        have hP9 : va_P g.1 vwCl [] H := hP.sub [] rfl
        have hD9 : va_D A [] := ⟨fun i j p q h => by simp at h, fun k q h => by simp at h⟩
        exact W.iret (v := 1) hx hb hr (fun t ht hW => ⟨⟨1, (), rfl, trivial, by rw [ht]; exact hP9, by rw [hAe]; exact hD9⟩, hS.F ht⟩) hS.2.2 dX0_joined_105
    · obtain rfl : p0 = (-7) := eh_1.trans (by decide)
      refine lv_tableIn (tgt := 84) hx hb dX0_joined_1 (by decide) (by decide) (off := 83) (by decide) (by decide) ?_
      refine lv_iload_n hx hb dX0_joined_84 rfl (lv_at hl 1 rfl) ?_
      refine lv_iload_n hx hb dX0_joined_85 rfl (lv_at hl 2 rfl) ?_
      refine lv_icmp_ge (tgt := 93) hx hb dX0_joined_86 (by decide) (fun c_19 => ?_) (fun c_19 => ?_)
      · have f_20 := E_le (rfl : p2.toInt = _) (rfl : p1.toInt = _) c_19
        refine lv_iconst (v := 0) hx hb dX0_joined_93 (by decide) ?_
        have hP9 : va_P g.1 vwCl [] H := hP.sub [] rfl
        have hD9 : va_D A [] := ⟨fun i j p q h => by simp at h, fun k q h => by simp at h⟩
        exact W.iret (v := 0) hx hb hr (fun t ht hW => ⟨⟨0, (), rfl, trivial, by rw [ht]; exact hP9, by rw [hAe]; exact hD9⟩, hS.F ht⟩) hS.2.2 dX0_joined_94
      · have f_21 := E_nle (rfl : p2.toInt = _) (rfl : p1.toInt = _) c_19
        refine lv_iconst (v := 1) hx hb dX0_joined_89 (by decide) ?_
        refine lv_goto (tgt := 94) hx hb dX0_joined_90 (by decide) ?_
        have hP9 : va_P g.1 vwCl [] H := hP.sub [] rfl
        have hD9 : va_D A [] := ⟨fun i j p q h => by simp at h, fun k q h => by simp at h⟩
        exact W.iret (v := 1) hx hb hr (fun t ht hW => ⟨⟨1, (), rfl, trivial, by rw [ht]; exact hP9, by rw [hAe]; exact hD9⟩, hS.F ht⟩) hS.2.2 dX0_joined_94
    · obtain rfl : p0 = (-6) := eh_1.trans (by decide)
      refine lv_tableIn (tgt := 70) hx hb dX0_joined_1 (by decide) (by decide) (off := 69) (by decide) (by decide) ?_
      refine lv_iload_n hx hb dX0_joined_70 rfl (lv_at hl 1 rfl) ?_
      refine lv_if_eq (tgt := 82) hx hb dX0_joined_71 (by decide) (fun c_22 => ?_) (fun c_22 => ?_)
      · have f_23 := E_eq (rfl : p1.toInt = _) (by decide : (0 : Int32).toInt = 0) c_22
        refine lv_iconst (v := 0) hx hb dX0_joined_82 (by decide) ?_
        have hP9 : va_P g.1 vwCl [] H := hP.sub [] rfl
        have hD9 : va_D A [] := ⟨fun i j p q h => by simp at h, fun k q h => by simp at h⟩
        exact W.iret (v := 0) hx hb hr (fun t ht hW => ⟨⟨0, (), rfl, trivial, by rw [ht]; exact hP9, by rw [hAe]; exact hD9⟩, hS.F ht⟩) hS.2.2 dX0_joined_83
      · have f_24 := E_ne (rfl : p1.toInt = _) (by decide : (0 : Int32).toInt = 0) c_22
        refine lv_iload_n hx hb dX0_joined_74 rfl (lv_at hl 2 rfl) ?_
        refine lv_if_eq (tgt := 82) hx hb dX0_joined_75 (by decide) (fun c_25 => ?_) (fun c_25 => ?_)
        · have f_26 := E_eq (rfl : p2.toInt = _) (by decide : (0 : Int32).toInt = 0) c_25
          refine lv_iconst (v := 0) hx hb dX0_joined_82 (by decide) ?_
          have hP9 : va_P g.1 vwCl [] H := hP.sub [] rfl
          have hD9 : va_D A [] := ⟨fun i j p q h => by simp at h, fun k q h => by simp at h⟩
          exact W.iret (v := 0) hx hb hr (fun t ht hW => ⟨⟨0, (), rfl, trivial, by rw [ht]; exact hP9, by rw [hAe]; exact hD9⟩, hS.F ht⟩) hS.2.2 dX0_joined_83
        · have f_27 := E_ne (rfl : p2.toInt = _) (by decide : (0 : Int32).toInt = 0) c_25
          refine lv_iconst (v := 1) hx hb dX0_joined_78 (by decide) ?_
          refine lv_goto (tgt := 83) hx hb dX0_joined_79 (by decide) ?_
          have hP9 : va_P g.1 vwCl [] H := hP.sub [] rfl
          have hD9 : va_D A [] := ⟨fun i j p q h => by simp at h, fun k q h => by simp at h⟩
          exact W.iret (v := 1) hx hb hr (fun t ht hW => ⟨⟨1, (), rfl, trivial, by rw [ht]; exact hP9, by rw [hAe]; exact hD9⟩, hS.F ht⟩) hS.2.2 dX0_joined_83
    · obtain rfl : p0 = (-5) := eh_1.trans (by decide)
      refine lv_tableIn (tgt := 56) hx hb dX0_joined_1 (by decide) (by decide) (off := 55) (by decide) (by decide) ?_
      refine lv_iload_n hx hb dX0_joined_56 rfl (lv_at hl 1 rfl) ?_
      refine lv_if_ne (tgt := 64) hx hb dX0_joined_57 (by decide) (fun c_28 => ?_) (fun c_28 => ?_)
      · have f_29 := E_ne (rfl : p1.toInt = _) (by decide : (0 : Int32).toInt = 0) c_28
        refine lv_iconst (v := 1) hx hb dX0_joined_64 (by decide) ?_
        refine lv_goto (tgt := 69) hx hb dX0_joined_65 (by decide) ?_
        have hP9 : va_P g.1 vwCl [] H := hP.sub [] rfl
        have hD9 : va_D A [] := ⟨fun i j p q h => by simp at h, fun k q h => by simp at h⟩
        exact W.iret (v := 1) hx hb hr (fun t ht hW => ⟨⟨1, (), rfl, trivial, by rw [ht]; exact hP9, by rw [hAe]; exact hD9⟩, hS.F ht⟩) hS.2.2 dX0_joined_69
      · have f_30 := E_eq (rfl : p1.toInt = _) (by decide : (0 : Int32).toInt = 0) c_28
        refine lv_iload_n hx hb dX0_joined_60 rfl (lv_at hl 2 rfl) ?_
        refine lv_if_eq (tgt := 68) hx hb dX0_joined_61 (by decide) (fun c_31 => ?_) (fun c_31 => ?_)
        · have f_32 := E_eq (rfl : p2.toInt = _) (by decide : (0 : Int32).toInt = 0) c_31
          refine lv_iconst (v := 0) hx hb dX0_joined_68 (by decide) ?_
          have hP9 : va_P g.1 vwCl [] H := hP.sub [] rfl
          have hD9 : va_D A [] := ⟨fun i j p q h => by simp at h, fun k q h => by simp at h⟩
          exact W.iret (v := 0) hx hb hr (fun t ht hW => ⟨⟨0, (), rfl, trivial, by rw [ht]; exact hP9, by rw [hAe]; exact hD9⟩, hS.F ht⟩) hS.2.2 dX0_joined_69
        · have f_33 := E_ne (rfl : p2.toInt = _) (by decide : (0 : Int32).toInt = 0) c_31
          refine lv_iconst (v := 1) hx hb dX0_joined_64 (by decide) ?_
          refine lv_goto (tgt := 69) hx hb dX0_joined_65 (by decide) ?_
          have hP9 : va_P g.1 vwCl [] H := hP.sub [] rfl
          have hD9 : va_D A [] := ⟨fun i j p q h => by simp at h, fun k q h => by simp at h⟩
          exact W.iret (v := 1) hx hb hr (fun t ht hW => ⟨⟨1, (), rfl, trivial, by rw [ht]; exact hP9, by rw [hAe]; exact hD9⟩, hS.F ht⟩) hS.2.2 dX0_joined_69

theorem bw_129 : Cond.fieldLink RX0 22 "DuelDelays$Formulas" "stack" "[I" ∈ gT := gT_tb 211 (by decide +kernel) (by decide +kernel)
theorem bw_130 : Cond.methodLink RX0 42 yX0_joined ∈ gT := gT_tb 912 (by decide +kernel) (by decide +kernel)
theorem bw_131 : Cond.static yX0_joined ∈ gT := gT_tb 913 (by decide +kernel) (by decide +kernel)
theorem bw_132 : Cond.initialized yX0_joined.cls ∈ gT := gT_tb 10 (by decide +kernel) (by decide +kernel)
theorem bw_133 : Cond.methodLink RX0 38 yX0_leaf ∈ gT := gT_tb 909 (by decide +kernel) (by decide +kernel)
theorem bw_134 : Cond.static yX0_leaf ∈ gT := gT_tb 910 (by decide +kernel) (by decide +kernel)
theorem bw_135 : Cond.initialized yX0_leaf.cls ∈ gT := gT_tb 10 (by decide +kernel) (by decide +kernel)
theorem bw_136 : Cond.code yX0_valueOf cX0_valueOf 8 (some .int) ∈ gT := gT_tb 908 (by decide +kernel) (by decide +kernel)
theorem dX0_valueOf_0 : decode cX0_valueOf 0 = .ok (.iconst 0, 1) := by decide +kernel
theorem dX0_valueOf_1 : decode cX0_valueOf 1 = .ok (.istore 5, 2) := by decide +kernel
theorem dX0_valueOf_3 : decode cX0_valueOf 3 = .ok (.aload_n 0, 1) := by decide +kernel
theorem dX0_valueOf_4 : decode cX0_valueOf 4 = .ok (.getfield 15, 3) := by decide +kernel
theorem dX0_valueOf_7 : decode cX0_valueOf 7 = .ok (.iload_n 1, 1) := by decide +kernel
theorem dX0_valueOf_8 : decode cX0_valueOf 8 = .ok (.iaload, 1) := by decide +kernel
theorem dX0_valueOf_9 : decode cX0_valueOf 9 = .ok (.istore 6, 2) := by decide +kernel
theorem dX0_valueOf_11 : decode cX0_valueOf 11 = .ok (.iload 6, 2) := by decide +kernel
theorem dX0_valueOf_13 : decode cX0_valueOf 13 = .ok (.aload_n 0, 1) := by decide +kernel
theorem dX0_valueOf_14 : decode cX0_valueOf 14 = .ok (.getfield 15, 3) := by decide +kernel
theorem dX0_valueOf_17 : decode cX0_valueOf 17 = .ok (.iload_n 1, 1) := by decide +kernel
theorem dX0_valueOf_18 : decode cX0_valueOf 18 = .ok (.iconst 1, 1) := by decide +kernel
theorem dX0_valueOf_19 : decode cX0_valueOf 19 = .ok (.iadd, 1) := by decide +kernel
theorem dX0_valueOf_20 : decode cX0_valueOf 20 = .ok (.iaload, 1) := by decide +kernel
theorem dX0_valueOf_21 : decode cX0_valueOf 21 = .ok (.if_icmp .ge 137, 3) := by decide +kernel
theorem dX0_valueOf_24 : decode cX0_valueOf 24 = .ok (.aload_n 0, 1) := by decide +kernel
theorem dX0_valueOf_25 : decode cX0_valueOf 25 = .ok (.getfield 19, 3) := by decide +kernel
theorem dX0_valueOf_28 : decode cX0_valueOf 28 = .ok (.iload 6, 2) := by decide +kernel
theorem dX0_valueOf_30 : decode cX0_valueOf 30 = .ok (.iaload, 1) := by decide +kernel
theorem dX0_valueOf_31 : decode cX0_valueOf 31 = .ok (.istore 7, 2) := by decide +kernel
theorem dX0_valueOf_33 : decode cX0_valueOf 33 = .ok (.iload 7, 2) := by decide +kernel
theorem dX0_valueOf_35 : decode cX0_valueOf 35 = .ok (.bipush (-4), 2) := by decide +kernel
theorem dX0_valueOf_37 : decode cX0_valueOf 37 = .ok (.if_icmp .le 35, 3) := by decide +kernel
theorem dX0_valueOf_40 : decode cX0_valueOf 40 = .ok (.iload 5, 2) := by decide +kernel
theorem dX0_valueOf_42 : decode cX0_valueOf 42 = .ok (.aload_n 0, 1) := by decide +kernel
theorem dX0_valueOf_43 : decode cX0_valueOf 43 = .ok (.getfield 22, 3) := by decide +kernel
theorem dX0_valueOf_46 : decode cX0_valueOf 46 = .ok (.arraylength, 1) := by decide +kernel
theorem dX0_valueOf_47 : decode cX0_valueOf 47 = .ok (.if_icmp .ge 105, 3) := by decide +kernel
theorem dX0_valueOf_50 : decode cX0_valueOf 50 = .ok (.aload_n 0, 1) := by decide +kernel
theorem dX0_valueOf_51 : decode cX0_valueOf 51 = .ok (.getfield 22, 3) := by decide +kernel
theorem dX0_valueOf_54 : decode cX0_valueOf 54 = .ok (.iload 5, 2) := by decide +kernel
theorem dX0_valueOf_56 : decode cX0_valueOf 56 = .ok (.iload 7, 2) := by decide +kernel
theorem dX0_valueOf_58 : decode cX0_valueOf 58 = .ok (.iload_n 2, 1) := by decide +kernel
theorem dX0_valueOf_59 : decode cX0_valueOf 59 = .ok (.iload_n 3, 1) := by decide +kernel
theorem dX0_valueOf_60 : decode cX0_valueOf 60 = .ok (.iload 4, 2) := by decide +kernel
theorem dX0_valueOf_62 : decode cX0_valueOf 62 = .ok (.invokestatic 38, 3) := by decide +kernel
theorem dX0_valueOf_65 : decode cX0_valueOf 65 = .ok (.iastore, 1) := by decide +kernel
theorem dX0_valueOf_66 : decode cX0_valueOf 66 = .ok (.iinc 5 1, 3) := by decide +kernel
theorem dX0_valueOf_69 : decode cX0_valueOf 69 = .ok (.goto 83, 3) := by decide +kernel
theorem dX0_valueOf_72 : decode cX0_valueOf 72 = .ok (.iload 7, 2) := by decide +kernel
theorem dX0_valueOf_74 : decode cX0_valueOf 74 = .ok (.bipush (-4), 2) := by decide +kernel
theorem dX0_valueOf_76 : decode cX0_valueOf 76 = .ok (.if_icmp .ne 37, 3) := by decide +kernel
theorem dX0_valueOf_79 : decode cX0_valueOf 79 = .ok (.iload 5, 2) := by decide +kernel
theorem dX0_valueOf_81 : decode cX0_valueOf 81 = .ok (.ifCond .le 71, 3) := by decide +kernel
theorem dX0_valueOf_84 : decode cX0_valueOf 84 = .ok (.aload_n 0, 1) := by decide +kernel
theorem dX0_valueOf_85 : decode cX0_valueOf 85 = .ok (.getfield 22, 3) := by decide +kernel
theorem dX0_valueOf_88 : decode cX0_valueOf 88 = .ok (.iload 5, 2) := by decide +kernel
theorem dX0_valueOf_90 : decode cX0_valueOf 90 = .ok (.iconst 1, 1) := by decide +kernel
theorem dX0_valueOf_91 : decode cX0_valueOf 91 = .ok (.isub, 1) := by decide +kernel
theorem dX0_valueOf_92 : decode cX0_valueOf 92 = .ok (.aload_n 0, 1) := by decide +kernel
theorem dX0_valueOf_93 : decode cX0_valueOf 93 = .ok (.getfield 22, 3) := by decide +kernel
theorem dX0_valueOf_96 : decode cX0_valueOf 96 = .ok (.iload 5, 2) := by decide +kernel
theorem dX0_valueOf_98 : decode cX0_valueOf 98 = .ok (.iconst 1, 1) := by decide +kernel
theorem dX0_valueOf_99 : decode cX0_valueOf 99 = .ok (.isub, 1) := by decide +kernel
theorem dX0_valueOf_100 : decode cX0_valueOf 100 = .ok (.iaload, 1) := by decide +kernel
theorem dX0_valueOf_101 : decode cX0_valueOf 101 = .ok (.ifCond .ne 7, 3) := by decide +kernel
theorem dX0_valueOf_104 : decode cX0_valueOf 104 = .ok (.iconst 1, 1) := by decide +kernel
theorem dX0_valueOf_105 : decode cX0_valueOf 105 = .ok (.goto 4, 3) := by decide +kernel
theorem dX0_valueOf_108 : decode cX0_valueOf 108 = .ok (.iconst 0, 1) := by decide +kernel
theorem dX0_valueOf_109 : decode cX0_valueOf 109 = .ok (.iastore, 1) := by decide +kernel
theorem dX0_valueOf_110 : decode cX0_valueOf 110 = .ok (.goto 42, 3) := by decide +kernel
theorem dX0_valueOf_113 : decode cX0_valueOf 113 = .ok (.iload 5, 2) := by decide +kernel
theorem dX0_valueOf_115 : decode cX0_valueOf 115 = .ok (.iconst 1, 1) := by decide +kernel
theorem dX0_valueOf_116 : decode cX0_valueOf 116 = .ok (.if_icmp .le 36, 3) := by decide +kernel
theorem dX0_valueOf_119 : decode cX0_valueOf 119 = .ok (.iinc 5 (-1), 3) := by decide +kernel
theorem dX0_valueOf_122 : decode cX0_valueOf 122 = .ok (.aload_n 0, 1) := by decide +kernel
theorem dX0_valueOf_123 : decode cX0_valueOf 123 = .ok (.getfield 22, 3) := by decide +kernel
theorem dX0_valueOf_126 : decode cX0_valueOf 126 = .ok (.iload 5, 2) := by decide +kernel
theorem dX0_valueOf_128 : decode cX0_valueOf 128 = .ok (.iconst 1, 1) := by decide +kernel
theorem dX0_valueOf_129 : decode cX0_valueOf 129 = .ok (.isub, 1) := by decide +kernel
theorem dX0_valueOf_130 : decode cX0_valueOf 130 = .ok (.iload 7, 2) := by decide +kernel
theorem dX0_valueOf_132 : decode cX0_valueOf 132 = .ok (.aload_n 0, 1) := by decide +kernel
theorem dX0_valueOf_133 : decode cX0_valueOf 133 = .ok (.getfield 22, 3) := by decide +kernel
theorem dX0_valueOf_136 : decode cX0_valueOf 136 = .ok (.iload 5, 2) := by decide +kernel
theorem dX0_valueOf_138 : decode cX0_valueOf 138 = .ok (.iconst 1, 1) := by decide +kernel
theorem dX0_valueOf_139 : decode cX0_valueOf 139 = .ok (.isub, 1) := by decide +kernel
theorem dX0_valueOf_140 : decode cX0_valueOf 140 = .ok (.iaload, 1) := by decide +kernel
theorem dX0_valueOf_141 : decode cX0_valueOf 141 = .ok (.aload_n 0, 1) := by decide +kernel
theorem dX0_valueOf_142 : decode cX0_valueOf 142 = .ok (.getfield 22, 3) := by decide +kernel
theorem dX0_valueOf_145 : decode cX0_valueOf 145 = .ok (.iload 5, 2) := by decide +kernel
theorem dX0_valueOf_147 : decode cX0_valueOf 147 = .ok (.iaload, 1) := by decide +kernel
theorem dX0_valueOf_148 : decode cX0_valueOf 148 = .ok (.invokestatic 42, 3) := by decide +kernel
theorem dX0_valueOf_151 : decode cX0_valueOf 151 = .ok (.iastore, 1) := by decide +kernel
theorem dX0_valueOf_152 : decode cX0_valueOf 152 = .ok (.iinc 6 1, 3) := by decide +kernel
theorem dX0_valueOf_155 : decode cX0_valueOf 155 = .ok (.goto (-144), 3) := by decide +kernel
theorem dX0_valueOf_158 : decode cX0_valueOf 158 = .ok (.iload 5, 2) := by decide +kernel
theorem dX0_valueOf_160 : decode cX0_valueOf 160 = .ok (.ifCond .le 12, 3) := by decide +kernel
theorem dX0_valueOf_163 : decode cX0_valueOf 163 = .ok (.aload_n 0, 1) := by decide +kernel
theorem dX0_valueOf_164 : decode cX0_valueOf 164 = .ok (.getfield 22, 3) := by decide +kernel
theorem dX0_valueOf_167 : decode cX0_valueOf 167 = .ok (.iconst 0, 1) := by decide +kernel
theorem dX0_valueOf_168 : decode cX0_valueOf 168 = .ok (.iaload, 1) := by decide +kernel
theorem dX0_valueOf_169 : decode cX0_valueOf 169 = .ok (.goto 4, 3) := by decide +kernel
theorem dX0_valueOf_172 : decode cX0_valueOf 172 = .ok (.iconst 0, 1) := by decide +kernel
theorem dX0_valueOf_173 : decode cX0_valueOf 173 = .ok (.ireturn, 1) := by decide +kernel
set_option maxHeartbeats 4000000 in
set_option maxRecDepth 100000 in
theorem s_X0_valueOf (l : Launch) (g : GG) (sz : Nat) (h : Nat) (bcount : Int32) (bunits : Int32) (bnames : Nat) (bunitsOfThis : Int32) (blength : Int32) (bstarts : Nat) (Fbstarts : Nat → Int32) (bsteps : Nat) (Fbsteps : Nat → Int32) (bstack : Nat) (Fbstack : Nat → Int32) (p0 : Int32) (p1 : Int32) (p2 : Int32) (p3 : Int32) (hh0 : 0 ≤ bcount.toInt ∧ bcount.toInt ≤ 4) (hh1 : 0 ≤ bunits.toInt ∧ bunits.toInt ≤ 60) (hh2 : 0 ≤ bunitsOfThis.toInt ∧ bunitsOfThis.toInt ≤ 30) (hh3 : 0 ≤ blength.toInt ∧ blength.toInt ≤ 640) (hh4 : Rg 5 0 640 Fbstarts) (hh5 : 0 ≤ p0.toInt ∧ p0.toInt ≤ 3) : Met l yX0_valueOf (.code yX0_valueOf cX0_valueOf 8 (some .int) :: gT) ({ frames := 1, cells := 0, slots := 0, locals := 23 }) (va_Pc [.ref h, .int p0, .int p1, .int p2, .int p3] (Pst g sz [(h, .inr (0, [.int bcount, .int bunits, .ref bnames, .int bunitsOfThis, .int blength, .ref bstarts, .ref bsteps, .ref bstack])), (bstarts, aI g 5 Fbstarts), (bsteps, aI g 640 Fbsteps), (bstack, aI g 32 Fbstack)] nX)) (va_Qi (fun (r : Int32) => fun (o0_F : (Nat → Int32)) => True) (Qst g [(h, .inr (0, [.int bcount, .int bunits, .ref bnames, .int bunitsOfThis, .int blength, .ref bstarts, .ref bsteps, .ref bstack])), (bstarts, aI g 5 Fbstarts), (bsteps, aI g 640 Fbsteps), (bstack, aI g 32 Fbstack)] sz (fun (o0_F : (Nat → Int32)) => [(h, .inr (0, [.int bcount, .int bunits, .ref bnames, .int bunitsOfThis, .int blength, .ref bstarts, .ref bsteps, .ref bstack])), (bstarts, aI g 5 Fbstarts), (bsteps, aI g 640 Fbsteps), (bstack, aI g 32 o0_F)])) (va_A [(h, .inr (0, [.int bcount, .int bunits, .ref bnames, .int bunitsOfThis, .int blength, .ref bstarts, .ref bsteps, .ref bstack])), (bstarts, aI g 5 Fbstarts), (bsteps, aI g 640 Fbsteps), (bstack, aI g 32 Fbstack)] sz)) 0 0 (va_A [(h, .inr (0, [.int bcount, .int bunits, .ref bnames, .int bunitsOfThis, .int blength, .ref bstarts, .ref bsteps, .ref bstack])), (bstarts, aI g 5 Fbstarts), (bsteps, aI g 640 Fbsteps), (bstack, aI g 32 Fbstack)] sz) := by
  refine Met.ofW (cc := cX0_valueOf) (maxL := 8) (ret := (some .int)) (by decide) rfl ?_
  intro p e s m args below meth c s₁ B hml hv
  obtain ⟨rfl, hsz, hP, hK, hD0, hX⟩ := hv
  have hx := B.exec
  have hb := B.bytes
  have hr := B.returns
  have hT : ∀ w ∈ gT, w.before _ s = true := fun w h => atoms_spec (ws := .code yX0_valueOf cX0_valueOf 8 (some .int) :: gT) B.pre w (List.mem_cons_of_mem _ h)
  have hown : s.vm.findClass RX0 = some m.cls := findClass_of_methodNamed B.named
  have hlocks := B.notSynchronized
  subst hsz
  have hD := hD0.self (sz := s.heap.size)
  generalize hAe : va_A [(h, .inr (0, [.int bcount, .int bunits, .ref bnames, .int bunitsOfThis, .int blength, .ref bstarts, .ref bsteps, .ref bstack])), (bstarts, aI g 5 Fbstarts), (bsteps, aI g 640 Fbsteps), (bstack, aI g 32 Fbstack)] s.heap.size = A at hD ⊢
  have hA : ∀ q : Nat, s.heap.size ≤ q → A q := fun q h => by rw [← hAe]; exact Or.inr h
  have hS : va_S A s.heap s.heap [] := va_S.rf
  have hl := lv_entry ([.ref h, .int p0, .int p1, .int p2, .int p3]) (n := 8) (Nat.le_of_ble_eq_true rfl)
  rw [lg_entry_eq]
  generalize (lg_sl ([.ref h, .int p0, .int p1, .int p2, .int p3]) ++ List.replicate (8 - (lg_sl ([.ref h, .int p0, .int p1, .int p2, .int p3])).length) Slot.unset).toArray = ls at hl ⊢
  have hl : lv_has ls 8 [(0, .ref h), (1, .int p0), (2, .int p1), (3, .int p2), (4, .int p3)] := hl
  refine p_nH (fun H hH => ?_)
  have hP : va_P g.1 vwCl [(h, .inr (0, [.int bcount, .int bunits, .ref bnames, .int bunitsOfThis, .int blength, .ref bstarts, .ref bsteps, .ref bstack])), (bstarts, aI g 5 Fbstarts), (bsteps, aI g 640 Fbsteps), (bstack, aI g 32 Fbstack)] H := by rw [hH]; exact hP
  have hS : va_S A s.heap H [] := by rw [hH]; exact hS
  refine lv_iconst (v := 0) hx hb dX0_valueOf_0 (by decide) ?_
  refine lv_istore (lv' := [(5, .int 0), (0, .ref h), (1, .int p0), (2, .int p1), (3, .int p2), (4, .int p3)]) hx hb dX0_valueOf_1 hl (by decide) rfl (fun ls hl => ?_)
  refine lv_aload_n hx hb dX0_valueOf_3 rfl (lv_at hl 1 rfl) ?_
  refine va_get (D := g.1) (ci := 0) (v := .ref bstarts) (C := RX0) (T := TX0) (N := 8) hx hb hT inF_X0 hown hK.1 hP 0 rfl rfl 5 (by decide) (hT _ bw_121) (fun _ h9 => h9) rfl dX0_valueOf_4 ?_
  refine lv_iload_n hx hb dX0_valueOf_7 rfl (lv_at hl 2 rfl) ?_
  have h_1 : vp_in p0 5 := vp_in_iff.mpr (by omega)
  refine va_iald hx hb hK.1 hP 1 1 rfl rfl (i := p0) h_1 dX0_valueOf_8 ?_
  refine lv_topi (fun x_2 ex_2 => ?_)
  have fx_2 : 0 ≤ x_2.toInt ∧ x_2.toInt ≤ 640 := Rg.rd hh4 h_1 ex_2
  have ux_2 := congrArg Int32.toInt ex_2
  refine lv_istore (lv' := [(6, .int x_2), (5, .int 0), (0, .ref h), (1, .int p0), (2, .int p1), (3, .int p2), (4, .int p3)]) hx hb dX0_valueOf_9 hl (by decide) rfl (fun ls hl => ?_)
  refine k_floop 11 (fun n H locs ls => ∃ (L_3 : Int32) (L_4 : Int32) (f_5 : Nat → Int32), (0 ≤ L_3.toInt ∧ L_3.toInt ≤ 640) ∧ (0 ≤ L_4.toInt ∧ L_4.toInt ≤ 32) ∧ 640 - L_3.toInt ≤ (n : Int) ∧ va_P g.1 vwCl [(h, .inr (0, [.int bcount, .int bunits, .ref bnames, .int bunitsOfThis, .int blength, .ref bstarts, .ref bsteps, .ref bstack])), (bstarts, aI g 5 Fbstarts), (bsteps, aI g 640 Fbsteps), (bstack, aI g 32 f_5)] H ∧ va_D A [(h, .inr (0, [.int bcount, .int bunits, .ref bnames, .int bunitsOfThis, .int blength, .ref bstarts, .ref bsteps, .ref bstack])), (bstarts, aI g 5 Fbstarts), (bsteps, aI g 640 Fbsteps), (bstack, aI g 32 f_5)] ∧ va_S A s.heap H locs ∧ lv_has ls 8 [(6, .int L_3), (5, .int L_4), (0, .ref h), (1, .int p0), (2, .int p1), (3, .int p2), (4, .int p3)]) (fun n H locs ls hI ih => ?_) ((640 - x_2.toInt : Int)).toNat ⟨x_2, 0, Fbstack, (by first | with_reducible assumption | omega), by decide, by have k0 : (0 : Int32).toInt = 0 := (by decide); omega, hP, hD, hS, hl⟩
  refine hI.elim (fun L_3 hI => hI.elim (fun L_4 hI => hI.elim (fun f_5 hI => ?_)))
  have g_6 := hI.1
  have g_7 := hI.2.1
  have hm_8 := hI.2.2.1
  have hP := hI.2.2.2.1
  have hD := hI.2.2.2.2.1
  have hS := hI.2.2.2.2.2.1
  have hl := hI.2.2.2.2.2.2
  clear hI
  refine lv_iload hx hb dX0_valueOf_11 (lv_at hl 0 rfl) ?_
  refine lv_aload_n hx hb dX0_valueOf_13 rfl (lv_at hl 2 rfl) ?_
  refine va_get (D := g.1) (ci := 0) (v := .ref bstarts) (C := RX0) (T := TX0) (N := 8) hx hb hT inF_X0 hown hK.1 hP 0 rfl rfl 5 (by decide) (hT _ bw_121) (fun _ h9 => h9) rfl dX0_valueOf_14 ?_
  refine lv_iload_n hx hb dX0_valueOf_17 rfl (lv_at hl 3 rfl) ?_
  refine lv_iconst (v := 1) hx hb dX0_valueOf_18 (by decide) ?_
  refine lv_iadd hx hb dX0_valueOf_19 ?_
  refine lv_topi (fun x_9 ex_9 => ?_)
  have fx_9 : x_9.toInt = p0.toInt + 1 := by rw [ex_9]; exact I_add rfl (by decide : (1 : Int32).toInt = 1) (by omega) (by omega)
  have h_10 : vp_in x_9 5 := vp_in_iff.mpr (by omega)
  refine va_iald hx hb hK.1 hP 1 1 rfl rfl (i := x_9) h_10 dX0_valueOf_20 ?_
  refine lv_topi (fun x_11 ex_11 => ?_)
  have fx_11 : 0 ≤ x_11.toInt ∧ x_11.toInt ≤ 640 := Rg.rd hh4 h_10 ex_11
  have ux_11 := congrArg Int32.toInt ex_11
  refine lv_icmp_ge (tgt := 158) hx hb dX0_valueOf_21 (by decide) (fun c_12 => ?_) (fun c_12 => ?_)
  · have f_13 := E_le (rfl : x_11.toInt = _) (rfl : L_3.toInt = _) c_12
    refine lv_iload hx hb dX0_valueOf_158 (lv_at hl 1 rfl) ?_
    refine lv_if_le (tgt := 172) hx hb dX0_valueOf_160 (by decide) (fun c_14 => ?_) (fun c_14 => ?_)
    · have f_15 := E_le (rfl : L_4.toInt = _) (by decide : (0 : Int32).toInt = 0) c_14
      refine lv_iconst (v := 0) hx hb dX0_valueOf_172 (by decide) ?_
      have hP9 : va_P g.1 vwCl [(h, .inr (0, [.int bcount, .int bunits, .ref bnames, .int bunitsOfThis, .int blength, .ref bstarts, .ref bsteps, .ref bstack])), (bstarts, aI g 5 Fbstarts), (bsteps, aI g 640 Fbsteps), (bstack, aI g 32 f_5)] H := hP.sub [0, 1, 2, 3] rfl
      have hD9 : va_D A [(h, .inr (0, [.int bcount, .int bunits, .ref bnames, .int bunitsOfThis, .int blength, .ref bstarts, .ref bsteps, .ref bstack])), (bstarts, aI g 5 Fbstarts), (bsteps, aI g 640 Fbsteps), (bstack, aI g 32 f_5)] := hD.sub [0, 1, 2, 3] (by decide +kernel) rfl
      exact W.iret (v := 0) hx hb hr (fun t ht hW => ⟨⟨0, f_5, rfl, trivial, by rw [ht]; exact hP9, by rw [hAe]; exact hD9⟩, hS.F ht⟩) hS.2.2 dX0_valueOf_173
    · have f_16 := E_nle (rfl : L_4.toInt = _) (by decide : (0 : Int32).toInt = 0) c_14
      refine lv_aload_n hx hb dX0_valueOf_163 rfl (lv_at hl 2 rfl) ?_
      refine va_get (D := g.1) (ci := 0) (v := .ref bstack) (C := RX0) (T := TX0) (N := 8) hx hb hT inF_X0 hown hK.1 hP 0 rfl rfl 7 (by decide) (hT _ bw_129) (fun _ h9 => h9) rfl dX0_valueOf_164 ?_
      refine lv_iconst (v := 0) hx hb dX0_valueOf_167 (by decide) ?_
      have h_17 : vp_in 0 32 := vp_in_iff.mpr (by decide)
      refine va_iald hx hb hK.1 hP 3 1 rfl rfl (i := 0) h_17 dX0_valueOf_168 ?_
      refine lv_topi (fun x_18 ex_18 => ?_)
      have ux_18 := congrArg Int32.toInt ex_18
      refine lv_goto (tgt := 173) hx hb dX0_valueOf_169 (by decide) ?_
      have hP9 : va_P g.1 vwCl [(h, .inr (0, [.int bcount, .int bunits, .ref bnames, .int bunitsOfThis, .int blength, .ref bstarts, .ref bsteps, .ref bstack])), (bstarts, aI g 5 Fbstarts), (bsteps, aI g 640 Fbsteps), (bstack, aI g 32 f_5)] H := hP.sub [0, 1, 2, 3] rfl
      have hD9 : va_D A [(h, .inr (0, [.int bcount, .int bunits, .ref bnames, .int bunitsOfThis, .int blength, .ref bstarts, .ref bsteps, .ref bstack])), (bstarts, aI g 5 Fbstarts), (bsteps, aI g 640 Fbsteps), (bstack, aI g 32 f_5)] := hD.sub [0, 1, 2, 3] (by decide +kernel) rfl
      exact W.iret (v := x_18) hx hb hr (fun t ht hW => ⟨⟨x_18, f_5, rfl, trivial, by rw [ht]; exact hP9, by rw [hAe]; exact hD9⟩, hS.F ht⟩) hS.2.2 dX0_valueOf_173
  · have f_19 := E_nle (rfl : x_11.toInt = _) (rfl : L_3.toInt = _) c_12
    refine lv_aload_n hx hb dX0_valueOf_24 rfl (lv_at hl 2 rfl) ?_
    refine va_get (D := g.1) (ci := 0) (v := .ref bsteps) (C := RX0) (T := TX0) (N := 8) hx hb hT inF_X0 hown hK.1 hP 0 rfl rfl 6 (by decide) (hT _ bw_125) (fun _ h9 => h9) rfl dX0_valueOf_25 ?_
    refine lv_iload hx hb dX0_valueOf_28 (lv_at hl 0 rfl) ?_
    have h_20 : vp_in L_3 640 := vp_in_iff.mpr (by omega)
    refine va_iald hx hb hK.1 hP 2 1 rfl rfl (i := L_3) h_20 dX0_valueOf_30 ?_
    refine lv_topi (fun x_21 ex_21 => ?_)
    have ux_21 := congrArg Int32.toInt ex_21
    refine lv_istore (lv' := [(7, .int x_21), (6, .int L_3), (5, .int L_4), (0, .ref h), (1, .int p0), (2, .int p1), (3, .int p2), (4, .int p3)]) hx hb dX0_valueOf_31 hl (by decide) rfl (fun ls hl => ?_)
    refine lv_iload hx hb dX0_valueOf_33 (lv_at hl 0 rfl) ?_
    refine lv_bipush (v := (-4)) hx hb dX0_valueOf_35 (by decide) ?_
    refine lv_icmp_le (tgt := 72) hx hb dX0_valueOf_37 (by decide) (fun c_22 => ?_) (fun c_22 => ?_)
    · have f_23 := E_le (rfl : x_21.toInt = _) (by decide : ((-4) : Int32).toInt = (-4)) c_22
      refine lv_iload hx hb dX0_valueOf_72 (lv_at hl 0 rfl) ?_
      refine lv_bipush (v := (-4)) hx hb dX0_valueOf_74 (by decide) ?_
      refine lv_icmp_ne (tgt := 113) hx hb dX0_valueOf_76 (by decide) (fun c_24 => ?_) (fun c_24 => ?_)
      · have f_25 := E_ne (rfl : x_21.toInt = _) (by decide : ((-4) : Int32).toInt = (-4)) c_24
        refine lv_iload hx hb dX0_valueOf_113 (lv_at hl 2 rfl) ?_
        refine lv_iconst (v := 1) hx hb dX0_valueOf_115 (by decide) ?_
        refine lv_icmp_le (tgt := 152) hx hb dX0_valueOf_116 (by decide) (fun c_26 => ?_) (fun c_26 => ?_)
        · have f_27 := E_le (rfl : L_4.toInt = _) (by decide : (1 : Int32).toInt = 1) c_26
          obtain ⟨x_28, ex_28⟩ : ∃ y : Int32, y = L_3 + 1 := ⟨_, rfl⟩
          have fx_28 : x_28.toInt = L_3.toInt + 1 := by rw [ex_28]; exact I_add rfl (by decide) (by omega) (by omega)
          refine lv_iinc (v := x_28) (lv' := [(6, .int x_28), (7, .int x_21), (5, .int L_4), (0, .ref h), (1, .int p0), (2, .int p1), (3, .int p2), (4, .int p3)]) hx hb dX0_valueOf_152 hl (k := 1) rfl (by rw [ex_28]; rfl) (by decide) rfl (fun ls hl => ?_)
          refine lv_goto (tgt := 11) hx hb dX0_valueOf_155 (by decide) ?_
          exact ih (n - 1) (by omega) H locs ls ⟨x_28, L_4, f_5, (by first | with_reducible assumption | omega), (by first | with_reducible assumption | omega), by omega, hP.sub [0, 1, 2, 3] rfl, hD.sub [0, 1, 2, 3] (by decide +kernel) rfl, hS, lv_sub hl [0, 2, 3, 4, 5, 6, 7] rfl⟩
        · have f_29 := E_nle (rfl : L_4.toInt = _) (by decide : (1 : Int32).toInt = 1) c_26
          obtain ⟨x_30, ex_30⟩ : ∃ y : Int32, y = L_4 + (-1) := ⟨_, rfl⟩
          have fx_30 : x_30.toInt = L_4.toInt + (-1) := by rw [ex_30]; exact I_add rfl (by decide) (by omega) (by omega)
          refine lv_iinc (v := x_30) (lv' := [(5, .int x_30), (7, .int x_21), (6, .int L_3), (0, .ref h), (1, .int p0), (2, .int p1), (3, .int p2), (4, .int p3)]) hx hb dX0_valueOf_119 hl (k := 2) rfl (by rw [ex_30]; rfl) (by decide) rfl (fun ls hl => ?_)
          refine lv_aload_n hx hb dX0_valueOf_122 rfl (lv_at hl 3 rfl) ?_
          refine va_get (D := g.1) (ci := 0) (v := .ref bstack) (C := RX0) (T := TX0) (N := 8) hx hb hT inF_X0 hown hK.1 hP 0 rfl rfl 7 (by decide) (hT _ bw_129) (fun _ h9 => h9) rfl dX0_valueOf_123 ?_
          refine lv_iload hx hb dX0_valueOf_126 (lv_at hl 0 rfl) ?_
          refine lv_iconst (v := 1) hx hb dX0_valueOf_128 (by decide) ?_
          refine lv_isub hx hb dX0_valueOf_129 ?_
          refine lv_topi (fun x_31 ex_31 => ?_)
          have fx_31 : x_31.toInt = x_30.toInt - 1 := by rw [ex_31]; exact I_sub rfl (by decide : (1 : Int32).toInt = 1) (by omega) (by omega)
          refine lv_iload hx hb dX0_valueOf_130 (lv_at hl 1 rfl) ?_
          refine lv_aload_n hx hb dX0_valueOf_132 rfl (lv_at hl 3 rfl) ?_
          refine va_get (D := g.1) (ci := 0) (v := .ref bstack) (C := RX0) (T := TX0) (N := 8) hx hb hT inF_X0 hown hK.1 hP 0 rfl rfl 7 (by decide) (hT _ bw_129) (fun _ h9 => h9) rfl dX0_valueOf_133 ?_
          refine lv_iload hx hb dX0_valueOf_136 (lv_at hl 0 rfl) ?_
          refine lv_iconst (v := 1) hx hb dX0_valueOf_138 (by decide) ?_
          refine lv_isub hx hb dX0_valueOf_139 ?_
          refine lv_topi (fun x_32 ex_32 => ?_)
          have fx_32 : x_32.toInt = x_30.toInt - 1 := by rw [ex_32]; exact I_sub rfl (by decide : (1 : Int32).toInt = 1) (by omega) (by omega)
          have h_33 : vp_in x_32 32 := vp_in_iff.mpr (by omega)
          refine va_iald hx hb hK.1 hP 3 1 rfl rfl (i := x_32) h_33 dX0_valueOf_140 ?_
          refine lv_topi (fun x_34 ex_34 => ?_)
          have ux_34 := congrArg Int32.toInt ex_34
          refine lv_aload_n hx hb dX0_valueOf_141 rfl (lv_at hl 3 rfl) ?_
          refine va_get (D := g.1) (ci := 0) (v := .ref bstack) (C := RX0) (T := TX0) (N := 8) hx hb hT inF_X0 hown hK.1 hP 0 rfl rfl 7 (by decide) (hT _ bw_129) (fun _ h9 => h9) rfl dX0_valueOf_142 ?_
          refine lv_iload hx hb dX0_valueOf_145 (lv_at hl 0 rfl) ?_
          have h_35 : vp_in x_30 32 := vp_in_iff.mpr (by omega)
          refine va_iald hx hb hK.1 hP 3 1 rfl rfl (i := x_30) h_35 dX0_valueOf_147 ?_
          refine lv_topi (fun x_36 ex_36 => ?_)
          have ux_36 := congrArg Int32.toInt ex_36
          refine k_iR (k_S (n := 3) ⟨hx, hb, hml, hown, hT⟩ hK hP hD [] rfl (by decide +kernel) (s_X0_joined l g H.size x_21 x_34 x_36) (gS bw_130 bw_131 bw_132 bw_128) rfl rfl (by decide +kernel) ⟨by decide, by decide⟩ (fun _ _ _ _ _ => trivial) (fun _ _ _ => trivial) rfl rfl hl.1 (Nat.le_of_ble_eq_true rfl) dX0_valueOf_148 ⟨by decide, by decide⟩) hP hS hA (fun r_37 _ H locs hw0 hP hS => ?_)
          have h_38 : vp_in x_31 32 := vp_in_iff.mpr (by omega)
          refine va_iast hx hb hK.1 hP hD hS 3 1 rfl rfl (i := x_31) (x := r_37) h_38 dX0_valueOf_151 (fun H locs hP hD hS => ?_)
          generalize upd f_5 (x_31 : Int32).toNatClampNeg r_37 = f_39 at hP hD
          have hP : va_P g.1 vwCl [(h, .inr (0, [.int bcount, .int bunits, .ref bnames, .int bunitsOfThis, .int blength, .ref bstarts, .ref bsteps, .ref bstack])), (bstarts, aI g 5 Fbstarts), (bsteps, aI g 640 Fbsteps), (bstack, aI g 32 f_39)] H := hP
          have hD : va_D A [(h, .inr (0, [.int bcount, .int bunits, .ref bnames, .int bunitsOfThis, .int blength, .ref bstarts, .ref bsteps, .ref bstack])), (bstarts, aI g 5 Fbstarts), (bsteps, aI g 640 Fbsteps), (bstack, aI g 32 f_39)] := hD
          obtain ⟨x_40, ex_40⟩ : ∃ y : Int32, y = L_3 + 1 := ⟨_, rfl⟩
          have fx_40 : x_40.toInt = L_3.toInt + 1 := by rw [ex_40]; exact I_add rfl (by decide) (by omega) (by omega)
          refine lv_iinc (v := x_40) (lv' := [(6, .int x_40), (5, .int x_30), (7, .int x_21), (0, .ref h), (1, .int p0), (2, .int p1), (3, .int p2), (4, .int p3)]) hx hb dX0_valueOf_152 hl (k := 2) rfl (by rw [ex_40]; rfl) (by decide) rfl (fun ls hl => ?_)
          refine lv_goto (tgt := 11) hx hb dX0_valueOf_155 (by decide) ?_
          exact ih (n - 1) (by omega) H locs ls ⟨x_40, x_30, f_39, (by first | with_reducible assumption | omega), (by first | with_reducible assumption | omega), by omega, hP.sub [0, 1, 2, 3] rfl, hD.sub [0, 1, 2, 3] (by decide +kernel) rfl, hS, lv_sub hl [0, 1, 3, 4, 5, 6, 7] rfl⟩
      · have f_41 := E_eq (rfl : x_21.toInt = _) (by decide : ((-4) : Int32).toInt = (-4)) c_24
        refine lv_iload hx hb dX0_valueOf_79 (lv_at hl 2 rfl) ?_
        refine lv_if_le (tgt := 152) hx hb dX0_valueOf_81 (by decide) (fun c_42 => ?_) (fun c_42 => ?_)
        · have f_43 := E_le (rfl : L_4.toInt = _) (by decide : (0 : Int32).toInt = 0) c_42
          obtain ⟨x_44, ex_44⟩ : ∃ y : Int32, y = L_3 + 1 := ⟨_, rfl⟩
          have fx_44 : x_44.toInt = L_3.toInt + 1 := by rw [ex_44]; exact I_add rfl (by decide) (by omega) (by omega)
          refine lv_iinc (v := x_44) (lv' := [(6, .int x_44), (7, .int x_21), (5, .int L_4), (0, .ref h), (1, .int p0), (2, .int p1), (3, .int p2), (4, .int p3)]) hx hb dX0_valueOf_152 hl (k := 1) rfl (by rw [ex_44]; rfl) (by decide) rfl (fun ls hl => ?_)
          refine lv_goto (tgt := 11) hx hb dX0_valueOf_155 (by decide) ?_
          exact ih (n - 1) (by omega) H locs ls ⟨x_44, L_4, f_5, (by first | with_reducible assumption | omega), (by first | with_reducible assumption | omega), by omega, hP.sub [0, 1, 2, 3] rfl, hD.sub [0, 1, 2, 3] (by decide +kernel) rfl, hS, lv_sub hl [0, 2, 3, 4, 5, 6, 7] rfl⟩
        · have f_45 := E_nle (rfl : L_4.toInt = _) (by decide : (0 : Int32).toInt = 0) c_42
          refine lv_aload_n hx hb dX0_valueOf_84 rfl (lv_at hl 3 rfl) ?_
          refine va_get (D := g.1) (ci := 0) (v := .ref bstack) (C := RX0) (T := TX0) (N := 8) hx hb hT inF_X0 hown hK.1 hP 0 rfl rfl 7 (by decide) (hT _ bw_129) (fun _ h9 => h9) rfl dX0_valueOf_85 ?_
          refine lv_iload hx hb dX0_valueOf_88 (lv_at hl 2 rfl) ?_
          refine lv_iconst (v := 1) hx hb dX0_valueOf_90 (by decide) ?_
          refine lv_isub hx hb dX0_valueOf_91 ?_
          refine lv_topi (fun x_46 ex_46 => ?_)
          have fx_46 : x_46.toInt = L_4.toInt - 1 := by rw [ex_46]; exact I_sub rfl (by decide : (1 : Int32).toInt = 1) (by omega) (by omega)
          refine lv_aload_n hx hb dX0_valueOf_92 rfl (lv_at hl 3 rfl) ?_
          refine va_get (D := g.1) (ci := 0) (v := .ref bstack) (C := RX0) (T := TX0) (N := 8) hx hb hT inF_X0 hown hK.1 hP 0 rfl rfl 7 (by decide) (hT _ bw_129) (fun _ h9 => h9) rfl dX0_valueOf_93 ?_
          refine lv_iload hx hb dX0_valueOf_96 (lv_at hl 2 rfl) ?_
          refine lv_iconst (v := 1) hx hb dX0_valueOf_98 (by decide) ?_
          refine lv_isub hx hb dX0_valueOf_99 ?_
          refine lv_topi (fun x_47 ex_47 => ?_)
          have fx_47 : x_47.toInt = L_4.toInt - 1 := by rw [ex_47]; exact I_sub rfl (by decide : (1 : Int32).toInt = 1) (by omega) (by omega)
          have h_48 : vp_in x_47 32 := vp_in_iff.mpr (by omega)
          refine va_iald hx hb hK.1 hP 3 1 rfl rfl (i := x_47) h_48 dX0_valueOf_100 ?_
          refine lv_topi (fun x_49 ex_49 => ?_)
          have ux_49 := congrArg Int32.toInt ex_49
          refine lv_if_ne (tgt := 108) hx hb dX0_valueOf_101 (by decide) (fun c_50 => ?_) (fun c_50 => ?_)
          · have f_51 := E_ne (rfl : x_49.toInt = _) (by decide : (0 : Int32).toInt = 0) c_50
            refine lv_iconst (v := 0) hx hb dX0_valueOf_108 (by decide) ?_
            have h_52 : vp_in x_46 32 := vp_in_iff.mpr (by omega)
            refine va_iast hx hb hK.1 hP hD hS 3 1 rfl rfl (i := x_46) (x := 0) h_52 dX0_valueOf_109 (fun H locs hP hD hS => ?_)
            generalize upd f_5 (x_46 : Int32).toNatClampNeg 0 = f_53 at hP hD
            have hP : va_P g.1 vwCl [(h, .inr (0, [.int bcount, .int bunits, .ref bnames, .int bunitsOfThis, .int blength, .ref bstarts, .ref bsteps, .ref bstack])), (bstarts, aI g 5 Fbstarts), (bsteps, aI g 640 Fbsteps), (bstack, aI g 32 f_53)] H := hP
            have hD : va_D A [(h, .inr (0, [.int bcount, .int bunits, .ref bnames, .int bunitsOfThis, .int blength, .ref bstarts, .ref bsteps, .ref bstack])), (bstarts, aI g 5 Fbstarts), (bsteps, aI g 640 Fbsteps), (bstack, aI g 32 f_53)] := hD
            refine lv_goto (tgt := 152) hx hb dX0_valueOf_110 (by decide) ?_
            obtain ⟨x_54, ex_54⟩ : ∃ y : Int32, y = L_3 + 1 := ⟨_, rfl⟩
            have fx_54 : x_54.toInt = L_3.toInt + 1 := by rw [ex_54]; exact I_add rfl (by decide) (by omega) (by omega)
            refine lv_iinc (v := x_54) (lv' := [(6, .int x_54), (7, .int x_21), (5, .int L_4), (0, .ref h), (1, .int p0), (2, .int p1), (3, .int p2), (4, .int p3)]) hx hb dX0_valueOf_152 hl (k := 1) rfl (by rw [ex_54]; rfl) (by decide) rfl (fun ls hl => ?_)
            refine lv_goto (tgt := 11) hx hb dX0_valueOf_155 (by decide) ?_
            exact ih (n - 1) (by omega) H locs ls ⟨x_54, L_4, f_53, (by first | with_reducible assumption | omega), (by first | with_reducible assumption | omega), by omega, hP.sub [0, 1, 2, 3] rfl, hD.sub [0, 1, 2, 3] (by decide +kernel) rfl, hS, lv_sub hl [0, 2, 3, 4, 5, 6, 7] rfl⟩
          · have f_55 := E_eq (rfl : x_49.toInt = _) (by decide : (0 : Int32).toInt = 0) c_50
            refine lv_iconst (v := 1) hx hb dX0_valueOf_104 (by decide) ?_
            refine lv_goto (tgt := 109) hx hb dX0_valueOf_105 (by decide) ?_
            have h_56 : vp_in x_46 32 := vp_in_iff.mpr (by omega)
            refine va_iast hx hb hK.1 hP hD hS 3 1 rfl rfl (i := x_46) (x := 1) h_56 dX0_valueOf_109 (fun H locs hP hD hS => ?_)
            generalize upd f_5 (x_46 : Int32).toNatClampNeg 1 = f_57 at hP hD
            have hP : va_P g.1 vwCl [(h, .inr (0, [.int bcount, .int bunits, .ref bnames, .int bunitsOfThis, .int blength, .ref bstarts, .ref bsteps, .ref bstack])), (bstarts, aI g 5 Fbstarts), (bsteps, aI g 640 Fbsteps), (bstack, aI g 32 f_57)] H := hP
            have hD : va_D A [(h, .inr (0, [.int bcount, .int bunits, .ref bnames, .int bunitsOfThis, .int blength, .ref bstarts, .ref bsteps, .ref bstack])), (bstarts, aI g 5 Fbstarts), (bsteps, aI g 640 Fbsteps), (bstack, aI g 32 f_57)] := hD
            refine lv_goto (tgt := 152) hx hb dX0_valueOf_110 (by decide) ?_
            obtain ⟨x_58, ex_58⟩ : ∃ y : Int32, y = L_3 + 1 := ⟨_, rfl⟩
            have fx_58 : x_58.toInt = L_3.toInt + 1 := by rw [ex_58]; exact I_add rfl (by decide) (by omega) (by omega)
            refine lv_iinc (v := x_58) (lv' := [(6, .int x_58), (7, .int x_21), (5, .int L_4), (0, .ref h), (1, .int p0), (2, .int p1), (3, .int p2), (4, .int p3)]) hx hb dX0_valueOf_152 hl (k := 1) rfl (by rw [ex_58]; rfl) (by decide) rfl (fun ls hl => ?_)
            refine lv_goto (tgt := 11) hx hb dX0_valueOf_155 (by decide) ?_
            exact ih (n - 1) (by omega) H locs ls ⟨x_58, L_4, f_57, (by first | with_reducible assumption | omega), (by first | with_reducible assumption | omega), by omega, hP.sub [0, 1, 2, 3] rfl, hD.sub [0, 1, 2, 3] (by decide +kernel) rfl, hS, lv_sub hl [0, 2, 3, 4, 5, 6, 7] rfl⟩
    · have f_59 := E_nle (rfl : x_21.toInt = _) (by decide : ((-4) : Int32).toInt = (-4)) c_22
      refine lv_iload hx hb dX0_valueOf_40 (lv_at hl 2 rfl) ?_
      refine lv_aload_n hx hb dX0_valueOf_42 rfl (lv_at hl 3 rfl) ?_
      refine va_get (D := g.1) (ci := 0) (v := .ref bstack) (C := RX0) (T := TX0) (N := 8) hx hb hT inF_X0 hown hK.1 hP 0 rfl rfl 7 (by decide) (hT _ bw_129) (fun _ h9 => h9) rfl dX0_valueOf_43 ?_
      refine va_alen (v := 32) hx hb hK.1 hP 3 1 rfl rfl rfl dX0_valueOf_46 ?_
      refine lv_icmp_ge (tgt := 152) hx hb dX0_valueOf_47 (by decide) (fun c_60 => ?_) (fun c_60 => ?_)
      · have f_61 := E_le (by decide : (32 : Int32).toInt = 32) (rfl : L_4.toInt = _) c_60
        obtain ⟨x_62, ex_62⟩ : ∃ y : Int32, y = L_3 + 1 := ⟨_, rfl⟩
        have fx_62 : x_62.toInt = L_3.toInt + 1 := by rw [ex_62]; exact I_add rfl (by decide) (by omega) (by omega)
        refine lv_iinc (v := x_62) (lv' := [(6, .int x_62), (7, .int x_21), (5, .int L_4), (0, .ref h), (1, .int p0), (2, .int p1), (3, .int p2), (4, .int p3)]) hx hb dX0_valueOf_152 hl (k := 1) rfl (by rw [ex_62]; rfl) (by decide) rfl (fun ls hl => ?_)
        refine lv_goto (tgt := 11) hx hb dX0_valueOf_155 (by decide) ?_
        exact ih (n - 1) (by omega) H locs ls ⟨x_62, L_4, f_5, (by first | with_reducible assumption | omega), (by first | with_reducible assumption | omega), by omega, hP.sub [0, 1, 2, 3] rfl, hD.sub [0, 1, 2, 3] (by decide +kernel) rfl, hS, lv_sub hl [0, 2, 3, 4, 5, 6, 7] rfl⟩
      · have f_63 := E_nle (by decide : (32 : Int32).toInt = 32) (rfl : L_4.toInt = _) c_60
        refine lv_aload_n hx hb dX0_valueOf_50 rfl (lv_at hl 3 rfl) ?_
        refine va_get (D := g.1) (ci := 0) (v := .ref bstack) (C := RX0) (T := TX0) (N := 8) hx hb hT inF_X0 hown hK.1 hP 0 rfl rfl 7 (by decide) (hT _ bw_129) (fun _ h9 => h9) rfl dX0_valueOf_51 ?_
        refine lv_iload hx hb dX0_valueOf_54 (lv_at hl 2 rfl) ?_
        refine lv_iload hx hb dX0_valueOf_56 (lv_at hl 0 rfl) ?_
        refine lv_iload_n hx hb dX0_valueOf_58 rfl (lv_at hl 5 rfl) ?_
        refine lv_iload_n hx hb dX0_valueOf_59 rfl (lv_at hl 6 rfl) ?_
        refine lv_iload hx hb dX0_valueOf_60 (lv_at hl 7 rfl) ?_
        refine k_iR (k_S (n := 4) ⟨hx, hb, hml, hown, hT⟩ hK hP hD [] rfl (by decide +kernel) (s_X0_leaf l g H.size x_21 p1 p2 p3) (gS bw_133 bw_134 bw_135 bw_127) rfl rfl (by decide +kernel) ⟨by decide, by decide⟩ (fun _ _ _ _ _ => trivial) (fun _ _ _ => trivial) rfl rfl hl.1 (Nat.le_of_ble_eq_true rfl) dX0_valueOf_62 ⟨by decide, by decide⟩) hP hS hA (fun r_64 _ H locs hw0 hP hS => ?_)
        have h_65 : vp_in L_4 32 := vp_in_iff.mpr (by omega)
        refine va_iast hx hb hK.1 hP hD hS 3 1 rfl rfl (i := L_4) (x := r_64) h_65 dX0_valueOf_65 (fun H locs hP hD hS => ?_)
        generalize upd f_5 (L_4 : Int32).toNatClampNeg r_64 = f_66 at hP hD
        have hP : va_P g.1 vwCl [(h, .inr (0, [.int bcount, .int bunits, .ref bnames, .int bunitsOfThis, .int blength, .ref bstarts, .ref bsteps, .ref bstack])), (bstarts, aI g 5 Fbstarts), (bsteps, aI g 640 Fbsteps), (bstack, aI g 32 f_66)] H := hP
        have hD : va_D A [(h, .inr (0, [.int bcount, .int bunits, .ref bnames, .int bunitsOfThis, .int blength, .ref bstarts, .ref bsteps, .ref bstack])), (bstarts, aI g 5 Fbstarts), (bsteps, aI g 640 Fbsteps), (bstack, aI g 32 f_66)] := hD
        obtain ⟨x_67, ex_67⟩ : ∃ y : Int32, y = L_4 + 1 := ⟨_, rfl⟩
        have fx_67 : x_67.toInt = L_4.toInt + 1 := by rw [ex_67]; exact I_add rfl (by decide) (by omega) (by omega)
        refine lv_iinc (v := x_67) (lv' := [(5, .int x_67), (7, .int x_21), (6, .int L_3), (0, .ref h), (1, .int p0), (2, .int p1), (3, .int p2), (4, .int p3)]) hx hb dX0_valueOf_66 hl (k := 2) rfl (by rw [ex_67]; rfl) (by decide) rfl (fun ls hl => ?_)
        refine lv_goto (tgt := 152) hx hb dX0_valueOf_69 (by decide) ?_
        obtain ⟨x_68, ex_68⟩ : ∃ y : Int32, y = L_3 + 1 := ⟨_, rfl⟩
        have fx_68 : x_68.toInt = L_3.toInt + 1 := by rw [ex_68]; exact I_add rfl (by decide) (by omega) (by omega)
        refine lv_iinc (v := x_68) (lv' := [(6, .int x_68), (5, .int x_67), (7, .int x_21), (0, .ref h), (1, .int p0), (2, .int p1), (3, .int p2), (4, .int p3)]) hx hb dX0_valueOf_152 hl (k := 2) rfl (by rw [ex_68]; rfl) (by decide) rfl (fun ls hl => ?_)
        refine lv_goto (tgt := 11) hx hb dX0_valueOf_155 (by decide) ?_
        exact ih (n - 1) (by omega) H locs ls ⟨x_68, x_67, f_66, (by first | with_reducible assumption | omega), (by first | with_reducible assumption | omega), by omega, hP.sub [0, 1, 2, 3] rfl, hD.sub [0, 1, 2, 3] (by decide +kernel) rfl, hS, lv_sub hl [0, 1, 3, 4, 5, 6, 7] rfl⟩

theorem bw_137 : Cond.fieldLink RX2 12 "DuelDelays$Land" "men" "LDuelDelays$Men;" ∈ gT := gT_tb 284 (by decide +kernel) (by decide +kernel)
theorem bw_138 : Cond.fieldLink RX2 46 "DuelDelays$Men" "count" "I" ∈ gT := gT_tb 163 (by decide +kernel) (by decide +kernel)
theorem bw_139 : Cond.fieldLink RX2 21 "DuelDelays$Land" "formulas" "LDuelDelays$Formulas;" ∈ gT := gT_tb 289 (by decide +kernel) (by decide +kernel)
theorem bw_140 : Cond.methodLink RX2 49 yX0_clear ∈ gT := gT_tb 588 (by decide +kernel) (by decide +kernel)
theorem bw_141 : Cond.instanceMethod yX0_clear ∈ gT := gT_tb 589 (by decide +kernel) (by decide +kernel)
theorem bw_142 : Cond.selects RX0 yX0_clear yX0_clear ∈ gT := gT_tb 590 (by decide +kernel) (by decide +kernel)
theorem bw_143 : Cond.initialized RX0 ∈ gT := gT_tb 10 (by decide +kernel) (by decide +kernel)
theorem bw_144 : Cond.fieldLink RX2 28 "DuelDelays$Land" "reasons" "LDuelDelays$Reasons;" ∈ gT := gT_tb 292 (by decide +kernel) (by decide +kernel)
theorem bw_145 : Cond.fieldLink RX2 52 "DuelDelays$Reasons" "count" "I" ∈ gT := gT_tb 236 (by decide +kernel) (by decide +kernel)
theorem bw_146 : Cond.fieldLink RX2 53 "DuelDelays$Land" "duels" "I" ∈ gT := gT_tb 298 (by decide +kernel) (by decide +kernel)
theorem bw_147 : Cond.fieldLink RX2 39 "DuelDelays$Land" "honour" "I" ∈ gT := gT_tb 307 (by decide +kernel) (by decide +kernel)
theorem bw_148 : Cond.fieldLink RX2 56 "DuelDelays$Land" "draw" "I" ∈ gT := gT_tb 311 (by decide +kernel) (by decide +kernel)
theorem bw_149 : Cond.fieldLink RX2 43 "DuelDelays$Land" "usesOfKind" "[I" ∈ gT := gT_tb 313 (by decide +kernel) (by decide +kernel)
theorem bw_150 : Cond.methodLink RX2 59 yJ7_fill_53178 ∈ gT := gT_tb 592 (by decide +kernel) (by decide +kernel)
theorem bw_151 : Cond.code yX2_clear cX2_clear 1 none ∈ gT := gT_tb 587 (by decide +kernel) (by decide +kernel)
theorem dX2_clear_0 : decode cX2_clear 0 = .ok (.aload_n 0, 1) := by decide +kernel
theorem dX2_clear_1 : decode cX2_clear 1 = .ok (.getfield 12, 3) := by decide +kernel
theorem dX2_clear_4 : decode cX2_clear 4 = .ok (.iconst 0, 1) := by decide +kernel
theorem dX2_clear_5 : decode cX2_clear 5 = .ok (.putfield 46, 3) := by decide +kernel
theorem dX2_clear_8 : decode cX2_clear 8 = .ok (.aload_n 0, 1) := by decide +kernel
theorem dX2_clear_9 : decode cX2_clear 9 = .ok (.getfield 21, 3) := by decide +kernel
theorem dX2_clear_12 : decode cX2_clear 12 = .ok (.invokevirtual 49, 3) := by decide +kernel
theorem dX2_clear_15 : decode cX2_clear 15 = .ok (.aload_n 0, 1) := by decide +kernel
theorem dX2_clear_16 : decode cX2_clear 16 = .ok (.getfield 28, 3) := by decide +kernel
theorem dX2_clear_19 : decode cX2_clear 19 = .ok (.iconst 0, 1) := by decide +kernel
theorem dX2_clear_20 : decode cX2_clear 20 = .ok (.putfield 52, 3) := by decide +kernel
theorem dX2_clear_23 : decode cX2_clear 23 = .ok (.aload_n 0, 1) := by decide +kernel
theorem dX2_clear_24 : decode cX2_clear 24 = .ok (.iconst 0, 1) := by decide +kernel
theorem dX2_clear_25 : decode cX2_clear 25 = .ok (.putfield 53, 3) := by decide +kernel
theorem dX2_clear_28 : decode cX2_clear 28 = .ok (.aload_n 0, 1) := by decide +kernel
theorem dX2_clear_29 : decode cX2_clear 29 = .ok (.bipush 9, 2) := by decide +kernel
theorem dX2_clear_31 : decode cX2_clear 31 = .ok (.putfield 39, 3) := by decide +kernel
theorem dX2_clear_34 : decode cX2_clear 34 = .ok (.aload_n 0, 1) := by decide +kernel
theorem dX2_clear_35 : decode cX2_clear 35 = .ok (.iconst 0, 1) := by decide +kernel
theorem dX2_clear_36 : decode cX2_clear 36 = .ok (.putfield 56, 3) := by decide +kernel
theorem dX2_clear_39 : decode cX2_clear 39 = .ok (.aload_n 0, 1) := by decide +kernel
theorem dX2_clear_40 : decode cX2_clear 40 = .ok (.getfield 43, 3) := by decide +kernel
theorem dX2_clear_43 : decode cX2_clear 43 = .ok (.iconst 0, 1) := by decide +kernel
theorem dX2_clear_44 : decode cX2_clear 44 = .ok (.invokestatic 59, 3) := by decide +kernel
theorem dX2_clear_47 : decode cX2_clear 47 = .ok (.return_, 1) := by decide +kernel
set_option maxHeartbeats 4000000 in
set_option maxRecDepth 100000 in
theorem s_X2_clear (l : Launch) (g : GG) (sz : Nat) (h : Nat) (bduels : Int32) (bduelSides : Nat) (bduelMornings : Nat) (bhonour : Int32) (bdraw : Int32) (busesOfKind : Nat) (FbusesOfKind : Nat → Int32) (bmen : Nat) (bmen_count : Int32) (bmen_names : Nat) (bmen_dies : Nat) (bmen_coins : Nat) (bmen_fathers : Nat) (bformulas : Nat) (bformulas_count : Int32) (bformulas_units : Int32) (bformulas_names : Nat) (bformulas_unitsOfThis : Int32) (bformulas_length : Int32) (bformulas_starts : Nat) (bformulas_steps : Nat) (bformulas_stack : Nat) (breasons : Nat) (breasons_count : Int32) (breasons_names : Nat) (breasons_kinds : Nat) (breasons_owners : Nat) (breasons_froms : Nat) (breasons_tos : Nat) (breasons_rents : Nat) (breasons_sorts : Nat) (hh0 : 0 ≤ bduels.toInt ∧ bduels.toInt ≤ 6) (hh2 : 0 ≤ bdraw.toInt ∧ bdraw.toInt ≤ 999) (hh3 : 0 ≤ bmen_count.toInt ∧ bmen_count.toInt ≤ 6) (hh4 : 0 ≤ bformulas_count.toInt ∧ bformulas_count.toInt ≤ 4) (hh5 : 0 ≤ bformulas_units.toInt ∧ bformulas_units.toInt ≤ 60) (hh6 : 0 ≤ bformulas_unitsOfThis.toInt ∧ bformulas_unitsOfThis.toInt ≤ 30) (hh7 : 0 ≤ bformulas_length.toInt ∧ bformulas_length.toInt ≤ 640) (hh9 : 0 ≤ breasons_count.toInt ∧ breasons_count.toInt ≤ 8) : Met l yX2_clear (.code yX2_clear cX2_clear 1 none :: gT) ({ frames := 1, cells := 0, slots := 0, locals := 23 }) (va_Pc [.ref h] (Pst g sz [(h, .inr (2, [.ref bmen, .ref bformulas, .ref breasons, .int bduels, .ref bduelSides, .ref bduelMornings, .int bhonour, .int bdraw, .ref busesOfKind])), (busesOfKind, aI g 4 FbusesOfKind), (bmen, .inr (3, [.int bmen_count, .ref bmen_names, .ref bmen_dies, .ref bmen_coins, .ref bmen_fathers])), (bformulas, .inr (0, [.int bformulas_count, .int bformulas_units, .ref bformulas_names, .int bformulas_unitsOfThis, .int bformulas_length, .ref bformulas_starts, .ref bformulas_steps, .ref bformulas_stack])), (breasons, .inr (6, [.int breasons_count, .ref breasons_names, .ref breasons_kinds, .ref breasons_owners, .ref breasons_froms, .ref breasons_tos, .ref breasons_rents, .ref breasons_sorts]))] nX)) (va_Qv (fun (o0_F : (Nat → Int32)) => True) (Qst g [(h, .inr (2, [.ref bmen, .ref bformulas, .ref breasons, .int bduels, .ref bduelSides, .ref bduelMornings, .int bhonour, .int bdraw, .ref busesOfKind])), (busesOfKind, aI g 4 FbusesOfKind), (bmen, .inr (3, [.int bmen_count, .ref bmen_names, .ref bmen_dies, .ref bmen_coins, .ref bmen_fathers])), (bformulas, .inr (0, [.int bformulas_count, .int bformulas_units, .ref bformulas_names, .int bformulas_unitsOfThis, .int bformulas_length, .ref bformulas_starts, .ref bformulas_steps, .ref bformulas_stack])), (breasons, .inr (6, [.int breasons_count, .ref breasons_names, .ref breasons_kinds, .ref breasons_owners, .ref breasons_froms, .ref breasons_tos, .ref breasons_rents, .ref breasons_sorts]))] sz (fun (o0_F : (Nat → Int32)) => [(h, .inr (2, [.ref bmen, .ref bformulas, .ref breasons, .int 0, .ref bduelSides, .ref bduelMornings, .int 9, .int 0, .ref busesOfKind])), (busesOfKind, aI g 4 o0_F), (bmen, .inr (3, [.int 0, .ref bmen_names, .ref bmen_dies, .ref bmen_coins, .ref bmen_fathers])), (bformulas, .inr (0, [.int 0, .int 0, .ref bformulas_names, .int bformulas_unitsOfThis, .int 0, .ref bformulas_starts, .ref bformulas_steps, .ref bformulas_stack])), (breasons, .inr (6, [.int 0, .ref breasons_names, .ref breasons_kinds, .ref breasons_owners, .ref breasons_froms, .ref breasons_tos, .ref breasons_rents, .ref breasons_sorts]))])) (va_A [(h, .inr (2, [.ref bmen, .ref bformulas, .ref breasons, .int bduels, .ref bduelSides, .ref bduelMornings, .int bhonour, .int bdraw, .ref busesOfKind])), (busesOfKind, aI g 4 FbusesOfKind), (bmen, .inr (3, [.int bmen_count, .ref bmen_names, .ref bmen_dies, .ref bmen_coins, .ref bmen_fathers])), (bformulas, .inr (0, [.int bformulas_count, .int bformulas_units, .ref bformulas_names, .int bformulas_unitsOfThis, .int bformulas_length, .ref bformulas_starts, .ref bformulas_steps, .ref bformulas_stack])), (breasons, .inr (6, [.int breasons_count, .ref breasons_names, .ref breasons_kinds, .ref breasons_owners, .ref breasons_froms, .ref breasons_tos, .ref breasons_rents, .ref breasons_sorts]))] sz)) 0 0 (va_A [(h, .inr (2, [.ref bmen, .ref bformulas, .ref breasons, .int bduels, .ref bduelSides, .ref bduelMornings, .int bhonour, .int bdraw, .ref busesOfKind])), (busesOfKind, aI g 4 FbusesOfKind), (bmen, .inr (3, [.int bmen_count, .ref bmen_names, .ref bmen_dies, .ref bmen_coins, .ref bmen_fathers])), (bformulas, .inr (0, [.int bformulas_count, .int bformulas_units, .ref bformulas_names, .int bformulas_unitsOfThis, .int bformulas_length, .ref bformulas_starts, .ref bformulas_steps, .ref bformulas_stack])), (breasons, .inr (6, [.int breasons_count, .ref breasons_names, .ref breasons_kinds, .ref breasons_owners, .ref breasons_froms, .ref breasons_tos, .ref breasons_rents, .ref breasons_sorts]))] sz) := by
  refine Met.ofW (cc := cX2_clear) (maxL := 1) (ret := none) (by decide) rfl ?_
  intro p e s m args below meth c s₁ B hml hv
  obtain ⟨rfl, hsz, hP, hK, hD0, hX⟩ := hv
  have hx := B.exec
  have hb := B.bytes
  have hr := B.returns
  have hT : ∀ w ∈ gT, w.before _ s = true := fun w h => atoms_spec (ws := .code yX2_clear cX2_clear 1 none :: gT) B.pre w (List.mem_cons_of_mem _ h)
  have hown : s.vm.findClass RX2 = some m.cls := findClass_of_methodNamed B.named
  have hlocks := B.notSynchronized
  subst hsz
  have hD := hD0.self (sz := s.heap.size)
  generalize hAe : va_A [(h, .inr (2, [.ref bmen, .ref bformulas, .ref breasons, .int bduels, .ref bduelSides, .ref bduelMornings, .int bhonour, .int bdraw, .ref busesOfKind])), (busesOfKind, aI g 4 FbusesOfKind), (bmen, .inr (3, [.int bmen_count, .ref bmen_names, .ref bmen_dies, .ref bmen_coins, .ref bmen_fathers])), (bformulas, .inr (0, [.int bformulas_count, .int bformulas_units, .ref bformulas_names, .int bformulas_unitsOfThis, .int bformulas_length, .ref bformulas_starts, .ref bformulas_steps, .ref bformulas_stack])), (breasons, .inr (6, [.int breasons_count, .ref breasons_names, .ref breasons_kinds, .ref breasons_owners, .ref breasons_froms, .ref breasons_tos, .ref breasons_rents, .ref breasons_sorts]))] s.heap.size = A at hD ⊢
  have hA : ∀ q : Nat, s.heap.size ≤ q → A q := fun q h => by rw [← hAe]; exact Or.inr h
  have hS : va_S A s.heap s.heap [] := va_S.rf
  have hl := lv_entry ([.ref h]) (n := 1) (Nat.le_of_ble_eq_true rfl)
  rw [lg_entry_eq]
  generalize (lg_sl ([.ref h]) ++ List.replicate (1 - (lg_sl ([.ref h])).length) Slot.unset).toArray = ls at hl ⊢
  have hl : lv_has ls 1 [(0, .ref h)] := hl
  refine p_nH (fun H hH => ?_)
  have hP : va_P g.1 vwCl [(h, .inr (2, [.ref bmen, .ref bformulas, .ref breasons, .int bduels, .ref bduelSides, .ref bduelMornings, .int bhonour, .int bdraw, .ref busesOfKind])), (busesOfKind, aI g 4 FbusesOfKind), (bmen, .inr (3, [.int bmen_count, .ref bmen_names, .ref bmen_dies, .ref bmen_coins, .ref bmen_fathers])), (bformulas, .inr (0, [.int bformulas_count, .int bformulas_units, .ref bformulas_names, .int bformulas_unitsOfThis, .int bformulas_length, .ref bformulas_starts, .ref bformulas_steps, .ref bformulas_stack])), (breasons, .inr (6, [.int breasons_count, .ref breasons_names, .ref breasons_kinds, .ref breasons_owners, .ref breasons_froms, .ref breasons_tos, .ref breasons_rents, .ref breasons_sorts]))] H := by rw [hH]; exact hP
  have hS : va_S A s.heap H [] := by rw [hH]; exact hS
  refine lv_aload_n hx hb dX2_clear_0 rfl (lv_at hl 0 rfl) ?_
  refine va_get (D := g.1) (ci := 2) (v := .ref bmen) (C := RX2) (T := TX2) (N := 9) hx hb hT inF_X2 hown hK.1 hP 0 rfl rfl 0 (by decide) (hT _ bw_137) (fun _ h9 => h9) rfl dX2_clear_1 ?_
  refine lv_iconst (v := 0) hx hb dX2_clear_4 (by decide) ?_
  refine va_put (D := g.1) (ci := 3) (v := .int 0) (ty := .int) (C := RX3) (T := TX3) (N := 5) hx hb hT inF_X3 tyX3 tyX3_ok nmX3 hown hK.1 hP hD hS 2 rfl rfl 0 (by decide) (hT _ bw_138) (fun _ h9 => h9) rfl (by decide +kernel) rfl rfl (Nat.le_of_ble_eq_true rfl) dX2_clear_5 (fun H locs hP hD hS => ?_)
  have hP : va_P g.1 vwCl [(h, .inr (2, [.ref bmen, .ref bformulas, .ref breasons, .int bduels, .ref bduelSides, .ref bduelMornings, .int bhonour, .int bdraw, .ref busesOfKind])), (busesOfKind, aI g 4 FbusesOfKind), (bmen, .inr (3, [.int 0, .ref bmen_names, .ref bmen_dies, .ref bmen_coins, .ref bmen_fathers])), (bformulas, .inr (0, [.int bformulas_count, .int bformulas_units, .ref bformulas_names, .int bformulas_unitsOfThis, .int bformulas_length, .ref bformulas_starts, .ref bformulas_steps, .ref bformulas_stack])), (breasons, .inr (6, [.int breasons_count, .ref breasons_names, .ref breasons_kinds, .ref breasons_owners, .ref breasons_froms, .ref breasons_tos, .ref breasons_rents, .ref breasons_sorts]))] H := hP
  have hD : va_D A [(h, .inr (2, [.ref bmen, .ref bformulas, .ref breasons, .int bduels, .ref bduelSides, .ref bduelMornings, .int bhonour, .int bdraw, .ref busesOfKind])), (busesOfKind, aI g 4 FbusesOfKind), (bmen, .inr (3, [.int 0, .ref bmen_names, .ref bmen_dies, .ref bmen_coins, .ref bmen_fathers])), (bformulas, .inr (0, [.int bformulas_count, .int bformulas_units, .ref bformulas_names, .int bformulas_unitsOfThis, .int bformulas_length, .ref bformulas_starts, .ref bformulas_steps, .ref bformulas_stack])), (breasons, .inr (6, [.int breasons_count, .ref breasons_names, .ref breasons_kinds, .ref breasons_owners, .ref breasons_froms, .ref breasons_tos, .ref breasons_rents, .ref breasons_sorts]))] := hD
  refine lv_aload_n hx hb dX2_clear_8 rfl (lv_at hl 0 rfl) ?_
  refine va_get (D := g.1) (ci := 2) (v := .ref bformulas) (C := RX2) (T := TX2) (N := 9) hx hb hT inF_X2 hown hK.1 hP 0 rfl rfl 1 (by decide) (hT _ bw_139) (fun _ h9 => h9) rfl dX2_clear_9 ?_
  refine k_v (wr := [(h, .inr (2, [.ref bmen, .ref bformulas, .ref breasons, .int bduels, .ref bduelSides, .ref bduelMornings, .int bhonour, .int bdraw, .ref busesOfKind])), (busesOfKind, aI g 4 FbusesOfKind), (bmen, .inr (3, [.int 0, .ref bmen_names, .ref bmen_dies, .ref bmen_coins, .ref bmen_fathers])), (breasons, .inr (6, [.int breasons_count, .ref breasons_names, .ref breasons_kinds, .ref breasons_owners, .ref breasons_froms, .ref breasons_tos, .ref breasons_rents, .ref breasons_sorts]))]) (k_V (n := 0) ⟨hx, hb, hml, hown, hT⟩ hK hP hD [3] rfl (by decide +kernel) (s_X0_clear l g H.size bformulas bformulas_count bformulas_units bformulas_names bformulas_unitsOfThis bformulas_length bformulas_starts bformulas_steps bformulas_stack (by first | with_reducible assumption | omega) (by first | with_reducible assumption | omega) (by first | with_reducible assumption | omega) (by first | with_reducible assumption | omega)) (gV bw_140 bw_141 bw_142 bw_143 bw_120) rfl rfl (by decide +kernel) ⟨by decide, by decide⟩ (ci := 0) (q0 := 0) rfl rfl (fun _ _ _ _ _ => trivial) (fun _ _ _ => trivial) rfl rfl hl.1 (Nat.le_of_ble_eq_true rfl) dX2_clear_12 ⟨by decide, by decide⟩) hP hD hS hA [3] [0, 1, 2, 4] rfl rfl (by decide +kernel) (by decide +kernel) (fun u H locs hw0 hP hD hS => ?_)
  have hP : va_P g.1 vwCl [(h, .inr (2, [.ref bmen, .ref bformulas, .ref breasons, .int bduels, .ref bduelSides, .ref bduelMornings, .int bhonour, .int bdraw, .ref busesOfKind])), (busesOfKind, aI g 4 FbusesOfKind), (bmen, .inr (3, [.int 0, .ref bmen_names, .ref bmen_dies, .ref bmen_coins, .ref bmen_fathers])), (breasons, .inr (6, [.int breasons_count, .ref breasons_names, .ref breasons_kinds, .ref breasons_owners, .ref breasons_froms, .ref breasons_tos, .ref breasons_rents, .ref breasons_sorts])), (bformulas, .inr (0, [.int 0, .int 0, .ref bformulas_names, .int bformulas_unitsOfThis, .int 0, .ref bformulas_starts, .ref bformulas_steps, .ref bformulas_stack]))] H := hP
  have hD : va_D A [(h, .inr (2, [.ref bmen, .ref bformulas, .ref breasons, .int bduels, .ref bduelSides, .ref bduelMornings, .int bhonour, .int bdraw, .ref busesOfKind])), (busesOfKind, aI g 4 FbusesOfKind), (bmen, .inr (3, [.int 0, .ref bmen_names, .ref bmen_dies, .ref bmen_coins, .ref bmen_fathers])), (breasons, .inr (6, [.int breasons_count, .ref breasons_names, .ref breasons_kinds, .ref breasons_owners, .ref breasons_froms, .ref breasons_tos, .ref breasons_rents, .ref breasons_sorts])), (bformulas, .inr (0, [.int 0, .int 0, .ref bformulas_names, .int bformulas_unitsOfThis, .int 0, .ref bformulas_starts, .ref bformulas_steps, .ref bformulas_stack]))] := hD
  refine lv_aload_n hx hb dX2_clear_15 rfl (lv_at hl 0 rfl) ?_
  refine va_get (D := g.1) (ci := 2) (v := .ref breasons) (C := RX2) (T := TX2) (N := 9) hx hb hT inF_X2 hown hK.1 hP 0 rfl rfl 2 (by decide) (hT _ bw_144) (fun _ h9 => h9) rfl dX2_clear_16 ?_
  refine lv_iconst (v := 0) hx hb dX2_clear_19 (by decide) ?_
  refine va_put (D := g.1) (ci := 6) (v := .int 0) (ty := .int) (C := RX6) (T := TX6) (N := 8) hx hb hT inF_X6 tyX6 tyX6_ok nmX6 hown hK.1 hP hD hS 3 rfl rfl 0 (by decide) (hT _ bw_145) (fun _ h9 => h9) rfl (by decide +kernel) rfl rfl (Nat.le_of_ble_eq_true rfl) dX2_clear_20 (fun H locs hP hD hS => ?_)
  have hP : va_P g.1 vwCl [(h, .inr (2, [.ref bmen, .ref bformulas, .ref breasons, .int bduels, .ref bduelSides, .ref bduelMornings, .int bhonour, .int bdraw, .ref busesOfKind])), (busesOfKind, aI g 4 FbusesOfKind), (bmen, .inr (3, [.int 0, .ref bmen_names, .ref bmen_dies, .ref bmen_coins, .ref bmen_fathers])), (breasons, .inr (6, [.int 0, .ref breasons_names, .ref breasons_kinds, .ref breasons_owners, .ref breasons_froms, .ref breasons_tos, .ref breasons_rents, .ref breasons_sorts])), (bformulas, .inr (0, [.int 0, .int 0, .ref bformulas_names, .int bformulas_unitsOfThis, .int 0, .ref bformulas_starts, .ref bformulas_steps, .ref bformulas_stack]))] H := hP
  have hD : va_D A [(h, .inr (2, [.ref bmen, .ref bformulas, .ref breasons, .int bduels, .ref bduelSides, .ref bduelMornings, .int bhonour, .int bdraw, .ref busesOfKind])), (busesOfKind, aI g 4 FbusesOfKind), (bmen, .inr (3, [.int 0, .ref bmen_names, .ref bmen_dies, .ref bmen_coins, .ref bmen_fathers])), (breasons, .inr (6, [.int 0, .ref breasons_names, .ref breasons_kinds, .ref breasons_owners, .ref breasons_froms, .ref breasons_tos, .ref breasons_rents, .ref breasons_sorts])), (bformulas, .inr (0, [.int 0, .int 0, .ref bformulas_names, .int bformulas_unitsOfThis, .int 0, .ref bformulas_starts, .ref bformulas_steps, .ref bformulas_stack]))] := hD
  refine lv_aload_n hx hb dX2_clear_23 rfl (lv_at hl 0 rfl) ?_
  refine lv_iconst (v := 0) hx hb dX2_clear_24 (by decide) ?_
  refine va_put (D := g.1) (ci := 2) (v := .int 0) (ty := .int) (C := RX2) (T := TX2) (N := 9) hx hb hT inF_X2 tyX2 tyX2_ok nmX2 hown hK.1 hP hD hS 0 rfl rfl 3 (by decide) (hT _ bw_146) (fun _ h9 => h9) rfl (by decide +kernel) rfl rfl (Nat.le_of_ble_eq_true rfl) dX2_clear_25 (fun H locs hP hD hS => ?_)
  have hP : va_P g.1 vwCl [(h, .inr (2, [.ref bmen, .ref bformulas, .ref breasons, .int 0, .ref bduelSides, .ref bduelMornings, .int bhonour, .int bdraw, .ref busesOfKind])), (busesOfKind, aI g 4 FbusesOfKind), (bmen, .inr (3, [.int 0, .ref bmen_names, .ref bmen_dies, .ref bmen_coins, .ref bmen_fathers])), (breasons, .inr (6, [.int 0, .ref breasons_names, .ref breasons_kinds, .ref breasons_owners, .ref breasons_froms, .ref breasons_tos, .ref breasons_rents, .ref breasons_sorts])), (bformulas, .inr (0, [.int 0, .int 0, .ref bformulas_names, .int bformulas_unitsOfThis, .int 0, .ref bformulas_starts, .ref bformulas_steps, .ref bformulas_stack]))] H := hP
  have hD : va_D A [(h, .inr (2, [.ref bmen, .ref bformulas, .ref breasons, .int 0, .ref bduelSides, .ref bduelMornings, .int bhonour, .int bdraw, .ref busesOfKind])), (busesOfKind, aI g 4 FbusesOfKind), (bmen, .inr (3, [.int 0, .ref bmen_names, .ref bmen_dies, .ref bmen_coins, .ref bmen_fathers])), (breasons, .inr (6, [.int 0, .ref breasons_names, .ref breasons_kinds, .ref breasons_owners, .ref breasons_froms, .ref breasons_tos, .ref breasons_rents, .ref breasons_sorts])), (bformulas, .inr (0, [.int 0, .int 0, .ref bformulas_names, .int bformulas_unitsOfThis, .int 0, .ref bformulas_starts, .ref bformulas_steps, .ref bformulas_stack]))] := hD
  refine lv_aload_n hx hb dX2_clear_28 rfl (lv_at hl 0 rfl) ?_
  refine lv_bipush (v := 9) hx hb dX2_clear_29 (by decide) ?_
  refine va_put (D := g.1) (ci := 2) (v := .int 9) (ty := .int) (C := RX2) (T := TX2) (N := 9) hx hb hT inF_X2 tyX2 tyX2_ok nmX2 hown hK.1 hP hD hS 0 rfl rfl 6 (by decide) (hT _ bw_147) (fun _ h9 => h9) rfl (by decide +kernel) rfl rfl (Nat.le_of_ble_eq_true rfl) dX2_clear_31 (fun H locs hP hD hS => ?_)
  have hP : va_P g.1 vwCl [(h, .inr (2, [.ref bmen, .ref bformulas, .ref breasons, .int 0, .ref bduelSides, .ref bduelMornings, .int 9, .int bdraw, .ref busesOfKind])), (busesOfKind, aI g 4 FbusesOfKind), (bmen, .inr (3, [.int 0, .ref bmen_names, .ref bmen_dies, .ref bmen_coins, .ref bmen_fathers])), (breasons, .inr (6, [.int 0, .ref breasons_names, .ref breasons_kinds, .ref breasons_owners, .ref breasons_froms, .ref breasons_tos, .ref breasons_rents, .ref breasons_sorts])), (bformulas, .inr (0, [.int 0, .int 0, .ref bformulas_names, .int bformulas_unitsOfThis, .int 0, .ref bformulas_starts, .ref bformulas_steps, .ref bformulas_stack]))] H := hP
  have hD : va_D A [(h, .inr (2, [.ref bmen, .ref bformulas, .ref breasons, .int 0, .ref bduelSides, .ref bduelMornings, .int 9, .int bdraw, .ref busesOfKind])), (busesOfKind, aI g 4 FbusesOfKind), (bmen, .inr (3, [.int 0, .ref bmen_names, .ref bmen_dies, .ref bmen_coins, .ref bmen_fathers])), (breasons, .inr (6, [.int 0, .ref breasons_names, .ref breasons_kinds, .ref breasons_owners, .ref breasons_froms, .ref breasons_tos, .ref breasons_rents, .ref breasons_sorts])), (bformulas, .inr (0, [.int 0, .int 0, .ref bformulas_names, .int bformulas_unitsOfThis, .int 0, .ref bformulas_starts, .ref bformulas_steps, .ref bformulas_stack]))] := hD
  refine lv_aload_n hx hb dX2_clear_34 rfl (lv_at hl 0 rfl) ?_
  refine lv_iconst (v := 0) hx hb dX2_clear_35 (by decide) ?_
  refine va_put (D := g.1) (ci := 2) (v := .int 0) (ty := .int) (C := RX2) (T := TX2) (N := 9) hx hb hT inF_X2 tyX2 tyX2_ok nmX2 hown hK.1 hP hD hS 0 rfl rfl 7 (by decide) (hT _ bw_148) (fun _ h9 => h9) rfl (by decide +kernel) rfl rfl (Nat.le_of_ble_eq_true rfl) dX2_clear_36 (fun H locs hP hD hS => ?_)
  have hP : va_P g.1 vwCl [(h, .inr (2, [.ref bmen, .ref bformulas, .ref breasons, .int 0, .ref bduelSides, .ref bduelMornings, .int 9, .int 0, .ref busesOfKind])), (busesOfKind, aI g 4 FbusesOfKind), (bmen, .inr (3, [.int 0, .ref bmen_names, .ref bmen_dies, .ref bmen_coins, .ref bmen_fathers])), (breasons, .inr (6, [.int 0, .ref breasons_names, .ref breasons_kinds, .ref breasons_owners, .ref breasons_froms, .ref breasons_tos, .ref breasons_rents, .ref breasons_sorts])), (bformulas, .inr (0, [.int 0, .int 0, .ref bformulas_names, .int bformulas_unitsOfThis, .int 0, .ref bformulas_starts, .ref bformulas_steps, .ref bformulas_stack]))] H := hP
  have hD : va_D A [(h, .inr (2, [.ref bmen, .ref bformulas, .ref breasons, .int 0, .ref bduelSides, .ref bduelMornings, .int 9, .int 0, .ref busesOfKind])), (busesOfKind, aI g 4 FbusesOfKind), (bmen, .inr (3, [.int 0, .ref bmen_names, .ref bmen_dies, .ref bmen_coins, .ref bmen_fathers])), (breasons, .inr (6, [.int 0, .ref breasons_names, .ref breasons_kinds, .ref breasons_owners, .ref breasons_froms, .ref breasons_tos, .ref breasons_rents, .ref breasons_sorts])), (bformulas, .inr (0, [.int 0, .int 0, .ref bformulas_names, .int bformulas_unitsOfThis, .int 0, .ref bformulas_starts, .ref bformulas_steps, .ref bformulas_stack]))] := hD
  refine lv_aload_n hx hb dX2_clear_39 rfl (lv_at hl 0 rfl) ?_
  refine va_get (D := g.1) (ci := 2) (v := .ref busesOfKind) (C := RX2) (T := TX2) (N := 9) hx hb hT inF_X2 hown hK.1 hP 0 rfl rfl 8 (by decide) (hT _ bw_149) (fun _ h9 => h9) rfl dX2_clear_40 ?_
  refine lv_iconst (v := 0) hx hb dX2_clear_43 (by decide) ?_
  refine k_v (wr := [(h, .inr (2, [.ref bmen, .ref bformulas, .ref breasons, .int 0, .ref bduelSides, .ref bduelMornings, .int 9, .int 0, .ref busesOfKind])), (bmen, .inr (3, [.int 0, .ref bmen_names, .ref bmen_dies, .ref bmen_coins, .ref bmen_fathers])), (breasons, .inr (6, [.int 0, .ref breasons_names, .ref breasons_kinds, .ref breasons_owners, .ref breasons_froms, .ref breasons_tos, .ref breasons_rents, .ref breasons_sorts])), (bformulas, .inr (0, [.int 0, .int 0, .ref bformulas_names, .int bformulas_unitsOfThis, .int 0, .ref bformulas_starts, .ref bformulas_steps, .ref bformulas_stack]))]) (k_S (n := 2) ⟨hx, hb, hml, hown, hT⟩ hK hP hD [1] rfl (by decide +kernel) (s_J7_fill_53178_4 l g H.size busesOfKind FbusesOfKind 0) (gS bw_150 bw_107 bw_108 bw_97) rfl rfl (by decide +kernel) ⟨by decide, by decide⟩ (fun _ _ _ _ _ => trivial) (fun _ _ _ => trivial) rfl rfl hl.1 (Nat.le_of_ble_eq_true rfl) dX2_clear_44 ⟨by decide, by decide⟩) hP hD hS hA [1] [0, 2, 3, 4] rfl rfl (by decide +kernel) (by decide +kernel) (fun f_1 H locs hw0 hP hD hS => ?_)
  have hP : va_P g.1 vwCl [(h, .inr (2, [.ref bmen, .ref bformulas, .ref breasons, .int 0, .ref bduelSides, .ref bduelMornings, .int 9, .int 0, .ref busesOfKind])), (bmen, .inr (3, [.int 0, .ref bmen_names, .ref bmen_dies, .ref bmen_coins, .ref bmen_fathers])), (breasons, .inr (6, [.int 0, .ref breasons_names, .ref breasons_kinds, .ref breasons_owners, .ref breasons_froms, .ref breasons_tos, .ref breasons_rents, .ref breasons_sorts])), (bformulas, .inr (0, [.int 0, .int 0, .ref bformulas_names, .int bformulas_unitsOfThis, .int 0, .ref bformulas_starts, .ref bformulas_steps, .ref bformulas_stack])), (busesOfKind, aI g 4 f_1)] H := hP
  have hD : va_D A [(h, .inr (2, [.ref bmen, .ref bformulas, .ref breasons, .int 0, .ref bduelSides, .ref bduelMornings, .int 9, .int 0, .ref busesOfKind])), (bmen, .inr (3, [.int 0, .ref bmen_names, .ref bmen_dies, .ref bmen_coins, .ref bmen_fathers])), (breasons, .inr (6, [.int 0, .ref breasons_names, .ref breasons_kinds, .ref breasons_owners, .ref breasons_froms, .ref breasons_tos, .ref breasons_rents, .ref breasons_sorts])), (bformulas, .inr (0, [.int 0, .int 0, .ref bformulas_names, .int bformulas_unitsOfThis, .int 0, .ref bformulas_starts, .ref bformulas_steps, .ref bformulas_stack])), (busesOfKind, aI g 4 f_1)] := hD
  have hP9 : va_P g.1 vwCl [(h, .inr (2, [.ref bmen, .ref bformulas, .ref breasons, .int 0, .ref bduelSides, .ref bduelMornings, .int 9, .int 0, .ref busesOfKind])), (busesOfKind, aI g 4 f_1), (bmen, .inr (3, [.int 0, .ref bmen_names, .ref bmen_dies, .ref bmen_coins, .ref bmen_fathers])), (bformulas, .inr (0, [.int 0, .int 0, .ref bformulas_names, .int bformulas_unitsOfThis, .int 0, .ref bformulas_starts, .ref bformulas_steps, .ref bformulas_stack])), (breasons, .inr (6, [.int 0, .ref breasons_names, .ref breasons_kinds, .ref breasons_owners, .ref breasons_froms, .ref breasons_tos, .ref breasons_rents, .ref breasons_sorts]))] H := hP.sub [0, 4, 1, 3, 2] rfl
  have hD9 : va_D A [(h, .inr (2, [.ref bmen, .ref bformulas, .ref breasons, .int 0, .ref bduelSides, .ref bduelMornings, .int 9, .int 0, .ref busesOfKind])), (busesOfKind, aI g 4 f_1), (bmen, .inr (3, [.int 0, .ref bmen_names, .ref bmen_dies, .ref bmen_coins, .ref bmen_fathers])), (bformulas, .inr (0, [.int 0, .int 0, .ref bformulas_names, .int bformulas_unitsOfThis, .int 0, .ref bformulas_starts, .ref bformulas_steps, .ref bformulas_stack])), (breasons, .inr (6, [.int 0, .ref breasons_names, .ref breasons_kinds, .ref breasons_owners, .ref breasons_froms, .ref breasons_tos, .ref breasons_rents, .ref breasons_sorts]))] := hD.sub [0, 4, 1, 3, 2] (by decide +kernel) rfl
  exact W.vret hx hb hr (fun t ht hW => ⟨⟨f_1, rfl, trivial, by rw [ht]; exact hP9, by rw [hAe]; exact hD9⟩, hS.F ht⟩) hS.2.2 dX2_clear_47

theorem bw_152 : Cond.fieldLink RX2 32 "DuelDelays$Land" "duelSides" "[I" ∈ gT := gT_tb 301 (by decide +kernel) (by decide +kernel)
theorem bw_153 : Cond.code yX2_isDuelTold cX2_isDuelTold 6 (some .boolean) ∈ gT := gT_tb 818 (by decide +kernel) (by decide +kernel)
theorem dX2_isDuelTold_0 : decode cX2_isDuelTold 0 = .ok (.iconst 0, 1) := by decide +kernel
theorem dX2_isDuelTold_1 : decode cX2_isDuelTold 1 = .ok (.istore_n 3, 1) := by decide +kernel
theorem dX2_isDuelTold_2 : decode cX2_isDuelTold 2 = .ok (.iload_n 3, 1) := by decide +kernel
theorem dX2_isDuelTold_3 : decode cX2_isDuelTold 3 = .ok (.aload_n 0, 1) := by decide +kernel
theorem dX2_isDuelTold_4 : decode cX2_isDuelTold 4 = .ok (.getfield 53, 3) := by decide +kernel
theorem dX2_isDuelTold_7 : decode cX2_isDuelTold 7 = .ok (.if_icmp .ge 57, 3) := by decide +kernel
theorem dX2_isDuelTold_10 : decode cX2_isDuelTold 10 = .ok (.aload_n 0, 1) := by decide +kernel
theorem dX2_isDuelTold_11 : decode cX2_isDuelTold 11 = .ok (.getfield 32, 3) := by decide +kernel
theorem dX2_isDuelTold_14 : decode cX2_isDuelTold 14 = .ok (.iconst 2, 1) := by decide +kernel
theorem dX2_isDuelTold_15 : decode cX2_isDuelTold 15 = .ok (.iload_n 3, 1) := by decide +kernel
theorem dX2_isDuelTold_16 : decode cX2_isDuelTold 16 = .ok (.imul, 1) := by decide +kernel
theorem dX2_isDuelTold_17 : decode cX2_isDuelTold 17 = .ok (.iaload, 1) := by decide +kernel
theorem dX2_isDuelTold_18 : decode cX2_isDuelTold 18 = .ok (.istore 4, 2) := by decide +kernel
theorem dX2_isDuelTold_20 : decode cX2_isDuelTold 20 = .ok (.aload_n 0, 1) := by decide +kernel
theorem dX2_isDuelTold_21 : decode cX2_isDuelTold 21 = .ok (.getfield 32, 3) := by decide +kernel
theorem dX2_isDuelTold_24 : decode cX2_isDuelTold 24 = .ok (.iconst 2, 1) := by decide +kernel
theorem dX2_isDuelTold_25 : decode cX2_isDuelTold 25 = .ok (.iload_n 3, 1) := by decide +kernel
theorem dX2_isDuelTold_26 : decode cX2_isDuelTold 26 = .ok (.imul, 1) := by decide +kernel
theorem dX2_isDuelTold_27 : decode cX2_isDuelTold 27 = .ok (.iconst 1, 1) := by decide +kernel
theorem dX2_isDuelTold_28 : decode cX2_isDuelTold 28 = .ok (.iadd, 1) := by decide +kernel
theorem dX2_isDuelTold_29 : decode cX2_isDuelTold 29 = .ok (.iaload, 1) := by decide +kernel
theorem dX2_isDuelTold_30 : decode cX2_isDuelTold 30 = .ok (.istore 5, 2) := by decide +kernel
theorem dX2_isDuelTold_32 : decode cX2_isDuelTold 32 = .ok (.iload 4, 2) := by decide +kernel
theorem dX2_isDuelTold_34 : decode cX2_isDuelTold 34 = .ok (.iload_n 1, 1) := by decide +kernel
theorem dX2_isDuelTold_35 : decode cX2_isDuelTold 35 = .ok (.if_icmp .ne 9, 3) := by decide +kernel
theorem dX2_isDuelTold_38 : decode cX2_isDuelTold 38 = .ok (.iload 5, 2) := by decide +kernel
theorem dX2_isDuelTold_40 : decode cX2_isDuelTold 40 = .ok (.iload_n 2, 1) := by decide +kernel
theorem dX2_isDuelTold_41 : decode cX2_isDuelTold 41 = .ok (.if_icmp .eq 15, 3) := by decide +kernel
theorem dX2_isDuelTold_44 : decode cX2_isDuelTold 44 = .ok (.iload 4, 2) := by decide +kernel
theorem dX2_isDuelTold_46 : decode cX2_isDuelTold 46 = .ok (.iload_n 2, 1) := by decide +kernel
theorem dX2_isDuelTold_47 : decode cX2_isDuelTold 47 = .ok (.if_icmp .ne 11, 3) := by decide +kernel
theorem dX2_isDuelTold_50 : decode cX2_isDuelTold 50 = .ok (.iload 5, 2) := by decide +kernel
theorem dX2_isDuelTold_52 : decode cX2_isDuelTold 52 = .ok (.iload_n 1, 1) := by decide +kernel
theorem dX2_isDuelTold_53 : decode cX2_isDuelTold 53 = .ok (.if_icmp .ne 5, 3) := by decide +kernel
theorem dX2_isDuelTold_56 : decode cX2_isDuelTold 56 = .ok (.iconst 1, 1) := by decide +kernel
theorem dX2_isDuelTold_57 : decode cX2_isDuelTold 57 = .ok (.ireturn, 1) := by decide +kernel
theorem dX2_isDuelTold_58 : decode cX2_isDuelTold 58 = .ok (.iinc 3 1, 3) := by decide +kernel
theorem dX2_isDuelTold_61 : decode cX2_isDuelTold 61 = .ok (.goto (-59), 3) := by decide +kernel
theorem dX2_isDuelTold_64 : decode cX2_isDuelTold 64 = .ok (.iconst 0, 1) := by decide +kernel
theorem dX2_isDuelTold_65 : decode cX2_isDuelTold 65 = .ok (.ireturn, 1) := by decide +kernel
set_option maxHeartbeats 4000000 in
set_option maxRecDepth 100000 in
theorem s_X2_isDuelTold (l : Launch) (g : GG) (sz : Nat) (h : Nat) (bduels : Int32) (bduelSides : Nat) (FbduelSides : Nat → Int32) (bduelMornings : Nat) (bhonour : Int32) (bdraw : Int32) (busesOfKind : Nat) (bmen : Nat) (bformulas : Nat) (breasons : Nat) (p0 : Int32) (p1 : Int32) (hh0 : 0 ≤ bduels.toInt ∧ bduels.toInt ≤ 6) (hh1 : Rg 12 0 5 FbduelSides) (hh2 : 0 ≤ bdraw.toInt ∧ bdraw.toInt ≤ 999) : Met l yX2_isDuelTold (.code yX2_isDuelTold cX2_isDuelTold 6 (some .boolean) :: gT) ({ frames := 0, cells := 0, slots := 0, locals := 0 }) (va_Pc [.ref h, .int p0, .int p1] (Pst g sz [(h, .inr (2, [.ref bmen, .ref bformulas, .ref breasons, .int bduels, .ref bduelSides, .ref bduelMornings, .int bhonour, .int bdraw, .ref busesOfKind])), (bduelSides, aI g 12 FbduelSides)] nX)) (va_Qi (fun (r : Int32) => fun (_ : Unit) => 0 ≤ r.toInt ∧ r.toInt ≤ 1) (Qst g [] sz (fun _ => [])) (va_A [] sz)) 0 0 (va_A [] sz) := by
  refine Met.ofW (cc := cX2_isDuelTold) (maxL := 6) (ret := (some .boolean)) (by decide) rfl ?_
  intro p e s m args below meth c s₁ B hml hv
  obtain ⟨rfl, hsz, hP, hK, hD0, hX⟩ := hv
  have hx := B.exec
  have hb := B.bytes
  have hr := B.returns
  have hT : ∀ w ∈ gT, w.before _ s = true := fun w h => atoms_spec (ws := .code yX2_isDuelTold cX2_isDuelTold 6 (some .boolean) :: gT) B.pre w (List.mem_cons_of_mem _ h)
  have hown : s.vm.findClass RX2 = some m.cls := findClass_of_methodNamed B.named
  have hlocks := B.notSynchronized
  subst hsz
  have hD := hD0
  generalize hAe : va_A [] s.heap.size = A at ⊢
  have hA : ∀ q : Nat, s.heap.size ≤ q → A q := fun q h => by rw [← hAe]; exact Or.inr h
  have hS : va_S A s.heap s.heap [] := va_S.rf
  have hl := lv_entry ([.ref h, .int p0, .int p1]) (n := 6) (Nat.le_of_ble_eq_true rfl)
  rw [lg_entry_eq]
  generalize (lg_sl ([.ref h, .int p0, .int p1]) ++ List.replicate (6 - (lg_sl ([.ref h, .int p0, .int p1])).length) Slot.unset).toArray = ls at hl ⊢
  have hl : lv_has ls 6 [(0, .ref h), (1, .int p0), (2, .int p1)] := hl
  refine p_nH (fun H hH => ?_)
  have hP : va_P g.1 vwCl [(h, .inr (2, [.ref bmen, .ref bformulas, .ref breasons, .int bduels, .ref bduelSides, .ref bduelMornings, .int bhonour, .int bdraw, .ref busesOfKind])), (bduelSides, aI g 12 FbduelSides)] H := by rw [hH]; exact hP
  have hS : va_S A s.heap H [] := by rw [hH]; exact hS
  refine lv_iconst (v := 0) hx hb dX2_isDuelTold_0 (by decide) ?_
  refine lv_istore_n (lv' := [(3, .int 0), (0, .ref h), (1, .int p0), (2, .int p1)]) hx hb dX2_isDuelTold_1 rfl hl (by decide) rfl (fun ls hl => ?_)
  refine k_floop 2 (fun n H locs ls => ∃ (L_1 : Int32), (0 ≤ L_1.toInt ∧ L_1.toInt ≤ 6) ∧ 6 - L_1.toInt ≤ (n : Int) ∧ va_P g.1 vwCl [(h, .inr (2, [.ref bmen, .ref bformulas, .ref breasons, .int bduels, .ref bduelSides, .ref bduelMornings, .int bhonour, .int bdraw, .ref busesOfKind])), (bduelSides, aI g 12 FbduelSides)] H ∧ va_S A s.heap H locs ∧ lv_has ls 6 [(3, .int L_1), (0, .ref h), (1, .int p0), (2, .int p1)]) (fun n H locs ls hI ih => ?_) ((6 - 0 : Int)).toNat ⟨0, by decide, by have k0 : (0 : Int32).toInt = 0 := (by decide); omega, hP, hS, hl⟩
  refine hI.elim (fun L_1 hI => ?_)
  have g_2 := hI.1
  have hm_3 := hI.2.1
  have hP := hI.2.2.1
  have hS := hI.2.2.2.1
  have hl := hI.2.2.2.2
  clear hI
  refine lv_iload_n hx hb dX2_isDuelTold_2 rfl (lv_at hl 0 rfl) ?_
  refine lv_aload_n hx hb dX2_isDuelTold_3 rfl (lv_at hl 1 rfl) ?_
  refine va_get (D := g.1) (ci := 2) (v := .int bduels) (C := RX2) (T := TX2) (N := 9) hx hb hT inF_X2 hown hK.1 hP 0 rfl rfl 3 (by decide) (hT _ bw_146) (fun _ h9 => h9) rfl dX2_isDuelTold_4 ?_
  refine lv_icmp_ge (tgt := 64) hx hb dX2_isDuelTold_7 (by decide) (fun c_4 => ?_) (fun c_4 => ?_)
  · have f_5 := E_le (rfl : bduels.toInt = _) (rfl : L_1.toInt = _) c_4
    refine lv_iconst (v := 0) hx hb dX2_isDuelTold_64 (by decide) ?_
    have hP9 : va_P g.1 vwCl [] H := hP.sub [] rfl
    have hD9 : va_D A [] := ⟨fun i j p q h => by simp at h, fun k q h => by simp at h⟩
    exact W.zret (v := 0) (ty := .boolean) hx hb hr rfl (fun t ht hW => ⟨⟨0, (), rfl, ⟨by decide, by decide⟩, by rw [ht]; exact hP9, by rw [hAe]; exact hD9⟩, hS.F ht⟩) hS.2.2 dX2_isDuelTold_65
  · have f_6 := E_nle (rfl : bduels.toInt = _) (rfl : L_1.toInt = _) c_4
    refine lv_aload_n hx hb dX2_isDuelTold_10 rfl (lv_at hl 1 rfl) ?_
    refine va_get (D := g.1) (ci := 2) (v := .ref bduelSides) (C := RX2) (T := TX2) (N := 9) hx hb hT inF_X2 hown hK.1 hP 0 rfl rfl 4 (by decide) (hT _ bw_152) (fun _ h9 => h9) rfl dX2_isDuelTold_11 ?_
    refine lv_iconst (v := 2) hx hb dX2_isDuelTold_14 (by decide) ?_
    refine lv_iload_n hx hb dX2_isDuelTold_15 rfl (lv_at hl 0 rfl) ?_
    refine lv_imul hx hb dX2_isDuelTold_16 ?_
    refine lv_topi (fun x_7 ex_7 => ?_)
    have fx_7 : x_7.toInt = 2 * L_1.toInt := by rw [ex_7]; exact I_mul (by decide : (2 : Int32).toInt = 2) rfl (by omega) (by omega)
    have h_8 : vp_in x_7 12 := vp_in_iff.mpr (by omega)
    refine va_iald hx hb hK.1 hP 1 1 rfl rfl (i := x_7) h_8 dX2_isDuelTold_17 ?_
    refine lv_topi (fun x_9 ex_9 => ?_)
    have fx_9 : 0 ≤ x_9.toInt ∧ x_9.toInt ≤ 5 := Rg.rd hh1 h_8 ex_9
    have ux_9 := congrArg Int32.toInt ex_9
    refine lv_istore (lv' := [(4, .int x_9), (3, .int L_1), (0, .ref h), (1, .int p0), (2, .int p1)]) hx hb dX2_isDuelTold_18 hl (by decide) rfl (fun ls hl => ?_)
    refine lv_aload_n hx hb dX2_isDuelTold_20 rfl (lv_at hl 2 rfl) ?_
    refine va_get (D := g.1) (ci := 2) (v := .ref bduelSides) (C := RX2) (T := TX2) (N := 9) hx hb hT inF_X2 hown hK.1 hP 0 rfl rfl 4 (by decide) (hT _ bw_152) (fun _ h9 => h9) rfl dX2_isDuelTold_21 ?_
    refine lv_iconst (v := 2) hx hb dX2_isDuelTold_24 (by decide) ?_
    refine lv_iload_n hx hb dX2_isDuelTold_25 rfl (lv_at hl 1 rfl) ?_
    refine lv_imul hx hb dX2_isDuelTold_26 ?_
    refine lv_topi (fun x_10 ex_10 => ?_)
    have fx_10 : x_10.toInt = 2 * L_1.toInt := by rw [ex_10]; exact I_mul (by decide : (2 : Int32).toInt = 2) rfl (by omega) (by omega)
    refine lv_iconst (v := 1) hx hb dX2_isDuelTold_27 (by decide) ?_
    refine lv_iadd hx hb dX2_isDuelTold_28 ?_
    refine lv_topi (fun x_11 ex_11 => ?_)
    have fx_11 : x_11.toInt = x_10.toInt + 1 := by rw [ex_11]; exact I_add rfl (by decide : (1 : Int32).toInt = 1) (by omega) (by omega)
    have h_12 : vp_in x_11 12 := vp_in_iff.mpr (by omega)
    refine va_iald hx hb hK.1 hP 1 1 rfl rfl (i := x_11) h_12 dX2_isDuelTold_29 ?_
    refine lv_topi (fun x_13 ex_13 => ?_)
    have fx_13 : 0 ≤ x_13.toInt ∧ x_13.toInt ≤ 5 := Rg.rd hh1 h_12 ex_13
    have ux_13 := congrArg Int32.toInt ex_13
    refine lv_istore (lv' := [(5, .int x_13), (4, .int x_9), (3, .int L_1), (0, .ref h), (1, .int p0), (2, .int p1)]) hx hb dX2_isDuelTold_30 hl (by decide) rfl (fun ls hl => ?_)
    refine lv_iload hx hb dX2_isDuelTold_32 (lv_at hl 1 rfl) ?_
    refine lv_iload_n hx hb dX2_isDuelTold_34 rfl (lv_at hl 4 rfl) ?_
    refine lv_icmp_ne (tgt := 44) hx hb dX2_isDuelTold_35 (by decide) (fun c_14 => ?_) (fun c_14 => ?_)
    · have f_15 := E_ne (rfl : x_9.toInt = _) (rfl : p0.toInt = _) c_14
      refine lv_iload hx hb dX2_isDuelTold_44 (lv_at hl 1 rfl) ?_
      refine lv_iload_n hx hb dX2_isDuelTold_46 rfl (lv_at hl 5 rfl) ?_
      refine lv_icmp_ne (tgt := 58) hx hb dX2_isDuelTold_47 (by decide) (fun c_16 => ?_) (fun c_16 => ?_)
      · have f_17 := E_ne (rfl : x_9.toInt = _) (rfl : p1.toInt = _) c_16
        obtain ⟨x_18, ex_18⟩ : ∃ y : Int32, y = L_1 + 1 := ⟨_, rfl⟩
        have fx_18 : x_18.toInt = L_1.toInt + 1 := by rw [ex_18]; exact I_add rfl (by decide) (by omega) (by omega)
        refine lv_iinc (v := x_18) (lv' := [(3, .int x_18), (5, .int x_13), (4, .int x_9), (0, .ref h), (1, .int p0), (2, .int p1)]) hx hb dX2_isDuelTold_58 hl (k := 2) rfl (by rw [ex_18]; rfl) (by decide) rfl (fun ls hl => ?_)
        refine lv_goto (tgt := 2) hx hb dX2_isDuelTold_61 (by decide) ?_
        exact ih (n - 1) (by omega) H locs ls ⟨x_18, (by first | with_reducible assumption | omega), by omega, hP.sub [0, 1] rfl, hS, lv_sub hl [0, 3, 4, 5] rfl⟩
      · have f_19 := E_eq (rfl : x_9.toInt = _) (rfl : p1.toInt = _) c_16
        refine lv_iload hx hb dX2_isDuelTold_50 (lv_at hl 0 rfl) ?_
        refine lv_iload_n hx hb dX2_isDuelTold_52 rfl (lv_at hl 4 rfl) ?_
        refine lv_icmp_ne (tgt := 58) hx hb dX2_isDuelTold_53 (by decide) (fun c_20 => ?_) (fun c_20 => ?_)
        · have f_21 := E_ne (rfl : x_13.toInt = _) (rfl : p0.toInt = _) c_20
          obtain ⟨x_22, ex_22⟩ : ∃ y : Int32, y = L_1 + 1 := ⟨_, rfl⟩
          have fx_22 : x_22.toInt = L_1.toInt + 1 := by rw [ex_22]; exact I_add rfl (by decide) (by omega) (by omega)
          refine lv_iinc (v := x_22) (lv' := [(3, .int x_22), (5, .int x_13), (4, .int x_9), (0, .ref h), (1, .int p0), (2, .int p1)]) hx hb dX2_isDuelTold_58 hl (k := 2) rfl (by rw [ex_22]; rfl) (by decide) rfl (fun ls hl => ?_)
          refine lv_goto (tgt := 2) hx hb dX2_isDuelTold_61 (by decide) ?_
          exact ih (n - 1) (by omega) H locs ls ⟨x_22, (by first | with_reducible assumption | omega), by omega, hP.sub [0, 1] rfl, hS, lv_sub hl [0, 3, 4, 5] rfl⟩
        · have f_23 := E_eq (rfl : x_13.toInt = _) (rfl : p0.toInt = _) c_20
          refine lv_iconst (v := 1) hx hb dX2_isDuelTold_56 (by decide) ?_
          have hP9 : va_P g.1 vwCl [] H := hP.sub [] rfl
          have hD9 : va_D A [] := ⟨fun i j p q h => by simp at h, fun k q h => by simp at h⟩
          exact W.zret (v := 1) (ty := .boolean) hx hb hr rfl (fun t ht hW => ⟨⟨1, (), rfl, ⟨by decide, by decide⟩, by rw [ht]; exact hP9, by rw [hAe]; exact hD9⟩, hS.F ht⟩) hS.2.2 dX2_isDuelTold_57
    · have f_24 := E_eq (rfl : x_9.toInt = _) (rfl : p0.toInt = _) c_14
      refine lv_iload hx hb dX2_isDuelTold_38 (lv_at hl 0 rfl) ?_
      refine lv_iload_n hx hb dX2_isDuelTold_40 rfl (lv_at hl 5 rfl) ?_
      refine lv_icmp_eq (tgt := 56) hx hb dX2_isDuelTold_41 (by decide) (fun c_25 => ?_) (fun c_25 => ?_)
      · have f_26 := E_eq (rfl : x_13.toInt = _) (rfl : p1.toInt = _) c_25
        refine lv_iconst (v := 1) hx hb dX2_isDuelTold_56 (by decide) ?_
        have hP9 : va_P g.1 vwCl [] H := hP.sub [] rfl
        have hD9 : va_D A [] := ⟨fun i j p q h => by simp at h, fun k q h => by simp at h⟩
        exact W.zret (v := 1) (ty := .boolean) hx hb hr rfl (fun t ht hW => ⟨⟨1, (), rfl, ⟨by decide, by decide⟩, by rw [ht]; exact hP9, by rw [hAe]; exact hD9⟩, hS.F ht⟩) hS.2.2 dX2_isDuelTold_57
      · have f_27 := E_ne (rfl : x_13.toInt = _) (rfl : p1.toInt = _) c_25
        refine lv_iload hx hb dX2_isDuelTold_44 (lv_at hl 1 rfl) ?_
        refine lv_iload_n hx hb dX2_isDuelTold_46 rfl (lv_at hl 5 rfl) ?_
        refine lv_icmp_ne (tgt := 58) hx hb dX2_isDuelTold_47 (by decide) (fun c_28 => ?_) (fun c_28 => ?_)
        · have f_29 := E_ne (rfl : x_9.toInt = _) (rfl : p1.toInt = _) c_28
          obtain ⟨x_30, ex_30⟩ : ∃ y : Int32, y = L_1 + 1 := ⟨_, rfl⟩
          have fx_30 : x_30.toInt = L_1.toInt + 1 := by rw [ex_30]; exact I_add rfl (by decide) (by omega) (by omega)
          refine lv_iinc (v := x_30) (lv' := [(3, .int x_30), (5, .int x_13), (4, .int x_9), (0, .ref h), (1, .int p0), (2, .int p1)]) hx hb dX2_isDuelTold_58 hl (k := 2) rfl (by rw [ex_30]; rfl) (by decide) rfl (fun ls hl => ?_)
          refine lv_goto (tgt := 2) hx hb dX2_isDuelTold_61 (by decide) ?_
          exact ih (n - 1) (by omega) H locs ls ⟨x_30, (by first | with_reducible assumption | omega), by omega, hP.sub [0, 1] rfl, hS, lv_sub hl [0, 3, 4, 5] rfl⟩
        · have f_31 := E_eq (rfl : x_9.toInt = _) (rfl : p1.toInt = _) c_28
          refine lv_iload hx hb dX2_isDuelTold_50 (lv_at hl 0 rfl) ?_
          refine lv_iload_n hx hb dX2_isDuelTold_52 rfl (lv_at hl 4 rfl) ?_
          refine lv_icmp_ne (tgt := 58) hx hb dX2_isDuelTold_53 (by decide) (fun c_32 => ?_) (fun c_32 => ?_)
          · have f_33 := E_ne (rfl : x_13.toInt = _) (rfl : p0.toInt = _) c_32
            obtain ⟨x_34, ex_34⟩ : ∃ y : Int32, y = L_1 + 1 := ⟨_, rfl⟩
            have fx_34 : x_34.toInt = L_1.toInt + 1 := by rw [ex_34]; exact I_add rfl (by decide) (by omega) (by omega)
            refine lv_iinc (v := x_34) (lv' := [(3, .int x_34), (5, .int x_13), (4, .int x_9), (0, .ref h), (1, .int p0), (2, .int p1)]) hx hb dX2_isDuelTold_58 hl (k := 2) rfl (by rw [ex_34]; rfl) (by decide) rfl (fun ls hl => ?_)
            refine lv_goto (tgt := 2) hx hb dX2_isDuelTold_61 (by decide) ?_
            exact ih (n - 1) (by omega) H locs ls ⟨x_34, (by first | with_reducible assumption | omega), by omega, hP.sub [0, 1] rfl, hS, lv_sub hl [0, 3, 4, 5] rfl⟩
          · have f_35 := E_eq (rfl : x_13.toInt = _) (rfl : p0.toInt = _) c_32
            refine lv_iconst (v := 1) hx hb dX2_isDuelTold_56 (by decide) ?_
            have hP9 : va_P g.1 vwCl [] H := hP.sub [] rfl
            have hD9 : va_D A [] := ⟨fun i j p q h => by simp at h, fun k q h => by simp at h⟩
            exact W.zret (v := 1) (ty := .boolean) hx hb hr rfl (fun t ht hW => ⟨⟨1, (), rfl, ⟨by decide, by decide⟩, by rw [ht]; exact hP9, by rw [hAe]; exact hD9⟩, hS.F ht⟩) hS.2.2 dX2_isDuelTold_57

theorem bw_154 : Cond.methodLink RX2 65 yJ6_bitCount_0f7a4 ∈ gT := gT_tb 904 (by decide +kernel) (by decide +kernel)
theorem bw_155 : Cond.methodLink RX2 71 yX0_valueOf ∈ gT := gT_tb 905 (by decide +kernel) (by decide +kernel)
theorem bw_156 : Cond.instanceMethod yX0_valueOf ∈ gT := gT_tb 906 (by decide +kernel) (by decide +kernel)
theorem bw_157 : Cond.selects RX0 yX0_valueOf yX0_valueOf ∈ gT := gT_tb 907 (by decide +kernel) (by decide +kernel)
theorem bw_158 : Cond.methodLink RX2 75 Lib.Math.min.name ∈ gT := gT_tb 915 (by decide +kernel) (by decide +kernel)
theorem bw_159 : Cond.code Lib.Math.min.name Lib.Math.min.code 2 (some .int) ∈ gT := gT_tb 599 (by decide +kernel) (by decide +kernel)
theorem bw_160 : Cond.static Lib.Math.min.name ∈ gT := gT_tb 598 (by decide +kernel) (by decide +kernel)
theorem bw_161 : Cond.initialized "java/lang/Math" ∈ gT := gT_tb 20 (by decide +kernel) (by decide +kernel)
theorem bw_162 : Cond.methodLink RX2 81 Lib.Math.max.name ∈ gT := gT_tb 916 (by decide +kernel) (by decide +kernel)
theorem bw_163 : Cond.code Lib.Math.max.name Lib.Math.max.code 2 (some .int) ∈ gT := gT_tb 646 (by decide +kernel) (by decide +kernel)
theorem bw_164 : Cond.static Lib.Math.max.name ∈ gT := gT_tb 645 (by decide +kernel) (by decide +kernel)
theorem bw_165 : Cond.code yX2_worthOf cX2_worthOf 6 (some .int) ∈ gT := gT_tb 903 (by decide +kernel) (by decide +kernel)
theorem dX2_worthOf_0 : decode cX2_worthOf 0 = .ok (.iload_n 2, 1) := by decide +kernel
theorem dX2_worthOf_1 : decode cX2_worthOf 1 = .ok (.aload_n 0, 1) := by decide +kernel
theorem dX2_worthOf_2 : decode cX2_worthOf 2 = .ok (.getfield 43, 3) := by decide +kernel
theorem dX2_worthOf_5 : decode cX2_worthOf 5 = .ok (.iload_n 1, 1) := by decide +kernel
theorem dX2_worthOf_6 : decode cX2_worthOf 6 = .ok (.iaload, 1) := by decide +kernel
theorem dX2_worthOf_7 : decode cX2_worthOf 7 = .ok (.iand, 1) := by decide +kernel
theorem dX2_worthOf_8 : decode cX2_worthOf 8 = .ok (.invokestatic 65, 3) := by decide +kernel
theorem dX2_worthOf_11 : decode cX2_worthOf 11 = .ok (.istore 4, 2) := by decide +kernel
theorem dX2_worthOf_13 : decode cX2_worthOf 13 = .ok (.aload_n 0, 1) := by decide +kernel
theorem dX2_worthOf_14 : decode cX2_worthOf 14 = .ok (.getfield 21, 3) := by decide +kernel
theorem dX2_worthOf_17 : decode cX2_worthOf 17 = .ok (.iload_n 1, 1) := by decide +kernel
theorem dX2_worthOf_18 : decode cX2_worthOf 18 = .ok (.iload_n 3, 1) := by decide +kernel
theorem dX2_worthOf_19 : decode cX2_worthOf 19 = .ok (.iload 4, 2) := by decide +kernel
theorem dX2_worthOf_21 : decode cX2_worthOf 21 = .ok (.iload_n 2, 1) := by decide +kernel
theorem dX2_worthOf_22 : decode cX2_worthOf 22 = .ok (.invokestatic 65, 3) := by decide +kernel
theorem dX2_worthOf_25 : decode cX2_worthOf 25 = .ok (.invokevirtual 71, 3) := by decide +kernel
theorem dX2_worthOf_28 : decode cX2_worthOf 28 = .ok (.istore 5, 2) := by decide +kernel
theorem dX2_worthOf_30 : decode cX2_worthOf 30 = .ok (.iconst 1, 1) := by decide +kernel
theorem dX2_worthOf_31 : decode cX2_worthOf 31 = .ok (.sipush 365, 3) := by decide +kernel
theorem dX2_worthOf_34 : decode cX2_worthOf 34 = .ok (.iload 5, 2) := by decide +kernel
theorem dX2_worthOf_36 : decode cX2_worthOf 36 = .ok (.invokestatic 75, 3) := by decide +kernel
theorem dX2_worthOf_39 : decode cX2_worthOf 39 = .ok (.invokestatic 81, 3) := by decide +kernel
theorem dX2_worthOf_42 : decode cX2_worthOf 42 = .ok (.ireturn, 1) := by decide +kernel
set_option maxHeartbeats 4000000 in
set_option maxRecDepth 100000 in
theorem s_X2_worthOf (l : Launch) (g : GG) (sz : Nat) (h : Nat) (bduels : Int32) (bduelSides : Nat) (bduelMornings : Nat) (bhonour : Int32) (bdraw : Int32) (busesOfKind : Nat) (FbusesOfKind : Nat → Int32) (bmen : Nat) (bformulas : Nat) (bformulas_count : Int32) (bformulas_units : Int32) (bformulas_names : Nat) (bformulas_unitsOfThis : Int32) (bformulas_length : Int32) (bformulas_starts : Nat) (Fbformulas_starts : Nat → Int32) (bformulas_steps : Nat) (Fbformulas_steps : Nat → Int32) (bformulas_stack : Nat) (Fbformulas_stack : Nat → Int32) (breasons : Nat) (p0 : Int32) (p1 : Int32) (p2 : Int32) (hh0 : 0 ≤ bduels.toInt ∧ bduels.toInt ≤ 6) (hh2 : 0 ≤ bdraw.toInt ∧ bdraw.toInt ≤ 999) (hh4 : 0 ≤ bformulas_count.toInt ∧ bformulas_count.toInt ≤ 4) (hh5 : 0 ≤ bformulas_units.toInt ∧ bformulas_units.toInt ≤ 60) (hh6 : 0 ≤ bformulas_unitsOfThis.toInt ∧ bformulas_unitsOfThis.toInt ≤ 30) (hh7 : 0 ≤ bformulas_length.toInt ∧ bformulas_length.toInt ≤ 640) (hh8 : Rg 5 0 640 Fbformulas_starts) (hh12 : 0 ≤ p0.toInt ∧ p0.toInt ≤ 3) : Met l yX2_worthOf (.code yX2_worthOf cX2_worthOf 6 (some .int) :: gT) ({ frames := 2, cells := 0, slots := 0, locals := 60 }) (va_Pc [.ref h, .int p0, .int p1, .int p2] (Pst g sz [(h, .inr (2, [.ref bmen, .ref bformulas, .ref breasons, .int bduels, .ref bduelSides, .ref bduelMornings, .int bhonour, .int bdraw, .ref busesOfKind])), (busesOfKind, aI g 4 FbusesOfKind), (bformulas, .inr (0, [.int bformulas_count, .int bformulas_units, .ref bformulas_names, .int bformulas_unitsOfThis, .int bformulas_length, .ref bformulas_starts, .ref bformulas_steps, .ref bformulas_stack])), (bformulas_starts, aI g 5 Fbformulas_starts), (bformulas_steps, aI g 640 Fbformulas_steps), (bformulas_stack, aI g 32 Fbformulas_stack)] nX)) (va_Qi (fun (r : Int32) => fun (o0_F : (Nat → Int32)) => 1 ≤ r.toInt ∧ r.toInt ≤ 365) (Qst g [(h, .inr (2, [.ref bmen, .ref bformulas, .ref breasons, .int bduels, .ref bduelSides, .ref bduelMornings, .int bhonour, .int bdraw, .ref busesOfKind])), (busesOfKind, aI g 4 FbusesOfKind), (bformulas, .inr (0, [.int bformulas_count, .int bformulas_units, .ref bformulas_names, .int bformulas_unitsOfThis, .int bformulas_length, .ref bformulas_starts, .ref bformulas_steps, .ref bformulas_stack])), (bformulas_starts, aI g 5 Fbformulas_starts), (bformulas_steps, aI g 640 Fbformulas_steps), (bformulas_stack, aI g 32 Fbformulas_stack)] sz (fun (o0_F : (Nat → Int32)) => [(h, .inr (2, [.ref bmen, .ref bformulas, .ref breasons, .int bduels, .ref bduelSides, .ref bduelMornings, .int bhonour, .int bdraw, .ref busesOfKind])), (busesOfKind, aI g 4 FbusesOfKind), (bformulas, .inr (0, [.int bformulas_count, .int bformulas_units, .ref bformulas_names, .int bformulas_unitsOfThis, .int bformulas_length, .ref bformulas_starts, .ref bformulas_steps, .ref bformulas_stack])), (bformulas_starts, aI g 5 Fbformulas_starts), (bformulas_steps, aI g 640 Fbformulas_steps), (bformulas_stack, aI g 32 o0_F)])) (va_A [(h, .inr (2, [.ref bmen, .ref bformulas, .ref breasons, .int bduels, .ref bduelSides, .ref bduelMornings, .int bhonour, .int bdraw, .ref busesOfKind])), (busesOfKind, aI g 4 FbusesOfKind), (bformulas, .inr (0, [.int bformulas_count, .int bformulas_units, .ref bformulas_names, .int bformulas_unitsOfThis, .int bformulas_length, .ref bformulas_starts, .ref bformulas_steps, .ref bformulas_stack])), (bformulas_starts, aI g 5 Fbformulas_starts), (bformulas_steps, aI g 640 Fbformulas_steps), (bformulas_stack, aI g 32 Fbformulas_stack)] sz)) 0 0 (va_A [(h, .inr (2, [.ref bmen, .ref bformulas, .ref breasons, .int bduels, .ref bduelSides, .ref bduelMornings, .int bhonour, .int bdraw, .ref busesOfKind])), (busesOfKind, aI g 4 FbusesOfKind), (bformulas, .inr (0, [.int bformulas_count, .int bformulas_units, .ref bformulas_names, .int bformulas_unitsOfThis, .int bformulas_length, .ref bformulas_starts, .ref bformulas_steps, .ref bformulas_stack])), (bformulas_starts, aI g 5 Fbformulas_starts), (bformulas_steps, aI g 640 Fbformulas_steps), (bformulas_stack, aI g 32 Fbformulas_stack)] sz) := by
  refine Met.ofW (cc := cX2_worthOf) (maxL := 6) (ret := (some .int)) (by decide) rfl ?_
  intro p e s m args below meth c s₁ B hml hv
  obtain ⟨rfl, hsz, hP, hK, hD0, hX⟩ := hv
  have hx := B.exec
  have hb := B.bytes
  have hr := B.returns
  have hT : ∀ w ∈ gT, w.before _ s = true := fun w h => atoms_spec (ws := .code yX2_worthOf cX2_worthOf 6 (some .int) :: gT) B.pre w (List.mem_cons_of_mem _ h)
  have hown : s.vm.findClass RX2 = some m.cls := findClass_of_methodNamed B.named
  have hlocks := B.notSynchronized
  subst hsz
  have hD := hD0.self (sz := s.heap.size)
  generalize hAe : va_A [(h, .inr (2, [.ref bmen, .ref bformulas, .ref breasons, .int bduels, .ref bduelSides, .ref bduelMornings, .int bhonour, .int bdraw, .ref busesOfKind])), (busesOfKind, aI g 4 FbusesOfKind), (bformulas, .inr (0, [.int bformulas_count, .int bformulas_units, .ref bformulas_names, .int bformulas_unitsOfThis, .int bformulas_length, .ref bformulas_starts, .ref bformulas_steps, .ref bformulas_stack])), (bformulas_starts, aI g 5 Fbformulas_starts), (bformulas_steps, aI g 640 Fbformulas_steps), (bformulas_stack, aI g 32 Fbformulas_stack)] s.heap.size = A at hD ⊢
  have hA : ∀ q : Nat, s.heap.size ≤ q → A q := fun q h => by rw [← hAe]; exact Or.inr h
  have hS : va_S A s.heap s.heap [] := va_S.rf
  have hl := lv_entry ([.ref h, .int p0, .int p1, .int p2]) (n := 6) (Nat.le_of_ble_eq_true rfl)
  rw [lg_entry_eq]
  generalize (lg_sl ([.ref h, .int p0, .int p1, .int p2]) ++ List.replicate (6 - (lg_sl ([.ref h, .int p0, .int p1, .int p2])).length) Slot.unset).toArray = ls at hl ⊢
  have hl : lv_has ls 6 [(0, .ref h), (1, .int p0), (2, .int p1), (3, .int p2)] := hl
  refine p_nH (fun H hH => ?_)
  have hP : va_P g.1 vwCl [(h, .inr (2, [.ref bmen, .ref bformulas, .ref breasons, .int bduels, .ref bduelSides, .ref bduelMornings, .int bhonour, .int bdraw, .ref busesOfKind])), (busesOfKind, aI g 4 FbusesOfKind), (bformulas, .inr (0, [.int bformulas_count, .int bformulas_units, .ref bformulas_names, .int bformulas_unitsOfThis, .int bformulas_length, .ref bformulas_starts, .ref bformulas_steps, .ref bformulas_stack])), (bformulas_starts, aI g 5 Fbformulas_starts), (bformulas_steps, aI g 640 Fbformulas_steps), (bformulas_stack, aI g 32 Fbformulas_stack)] H := by rw [hH]; exact hP
  have hS : va_S A s.heap H [] := by rw [hH]; exact hS
  refine lv_iload_n hx hb dX2_worthOf_0 rfl (lv_at hl 2 rfl) ?_
  refine lv_aload_n hx hb dX2_worthOf_1 rfl (lv_at hl 0 rfl) ?_
  refine va_get (D := g.1) (ci := 2) (v := .ref busesOfKind) (C := RX2) (T := TX2) (N := 9) hx hb hT inF_X2 hown hK.1 hP 0 rfl rfl 8 (by decide) (hT _ bw_149) (fun _ h9 => h9) rfl dX2_worthOf_2 ?_
  refine lv_iload_n hx hb dX2_worthOf_5 rfl (lv_at hl 1 rfl) ?_
  have h_1 : vp_in p0 4 := vp_in_iff.mpr (by omega)
  refine va_iald hx hb hK.1 hP 1 1 rfl rfl (i := p0) h_1 dX2_worthOf_6 ?_
  refine lv_topi (fun x_2 ex_2 => ?_)
  have ux_2 := congrArg Int32.toInt ex_2
  refine lv_iand hx hb dX2_worthOf_7 ?_
  refine lv_topi (fun x_3 ex_3 => ?_)
  refine k_iR (k_S (n := 1) ⟨hx, hb, hml, hown, hT⟩ hK hP hD [] rfl (by decide +kernel) (s_J6_bitCount_0f7a4 l g H.size x_3) (gS bw_154 bw_64 bw_65 bw_26) rfl rfl (by decide +kernel) ⟨by decide, by decide⟩ (fun _ _ _ _ _ => trivial) (fun _ _ _ => trivial) rfl rfl hl.1 (Nat.le_of_ble_eq_true rfl) dX2_worthOf_8 ⟨by decide, by decide⟩) hP hS hA (fun r_4 _ H locs hw0 hP hS => ?_)
  have hw : 0 ≤ r_4.toInt ∧ r_4.toInt ≤ 63 := hw0
  clear hw0
  have w_5 := hw
  refine lv_istore (lv' := [(4, .int r_4), (0, .ref h), (1, .int p0), (2, .int p1), (3, .int p2)]) hx hb dX2_worthOf_11 hl (by decide) rfl (fun ls hl => ?_)
  refine lv_aload_n hx hb dX2_worthOf_13 rfl (lv_at hl 1 rfl) ?_
  refine va_get (D := g.1) (ci := 2) (v := .ref bformulas) (C := RX2) (T := TX2) (N := 9) hx hb hT inF_X2 hown hK.1 hP 0 rfl rfl 1 (by decide) (hT _ bw_139) (fun _ h9 => h9) rfl dX2_worthOf_14 ?_
  refine lv_iload_n hx hb dX2_worthOf_17 rfl (lv_at hl 2 rfl) ?_
  refine lv_iload_n hx hb dX2_worthOf_18 rfl (lv_at hl 4 rfl) ?_
  refine lv_iload hx hb dX2_worthOf_19 (lv_at hl 0 rfl) ?_
  refine lv_iload_n hx hb dX2_worthOf_21 rfl (lv_at hl 3 rfl) ?_
  refine k_iR (k_S (n := 1) ⟨hx, hb, hml, hown, hT⟩ hK hP hD [] rfl (by decide +kernel) (s_J6_bitCount_0f7a4 l g H.size p1) (gS bw_154 bw_64 bw_65 bw_26) rfl rfl (by decide +kernel) ⟨by decide, by decide⟩ (fun _ _ _ _ _ => trivial) (fun _ _ _ => trivial) rfl rfl hl.1 (Nat.le_of_ble_eq_true rfl) dX2_worthOf_22 ⟨by decide, by decide⟩) hP hS hA (fun r_6 _ H locs hw0 hP hS => ?_)
  have hw : 0 ≤ r_6.toInt ∧ r_6.toInt ≤ 63 := hw0
  clear hw0
  have w_7 := hw
  refine k_i (wr := [(h, .inr (2, [.ref bmen, .ref bformulas, .ref breasons, .int bduels, .ref bduelSides, .ref bduelMornings, .int bhonour, .int bdraw, .ref busesOfKind])), (busesOfKind, aI g 4 FbusesOfKind)]) (k_V (n := 4) ⟨hx, hb, hml, hown, hT⟩ hK hP hD [2, 3, 4, 5] rfl (by decide +kernel) (s_X0_valueOf l g H.size bformulas bformulas_count bformulas_units bformulas_names bformulas_unitsOfThis bformulas_length bformulas_starts Fbformulas_starts bformulas_steps Fbformulas_steps bformulas_stack Fbformulas_stack p0 p2 r_4 r_6 (by first | with_reducible assumption | omega) (by first | with_reducible assumption | omega) (by first | with_reducible assumption | omega) (by first | with_reducible assumption | omega) hh8 (by first | with_reducible assumption | omega)) (gV bw_155 bw_156 bw_157 bw_143 bw_136) rfl rfl (by decide +kernel) ⟨by decide, by decide⟩ (ci := 0) (q0 := 0) rfl rfl (fun _ _ _ _ _ => trivial) (fun _ _ _ => trivial) rfl rfl hl.1 (Nat.le_of_ble_eq_true rfl) dX2_worthOf_25 ⟨by decide, by decide⟩) hP hD hS hA [2, 3, 4, 5] [0, 1] rfl rfl (by decide +kernel) (by decide +kernel) (fun r_8 => fun f_9 H locs hw0 hP hD hS => ?_)
  have hP : va_P g.1 vwCl [(h, .inr (2, [.ref bmen, .ref bformulas, .ref breasons, .int bduels, .ref bduelSides, .ref bduelMornings, .int bhonour, .int bdraw, .ref busesOfKind])), (busesOfKind, aI g 4 FbusesOfKind), (bformulas, .inr (0, [.int bformulas_count, .int bformulas_units, .ref bformulas_names, .int bformulas_unitsOfThis, .int bformulas_length, .ref bformulas_starts, .ref bformulas_steps, .ref bformulas_stack])), (bformulas_starts, aI g 5 Fbformulas_starts), (bformulas_steps, aI g 640 Fbformulas_steps), (bformulas_stack, aI g 32 f_9)] H := hP
  have hD : va_D A [(h, .inr (2, [.ref bmen, .ref bformulas, .ref breasons, .int bduels, .ref bduelSides, .ref bduelMornings, .int bhonour, .int bdraw, .ref busesOfKind])), (busesOfKind, aI g 4 FbusesOfKind), (bformulas, .inr (0, [.int bformulas_count, .int bformulas_units, .ref bformulas_names, .int bformulas_unitsOfThis, .int bformulas_length, .ref bformulas_starts, .ref bformulas_steps, .ref bformulas_stack])), (bformulas_starts, aI g 5 Fbformulas_starts), (bformulas_steps, aI g 640 Fbformulas_steps), (bformulas_stack, aI g 32 f_9)] := hD
  refine lv_istore (lv' := [(5, .int r_8), (4, .int r_4), (0, .ref h), (1, .int p0), (2, .int p1), (3, .int p2)]) hx hb dX2_worthOf_28 hl (by decide) rfl (fun ls hl => ?_)
  refine lv_iconst (v := 1) hx hb dX2_worthOf_30 (by decide) ?_
  refine lv_sipush (v := 365) hx hb dX2_worthOf_31 (by decide) ?_
  refine lv_iload hx hb dX2_worthOf_34 (lv_at hl 0 rfl) ?_
  refine va_mmin hx hb (hml.trans hl.1.symm) hown (hT _ bw_158) (hT _ bw_160) (hT _ bw_161) (hT _ bw_159) (Nat.le_of_ble_eq_true rfl) (Nat.le_of_ble_eq_true rfl) (Nat.le_of_ble_eq_true rfl) (Nat.le_of_ble_eq_true rfl) dX2_worthOf_36 ?_
  refine lv_topi (fun x_10 ex_10 => ?_)
  have fx_10 : x_10.toInt = min 365 r_8.toInt := by rw [ex_10]; exact I_min (by decide : (365 : Int32).toInt = 365) rfl
  refine va_mmax hx hb (hml.trans hl.1.symm) hown (hT _ bw_162) (hT _ bw_164) (hT _ bw_161) (hT _ bw_163) (Nat.le_of_ble_eq_true rfl) (Nat.le_of_ble_eq_true rfl) (Nat.le_of_ble_eq_true rfl) (Nat.le_of_ble_eq_true rfl) dX2_worthOf_39 ?_
  refine lv_topi (fun x_11 ex_11 => ?_)
  have fx_11 : x_11.toInt = max 1 x_10.toInt := by rw [ex_11]; exact I_max (by decide : (1 : Int32).toInt = 1) rfl
  have hP9 : va_P g.1 vwCl [(h, .inr (2, [.ref bmen, .ref bformulas, .ref breasons, .int bduels, .ref bduelSides, .ref bduelMornings, .int bhonour, .int bdraw, .ref busesOfKind])), (busesOfKind, aI g 4 FbusesOfKind), (bformulas, .inr (0, [.int bformulas_count, .int bformulas_units, .ref bformulas_names, .int bformulas_unitsOfThis, .int bformulas_length, .ref bformulas_starts, .ref bformulas_steps, .ref bformulas_stack])), (bformulas_starts, aI g 5 Fbformulas_starts), (bformulas_steps, aI g 640 Fbformulas_steps), (bformulas_stack, aI g 32 f_9)] H := hP.sub [0, 1, 2, 3, 4, 5] rfl
  have hD9 : va_D A [(h, .inr (2, [.ref bmen, .ref bformulas, .ref breasons, .int bduels, .ref bduelSides, .ref bduelMornings, .int bhonour, .int bdraw, .ref busesOfKind])), (busesOfKind, aI g 4 FbusesOfKind), (bformulas, .inr (0, [.int bformulas_count, .int bformulas_units, .ref bformulas_names, .int bformulas_unitsOfThis, .int bformulas_length, .ref bformulas_starts, .ref bformulas_steps, .ref bformulas_stack])), (bformulas_starts, aI g 5 Fbformulas_starts), (bformulas_steps, aI g 640 Fbformulas_steps), (bformulas_stack, aI g 32 f_9)] := hD.sub [0, 1, 2, 3, 4, 5] (by decide +kernel) rfl
  exact W.iret (v := x_11) hx hb hr (fun t ht hW => ⟨⟨x_11, f_9, rfl, (by first | with_reducible assumption | omega), by rw [ht]; exact hP9, by rw [hAe]; exact hD9⟩, hS.F ht⟩) hS.2.2 dX2_worthOf_42
