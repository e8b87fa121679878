section KF
variable {p : Program} {l : Launch} {e : Env} {R : Room} {s : State} {m : MethodId} {args : Array Value} {below : List Frame} {meth : Method} {c : Code} {H : Heap} {locs : List Loc} {cells slots : Nat} {Q : State → Prop} {ls : Array Slot}
/-- a loop by a measure -/
theorem k_floop (head : Nat) (Inv : Nat → Heap → List Loc → Array Slot → Prop)
    (hstep : ∀ (n : Nat) (H : Heap) (locs : List Loc) (ls : Array Slot), Inv n H locs ls → (∀ n', n' < n → ∀ (H : Heap) (locs : List Loc) (ls : Array Slot), Inv n' H locs ls → W p l e R s m args below meth c H locs cells slots Q (F0 m head ls [])) → W p l e R s m args below meth c H locs cells slots Q (F0 m head ls [])) (n : Nat) (h0 : Inv n H locs ls) : W p l e R s m args below meth c H locs cells slots Q (F0 m head ls []) := by
  suffices hh : ∀ (k : Nat), ∀ n', n' ≤ k → ∀ (H : Heap) (locs : List Loc) (ls : Array Slot), Inv n' H locs ls → W p l e R s m args below meth c H locs cells slots Q (F0 m head ls []) from hh n n (Nat.le_refl _) H locs ls h0
  intro k
  induction k with
  | zero => intro n' hn H locs ls h; exact hstep n' H locs ls h (fun n2 h2 => absurd h2 (by omega))
  | succ k ih => intro n' hn H locs ls h; exact hstep n' H locs ls h (fun n2 h2 => ih n2 (by omega))
end KF

set_option maxRecDepth 20000 in
theorem inF_X1 : ∀ w ∈ u_ws RX1 TX1 2, w ∈ gT := gT_u [438, 440] (by decide +kernel) (by decide +kernel)
theorem bw_0 : Cond.fieldLink RX1 15 "DuelDelays$Heap" "count" "I" ∈ gT := gT_tb 434 (by decide +kernel) (by decide +kernel)
theorem bw_1 : Cond.code yX1_clear cX1_clear 1 none ∈ gT := gT_tb 834 (by decide +kernel) (by decide +kernel)
theorem dX1_clear_0 : decode cX1_clear 0 = .ok (.aload_n 0, 1) := by decide +kernel
theorem dX1_clear_1 : decode cX1_clear 1 = .ok (.iconst 0, 1) := by decide +kernel
theorem dX1_clear_2 : decode cX1_clear 2 = .ok (.putfield 15, 3) := by decide +kernel
theorem dX1_clear_5 : decode cX1_clear 5 = .ok (.return_, 1) := by decide +kernel
set_option maxHeartbeats 4000000 in
set_option maxRecDepth 100000 in
theorem s_X1_clear (l : Launch) (g : GG) (sz : Nat) (h : Nat) (bcount : Int32) (bnumbers : Nat) (hh0 : 0 ≤ bcount.toInt ∧ bcount.toInt ≤ 16) : Met l yX1_clear (.code yX1_clear cX1_clear 1 none :: gT) ({ frames := 0, cells := 0, slots := 0, locals := 0 }) (va_Pc [.ref h] (Pst g sz [(h, .inr (1, [.int bcount, .ref bnumbers]))] nX)) (va_Qv (fun (_ : Unit) => True) (Qst g [(h, .inr (1, [.int bcount, .ref bnumbers]))] sz (fun (_ : Unit) => [(h, .inr (1, [.int 0, .ref bnumbers]))])) (va_A [(h, .inr (1, [.int bcount, .ref bnumbers]))] sz)) 0 0 (va_A [(h, .inr (1, [.int bcount, .ref bnumbers]))] sz) := by
  refine Met.ofW (cc := cX1_clear) (maxL := 1) (ret := none) (by decide) rfl ?_
  intro p e s m args below meth c s₁ B hml hv
  obtain ⟨rfl, hsz, hP, hK, hD0, hX⟩ := hv
  have hx := B.exec
  have hb := B.bytes
  have hr := B.returns
  have hT : ∀ w ∈ gT, w.before _ s = true := fun w h => atoms_spec (ws := .code yX1_clear cX1_clear 1 none :: gT) B.pre w (List.mem_cons_of_mem _ h)
  have hown : s.vm.findClass RX1 = some m.cls := findClass_of_methodNamed B.named
  have hlocks := B.notSynchronized
  subst hsz
  have hD := hD0.self (sz := s.heap.size)
  generalize hAe : va_A [(h, .inr (1, [.int bcount, .ref bnumbers]))] s.heap.size = A at hD ⊢
  have hA : ∀ q : Nat, s.heap.size ≤ q → A q := fun q h => by rw [← hAe]; exact Or.inr h
  have hS : va_S A s.heap s.heap [] := va_S.rf
  have hl := lv_entry ([.ref h]) (n := 1) (Nat.le_of_ble_eq_true rfl)
  rw [lg_entry_eq]
  generalize (lg_sl ([.ref h]) ++ List.replicate (1 - (lg_sl ([.ref h])).length) Slot.unset).toArray = ls at hl ⊢
  have hl : lv_has ls 1 [(0, .ref h)] := hl
  refine p_nH (fun H hH => ?_)
  have hP : va_P g.1 vwCl [(h, .inr (1, [.int bcount, .ref bnumbers]))] H := by rw [hH]; exact hP
  have hS : va_S A s.heap H [] := by rw [hH]; exact hS
  refine lv_aload_n hx hb dX1_clear_0 rfl (lv_at hl 0 rfl) ?_
  refine lv_iconst (v := 0) hx hb dX1_clear_1 (by decide) ?_
  refine va_put (D := g.1) (ci := 1) (v := .int 0) (ty := .int) (C := RX1) (T := TX1) (N := 2) hx hb hT inF_X1 tyX1 tyX1_ok nmX1 hown hK.1 hP hD hS 0 rfl rfl 0 (by decide) (hT _ bw_0) (fun _ h9 => h9) rfl (by decide +kernel) rfl rfl (Nat.le_of_ble_eq_true rfl) dX1_clear_2 (fun H locs hP hD hS => ?_)
  have hP : va_P g.1 vwCl [(h, .inr (1, [.int 0, .ref bnumbers]))] H := hP
  have hD : va_D A [(h, .inr (1, [.int 0, .ref bnumbers]))] := hD
  have hP9 : va_P g.1 vwCl [(h, .inr (1, [.int 0, .ref bnumbers]))] H := hP.sub [0] rfl
  have hD9 : va_D A [(h, .inr (1, [.int 0, .ref bnumbers]))] := hD.sub [0] (by decide +kernel) rfl
  exact W.vret hx hb hr (fun t ht hW => ⟨⟨(), rfl, trivial, by rw [ht]; exact hP9, by rw [hAe]; exact hD9⟩, hS.F ht⟩) hS.2.2 dX1_clear_5

theorem bw_2 : Cond.fieldLink RX1 9 "DuelDelays$Heap" "numbers" "[I" ∈ gT := gT_tb 436 (by decide +kernel) (by decide +kernel)
theorem bw_3 : Cond.code yX1_add cX1_add 2 none ∈ gT := gT_tb 1128 (by decide +kernel) (by decide +kernel)
theorem dX1_add_0 : decode cX1_add 0 = .ok (.aload_n 0, 1) := by decide +kernel
theorem dX1_add_1 : decode cX1_add 1 = .ok (.getfield 15, 3) := by decide +kernel
theorem dX1_add_4 : decode cX1_add 4 = .ok (.aload_n 0, 1) := by decide +kernel
theorem dX1_add_5 : decode cX1_add 5 = .ok (.getfield 9, 3) := by decide +kernel
theorem dX1_add_8 : decode cX1_add 8 = .ok (.arraylength, 1) := by decide +kernel
theorem dX1_add_9 : decode cX1_add 9 = .ok (.if_icmp .ge 23, 3) := by decide +kernel
theorem dX1_add_12 : decode cX1_add 12 = .ok (.aload_n 0, 1) := by decide +kernel
theorem dX1_add_13 : decode cX1_add 13 = .ok (.getfield 9, 3) := by decide +kernel
theorem dX1_add_16 : decode cX1_add 16 = .ok (.aload_n 0, 1) := by decide +kernel
theorem dX1_add_17 : decode cX1_add 17 = .ok (.getfield 15, 3) := by decide +kernel
theorem dX1_add_20 : decode cX1_add 20 = .ok (.iload_n 1, 1) := by decide +kernel
theorem dX1_add_21 : decode cX1_add 21 = .ok (.iastore, 1) := by decide +kernel
theorem dX1_add_22 : decode cX1_add 22 = .ok (.aload_n 0, 1) := by decide +kernel
theorem dX1_add_23 : decode cX1_add 23 = .ok (.dup, 1) := by decide +kernel
theorem dX1_add_24 : decode cX1_add 24 = .ok (.getfield 15, 3) := by decide +kernel
theorem dX1_add_27 : decode cX1_add 27 = .ok (.iconst 1, 1) := by decide +kernel
theorem dX1_add_28 : decode cX1_add 28 = .ok (.iadd, 1) := by decide +kernel
theorem dX1_add_29 : decode cX1_add 29 = .ok (.putfield 15, 3) := by decide +kernel
theorem dX1_add_32 : decode cX1_add 32 = .ok (.return_, 1) := by decide +kernel
set_option maxHeartbeats 4000000 in
set_option maxRecDepth 100000 in
theorem s_X1_add (l : Launch) (g : GG) (sz : Nat) (h : Nat) (bcount : Int32) (bnumbers : Nat) (Fbnumbers : Nat → Int32) (p0 : Int32) (hh0 : 0 ≤ bcount.toInt ∧ bcount.toInt ≤ 16) : Met l yX1_add (.code yX1_add cX1_add 2 none :: gT) ({ frames := 0, cells := 0, slots := 0, locals := 0 }) (va_Pc [.ref h, .int p0] (Pst g sz [(h, .inr (1, [.int bcount, .ref bnumbers])), (bnumbers, aI g 16 Fbnumbers)] nX)) (va_Qv (fun ((o0_count, o1_F) : Int32 × (Nat → Int32)) => 0 ≤ o0_count.toInt ∧ o0_count.toInt ≤ 16) (Qst g [(h, .inr (1, [.int bcount, .ref bnumbers])), (bnumbers, aI g 16 Fbnumbers)] sz (fun ((o0_count, o1_F) : Int32 × (Nat → Int32)) => [(h, .inr (1, [.int o0_count, .ref bnumbers])), (bnumbers, aI g 16 o1_F)])) (va_A [(h, .inr (1, [.int bcount, .ref bnumbers])), (bnumbers, aI g 16 Fbnumbers)] sz)) 0 0 (va_A [(h, .inr (1, [.int bcount, .ref bnumbers])), (bnumbers, aI g 16 Fbnumbers)] sz) := by
  refine Met.ofW (cc := cX1_add) (maxL := 2) (ret := none) (by decide) rfl ?_
  intro p e s m args below meth c s₁ B hml hv
  obtain ⟨rfl, hsz, hP, hK, hD0, hX⟩ := hv
  have hx := B.exec
  have hb := B.bytes
  have hr := B.returns
  have hT : ∀ w ∈ gT, w.before _ s = true := fun w h => atoms_spec (ws := .code yX1_add cX1_add 2 none :: gT) B.pre w (List.mem_cons_of_mem _ h)
  have hown : s.vm.findClass RX1 = some m.cls := findClass_of_methodNamed B.named
  have hlocks := B.notSynchronized
  subst hsz
  have hD := hD0.self (sz := s.heap.size)
  generalize hAe : va_A [(h, .inr (1, [.int bcount, .ref bnumbers])), (bnumbers, aI g 16 Fbnumbers)] s.heap.size = A at hD ⊢
  have hA : ∀ q : Nat, s.heap.size ≤ q → A q := fun q h => by rw [← hAe]; exact Or.inr h
  have hS : va_S A s.heap s.heap [] := va_S.rf
  have hl := lv_entry ([.ref h, .int p0]) (n := 2) (Nat.le_of_ble_eq_true rfl)
  rw [lg_entry_eq]
  generalize (lg_sl ([.ref h, .int p0]) ++ List.replicate (2 - (lg_sl ([.ref h, .int p0])).length) Slot.unset).toArray = ls at hl ⊢
  have hl : lv_has ls 2 [(0, .ref h), (1, .int p0)] := hl
  refine p_nH (fun H hH => ?_)
  have hP : va_P g.1 vwCl [(h, .inr (1, [.int bcount, .ref bnumbers])), (bnumbers, aI g 16 Fbnumbers)] H := by rw [hH]; exact hP
  have hS : va_S A s.heap H [] := by rw [hH]; exact hS
  refine lv_aload_n hx hb dX1_add_0 rfl (lv_at hl 0 rfl) ?_
  refine va_get (D := g.1) (ci := 1) (v := .int bcount) (C := RX1) (T := TX1) (N := 2) hx hb hT inF_X1 hown hK.1 hP 0 rfl rfl 0 (by decide) (hT _ bw_0) (fun _ h9 => h9) rfl dX1_add_1 ?_
  refine lv_aload_n hx hb dX1_add_4 rfl (lv_at hl 0 rfl) ?_
  refine va_get (D := g.1) (ci := 1) (v := .ref bnumbers) (C := RX1) (T := TX1) (N := 2) hx hb hT inF_X1 hown hK.1 hP 0 rfl rfl 1 (by decide) (hT _ bw_2) (fun _ h9 => h9) rfl dX1_add_5 ?_
  refine va_alen (v := 16) hx hb hK.1 hP 1 1 rfl rfl rfl dX1_add_8 ?_
  refine lv_icmp_ge (tgt := 32) hx hb dX1_add_9 (by decide) (fun c_1 => ?_) (fun c_1 => ?_)
  · have f_2 := E_le (by decide : (16 : Int32).toInt = 16) (rfl : bcount.toInt = _) c_1
    have hP9 : va_P g.1 vwCl [(h, .inr (1, [.int bcount, .ref bnumbers])), (bnumbers, aI g 16 Fbnumbers)] H := hP.sub [0, 1] rfl
    have hD9 : va_D A [(h, .inr (1, [.int bcount, .ref bnumbers])), (bnumbers, aI g 16 Fbnumbers)] := hD.sub [0, 1] (by decide +kernel) rfl
    exact W.vret hx hb hr (fun t ht hW => ⟨⟨(bcount, Fbnumbers), rfl, (by first | with_reducible assumption | omega), by rw [ht]; exact hP9, by rw [hAe]; exact hD9⟩, hS.F ht⟩) hS.2.2 dX1_add_32
  · have f_3 := E_nle (by decide : (16 : Int32).toInt = 16) (rfl : bcount.toInt = _) c_1
    refine lv_aload_n hx hb dX1_add_12 rfl (lv_at hl 0 rfl) ?_
    refine va_get (D := g.1) (ci := 1) (v := .ref bnumbers) (C := RX1) (T := TX1) (N := 2) hx hb hT inF_X1 hown hK.1 hP 0 rfl rfl 1 (by decide) (hT _ bw_2) (fun _ h9 => h9) rfl dX1_add_13 ?_
    refine lv_aload_n hx hb dX1_add_16 rfl (lv_at hl 0 rfl) ?_
    refine va_get (D := g.1) (ci := 1) (v := .int bcount) (C := RX1) (T := TX1) (N := 2) hx hb hT inF_X1 hown hK.1 hP 0 rfl rfl 0 (by decide) (hT _ bw_0) (fun _ h9 => h9) rfl dX1_add_17 ?_
    refine lv_iload_n hx hb dX1_add_20 rfl (lv_at hl 1 rfl) ?_
    have h_4 : vp_in bcount 16 := vp_in_iff.mpr (by omega)
    refine va_iast hx hb hK.1 hP hD hS 1 1 rfl rfl (i := bcount) (x := p0) h_4 dX1_add_21 (fun H locs hP hD hS => ?_)
    generalize upd Fbnumbers (bcount : Int32).toNatClampNeg p0 = f_5 at hP hD
    have hP : va_P g.1 vwCl [(h, .inr (1, [.int bcount, .ref bnumbers])), (bnumbers, aI g 16 f_5)] H := hP
    have hD : va_D A [(h, .inr (1, [.int bcount, .ref bnumbers])), (bnumbers, aI g 16 f_5)] := hD
    refine lv_aload_n hx hb dX1_add_22 rfl (lv_at hl 0 rfl) ?_
    refine lv_dup hx hb dX1_add_23 rfl ?_
    refine va_get (D := g.1) (ci := 1) (v := .int bcount) (C := RX1) (T := TX1) (N := 2) hx hb hT inF_X1 hown hK.1 hP 0 rfl rfl 0 (by decide) (hT _ bw_0) (fun _ h9 => h9) rfl dX1_add_24 ?_
    refine lv_iconst (v := 1) hx hb dX1_add_27 (by decide) ?_
    refine lv_iadd hx hb dX1_add_28 ?_
    refine lv_topi (fun x_6 ex_6 => ?_)
    have fx_6 : x_6.toInt = bcount.toInt + 1 := by rw [ex_6]; exact I_add rfl (by decide : (1 : Int32).toInt = 1) (by omega) (by omega)
    refine va_put (D := g.1) (ci := 1) (v := .int x_6) (ty := .int) (C := RX1) (T := TX1) (N := 2) hx hb hT inF_X1 tyX1 tyX1_ok nmX1 hown hK.1 hP hD hS 0 rfl rfl 0 (by decide) (hT _ bw_0) (fun _ h9 => h9) rfl (by decide +kernel) rfl rfl (Nat.le_of_ble_eq_true rfl) dX1_add_29 (fun H locs hP hD hS => ?_)
    have hP : va_P g.1 vwCl [(h, .inr (1, [.int x_6, .ref bnumbers])), (bnumbers, aI g 16 f_5)] H := hP
    have hD : va_D A [(h, .inr (1, [.int x_6, .ref bnumbers])), (bnumbers, aI g 16 f_5)] := hD
    have hP9 : va_P g.1 vwCl [(h, .inr (1, [.int x_6, .ref bnumbers])), (bnumbers, aI g 16 f_5)] H := hP.sub [0, 1] rfl
    have hD9 : va_D A [(h, .inr (1, [.int x_6, .ref bnumbers])), (bnumbers, aI g 16 f_5)] := hD.sub [0, 1] (by decide +kernel) rfl
    exact W.vret hx hb hr (fun t ht hW => ⟨⟨(x_6, f_5), rfl, (by first | with_reducible assumption | omega), by rw [ht]; exact hP9, by rw [hAe]; exact hD9⟩, hS.F ht⟩) hS.2.2 dX1_add_32

set_option maxRecDepth 20000 in
theorem inF_X3 : ∀ w ∈ u_ws RX3 TX3 5, w ∈ gT := gT_u [182, 184, 186, 188, 190] (by decide +kernel) (by decide +kernel)
theorem bw_4 : Cond.fieldLink RX3 25 "DuelDelays$Men" "count" "I" ∈ gT := gT_tb 164 (by decide +kernel) (by decide +kernel)
theorem bw_5 : Cond.code yX3_has cX3_has 2 (some .boolean) ∈ gT := gT_tb 846 (by decide +kernel) (by decide +kernel)
theorem dX3_has_0 : decode cX3_has 0 = .ok (.iload_n 1, 1) := by decide +kernel
theorem dX3_has_1 : decode cX3_has 1 = .ok (.ifCond .lt 15, 3) := by decide +kernel
theorem dX3_has_4 : decode cX3_has 4 = .ok (.iload_n 1, 1) := by decide +kernel
theorem dX3_has_5 : decode cX3_has 5 = .ok (.aload_n 0, 1) := by decide +kernel
theorem dX3_has_6 : decode cX3_has 6 = .ok (.getfield 25, 3) := by decide +kernel
theorem dX3_has_9 : decode cX3_has 9 = .ok (.if_icmp .ge 7, 3) := by decide +kernel
theorem dX3_has_12 : decode cX3_has 12 = .ok (.iconst 1, 1) := by decide +kernel
theorem dX3_has_13 : decode cX3_has 13 = .ok (.goto 4, 3) := by decide +kernel
theorem dX3_has_16 : decode cX3_has 16 = .ok (.iconst 0, 1) := by decide +kernel
theorem dX3_has_17 : decode cX3_has 17 = .ok (.ireturn, 1) := by decide +kernel
set_option maxHeartbeats 4000000 in
set_option maxRecDepth 100000 in
theorem s_X3_has (l : Launch) (g : GG) (sz : Nat) (h : Nat) (bcount : Int32) (bnames : Nat) (bdies : Nat) (bcoins : Nat) (bfathers : Nat) (p0 : Int32) (hh0 : 0 ≤ bcount.toInt ∧ bcount.toInt ≤ 6) : Met l yX3_has (.code yX3_has cX3_has 2 (some .boolean) :: gT) ({ frames := 0, cells := 0, slots := 0, locals := 0 }) (va_Pc [.ref h, .int p0] (Pst g sz [(h, .inr (3, [.int bcount, .ref bnames, .ref bdies, .ref bcoins, .ref bfathers]))] nX)) (va_Qi (fun (r : Int32) => fun (_ : Unit) => (r = 1 ∧ (0 ≤ p0.toInt ∧ p0.toInt < bcount.toInt)) ∨ (r = 0)) (Qst g [] sz (fun _ => [])) (va_A [] sz)) 0 0 (va_A [] sz) := by
  refine Met.ofW (cc := cX3_has) (maxL := 2) (ret := (some .boolean)) (by decide) rfl ?_
  intro p e s m args below meth c s₁ B hml hv
  obtain ⟨rfl, hsz, hP, hK, hD0, hX⟩ := hv
  have hx := B.exec
  have hb := B.bytes
  have hr := B.returns
  have hT : ∀ w ∈ gT, w.before _ s = true := fun w h => atoms_spec (ws := .code yX3_has cX3_has 2 (some .boolean) :: gT) B.pre w (List.mem_cons_of_mem _ h)
  have hown : s.vm.findClass RX3 = some m.cls := findClass_of_methodNamed B.named
  have hlocks := B.notSynchronized
  subst hsz
  have hD := hD0
  generalize hAe : va_A [] s.heap.size = A at ⊢
  have hA : ∀ q : Nat, s.heap.size ≤ q → A q := fun q h => by rw [← hAe]; exact Or.inr h
  have hS : va_S A s.heap s.heap [] := va_S.rf
  have hl := lv_entry ([.ref h, .int p0]) (n := 2) (Nat.le_of_ble_eq_true rfl)
  rw [lg_entry_eq]
  generalize (lg_sl ([.ref h, .int p0]) ++ List.replicate (2 - (lg_sl ([.ref h, .int p0])).length) Slot.unset).toArray = ls at hl ⊢
  have hl : lv_has ls 2 [(0, .ref h), (1, .int p0)] := hl
  refine p_nH (fun H hH => ?_)
  have hP : va_P g.1 vwCl [(h, .inr (3, [.int bcount, .ref bnames, .ref bdies, .ref bcoins, .ref bfathers]))] H := by rw [hH]; exact hP
  have hS : va_S A s.heap H [] := by rw [hH]; exact hS
  refine lv_iload_n hx hb dX3_has_0 rfl (lv_at hl 1 rfl) ?_
  refine lv_if_lt (tgt := 16) hx hb dX3_has_1 (by decide) (fun c_1 => ?_) (fun c_1 => ?_)
  · have f_2 := E_lt (rfl : p0.toInt = _) (by decide : (0 : Int32).toInt = 0) c_1
    refine lv_iconst (v := 0) hx hb dX3_has_16 (by decide) ?_
    have hP9 : va_P g.1 vwCl [] H := hP.sub [] rfl
    have hD9 : va_D A [] := ⟨fun i j p q h => by simp at h, fun k q h => by simp at h⟩
    exact W.zret (v := 0) (ty := .boolean) hx hb hr rfl (fun t ht hW => ⟨⟨0, (), rfl, (Or.inr (rfl)), by rw [ht]; exact hP9, by rw [hAe]; exact hD9⟩, hS.F ht⟩) hS.2.2 dX3_has_17
  · have f_3 := E_nlt (rfl : p0.toInt = _) (by decide : (0 : Int32).toInt = 0) c_1
    refine lv_iload_n hx hb dX3_has_4 rfl (lv_at hl 1 rfl) ?_
    refine lv_aload_n hx hb dX3_has_5 rfl (lv_at hl 0 rfl) ?_
    refine va_get (D := g.1) (ci := 3) (v := .int bcount) (C := RX3) (T := TX3) (N := 5) hx hb hT inF_X3 hown hK.1 hP 0 rfl rfl 0 (by decide) (hT _ bw_4) (fun _ h9 => h9) rfl dX3_has_6 ?_
    refine lv_icmp_ge (tgt := 16) hx hb dX3_has_9 (by decide) (fun c_4 => ?_) (fun c_4 => ?_)
    · have f_5 := E_le (rfl : bcount.toInt = _) (rfl : p0.toInt = _) c_4
      refine lv_iconst (v := 0) hx hb dX3_has_16 (by decide) ?_
      have hP9 : va_P g.1 vwCl [] H := hP.sub [] rfl
      have hD9 : va_D A [] := ⟨fun i j p q h => by simp at h, fun k q h => by simp at h⟩
      exact W.zret (v := 0) (ty := .boolean) hx hb hr rfl (fun t ht hW => ⟨⟨0, (), rfl, (Or.inr (rfl)), by rw [ht]; exact hP9, by rw [hAe]; exact hD9⟩, hS.F ht⟩) hS.2.2 dX3_has_17
    · have f_6 := E_nle (rfl : bcount.toInt = _) (rfl : p0.toInt = _) c_4
      refine lv_iconst (v := 1) hx hb dX3_has_12 (by decide) ?_
      refine lv_goto (tgt := 17) hx hb dX3_has_13 (by decide) ?_
      have hP9 : va_P g.1 vwCl [] H := hP.sub [] rfl
      have hD9 : va_D A [] := ⟨fun i j p q h => by simp at h, fun k q h => by simp at h⟩
      exact W.zret (v := 1) (ty := .boolean) hx hb hr rfl (fun t ht hW => ⟨⟨1, (), rfl, (Or.inl ⟨rfl, by omega⟩), by rw [ht]; exact hP9, by rw [hAe]; exact hD9⟩, hS.F ht⟩) hS.2.2 dX3_has_17

set_option maxRecDepth 20000 in
theorem inF_X6 : ∀ w ∈ u_ws RX6 TX6 8, w ∈ gT := gT_u [267, 269, 271, 273, 275, 277, 279, 281] (by decide +kernel) (by decide +kernel)
theorem bw_6 : Cond.fieldLink RX6 34 "DuelDelays$Reasons" "count" "I" ∈ gT := gT_tb 235 (by decide +kernel) (by decide +kernel)
theorem bw_7 : Cond.code yX6_has cX6_has 2 (some .boolean) ∈ gT := gT_tb 880 (by decide +kernel) (by decide +kernel)
theorem dX6_has_0 : decode cX6_has 0 = .ok (.iload_n 1, 1) := by decide +kernel
theorem dX6_has_1 : decode cX6_has 1 = .ok (.ifCond .lt 15, 3) := by decide +kernel
theorem dX6_has_4 : decode cX6_has 4 = .ok (.iload_n 1, 1) := by decide +kernel
theorem dX6_has_5 : decode cX6_has 5 = .ok (.aload_n 0, 1) := by decide +kernel
theorem dX6_has_6 : decode cX6_has 6 = .ok (.getfield 34, 3) := by decide +kernel
theorem dX6_has_9 : decode cX6_has 9 = .ok (.if_icmp .ge 7, 3) := by decide +kernel
theorem dX6_has_12 : decode cX6_has 12 = .ok (.iconst 1, 1) := by decide +kernel
theorem dX6_has_13 : decode cX6_has 13 = .ok (.goto 4, 3) := by decide +kernel
theorem dX6_has_16 : decode cX6_has 16 = .ok (.iconst 0, 1) := by decide +kernel
theorem dX6_has_17 : decode cX6_has 17 = .ok (.ireturn, 1) := by decide +kernel
set_option maxHeartbeats 4000000 in
set_option maxRecDepth 100000 in
theorem s_X6_has (l : Launch) (g : GG) (sz : Nat) (h : Nat) (bcount : Int32) (bnames : Nat) (bkinds : Nat) (bowners : Nat) (bfroms : Nat) (btos : Nat) (brents : Nat) (bsorts : Nat) (p0 : Int32) (hh0 : 0 ≤ bcount.toInt ∧ bcount.toInt ≤ 8) : Met l yX6_has (.code yX6_has cX6_has 2 (some .boolean) :: gT) ({ frames := 0, cells := 0, slots := 0, locals := 0 }) (va_Pc [.ref h, .int p0] (Pst g sz [(h, .inr (6, [.int bcount, .ref bnames, .ref bkinds, .ref bowners, .ref bfroms, .ref btos, .ref brents, .ref bsorts]))] nX)) (va_Qi (fun (r : Int32) => fun (_ : Unit) => (r = 1 ∧ (0 ≤ p0.toInt ∧ p0.toInt < bcount.toInt)) ∨ (r = 0)) (Qst g [] sz (fun _ => [])) (va_A [] sz)) 0 0 (va_A [] sz) := by
  refine Met.ofW (cc := cX6_has) (maxL := 2) (ret := (some .boolean)) (by decide) rfl ?_
  intro p e s m args below meth c s₁ B hml hv
  obtain ⟨rfl, hsz, hP, hK, hD0, hX⟩ := hv
  have hx := B.exec
  have hb := B.bytes
  have hr := B.returns
  have hT : ∀ w ∈ gT, w.before _ s = true := fun w h => atoms_spec (ws := .code yX6_has cX6_has 2 (some .boolean) :: gT) B.pre w (List.mem_cons_of_mem _ h)
  have hown : s.vm.findClass RX6 = some m.cls := findClass_of_methodNamed B.named
  have hlocks := B.notSynchronized
  subst hsz
  have hD := hD0
  generalize hAe : va_A [] s.heap.size = A at ⊢
  have hA : ∀ q : Nat, s.heap.size ≤ q → A q := fun q h => by rw [← hAe]; exact Or.inr h
  have hS : va_S A s.heap s.heap [] := va_S.rf
  have hl := lv_entry ([.ref h, .int p0]) (n := 2) (Nat.le_of_ble_eq_true rfl)
  rw [lg_entry_eq]
  generalize (lg_sl ([.ref h, .int p0]) ++ List.replicate (2 - (lg_sl ([.ref h, .int p0])).length) Slot.unset).toArray = ls at hl ⊢
  have hl : lv_has ls 2 [(0, .ref h), (1, .int p0)] := hl
  refine p_nH (fun H hH => ?_)
  have hP : va_P g.1 vwCl [(h, .inr (6, [.int bcount, .ref bnames, .ref bkinds, .ref bowners, .ref bfroms, .ref btos, .ref brents, .ref bsorts]))] H := by rw [hH]; exact hP
  have hS : va_S A s.heap H [] := by rw [hH]; exact hS
  refine lv_iload_n hx hb dX6_has_0 rfl (lv_at hl 1 rfl) ?_
  refine lv_if_lt (tgt := 16) hx hb dX6_has_1 (by decide) (fun c_1 => ?_) (fun c_1 => ?_)
  · have f_2 := E_lt (rfl : p0.toInt = _) (by decide : (0 : Int32).toInt = 0) c_1
    refine lv_iconst (v := 0) hx hb dX6_has_16 (by decide) ?_
    have hP9 : va_P g.1 vwCl [] H := hP.sub [] rfl
    have hD9 : va_D A [] := ⟨fun i j p q h => by simp at h, fun k q h => by simp at h⟩
    exact W.zret (v := 0) (ty := .boolean) hx hb hr rfl (fun t ht hW => ⟨⟨0, (), rfl, (Or.inr (rfl)), by rw [ht]; exact hP9, by rw [hAe]; exact hD9⟩, hS.F ht⟩) hS.2.2 dX6_has_17
  · have f_3 := E_nlt (rfl : p0.toInt = _) (by decide : (0 : Int32).toInt = 0) c_1
    refine lv_iload_n hx hb dX6_has_4 rfl (lv_at hl 1 rfl) ?_
    refine lv_aload_n hx hb dX6_has_5 rfl (lv_at hl 0 rfl) ?_
    refine va_get (D := g.1) (ci := 6) (v := .int bcount) (C := RX6) (T := TX6) (N := 8) hx hb hT inF_X6 hown hK.1 hP 0 rfl rfl 0 (by decide) (hT _ bw_6) (fun _ h9 => h9) rfl dX6_has_6 ?_
    refine lv_icmp_ge (tgt := 16) hx hb dX6_has_9 (by decide) (fun c_4 => ?_) (fun c_4 => ?_)
    · have f_5 := E_le (rfl : bcount.toInt = _) (rfl : p0.toInt = _) c_4
      refine lv_iconst (v := 0) hx hb dX6_has_16 (by decide) ?_
      have hP9 : va_P g.1 vwCl [] H := hP.sub [] rfl
      have hD9 : va_D A [] := ⟨fun i j p q h => by simp at h, fun k q h => by simp at h⟩
      exact W.zret (v := 0) (ty := .boolean) hx hb hr rfl (fun t ht hW => ⟨⟨0, (), rfl, (Or.inr (rfl)), by rw [ht]; exact hP9, by rw [hAe]; exact hD9⟩, hS.F ht⟩) hS.2.2 dX6_has_17
    · have f_6 := E_nle (rfl : bcount.toInt = _) (rfl : p0.toInt = _) c_4
      refine lv_iconst (v := 1) hx hb dX6_has_12 (by decide) ?_
      refine lv_goto (tgt := 17) hx hb dX6_has_13 (by decide) ?_
      have hP9 : va_P g.1 vwCl [] H := hP.sub [] rfl
      have hD9 : va_D A [] := ⟨fun i j p q h => by simp at h, fun k q h => by simp at h⟩
      exact W.zret (v := 1) (ty := .boolean) hx hb hr rfl (fun t ht hW => ⟨⟨1, (), rfl, (Or.inl ⟨rfl, by omega⟩), by rw [ht]; exact hP9, by rw [hAe]; exact hD9⟩, hS.F ht⟩) hS.2.2 dX6_has_17

theorem bw_8 : Cond.fieldLink RX6 22 "DuelDelays$Reasons" "froms" "[I" ∈ gT := gT_tb 252 (by decide +kernel) (by decide +kernel)
theorem bw_9 : Cond.fieldLink RX6 25 "DuelDelays$Reasons" "tos" "[I" ∈ gT := gT_tb 255 (by decide +kernel) (by decide +kernel)
theorem bw_10 : Cond.code yX6_isInTime cX6_isInTime 3 (some .boolean) ∈ gT := gT_tb 936 (by decide +kernel) (by decide +kernel)
theorem dX6_isInTime_0 : decode cX6_isInTime 0 = .ok (.aload_n 0, 1) := by decide +kernel
theorem dX6_isInTime_1 : decode cX6_isInTime 1 = .ok (.getfield 22, 3) := by decide +kernel
theorem dX6_isInTime_4 : decode cX6_isInTime 4 = .ok (.iload_n 1, 1) := by decide +kernel
theorem dX6_isInTime_5 : decode cX6_isInTime 5 = .ok (.iaload, 1) := by decide +kernel
theorem dX6_isInTime_6 : decode cX6_isInTime 6 = .ok (.iload_n 2, 1) := by decide +kernel
theorem dX6_isInTime_7 : decode cX6_isInTime 7 = .ok (.if_icmp .gt 17, 3) := by decide +kernel
theorem dX6_isInTime_10 : decode cX6_isInTime 10 = .ok (.iload_n 2, 1) := by decide +kernel
theorem dX6_isInTime_11 : decode cX6_isInTime 11 = .ok (.aload_n 0, 1) := by decide +kernel
theorem dX6_isInTime_12 : decode cX6_isInTime 12 = .ok (.getfield 25, 3) := by decide +kernel
theorem dX6_isInTime_15 : decode cX6_isInTime 15 = .ok (.iload_n 1, 1) := by decide +kernel
theorem dX6_isInTime_16 : decode cX6_isInTime 16 = .ok (.iaload, 1) := by decide +kernel
theorem dX6_isInTime_17 : decode cX6_isInTime 17 = .ok (.if_icmp .gt 7, 3) := by decide +kernel
theorem dX6_isInTime_20 : decode cX6_isInTime 20 = .ok (.iconst 1, 1) := by decide +kernel
theorem dX6_isInTime_21 : decode cX6_isInTime 21 = .ok (.goto 4, 3) := by decide +kernel
theorem dX6_isInTime_24 : decode cX6_isInTime 24 = .ok (.iconst 0, 1) := by decide +kernel
theorem dX6_isInTime_25 : decode cX6_isInTime 25 = .ok (.ireturn, 1) := by decide +kernel
set_option maxHeartbeats 4000000 in
set_option maxRecDepth 100000 in
theorem s_X6_isInTime (l : Launch) (g : GG) (sz : Nat) (h : Nat) (bcount : Int32) (bnames : Nat) (bkinds : Nat) (bowners : Nat) (bfroms : Nat) (Fbfroms : Nat → Int32) (btos : Nat) (Fbtos : Nat → Int32) (brents : Nat) (bsorts : Nat) (p0 : Int32) (p1 : Int32) (hh0 : 0 ≤ bcount.toInt ∧ bcount.toInt ≤ 8) (hh3 : 0 ≤ p0.toInt ∧ p0.toInt ≤ 7) : Met l yX6_isInTime (.code yX6_isInTime cX6_isInTime 3 (some .boolean) :: gT) ({ frames := 0, cells := 0, slots := 0, locals := 0 }) (va_Pc [.ref h, .int p0, .int p1] (Pst g sz [(h, .inr (6, [.int bcount, .ref bnames, .ref bkinds, .ref bowners, .ref bfroms, .ref btos, .ref brents, .ref bsorts])), (bfroms, aI g 8 Fbfroms), (btos, aI g 8 Fbtos)] nX)) (va_Qi (fun (r : Int32) => fun (_ : Unit) => 0 ≤ r.toInt ∧ r.toInt ≤ 1) (Qst g [] sz (fun _ => [])) (va_A [] sz)) 0 0 (va_A [] sz) := by
  refine Met.ofW (cc := cX6_isInTime) (maxL := 3) (ret := (some .boolean)) (by decide) rfl ?_
  intro p e s m args below meth c s₁ B hml hv
  obtain ⟨rfl, hsz, hP, hK, hD0, hX⟩ := hv
  have hx := B.exec
  have hb := B.bytes
  have hr := B.returns
  have hT : ∀ w ∈ gT, w.before _ s = true := fun w h => atoms_spec (ws := .code yX6_isInTime cX6_isInTime 3 (some .boolean) :: gT) B.pre w (List.mem_cons_of_mem _ h)
  have hown : s.vm.findClass RX6 = some m.cls := findClass_of_methodNamed B.named
  have hlocks := B.notSynchronized
  subst hsz
  have hD := hD0
  generalize hAe : va_A [] s.heap.size = A at ⊢
  have hA : ∀ q : Nat, s.heap.size ≤ q → A q := fun q h => by rw [← hAe]; exact Or.inr h
  have hS : va_S A s.heap s.heap [] := va_S.rf
  have hl := lv_entry ([.ref h, .int p0, .int p1]) (n := 3) (Nat.le_of_ble_eq_true rfl)
  rw [lg_entry_eq]
  generalize (lg_sl ([.ref h, .int p0, .int p1]) ++ List.replicate (3 - (lg_sl ([.ref h, .int p0, .int p1])).length) Slot.unset).toArray = ls at hl ⊢
  have hl : lv_has ls 3 [(0, .ref h), (1, .int p0), (2, .int p1)] := hl
  refine p_nH (fun H hH => ?_)
  have hP : va_P g.1 vwCl [(h, .inr (6, [.int bcount, .ref bnames, .ref bkinds, .ref bowners, .ref bfroms, .ref btos, .ref brents, .ref bsorts])), (bfroms, aI g 8 Fbfroms), (btos, aI g 8 Fbtos)] H := by rw [hH]; exact hP
  have hS : va_S A s.heap H [] := by rw [hH]; exact hS
  refine lv_aload_n hx hb dX6_isInTime_0 rfl (lv_at hl 0 rfl) ?_
  refine va_get (D := g.1) (ci := 6) (v := .ref bfroms) (C := RX6) (T := TX6) (N := 8) hx hb hT inF_X6 hown hK.1 hP 0 rfl rfl 4 (by decide) (hT _ bw_8) (fun _ h9 => h9) rfl dX6_isInTime_1 ?_
  refine lv_iload_n hx hb dX6_isInTime_4 rfl (lv_at hl 1 rfl) ?_
  have h_1 : vp_in p0 8 := vp_in_iff.mpr (by omega)
  refine va_iald hx hb hK.1 hP 1 1 rfl rfl (i := p0) h_1 dX6_isInTime_5 ?_
  refine lv_topi (fun x_2 ex_2 => ?_)
  have ux_2 := congrArg Int32.toInt ex_2
  refine lv_iload_n hx hb dX6_isInTime_6 rfl (lv_at hl 2 rfl) ?_
  refine lv_icmp_gt (tgt := 24) hx hb dX6_isInTime_7 (by decide) (fun c_3 => ?_) (fun c_3 => ?_)
  · have f_4 := E_lt (rfl : p1.toInt = _) (rfl : x_2.toInt = _) c_3
    refine lv_iconst (v := 0) hx hb dX6_isInTime_24 (by decide) ?_
    have hP9 : va_P g.1 vwCl [] H := hP.sub [] rfl
    have hD9 : va_D A [] := ⟨fun i j p q h => by simp at h, fun k q h => by simp at h⟩
    exact W.zret (v := 0) (ty := .boolean) hx hb hr rfl (fun t ht hW => ⟨⟨0, (), rfl, ⟨by decide, by decide⟩, by rw [ht]; exact hP9, by rw [hAe]; exact hD9⟩, hS.F ht⟩) hS.2.2 dX6_isInTime_25
  · have f_5 := E_nlt (rfl : p1.toInt = _) (rfl : x_2.toInt = _) c_3
    refine lv_iload_n hx hb dX6_isInTime_10 rfl (lv_at hl 2 rfl) ?_
    refine lv_aload_n hx hb dX6_isInTime_11 rfl (lv_at hl 0 rfl) ?_
    refine va_get (D := g.1) (ci := 6) (v := .ref btos) (C := RX6) (T := TX6) (N := 8) hx hb hT inF_X6 hown hK.1 hP 0 rfl rfl 5 (by decide) (hT _ bw_9) (fun _ h9 => h9) rfl dX6_isInTime_12 ?_
    refine lv_iload_n hx hb dX6_isInTime_15 rfl (lv_at hl 1 rfl) ?_
    have h_6 : vp_in p0 8 := vp_in_iff.mpr (by omega)
    refine va_iald hx hb hK.1 hP 2 1 rfl rfl (i := p0) h_6 dX6_isInTime_16 ?_
    refine lv_topi (fun x_7 ex_7 => ?_)
    have ux_7 := congrArg Int32.toInt ex_7
    refine lv_icmp_gt (tgt := 24) hx hb dX6_isInTime_17 (by decide) (fun c_8 => ?_) (fun c_8 => ?_)
    · have f_9 := E_lt (rfl : x_7.toInt = _) (rfl : p1.toInt = _) c_8
      refine lv_iconst (v := 0) hx hb dX6_isInTime_24 (by decide) ?_
      have hP9 : va_P g.1 vwCl [] H := hP.sub [] rfl
      have hD9 : va_D A [] := ⟨fun i j p q h => by simp at h, fun k q h => by simp at h⟩
      exact W.zret (v := 0) (ty := .boolean) hx hb hr rfl (fun t ht hW => ⟨⟨0, (), rfl, ⟨by decide, by decide⟩, by rw [ht]; exact hP9, by rw [hAe]; exact hD9⟩, hS.F ht⟩) hS.2.2 dX6_isInTime_25
    · have f_10 := E_nlt (rfl : x_7.toInt = _) (rfl : p1.toInt = _) c_8
      refine lv_iconst (v := 1) hx hb dX6_isInTime_20 (by decide) ?_
      refine lv_goto (tgt := 25) hx hb dX6_isInTime_21 (by decide) ?_
      have hP9 : va_P g.1 vwCl [] H := hP.sub [] rfl
      have hD9 : va_D A [] := ⟨fun i j p q h => by simp at h, fun k q h => by simp at h⟩
      exact W.zret (v := 1) (ty := .boolean) hx hb hr rfl (fun t ht hW => ⟨⟨1, (), rfl, ⟨by decide, by decide⟩, by rw [ht]; exact hP9, by rw [hAe]; exact hD9⟩, hS.F ht⟩) hS.2.2 dX6_isInTime_25

theorem bw_11 : Cond.fieldLink RX6 28 "DuelDelays$Reasons" "rents" "[I" ∈ gT := gT_tb 258 (by decide +kernel) (by decide +kernel)
theorem bw_12 : Cond.code yX6_priceOf cX6_priceOf 4 (some .int) ∈ gT := gT_tb 1169 (by decide +kernel) (by decide +kernel)
theorem dX6_priceOf_0 : decode cX6_priceOf 0 = .ok (.iconst 0, 1) := by decide +kernel
theorem dX6_priceOf_1 : decode cX6_priceOf 1 = .ok (.istore_n 2, 1) := by decide +kernel
theorem dX6_priceOf_2 : decode cX6_priceOf 2 = .ok (.iconst 0, 1) := by decide +kernel
theorem dX6_priceOf_3 : decode cX6_priceOf 3 = .ok (.istore_n 3, 1) := by decide +kernel
theorem dX6_priceOf_4 : decode cX6_priceOf 4 = .ok (.iload_n 3, 1) := by decide +kernel
theorem dX6_priceOf_5 : decode cX6_priceOf 5 = .ok (.aload_n 0, 1) := by decide +kernel
theorem dX6_priceOf_6 : decode cX6_priceOf 6 = .ok (.getfield 34, 3) := by decide +kernel
theorem dX6_priceOf_9 : decode cX6_priceOf 9 = .ok (.if_icmp .ge 26, 3) := by decide +kernel
theorem dX6_priceOf_12 : decode cX6_priceOf 12 = .ok (.iload_n 1, 1) := by decide +kernel
theorem dX6_priceOf_13 : decode cX6_priceOf 13 = .ok (.iload_n 3, 1) := by decide +kernel
theorem dX6_priceOf_14 : decode cX6_priceOf 14 = .ok (.ishr, 1) := by decide +kernel
theorem dX6_priceOf_15 : decode cX6_priceOf 15 = .ok (.iconst 1, 1) := by decide +kernel
theorem dX6_priceOf_16 : decode cX6_priceOf 16 = .ok (.iand, 1) := by decide +kernel
theorem dX6_priceOf_17 : decode cX6_priceOf 17 = .ok (.ifCond .eq 12, 3) := by decide +kernel
theorem dX6_priceOf_20 : decode cX6_priceOf 20 = .ok (.iload_n 2, 1) := by decide +kernel
theorem dX6_priceOf_21 : decode cX6_priceOf 21 = .ok (.aload_n 0, 1) := by decide +kernel
theorem dX6_priceOf_22 : decode cX6_priceOf 22 = .ok (.getfield 28, 3) := by decide +kernel
theorem dX6_priceOf_25 : decode cX6_priceOf 25 = .ok (.iload_n 3, 1) := by decide +kernel
theorem dX6_priceOf_26 : decode cX6_priceOf 26 = .ok (.iaload, 1) := by decide +kernel
theorem dX6_priceOf_27 : decode cX6_priceOf 27 = .ok (.iadd, 1) := by decide +kernel
theorem dX6_priceOf_28 : decode cX6_priceOf 28 = .ok (.istore_n 2, 1) := by decide +kernel
theorem dX6_priceOf_29 : decode cX6_priceOf 29 = .ok (.iinc 3 1, 3) := by decide +kernel
theorem dX6_priceOf_32 : decode cX6_priceOf 32 = .ok (.goto (-28), 3) := by decide +kernel
theorem dX6_priceOf_35 : decode cX6_priceOf 35 = .ok (.iload_n 2, 1) := by decide +kernel
theorem dX6_priceOf_36 : decode cX6_priceOf 36 = .ok (.ireturn, 1) := by decide +kernel
set_option maxHeartbeats 4000000 in
set_option maxRecDepth 100000 in
theorem s_X6_priceOf (l : Launch) (g : GG) (sz : Nat) (h : Nat) (bcount : Int32) (bnames : Nat) (bkinds : Nat) (bowners : Nat) (bfroms : Nat) (btos : Nat) (brents : Nat) (Fbrents : Nat → Int32) (bsorts : Nat) (p0 : Int32) (hh0 : 0 ≤ bcount.toInt ∧ bcount.toInt ≤ 8) : Met l yX6_priceOf (.code yX6_priceOf cX6_priceOf 4 (some .int) :: gT) ({ frames := 0, cells := 0, slots := 0, locals := 0 }) (va_Pc [.ref h, .int p0] (Pst g sz [(h, .inr (6, [.int bcount, .ref bnames, .ref bkinds, .ref bowners, .ref bfroms, .ref btos, .ref brents, .ref bsorts])), (brents, aI g 8 Fbrents)] nX)) (va_Qi (fun (r : Int32) => fun (_ : Unit) => True) (Qst g [] sz (fun _ => [])) (va_A [] sz)) 0 0 (va_A [] sz) := by
  refine Met.ofW (cc := cX6_priceOf) (maxL := 4) (ret := (some .int)) (by decide) rfl ?_
  intro p e s m args below meth c s₁ B hml hv
  obtain ⟨rfl, hsz, hP, hK, hD0, hX⟩ := hv
  have hx := B.exec
  have hb := B.bytes
  have hr := B.returns
  have hT : ∀ w ∈ gT, w.before _ s = true := fun w h => atoms_spec (ws := .code yX6_priceOf cX6_priceOf 4 (some .int) :: gT) B.pre w (List.mem_cons_of_mem _ h)
  have hown : s.vm.findClass RX6 = some m.cls := findClass_of_methodNamed B.named
  have hlocks := B.notSynchronized
  subst hsz
  have hD := hD0
  generalize hAe : va_A [] s.heap.size = A at ⊢
  have hA : ∀ q : Nat, s.heap.size ≤ q → A q := fun q h => by rw [← hAe]; exact Or.inr h
  have hS : va_S A s.heap s.heap [] := va_S.rf
  have hl := lv_entry ([.ref h, .int p0]) (n := 4) (Nat.le_of_ble_eq_true rfl)
  rw [lg_entry_eq]
  generalize (lg_sl ([.ref h, .int p0]) ++ List.replicate (4 - (lg_sl ([.ref h, .int p0])).length) Slot.unset).toArray = ls at hl ⊢
  have hl : lv_has ls 4 [(0, .ref h), (1, .int p0)] := hl
  refine p_nH (fun H hH => ?_)
  have hP : va_P g.1 vwCl [(h, .inr (6, [.int bcount, .ref bnames, .ref bkinds, .ref bowners, .ref bfroms, .ref btos, .ref brents, .ref bsorts])), (brents, aI g 8 Fbrents)] H := by rw [hH]; exact hP
  have hS : va_S A s.heap H [] := by rw [hH]; exact hS
  refine lv_iconst (v := 0) hx hb dX6_priceOf_0 (by decide) ?_
  refine lv_istore_n (lv' := [(2, .int 0), (0, .ref h), (1, .int p0)]) hx hb dX6_priceOf_1 rfl hl (by decide) rfl (fun ls hl => ?_)
  refine lv_iconst (v := 0) hx hb dX6_priceOf_2 (by decide) ?_
  refine lv_istore_n (lv' := [(3, .int 0), (2, .int 0), (0, .ref h), (1, .int p0)]) hx hb dX6_priceOf_3 rfl hl (by decide) rfl (fun ls hl => ?_)
  refine k_floop 4 (fun n H locs ls => ∃ (L_1 : Int32) (L_2 : Int32), (0 ≤ L_1.toInt ∧ L_1.toInt ≤ 8) ∧ 8 - L_1.toInt ≤ (n : Int) ∧ va_P g.1 vwCl [(h, .inr (6, [.int bcount, .ref bnames, .ref bkinds, .ref bowners, .ref bfroms, .ref btos, .ref brents, .ref bsorts])), (brents, aI g 8 Fbrents)] H ∧ va_S A s.heap H locs ∧ lv_has ls 4 [(3, .int L_1), (2, .int L_2), (0, .ref h), (1, .int p0)]) (fun n H locs ls hI ih => ?_) ((8 - 0 : Int)).toNat ⟨0, 0, by decide, by have k0 : (0 : Int32).toInt = 0 := (by decide); omega, hP, hS, hl⟩
  refine hI.elim (fun L_1 hI => hI.elim (fun L_2 hI => ?_))
  have g_3 := hI.1
  have hm_4 := hI.2.1
  have hP := hI.2.2.1
  have hS := hI.2.2.2.1
  have hl := hI.2.2.2.2
  clear hI
  refine lv_iload_n hx hb dX6_priceOf_4 rfl (lv_at hl 0 rfl) ?_
  refine lv_aload_n hx hb dX6_priceOf_5 rfl (lv_at hl 2 rfl) ?_
  refine va_get (D := g.1) (ci := 6) (v := .int bcount) (C := RX6) (T := TX6) (N := 8) hx hb hT inF_X6 hown hK.1 hP 0 rfl rfl 0 (by decide) (hT _ bw_6) (fun _ h9 => h9) rfl dX6_priceOf_6 ?_
  refine lv_icmp_ge (tgt := 35) hx hb dX6_priceOf_9 (by decide) (fun c_5 => ?_) (fun c_5 => ?_)
  · have f_6 := E_le (rfl : bcount.toInt = _) (rfl : L_1.toInt = _) c_5
    refine lv_iload_n hx hb dX6_priceOf_35 rfl (lv_at hl 1 rfl) ?_
    have hP9 : va_P g.1 vwCl [] H := hP.sub [] rfl
    have hD9 : va_D A [] := ⟨fun i j p q h => by simp at h, fun k q h => by simp at h⟩
    exact W.iret (v := L_2) hx hb hr (fun t ht hW => ⟨⟨L_2, (), rfl, trivial, by rw [ht]; exact hP9, by rw [hAe]; exact hD9⟩, hS.F ht⟩) hS.2.2 dX6_priceOf_36
  · have f_7 := E_nle (rfl : bcount.toInt = _) (rfl : L_1.toInt = _) c_5
    refine lv_iload_n hx hb dX6_priceOf_12 rfl (lv_at hl 3 rfl) ?_
    refine lv_iload_n hx hb dX6_priceOf_13 rfl (lv_at hl 0 rfl) ?_
    refine lv_ishr hx hb dX6_priceOf_14 ?_
    refine lv_topi (fun x_8 ex_8 => ?_)
    refine lv_iconst (v := 1) hx hb dX6_priceOf_15 (by decide) ?_
    refine lv_iand hx hb dX6_priceOf_16 ?_
    refine lv_topi (fun x_9 ex_9 => ?_)
    have fx_9 : 0 ≤ x_9.toInt ∧ x_9.toInt ≤ 1 := by rw [ex_9]; exact I_and (by decide) (by decide)
    refine lv_if_eq (tgt := 29) hx hb dX6_priceOf_17 (by decide) (fun c_10 => ?_) (fun c_10 => ?_)
    · have f_11 := E_eq (rfl : x_9.toInt = _) (by decide : (0 : Int32).toInt = 0) c_10
      obtain ⟨x_12, ex_12⟩ : ∃ y : Int32, y = L_1 + 1 := ⟨_, rfl⟩
      have fx_12 : x_12.toInt = L_1.toInt + 1 := by rw [ex_12]; exact I_add rfl (by decide) (by omega) (by omega)
      refine lv_iinc (v := x_12) (lv' := [(3, .int x_12), (2, .int L_2), (0, .ref h), (1, .int p0)]) hx hb dX6_priceOf_29 hl (k := 0) rfl (by rw [ex_12]; rfl) (by decide) rfl (fun ls hl => ?_)
      refine lv_goto (tgt := 4) hx hb dX6_priceOf_32 (by decide) ?_
      exact ih (n - 1) (by omega) H locs ls ⟨x_12, L_2, (by first | with_reducible assumption | omega), by omega, hP.sub [0, 1] rfl, hS, lv_sub hl [0, 1, 2, 3] rfl⟩
    · have f_13 := E_ne (rfl : x_9.toInt = _) (by decide : (0 : Int32).toInt = 0) c_10
      refine lv_iload_n hx hb dX6_priceOf_20 rfl (lv_at hl 1 rfl) ?_
      refine lv_aload_n hx hb dX6_priceOf_21 rfl (lv_at hl 2 rfl) ?_
      refine va_get (D := g.1) (ci := 6) (v := .ref brents) (C := RX6) (T := TX6) (N := 8) hx hb hT inF_X6 hown hK.1 hP 0 rfl rfl 6 (by decide) (hT _ bw_11) (fun _ h9 => h9) rfl dX6_priceOf_22 ?_
      refine lv_iload_n hx hb dX6_priceOf_25 rfl (lv_at hl 0 rfl) ?_
      have h_14 : vp_in L_1 8 := vp_in_iff.mpr (by omega)
      refine va_iald hx hb hK.1 hP 1 1 rfl rfl (i := L_1) h_14 dX6_priceOf_26 ?_
      refine lv_topi (fun x_15 ex_15 => ?_)
      have ux_15 := congrArg Int32.toInt ex_15
      refine lv_iadd hx hb dX6_priceOf_27 ?_
      refine lv_topi (fun x_16 ex_16 => ?_)
      refine lv_istore_n (lv' := [(2, .int x_16), (3, .int L_1), (0, .ref h), (1, .int p0)]) hx hb dX6_priceOf_28 rfl hl (by decide) rfl (fun ls hl => ?_)
      obtain ⟨x_17, ex_17⟩ : ∃ y : Int32, y = L_1 + 1 := ⟨_, rfl⟩
      have fx_17 : x_17.toInt = L_1.toInt + 1 := by rw [ex_17]; exact I_add rfl (by decide) (by omega) (by omega)
      refine lv_iinc (v := x_17) (lv' := [(3, .int x_17), (2, .int x_16), (0, .ref h), (1, .int p0)]) hx hb dX6_priceOf_29 hl (k := 1) rfl (by rw [ex_17]; rfl) (by decide) rfl (fun ls hl => ?_)
      refine lv_goto (tgt := 4) hx hb dX6_priceOf_32 (by decide) ?_
      exact ih (n - 1) (by omega) H locs ls ⟨x_17, x_16, (by first | with_reducible assumption | omega), by omega, hP.sub [0, 1] rfl, hS, lv_sub hl [0, 1, 2, 3] rfl⟩

set_option maxRecDepth 20000 in
theorem inF_X8 : ∀ w ∈ u_ws RX8 TX8 6, w ∈ gT := gT_u [394, 396, 398, 400, 402, 404] (by decide +kernel) (by decide +kernel)
theorem bw_13 : Cond.fieldLink RX8 24 "DuelDelays$Sights" "count" "I" ∈ gT := gT_tb 388 (by decide +kernel) (by decide +kernel)
theorem bw_14 : Cond.code yX8_clear cX8_clear 1 none ∈ gT := gT_tb 830 (by decide +kernel) (by decide +kernel)
theorem dX8_clear_0 : decode cX8_clear 0 = .ok (.aload_n 0, 1) := by decide +kernel
theorem dX8_clear_1 : decode cX8_clear 1 = .ok (.iconst 0, 1) := by decide +kernel
theorem dX8_clear_2 : decode cX8_clear 2 = .ok (.putfield 24, 3) := by decide +kernel
theorem dX8_clear_5 : decode cX8_clear 5 = .ok (.return_, 1) := by decide +kernel
set_option maxHeartbeats 4000000 in
set_option maxRecDepth 100000 in
theorem s_X8_clear (l : Launch) (g : GG) (sz : Nat) (h : Nat) (btime : Int32) (bcount : Int32) (breasons : Nat) (bdays : Nat) (btoldAt : Nat) (buntoldAt : Nat) (hh0 : 0 ≤ btime.toInt ∧ btime.toInt ≤ 100000) (hh1 : 0 ≤ bcount.toInt ∧ bcount.toInt ≤ 30) : Met l yX8_clear (.code yX8_clear cX8_clear 1 none :: gT) ({ frames := 0, cells := 0, slots := 0, locals := 0 }) (va_Pc [.ref h] (Pst g sz [(h, .inr (8, [.int btime, .int bcount, .ref breasons, .ref bdays, .ref btoldAt, .ref buntoldAt]))] nX)) (va_Qv (fun (_ : Unit) => True) (Qst g [(h, .inr (8, [.int btime, .int bcount, .ref breasons, .ref bdays, .ref btoldAt, .ref buntoldAt]))] sz (fun (_ : Unit) => [(h, .inr (8, [.int btime, .int 0, .ref breasons, .ref bdays, .ref btoldAt, .ref buntoldAt]))])) (va_A [(h, .inr (8, [.int btime, .int bcount, .ref breasons, .ref bdays, .ref btoldAt, .ref buntoldAt]))] sz)) 0 0 (va_A [(h, .inr (8, [.int btime, .int bcount, .ref breasons, .ref bdays, .ref btoldAt, .ref buntoldAt]))] sz) := by
  refine Met.ofW (cc := cX8_clear) (maxL := 1) (ret := none) (by decide) rfl ?_
  intro p e s m args below meth c s₁ B hml hv
  obtain ⟨rfl, hsz, hP, hK, hD0, hX⟩ := hv
  have hx := B.exec
  have hb := B.bytes
  have hr := B.returns
  have hT : ∀ w ∈ gT, w.before _ s = true := fun w h => atoms_spec (ws := .code yX8_clear cX8_clear 1 none :: gT) B.pre w (List.mem_cons_of_mem _ h)
  have hown : s.vm.findClass RX8 = some m.cls := findClass_of_methodNamed B.named
  have hlocks := B.notSynchronized
  subst hsz
  have hD := hD0.self (sz := s.heap.size)
  generalize hAe : va_A [(h, .inr (8, [.int btime, .int bcount, .ref breasons, .ref bdays, .ref btoldAt, .ref buntoldAt]))] s.heap.size = A at hD ⊢
  have hA : ∀ q : Nat, s.heap.size ≤ q → A q := fun q h => by rw [← hAe]; exact Or.inr h
  have hS : va_S A s.heap s.heap [] := va_S.rf
  have hl := lv_entry ([.ref h]) (n := 1) (Nat.le_of_ble_eq_true rfl)
  rw [lg_entry_eq]
  generalize (lg_sl ([.ref h]) ++ List.replicate (1 - (lg_sl ([.ref h])).length) Slot.unset).toArray = ls at hl ⊢
  have hl : lv_has ls 1 [(0, .ref h)] := hl
  refine p_nH (fun H hH => ?_)
  have hP : va_P g.1 vwCl [(h, .inr (8, [.int btime, .int bcount, .ref breasons, .ref bdays, .ref btoldAt, .ref buntoldAt]))] H := by rw [hH]; exact hP
  have hS : va_S A s.heap H [] := by rw [hH]; exact hS
  refine lv_aload_n hx hb dX8_clear_0 rfl (lv_at hl 0 rfl) ?_
  refine lv_iconst (v := 0) hx hb dX8_clear_1 (by decide) ?_
  refine va_put (D := g.1) (ci := 8) (v := .int 0) (ty := .int) (C := RX8) (T := TX8) (N := 6) hx hb hT inF_X8 tyX8 tyX8_ok nmX8 hown hK.1 hP hD hS 0 rfl rfl 1 (by decide) (hT _ bw_13) (fun _ h9 => h9) rfl (by decide +kernel) rfl rfl (Nat.le_of_ble_eq_true rfl) dX8_clear_2 (fun H locs hP hD hS => ?_)
  have hP : va_P g.1 vwCl [(h, .inr (8, [.int btime, .int 0, .ref breasons, .ref bdays, .ref btoldAt, .ref buntoldAt]))] H := hP
  have hD : va_D A [(h, .inr (8, [.int btime, .int 0, .ref breasons, .ref bdays, .ref btoldAt, .ref buntoldAt]))] := hD
  have hP9 : va_P g.1 vwCl [(h, .inr (8, [.int btime, .int 0, .ref breasons, .ref bdays, .ref btoldAt, .ref buntoldAt]))] H := hP.sub [0] rfl
  have hD9 : va_D A [(h, .inr (8, [.int btime, .int 0, .ref breasons, .ref bdays, .ref btoldAt, .ref buntoldAt]))] := hD.sub [0] (by decide +kernel) rfl
  exact W.vret hx hb hr (fun t ht hW => ⟨⟨(), rfl, trivial, by rw [ht]; exact hP9, by rw [hAe]; exact hD9⟩, hS.F ht⟩) hS.2.2 dX8_clear_5

theorem bw_15 : Cond.fieldLink RX8 9 "DuelDelays$Sights" "reasons" "[I" ∈ gT := gT_tb 390 (by decide +kernel) (by decide +kernel)
theorem bw_16 : Cond.fieldLink RX8 15 "DuelDelays$Sights" "days" "[I" ∈ gT := gT_tb 391 (by decide +kernel) (by decide +kernel)
theorem bw_17 : Cond.fieldLink RX8 18 "DuelDelays$Sights" "toldAt" "[I" ∈ gT := gT_tb 392 (by decide +kernel) (by decide +kernel)
theorem bw_18 : Cond.fieldLink RX8 28 "DuelDelays$Sights" "time" "I" ∈ gT := gT_tb 386 (by decide +kernel) (by decide +kernel)
theorem bw_19 : Cond.fieldLink RX8 21 "DuelDelays$Sights" "untoldAt" "[I" ∈ gT := gT_tb 393 (by decide +kernel) (by decide +kernel)
theorem bw_20 : Cond.code yX8_tell cX8_tell 3 (some .int) ∈ gT := gT_tb 1253 (by decide +kernel) (by decide +kernel)
theorem dX8_tell_0 : decode cX8_tell 0 = .ok (.aload_n 0, 1) := by decide +kernel
theorem dX8_tell_1 : decode cX8_tell 1 = .ok (.getfield 24, 3) := by decide +kernel
theorem dX8_tell_4 : decode cX8_tell 4 = .ok (.bipush 30, 2) := by decide +kernel
theorem dX8_tell_6 : decode cX8_tell 6 = .ok (.if_icmp .lt 5, 3) := by decide +kernel
theorem dX8_tell_9 : decode cX8_tell 9 = .ok (.iconst (-1), 1) := by decide +kernel
theorem dX8_tell_10 : decode cX8_tell 10 = .ok (.ireturn, 1) := by decide +kernel
theorem dX8_tell_11 : decode cX8_tell 11 = .ok (.aload_n 0, 1) := by decide +kernel
theorem dX8_tell_12 : decode cX8_tell 12 = .ok (.getfield 9, 3) := by decide +kernel
theorem dX8_tell_15 : decode cX8_tell 15 = .ok (.aload_n 0, 1) := by decide +kernel
theorem dX8_tell_16 : decode cX8_tell 16 = .ok (.getfield 24, 3) := by decide +kernel
theorem dX8_tell_19 : decode cX8_tell 19 = .ok (.iload_n 1, 1) := by decide +kernel
theorem dX8_tell_20 : decode cX8_tell 20 = .ok (.iastore, 1) := by decide +kernel
theorem dX8_tell_21 : decode cX8_tell 21 = .ok (.aload_n 0, 1) := by decide +kernel
theorem dX8_tell_22 : decode cX8_tell 22 = .ok (.getfield 15, 3) := by decide +kernel
theorem dX8_tell_25 : decode cX8_tell 25 = .ok (.aload_n 0, 1) := by decide +kernel
theorem dX8_tell_26 : decode cX8_tell 26 = .ok (.getfield 24, 3) := by decide +kernel
theorem dX8_tell_29 : decode cX8_tell 29 = .ok (.iload_n 2, 1) := by decide +kernel
theorem dX8_tell_30 : decode cX8_tell 30 = .ok (.iastore, 1) := by decide +kernel
theorem dX8_tell_31 : decode cX8_tell 31 = .ok (.aload_n 0, 1) := by decide +kernel
theorem dX8_tell_32 : decode cX8_tell 32 = .ok (.getfield 18, 3) := by decide +kernel
theorem dX8_tell_35 : decode cX8_tell 35 = .ok (.aload_n 0, 1) := by decide +kernel
theorem dX8_tell_36 : decode cX8_tell 36 = .ok (.getfield 24, 3) := by decide +kernel
theorem dX8_tell_39 : decode cX8_tell 39 = .ok (.aload_n 0, 1) := by decide +kernel
theorem dX8_tell_40 : decode cX8_tell 40 = .ok (.getfield 28, 3) := by decide +kernel
theorem dX8_tell_43 : decode cX8_tell 43 = .ok (.iastore, 1) := by decide +kernel
theorem dX8_tell_44 : decode cX8_tell 44 = .ok (.aload_n 0, 1) := by decide +kernel
theorem dX8_tell_45 : decode cX8_tell 45 = .ok (.getfield 21, 3) := by decide +kernel
theorem dX8_tell_48 : decode cX8_tell 48 = .ok (.aload_n 0, 1) := by decide +kernel
theorem dX8_tell_49 : decode cX8_tell 49 = .ok (.getfield 24, 3) := by decide +kernel
theorem dX8_tell_52 : decode cX8_tell 52 = .ok (.iconst (-1), 1) := by decide +kernel
theorem dX8_tell_53 : decode cX8_tell 53 = .ok (.iastore, 1) := by decide +kernel
theorem dX8_tell_54 : decode cX8_tell 54 = .ok (.aload_n 0, 1) := by decide +kernel
theorem dX8_tell_55 : decode cX8_tell 55 = .ok (.dup, 1) := by decide +kernel
theorem dX8_tell_56 : decode cX8_tell 56 = .ok (.getfield 24, 3) := by decide +kernel
theorem dX8_tell_59 : decode cX8_tell 59 = .ok (.iconst 1, 1) := by decide +kernel
theorem dX8_tell_60 : decode cX8_tell 60 = .ok (.iadd, 1) := by decide +kernel
theorem dX8_tell_61 : decode cX8_tell 61 = .ok (.putfield 24, 3) := by decide +kernel
theorem dX8_tell_64 : decode cX8_tell 64 = .ok (.aload_n 0, 1) := by decide +kernel
theorem dX8_tell_65 : decode cX8_tell 65 = .ok (.getfield 24, 3) := by decide +kernel
theorem dX8_tell_68 : decode cX8_tell 68 = .ok (.iconst 1, 1) := by decide +kernel
theorem dX8_tell_69 : decode cX8_tell 69 = .ok (.isub, 1) := by decide +kernel
theorem dX8_tell_70 : decode cX8_tell 70 = .ok (.ireturn, 1) := by decide +kernel
set_option maxHeartbeats 4000000 in
set_option maxRecDepth 100000 in
theorem s_X8_tell (l : Launch) (g : GG) (sz : Nat) (h : Nat) (btime : Int32) (bcount : Int32) (breasons : Nat) (Fbreasons : Nat → Int32) (bdays : Nat) (Fbdays : Nat → Int32) (btoldAt : Nat) (FbtoldAt : Nat → Int32) (buntoldAt : Nat) (FbuntoldAt : Nat → Int32) (p0 : Int32) (p1 : Int32) (hh0 : 0 ≤ btime.toInt ∧ btime.toInt ≤ 100000) (hh1 : 0 ≤ bcount.toInt ∧ bcount.toInt ≤ 30) : Met l yX8_tell (.code yX8_tell cX8_tell 3 (some .int) :: gT) ({ frames := 0, cells := 0, slots := 0, locals := 0 }) (va_Pc [.ref h, .int p0, .int p1] (Pst g sz [(h, .inr (8, [.int btime, .int bcount, .ref breasons, .ref bdays, .ref btoldAt, .ref buntoldAt])), (breasons, aI g 30 Fbreasons), (bdays, aI g 30 Fbdays), (btoldAt, aI g 30 FbtoldAt), (buntoldAt, aI g 30 FbuntoldAt)] nX)) (va_Qi (fun (r : Int32) => fun ((o0_count, o1_F, o2_F, o3_F, o4_F) : Int32 × (Nat → Int32) × (Nat → Int32) × (Nat → Int32) × (Nat → Int32)) => ((-1) ≤ r.toInt ∧ r.toInt ≤ 29) ∧ (0 ≤ o0_count.toInt ∧ o0_count.toInt ≤ 30)) (Qst g [(h, .inr (8, [.int btime, .int bcount, .ref breasons, .ref bdays, .ref btoldAt, .ref buntoldAt])), (breasons, aI g 30 Fbreasons), (bdays, aI g 30 Fbdays), (btoldAt, aI g 30 FbtoldAt), (buntoldAt, aI g 30 FbuntoldAt)] sz (fun ((o0_count, o1_F, o2_F, o3_F, o4_F) : Int32 × (Nat → Int32) × (Nat → Int32) × (Nat → Int32) × (Nat → Int32)) => [(h, .inr (8, [.int btime, .int o0_count, .ref breasons, .ref bdays, .ref btoldAt, .ref buntoldAt])), (breasons, aI g 30 o1_F), (bdays, aI g 30 o2_F), (btoldAt, aI g 30 o3_F), (buntoldAt, aI g 30 o4_F)])) (va_A [(h, .inr (8, [.int btime, .int bcount, .ref breasons, .ref bdays, .ref btoldAt, .ref buntoldAt])), (breasons, aI g 30 Fbreasons), (bdays, aI g 30 Fbdays), (btoldAt, aI g 30 FbtoldAt), (buntoldAt, aI g 30 FbuntoldAt)] sz)) 0 0 (va_A [(h, .inr (8, [.int btime, .int bcount, .ref breasons, .ref bdays, .ref btoldAt, .ref buntoldAt])), (breasons, aI g 30 Fbreasons), (bdays, aI g 30 Fbdays), (btoldAt, aI g 30 FbtoldAt), (buntoldAt, aI g 30 FbuntoldAt)] sz) := by
  refine Met.ofW (cc := cX8_tell) (maxL := 3) (ret := (some .int)) (by decide) rfl ?_
  intro p e s m args below meth c s₁ B hml hv
  obtain ⟨rfl, hsz, hP, hK, hD0, hX⟩ := hv
  have hx := B.exec
  have hb := B.bytes
  have hr := B.returns
  have hT : ∀ w ∈ gT, w.before _ s = true := fun w h => atoms_spec (ws := .code yX8_tell cX8_tell 3 (some .int) :: gT) B.pre w (List.mem_cons_of_mem _ h)
  have hown : s.vm.findClass RX8 = some m.cls := findClass_of_methodNamed B.named
  have hlocks := B.notSynchronized
  subst hsz
  have hD := hD0.self (sz := s.heap.size)
  generalize hAe : va_A [(h, .inr (8, [.int btime, .int bcount, .ref breasons, .ref bdays, .ref btoldAt, .ref buntoldAt])), (breasons, aI g 30 Fbreasons), (bdays, aI g 30 Fbdays), (btoldAt, aI g 30 FbtoldAt), (buntoldAt, aI g 30 FbuntoldAt)] s.heap.size = A at hD ⊢
  have hA : ∀ q : Nat, s.heap.size ≤ q → A q := fun q h => by rw [← hAe]; exact Or.inr h
  have hS : va_S A s.heap s.heap [] := va_S.rf
  have hl := lv_entry ([.ref h, .int p0, .int p1]) (n := 3) (Nat.le_of_ble_eq_true rfl)
  rw [lg_entry_eq]
  generalize (lg_sl ([.ref h, .int p0, .int p1]) ++ List.replicate (3 - (lg_sl ([.ref h, .int p0, .int p1])).length) Slot.unset).toArray = ls at hl ⊢
  have hl : lv_has ls 3 [(0, .ref h), (1, .int p0), (2, .int p1)] := hl
  refine p_nH (fun H hH => ?_)
  have hP : va_P g.1 vwCl [(h, .inr (8, [.int btime, .int bcount, .ref breasons, .ref bdays, .ref btoldAt, .ref buntoldAt])), (breasons, aI g 30 Fbreasons), (bdays, aI g 30 Fbdays), (btoldAt, aI g 30 FbtoldAt), (buntoldAt, aI g 30 FbuntoldAt)] H := by rw [hH]; exact hP
  have hS : va_S A s.heap H [] := by rw [hH]; exact hS
  refine lv_aload_n hx hb dX8_tell_0 rfl (lv_at hl 0 rfl) ?_
  refine va_get (D := g.1) (ci := 8) (v := .int bcount) (C := RX8) (T := TX8) (N := 6) hx hb hT inF_X8 hown hK.1 hP 0 rfl rfl 1 (by decide) (hT _ bw_13) (fun _ h9 => h9) rfl dX8_tell_1 ?_
  refine lv_bipush (v := 30) hx hb dX8_tell_4 (by decide) ?_
  refine lv_icmp_lt (tgt := 11) hx hb dX8_tell_6 (by decide) (fun c_1 => ?_) (fun c_1 => ?_)
  · have f_2 := E_lt (rfl : bcount.toInt = _) (by decide : (30 : Int32).toInt = 30) c_1
    refine lv_aload_n hx hb dX8_tell_11 rfl (lv_at hl 0 rfl) ?_
    refine va_get (D := g.1) (ci := 8) (v := .ref breasons) (C := RX8) (T := TX8) (N := 6) hx hb hT inF_X8 hown hK.1 hP 0 rfl rfl 2 (by decide) (hT _ bw_15) (fun _ h9 => h9) rfl dX8_tell_12 ?_
    refine lv_aload_n hx hb dX8_tell_15 rfl (lv_at hl 0 rfl) ?_
    refine va_get (D := g.1) (ci := 8) (v := .int bcount) (C := RX8) (T := TX8) (N := 6) hx hb hT inF_X8 hown hK.1 hP 0 rfl rfl 1 (by decide) (hT _ bw_13) (fun _ h9 => h9) rfl dX8_tell_16 ?_
    refine lv_iload_n hx hb dX8_tell_19 rfl (lv_at hl 1 rfl) ?_
    have h_3 : vp_in bcount 30 := vp_in_iff.mpr (by omega)
    refine va_iast hx hb hK.1 hP hD hS 1 1 rfl rfl (i := bcount) (x := p0) h_3 dX8_tell_20 (fun H locs hP hD hS => ?_)
    generalize upd Fbreasons (bcount : Int32).toNatClampNeg p0 = f_4 at hP hD
    have hP : va_P g.1 vwCl [(h, .inr (8, [.int btime, .int bcount, .ref breasons, .ref bdays, .ref btoldAt, .ref buntoldAt])), (breasons, aI g 30 f_4), (bdays, aI g 30 Fbdays), (btoldAt, aI g 30 FbtoldAt), (buntoldAt, aI g 30 FbuntoldAt)] H := hP
    have hD : va_D A [(h, .inr (8, [.int btime, .int bcount, .ref breasons, .ref bdays, .ref btoldAt, .ref buntoldAt])), (breasons, aI g 30 f_4), (bdays, aI g 30 Fbdays), (btoldAt, aI g 30 FbtoldAt), (buntoldAt, aI g 30 FbuntoldAt)] := hD
    refine lv_aload_n hx hb dX8_tell_21 rfl (lv_at hl 0 rfl) ?_
    refine va_get (D := g.1) (ci := 8) (v := .ref bdays) (C := RX8) (T := TX8) (N := 6) hx hb hT inF_X8 hown hK.1 hP 0 rfl rfl 3 (by decide) (hT _ bw_16) (fun _ h9 => h9) rfl dX8_tell_22 ?_
    refine lv_aload_n hx hb dX8_tell_25 rfl (lv_at hl 0 rfl) ?_
    refine va_get (D := g.1) (ci := 8) (v := .int bcount) (C := RX8) (T := TX8) (N := 6) hx hb hT inF_X8 hown hK.1 hP 0 rfl rfl 1 (by decide) (hT _ bw_13) (fun _ h9 => h9) rfl dX8_tell_26 ?_
    refine lv_iload_n hx hb dX8_tell_29 rfl (lv_at hl 2 rfl) ?_
    have h_5 : vp_in bcount 30 := vp_in_iff.mpr (by omega)
    refine va_iast hx hb hK.1 hP hD hS 2 1 rfl rfl (i := bcount) (x := p1) h_5 dX8_tell_30 (fun H locs hP hD hS => ?_)
    generalize upd Fbdays (bcount : Int32).toNatClampNeg p1 = f_6 at hP hD
    have hP : va_P g.1 vwCl [(h, .inr (8, [.int btime, .int bcount, .ref breasons, .ref bdays, .ref btoldAt, .ref buntoldAt])), (breasons, aI g 30 f_4), (bdays, aI g 30 f_6), (btoldAt, aI g 30 FbtoldAt), (buntoldAt, aI g 30 FbuntoldAt)] H := hP
    have hD : va_D A [(h, .inr (8, [.int btime, .int bcount, .ref breasons, .ref bdays, .ref btoldAt, .ref buntoldAt])), (breasons, aI g 30 f_4), (bdays, aI g 30 f_6), (btoldAt, aI g 30 FbtoldAt), (buntoldAt, aI g 30 FbuntoldAt)] := hD
    refine lv_aload_n hx hb dX8_tell_31 rfl (lv_at hl 0 rfl) ?_
    refine va_get (D := g.1) (ci := 8) (v := .ref btoldAt) (C := RX8) (T := TX8) (N := 6) hx hb hT inF_X8 hown hK.1 hP 0 rfl rfl 4 (by decide) (hT _ bw_17) (fun _ h9 => h9) rfl dX8_tell_32 ?_
    refine lv_aload_n hx hb dX8_tell_35 rfl (lv_at hl 0 rfl) ?_
    refine va_get (D := g.1) (ci := 8) (v := .int bcount) (C := RX8) (T := TX8) (N := 6) hx hb hT inF_X8 hown hK.1 hP 0 rfl rfl 1 (by decide) (hT _ bw_13) (fun _ h9 => h9) rfl dX8_tell_36 ?_
    refine lv_aload_n hx hb dX8_tell_39 rfl (lv_at hl 0 rfl) ?_
    refine va_get (D := g.1) (ci := 8) (v := .int btime) (C := RX8) (T := TX8) (N := 6) hx hb hT inF_X8 hown hK.1 hP 0 rfl rfl 0 (by decide) (hT _ bw_18) (fun _ h9 => h9) rfl dX8_tell_40 ?_
    have h_7 : vp_in bcount 30 := vp_in_iff.mpr (by omega)
    refine va_iast hx hb hK.1 hP hD hS 3 1 rfl rfl (i := bcount) (x := btime) h_7 dX8_tell_43 (fun H locs hP hD hS => ?_)
    generalize upd FbtoldAt (bcount : Int32).toNatClampNeg btime = f_8 at hP hD
    have hP : va_P g.1 vwCl [(h, .inr (8, [.int btime, .int bcount, .ref breasons, .ref bdays, .ref btoldAt, .ref buntoldAt])), (breasons, aI g 30 f_4), (bdays, aI g 30 f_6), (btoldAt, aI g 30 f_8), (buntoldAt, aI g 30 FbuntoldAt)] H := hP
    have hD : va_D A [(h, .inr (8, [.int btime, .int bcount, .ref breasons, .ref bdays, .ref btoldAt, .ref buntoldAt])), (breasons, aI g 30 f_4), (bdays, aI g 30 f_6), (btoldAt, aI g 30 f_8), (buntoldAt, aI g 30 FbuntoldAt)] := hD
    refine lv_aload_n hx hb dX8_tell_44 rfl (lv_at hl 0 rfl) ?_
    refine va_get (D := g.1) (ci := 8) (v := .ref buntoldAt) (C := RX8) (T := TX8) (N := 6) hx hb hT inF_X8 hown hK.1 hP 0 rfl rfl 5 (by decide) (hT _ bw_19) (fun _ h9 => h9) rfl dX8_tell_45 ?_
    refine lv_aload_n hx hb dX8_tell_48 rfl (lv_at hl 0 rfl) ?_
    refine va_get (D := g.1) (ci := 8) (v := .int bcount) (C := RX8) (T := TX8) (N := 6) hx hb hT inF_X8 hown hK.1 hP 0 rfl rfl 1 (by decide) (hT _ bw_13) (fun _ h9 => h9) rfl dX8_tell_49 ?_
    refine lv_iconst (v := (-1)) hx hb dX8_tell_52 (by decide) ?_
    have h_9 : vp_in bcount 30 := vp_in_iff.mpr (by omega)
    refine va_iast hx hb hK.1 hP hD hS 4 1 rfl rfl (i := bcount) (x := (-1)) h_9 dX8_tell_53 (fun H locs hP hD hS => ?_)
    generalize upd FbuntoldAt (bcount : Int32).toNatClampNeg (-1) = f_10 at hP hD
    have hP : va_P g.1 vwCl [(h, .inr (8, [.int btime, .int bcount, .ref breasons, .ref bdays, .ref btoldAt, .ref buntoldAt])), (breasons, aI g 30 f_4), (bdays, aI g 30 f_6), (btoldAt, aI g 30 f_8), (buntoldAt, aI g 30 f_10)] H := hP
    have hD : va_D A [(h, .inr (8, [.int btime, .int bcount, .ref breasons, .ref bdays, .ref btoldAt, .ref buntoldAt])), (breasons, aI g 30 f_4), (bdays, aI g 30 f_6), (btoldAt, aI g 30 f_8), (buntoldAt, aI g 30 f_10)] := hD
    refine lv_aload_n hx hb dX8_tell_54 rfl (lv_at hl 0 rfl) ?_
    refine lv_dup hx hb dX8_tell_55 rfl ?_
    refine va_get (D := g.1) (ci := 8) (v := .int bcount) (C := RX8) (T := TX8) (N := 6) hx hb hT inF_X8 hown hK.1 hP 0 rfl rfl 1 (by decide) (hT _ bw_13) (fun _ h9 => h9) rfl dX8_tell_56 ?_
    refine lv_iconst (v := 1) hx hb dX8_tell_59 (by decide) ?_
    refine lv_iadd hx hb dX8_tell_60 ?_
    refine lv_topi (fun x_11 ex_11 => ?_)
    have fx_11 : x_11.toInt = bcount.toInt + 1 := by rw [ex_11]; exact I_add rfl (by decide : (1 : Int32).toInt = 1) (by omega) (by omega)
    refine va_put (D := g.1) (ci := 8) (v := .int x_11) (ty := .int) (C := RX8) (T := TX8) (N := 6) hx hb hT inF_X8 tyX8 tyX8_ok nmX8 hown hK.1 hP hD hS 0 rfl rfl 1 (by decide) (hT _ bw_13) (fun _ h9 => h9) rfl (by decide +kernel) rfl rfl (Nat.le_of_ble_eq_true rfl) dX8_tell_61 (fun H locs hP hD hS => ?_)
    have hP : va_P g.1 vwCl [(h, .inr (8, [.int btime, .int x_11, .ref breasons, .ref bdays, .ref btoldAt, .ref buntoldAt])), (breasons, aI g 30 f_4), (bdays, aI g 30 f_6), (btoldAt, aI g 30 f_8), (buntoldAt, aI g 30 f_10)] H := hP
    have hD : va_D A [(h, .inr (8, [.int btime, .int x_11, .ref breasons, .ref bdays, .ref btoldAt, .ref buntoldAt])), (breasons, aI g 30 f_4), (bdays, aI g 30 f_6), (btoldAt, aI g 30 f_8), (buntoldAt, aI g 30 f_10)] := hD
    refine lv_aload_n hx hb dX8_tell_64 rfl (lv_at hl 0 rfl) ?_
    refine va_get (D := g.1) (ci := 8) (v := .int x_11) (C := RX8) (T := TX8) (N := 6) hx hb hT inF_X8 hown hK.1 hP 0 rfl rfl 1 (by decide) (hT _ bw_13) (fun _ h9 => h9) rfl dX8_tell_65 ?_
    refine lv_iconst (v := 1) hx hb dX8_tell_68 (by decide) ?_
    refine lv_isub hx hb dX8_tell_69 ?_
    refine lv_topi (fun x_12 ex_12 => ?_)
    have fx_12 : x_12.toInt = x_11.toInt - 1 := by rw [ex_12]; exact I_sub rfl (by decide : (1 : Int32).toInt = 1) (by omega) (by omega)
    have hP9 : va_P g.1 vwCl [(h, .inr (8, [.int btime, .int x_11, .ref breasons, .ref bdays, .ref btoldAt, .ref buntoldAt])), (breasons, aI g 30 f_4), (bdays, aI g 30 f_6), (btoldAt, aI g 30 f_8), (buntoldAt, aI g 30 f_10)] H := hP.sub [0, 1, 2, 3, 4] rfl
    have hD9 : va_D A [(h, .inr (8, [.int btime, .int x_11, .ref breasons, .ref bdays, .ref btoldAt, .ref buntoldAt])), (breasons, aI g 30 f_4), (bdays, aI g 30 f_6), (btoldAt, aI g 30 f_8), (buntoldAt, aI g 30 f_10)] := hD.sub [0, 1, 2, 3, 4] (by decide +kernel) rfl
    exact W.iret (v := x_12) hx hb hr (fun t ht hW => ⟨⟨x_12, (x_11, f_4, f_6, f_8, f_10), rfl, ⟨(by first | with_reducible assumption | omega), (by first | with_reducible assumption | omega)⟩, by rw [ht]; exact hP9, by rw [hAe]; exact hD9⟩, hS.F ht⟩) hS.2.2 dX8_tell_70
  · have f_13 := E_nlt (rfl : bcount.toInt = _) (by decide : (30 : Int32).toInt = 30) c_1
    refine lv_iconst (v := (-1)) hx hb dX8_tell_9 (by decide) ?_
    have hP9 : va_P g.1 vwCl [(h, .inr (8, [.int btime, .int bcount, .ref breasons, .ref bdays, .ref btoldAt, .ref buntoldAt])), (breasons, aI g 30 Fbreasons), (bdays, aI g 30 Fbdays), (btoldAt, aI g 30 FbtoldAt), (buntoldAt, aI g 30 FbuntoldAt)] H := hP.sub [0, 1, 2, 3, 4] rfl
    have hD9 : va_D A [(h, .inr (8, [.int btime, .int bcount, .ref breasons, .ref bdays, .ref btoldAt, .ref buntoldAt])), (breasons, aI g 30 Fbreasons), (bdays, aI g 30 Fbdays), (btoldAt, aI g 30 FbtoldAt), (buntoldAt, aI g 30 FbuntoldAt)] := hD.sub [0, 1, 2, 3, 4] (by decide +kernel) rfl
    exact W.iret (v := (-1)) hx hb hr (fun t ht hW => ⟨⟨(-1), (bcount, Fbreasons, Fbdays, FbtoldAt, FbuntoldAt), rfl, ⟨⟨by decide, by decide⟩, (by first | with_reducible assumption | omega)⟩, by rw [ht]; exact hP9, by rw [hAe]; exact hD9⟩, hS.F ht⟩) hS.2.2 dX8_tell_10

theorem bw_21 : Cond.code yX8_takeBack cX8_takeBack 2 (some .boolean) ∈ gT := gT_tb 1261 (by decide +kernel) (by decide +kernel)
theorem dX8_takeBack_0 : decode cX8_takeBack 0 = .ok (.iload_n 1, 1) := by decide +kernel
theorem dX8_takeBack_1 : decode cX8_takeBack 1 = .ok (.ifCond .lt 21, 3) := by decide +kernel
theorem dX8_takeBack_4 : decode cX8_takeBack 4 = .ok (.iload_n 1, 1) := by decide +kernel
theorem dX8_takeBack_5 : decode cX8_takeBack 5 = .ok (.aload_n 0, 1) := by decide +kernel
theorem dX8_takeBack_6 : decode cX8_takeBack 6 = .ok (.getfield 24, 3) := by decide +kernel
theorem dX8_takeBack_9 : decode cX8_takeBack 9 = .ok (.if_icmp .ge 13, 3) := by decide +kernel
theorem dX8_takeBack_12 : decode cX8_takeBack 12 = .ok (.aload_n 0, 1) := by decide +kernel
theorem dX8_takeBack_13 : decode cX8_takeBack 13 = .ok (.getfield 21, 3) := by decide +kernel
theorem dX8_takeBack_16 : decode cX8_takeBack 16 = .ok (.iload_n 1, 1) := by decide +kernel
theorem dX8_takeBack_17 : decode cX8_takeBack 17 = .ok (.iaload, 1) := by decide +kernel
theorem dX8_takeBack_18 : decode cX8_takeBack 18 = .ok (.iconst (-1), 1) := by decide +kernel
theorem dX8_takeBack_19 : decode cX8_takeBack 19 = .ok (.if_icmp .eq 5, 3) := by decide +kernel
theorem dX8_takeBack_22 : decode cX8_takeBack 22 = .ok (.iconst 0, 1) := by decide +kernel
theorem dX8_takeBack_23 : decode cX8_takeBack 23 = .ok (.ireturn, 1) := by decide +kernel
theorem dX8_takeBack_24 : decode cX8_takeBack 24 = .ok (.aload_n 0, 1) := by decide +kernel
theorem dX8_takeBack_25 : decode cX8_takeBack 25 = .ok (.getfield 21, 3) := by decide +kernel
theorem dX8_takeBack_28 : decode cX8_takeBack 28 = .ok (.iload_n 1, 1) := by decide +kernel
theorem dX8_takeBack_29 : decode cX8_takeBack 29 = .ok (.aload_n 0, 1) := by decide +kernel
theorem dX8_takeBack_30 : decode cX8_takeBack 30 = .ok (.getfield 28, 3) := by decide +kernel
theorem dX8_takeBack_33 : decode cX8_takeBack 33 = .ok (.iastore, 1) := by decide +kernel
theorem dX8_takeBack_34 : decode cX8_takeBack 34 = .ok (.iconst 1, 1) := by decide +kernel
theorem dX8_takeBack_35 : decode cX8_takeBack 35 = .ok (.ireturn, 1) := by decide +kernel
set_option maxHeartbeats 4000000 in
set_option maxRecDepth 100000 in
theorem s_X8_takeBack (l : Launch) (g : GG) (sz : Nat) (h : Nat) (btime : Int32) (bcount : Int32) (breasons : Nat) (bdays : Nat) (btoldAt : Nat) (buntoldAt : Nat) (FbuntoldAt : Nat → Int32) (p0 : Int32) (hh0 : 0 ≤ btime.toInt ∧ btime.toInt ≤ 100000) (hh1 : 0 ≤ bcount.toInt ∧ bcount.toInt ≤ 30) : Met l yX8_takeBack (.code yX8_takeBack cX8_takeBack 2 (some .boolean) :: gT) ({ frames := 0, cells := 0, slots := 0, locals := 0 }) (va_Pc [.ref h, .int p0] (Pst g sz [(h, .inr (8, [.int btime, .int bcount, .ref breasons, .ref bdays, .ref btoldAt, .ref buntoldAt])), (buntoldAt, aI g 30 FbuntoldAt)] nX)) (va_Qi (fun (r : Int32) => fun (o0_F : (Nat → Int32)) => 0 ≤ r.toInt ∧ r.toInt ≤ 1) (Qst g [(h, .inr (8, [.int btime, .int bcount, .ref breasons, .ref bdays, .ref btoldAt, .ref buntoldAt])), (buntoldAt, aI g 30 FbuntoldAt)] sz (fun (o0_F : (Nat → Int32)) => [(h, .inr (8, [.int btime, .int bcount, .ref breasons, .ref bdays, .ref btoldAt, .ref buntoldAt])), (buntoldAt, aI g 30 o0_F)])) (va_A [(h, .inr (8, [.int btime, .int bcount, .ref breasons, .ref bdays, .ref btoldAt, .ref buntoldAt])), (buntoldAt, aI g 30 FbuntoldAt)] sz)) 0 0 (va_A [(h, .inr (8, [.int btime, .int bcount, .ref breasons, .ref bdays, .ref btoldAt, .ref buntoldAt])), (buntoldAt, aI g 30 FbuntoldAt)] sz) := by
  refine Met.ofW (cc := cX8_takeBack) (maxL := 2) (ret := (some .boolean)) (by decide) rfl ?_
  intro p e s m args below meth c s₁ B hml hv
  obtain ⟨rfl, hsz, hP, hK, hD0, hX⟩ := hv
  have hx := B.exec
  have hb := B.bytes
  have hr := B.returns
  have hT : ∀ w ∈ gT, w.before _ s = true := fun w h => atoms_spec (ws := .code yX8_takeBack cX8_takeBack 2 (some .boolean) :: gT) B.pre w (List.mem_cons_of_mem _ h)
  have hown : s.vm.findClass RX8 = some m.cls := findClass_of_methodNamed B.named
  have hlocks := B.notSynchronized
  subst hsz
  have hD := hD0.self (sz := s.heap.size)
  generalize hAe : va_A [(h, .inr (8, [.int btime, .int bcount, .ref breasons, .ref bdays, .ref btoldAt, .ref buntoldAt])), (buntoldAt, aI g 30 FbuntoldAt)] s.heap.size = A at hD ⊢
  have hA : ∀ q : Nat, s.heap.size ≤ q → A q := fun q h => by rw [← hAe]; exact Or.inr h
  have hS : va_S A s.heap s.heap [] := va_S.rf
  have hl := lv_entry ([.ref h, .int p0]) (n := 2) (Nat.le_of_ble_eq_true rfl)
  rw [lg_entry_eq]
  generalize (lg_sl ([.ref h, .int p0]) ++ List.replicate (2 - (lg_sl ([.ref h, .int p0])).length) Slot.unset).toArray = ls at hl ⊢
  have hl : lv_has ls 2 [(0, .ref h), (1, .int p0)] := hl
  refine p_nH (fun H hH => ?_)
  have hP : va_P g.1 vwCl [(h, .inr (8, [.int btime, .int bcount, .ref breasons, .ref bdays, .ref btoldAt, .ref buntoldAt])), (buntoldAt, aI g 30 FbuntoldAt)] H := by rw [hH]; exact hP
  have hS : va_S A s.heap H [] := by rw [hH]; exact hS
  refine lv_iload_n hx hb dX8_takeBack_0 rfl (lv_at hl 1 rfl) ?_
  refine lv_if_lt (tgt := 22) hx hb dX8_takeBack_1 (by decide) (fun c_1 => ?_) (fun c_1 => ?_)
  · have f_2 := E_lt (rfl : p0.toInt = _) (by decide : (0 : Int32).toInt = 0) c_1
    refine lv_iconst (v := 0) hx hb dX8_takeBack_22 (by decide) ?_
    have hP9 : va_P g.1 vwCl [(h, .inr (8, [.int btime, .int bcount, .ref breasons, .ref bdays, .ref btoldAt, .ref buntoldAt])), (buntoldAt, aI g 30 FbuntoldAt)] H := hP.sub [0, 1] rfl
    have hD9 : va_D A [(h, .inr (8, [.int btime, .int bcount, .ref breasons, .ref bdays, .ref btoldAt, .ref buntoldAt])), (buntoldAt, aI g 30 FbuntoldAt)] := hD.sub [0, 1] (by decide +kernel) rfl
    exact W.zret (v := 0) (ty := .boolean) hx hb hr rfl (fun t ht hW => ⟨⟨0, FbuntoldAt, rfl, ⟨by decide, by decide⟩, by rw [ht]; exact hP9, by rw [hAe]; exact hD9⟩, hS.F ht⟩) hS.2.2 dX8_takeBack_23
  · have f_3 := E_nlt (rfl : p0.toInt = _) (by decide : (0 : Int32).toInt = 0) c_1
    refine lv_iload_n hx hb dX8_takeBack_4 rfl (lv_at hl 1 rfl) ?_
    refine lv_aload_n hx hb dX8_takeBack_5 rfl (lv_at hl 0 rfl) ?_
    refine va_get (D := g.1) (ci := 8) (v := .int bcount) (C := RX8) (T := TX8) (N := 6) hx hb hT inF_X8 hown hK.1 hP 0 rfl rfl 1 (by decide) (hT _ bw_13) (fun _ h9 => h9) rfl dX8_takeBack_6 ?_
    refine lv_icmp_ge (tgt := 22) hx hb dX8_takeBack_9 (by decide) (fun c_4 => ?_) (fun c_4 => ?_)
    · have f_5 := E_le (rfl : bcount.toInt = _) (rfl : p0.toInt = _) c_4
      refine lv_iconst (v := 0) hx hb dX8_takeBack_22 (by decide) ?_
      have hP9 : va_P g.1 vwCl [(h, .inr (8, [.int btime, .int bcount, .ref breasons, .ref bdays, .ref btoldAt, .ref buntoldAt])), (buntoldAt, aI g 30 FbuntoldAt)] H := hP.sub [0, 1] rfl
      have hD9 : va_D A [(h, .inr (8, [.int btime, .int bcount, .ref breasons, .ref bdays, .ref btoldAt, .ref buntoldAt])), (buntoldAt, aI g 30 FbuntoldAt)] := hD.sub [0, 1] (by decide +kernel) rfl
      exact W.zret (v := 0) (ty := .boolean) hx hb hr rfl (fun t ht hW => ⟨⟨0, FbuntoldAt, rfl, ⟨by decide, by decide⟩, by rw [ht]; exact hP9, by rw [hAe]; exact hD9⟩, hS.F ht⟩) hS.2.2 dX8_takeBack_23
    · have f_6 := E_nle (rfl : bcount.toInt = _) (rfl : p0.toInt = _) c_4
      refine lv_aload_n hx hb dX8_takeBack_12 rfl (lv_at hl 0 rfl) ?_
      refine va_get (D := g.1) (ci := 8) (v := .ref buntoldAt) (C := RX8) (T := TX8) (N := 6) hx hb hT inF_X8 hown hK.1 hP 0 rfl rfl 5 (by decide) (hT _ bw_19) (fun _ h9 => h9) rfl dX8_takeBack_13 ?_
      refine lv_iload_n hx hb dX8_takeBack_16 rfl (lv_at hl 1 rfl) ?_
      have h_7 : vp_in p0 30 := vp_in_iff.mpr (by omega)
      refine va_iald hx hb hK.1 hP 1 1 rfl rfl (i := p0) h_7 dX8_takeBack_17 ?_
      refine lv_topi (fun x_8 ex_8 => ?_)
      have ux_8 := congrArg Int32.toInt ex_8
      refine lv_iconst (v := (-1)) hx hb dX8_takeBack_18 (by decide) ?_
      refine lv_icmp_eq (tgt := 24) hx hb dX8_takeBack_19 (by decide) (fun c_9 => ?_) (fun c_9 => ?_)
      · have f_10 := E_eq (rfl : x_8.toInt = _) (by decide : ((-1) : Int32).toInt = (-1)) c_9
        refine lv_aload_n hx hb dX8_takeBack_24 rfl (lv_at hl 0 rfl) ?_
        refine va_get (D := g.1) (ci := 8) (v := .ref buntoldAt) (C := RX8) (T := TX8) (N := 6) hx hb hT inF_X8 hown hK.1 hP 0 rfl rfl 5 (by decide) (hT _ bw_19) (fun _ h9 => h9) rfl dX8_takeBack_25 ?_
        refine lv_iload_n hx hb dX8_takeBack_28 rfl (lv_at hl 1 rfl) ?_
        refine lv_aload_n hx hb dX8_takeBack_29 rfl (lv_at hl 0 rfl) ?_
        refine va_get (D := g.1) (ci := 8) (v := .int btime) (C := RX8) (T := TX8) (N := 6) hx hb hT inF_X8 hown hK.1 hP 0 rfl rfl 0 (by decide) (hT _ bw_18) (fun _ h9 => h9) rfl dX8_takeBack_30 ?_
        have h_11 : vp_in p0 30 := vp_in_iff.mpr (by omega)
        refine va_iast hx hb hK.1 hP hD hS 1 1 rfl rfl (i := p0) (x := btime) h_11 dX8_takeBack_33 (fun H locs hP hD hS => ?_)
        generalize upd FbuntoldAt (p0 : Int32).toNatClampNeg btime = f_12 at hP hD
        have hP : va_P g.1 vwCl [(h, .inr (8, [.int btime, .int bcount, .ref breasons, .ref bdays, .ref btoldAt, .ref buntoldAt])), (buntoldAt, aI g 30 f_12)] H := hP
        have hD : va_D A [(h, .inr (8, [.int btime, .int bcount, .ref breasons, .ref bdays, .ref btoldAt, .ref buntoldAt])), (buntoldAt, aI g 30 f_12)] := hD
        refine lv_iconst (v := 1) hx hb dX8_takeBack_34 (by decide) ?_
        have hP9 : va_P g.1 vwCl [(h, .inr (8, [.int btime, .int bcount, .ref breasons, .ref bdays, .ref btoldAt, .ref buntoldAt])), (buntoldAt, aI g 30 f_12)] H := hP.sub [0, 1] rfl
        have hD9 : va_D A [(h, .inr (8, [.int btime, .int bcount, .ref breasons, .ref bdays, .ref btoldAt, .ref buntoldAt])), (buntoldAt, aI g 30 f_12)] := hD.sub [0, 1] (by decide +kernel) rfl
        exact W.zret (v := 1) (ty := .boolean) hx hb hr rfl (fun t ht hW => ⟨⟨1, f_12, rfl, ⟨by decide, by decide⟩, by rw [ht]; exact hP9, by rw [hAe]; exact hD9⟩, hS.F ht⟩) hS.2.2 dX8_takeBack_35
      · have f_13 := E_ne (rfl : x_8.toInt = _) (by decide : ((-1) : Int32).toInt = (-1)) c_9
        refine lv_iconst (v := 0) hx hb dX8_takeBack_22 (by decide) ?_
        have hP9 : va_P g.1 vwCl [(h, .inr (8, [.int btime, .int bcount, .ref breasons, .ref bdays, .ref btoldAt, .ref buntoldAt])), (buntoldAt, aI g 30 FbuntoldAt)] H := hP.sub [0, 1] rfl
        have hD9 : va_D A [(h, .inr (8, [.int btime, .int bcount, .ref breasons, .ref bdays, .ref btoldAt, .ref buntoldAt])), (buntoldAt, aI g 30 FbuntoldAt)] := hD.sub [0, 1] (by decide +kernel) rfl
        exact W.zret (v := 0) (ty := .boolean) hx hb hr rfl (fun t ht hW => ⟨⟨0, FbuntoldAt, rfl, ⟨by decide, by decide⟩, by rw [ht]; exact hP9, by rw [hAe]; exact hD9⟩, hS.F ht⟩) hS.2.2 dX8_takeBack_23
