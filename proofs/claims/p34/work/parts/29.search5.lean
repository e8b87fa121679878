set_option maxHeartbeats 4000000 in
set_option maxRecDepth 100000 in
theorem s_J6_bitCount_0f7a4_b (l : Launch) (g : GG) (sz : Nat) (p0 : Int32) : Met l yJ6_bitCount_0f7a4 (.code yJ6_bitCount_0f7a4 cJ6_bitCount_0f7a4 1 (some .int) :: gT) ({ frames := 0, cells := 0, slots := 0, locals := 0 }) (va_Pc [.int p0] (Pst g sz [] nX)) (va_Qi (fun (r : Int32) => fun (_ : Unit) => (0 ≤ r.toInt ∧ r.toInt ≤ 63) ∧ (r = BC p0)) (Qst g [] sz (fun _ => [])) (va_A [] sz)) 0 0 (va_A [] sz) := by
  refine Met.ofW (cc := cJ6_bitCount_0f7a4) (maxL := 1) (ret := (some .int)) (by decide) rfl ?_
  intro p e s m args below meth c s₁ B hml hv
  obtain ⟨rfl, hsz, hP, hK, hD0, hX⟩ := hv
  have hx := B.exec
  have hb := B.bytes
  have hr := B.returns
  have hT : ∀ w ∈ gT, w.before _ s = true := fun w h => atoms_spec (ws := .code yJ6_bitCount_0f7a4 cJ6_bitCount_0f7a4 1 (some .int) :: gT) B.pre w (List.mem_cons_of_mem _ h)
  have hown : s.vm.findClass RJ6 = some m.cls := findClass_of_methodNamed B.named
  have hlocks := B.notSynchronized
  subst hsz
  have hD := hD0
  generalize hAe : va_A [] s.heap.size = A at ⊢
  have hA : ∀ q : Nat, s.heap.size ≤ q → A q := fun q h => by rw [← hAe]; exact Or.inr h
  have hS : va_S A s.heap s.heap [] := va_S.rf
  have hl := lv_entry ([.int p0]) (n := 1) (Nat.le_of_ble_eq_true rfl)
  rw [lg_entry_eq]
  generalize (lg_sl ([.int p0]) ++ List.replicate (1 - (lg_sl ([.int p0])).length) Slot.unset).toArray = ls at hl ⊢
  have hl : lv_has ls 1 [(0, .int p0)] := hl
  refine p_nH (fun H hH => ?_)
  have hP : va_P g.1 vwCl [] H := by rw [hH]; exact hP
  have hS : va_S A s.heap H [] := by rw [hH]; exact hS
  refine lv_iload_n hx hb dJ6_bitCount_0f7a4_0 rfl (lv_at hl 0 rfl) ?_
  refine lv_iload_n hx hb dJ6_bitCount_0f7a4_1 rfl (lv_at hl 0 rfl) ?_
  refine lv_iconst (v := 1) hx hb dJ6_bitCount_0f7a4_2 (by decide) ?_
  obtain ⟨x_1, ex_1⟩ : ∃ v : Int32, ((p0 : Int32).toUInt32 >>> ((1 : Int32).toUInt32 &&& Int32.toUInt32 31)).toInt32 = v := ⟨_, rfl⟩
  have fx_1 : 0 ≤ x_1.toInt ∧ x_1.toInt < 2147483648 := I_ushr 1 (by decide) (by decide) (by decide) ex_1
  refine lv_iushr (v := x_1) hx hb dJ6_bitCount_0f7a4_3 ex_1 ?_
  refine lv_ldcw (v := 1431655765) hx hb hown (hT _ bw_23) dJ6_bitCount_0f7a4_4 ?_
  refine lv_iand hx hb dJ6_bitCount_0f7a4_7 ?_
  refine lv_topi (fun x_2 ex_2 => ?_)
  have fx_2 : 0 ≤ x_2.toInt ∧ x_2.toInt ≤ 1431655765 := by rw [ex_2]; exact I_and (by decide) (by decide)
  refine lv_isub hx hb dJ6_bitCount_0f7a4_8 ?_
  refine lv_topi (fun x_3 ex_3 => ?_)
  refine lv_istore_n (lv' := [(0, .int x_3)]) hx hb dJ6_bitCount_0f7a4_9 rfl hl (by decide) rfl (fun ls hl => ?_)
  refine lv_iload_n hx hb dJ6_bitCount_0f7a4_10 rfl (lv_at hl 0 rfl) ?_
  refine lv_ldcw (v := 858993459) hx hb hown (hT _ bw_24) dJ6_bitCount_0f7a4_11 ?_
  refine lv_iand hx hb dJ6_bitCount_0f7a4_14 ?_
  refine lv_topi (fun x_4 ex_4 => ?_)
  have fx_4 : 0 ≤ x_4.toInt ∧ x_4.toInt ≤ 858993459 := by rw [ex_4]; exact I_and (by decide) (by decide)
  refine lv_iload_n hx hb dJ6_bitCount_0f7a4_15 rfl (lv_at hl 0 rfl) ?_
  refine lv_iconst (v := 2) hx hb dJ6_bitCount_0f7a4_16 (by decide) ?_
  obtain ⟨x_5, ex_5⟩ : ∃ v : Int32, ((x_3 : Int32).toUInt32 >>> ((2 : Int32).toUInt32 &&& Int32.toUInt32 31)).toInt32 = v := ⟨_, rfl⟩
  have fx_5 : 0 ≤ x_5.toInt ∧ x_5.toInt < 1073741824 := I_ushr 2 (by decide) (by decide) (by decide) ex_5
  refine lv_iushr (v := x_5) hx hb dJ6_bitCount_0f7a4_17 ex_5 ?_
  refine lv_ldcw (v := 858993459) hx hb hown (hT _ bw_24) dJ6_bitCount_0f7a4_18 ?_
  refine lv_iand hx hb dJ6_bitCount_0f7a4_21 ?_
  refine lv_topi (fun x_6 ex_6 => ?_)
  have fx_6 : 0 ≤ x_6.toInt ∧ x_6.toInt ≤ 858993459 := by rw [ex_6]; exact I_and (by decide) (by decide)
  refine lv_iadd hx hb dJ6_bitCount_0f7a4_22 ?_
  refine lv_topi (fun x_7 ex_7 => ?_)
  have fx_7 : x_7.toInt = x_4.toInt + x_6.toInt := by rw [ex_7]; exact I_add rfl rfl (by omega) (by omega)
  refine lv_istore_n (lv' := [(0, .int x_7)]) hx hb dJ6_bitCount_0f7a4_23 rfl hl (by decide) rfl (fun ls hl => ?_)
  refine lv_iload_n hx hb dJ6_bitCount_0f7a4_24 rfl (lv_at hl 0 rfl) ?_
  refine lv_iload_n hx hb dJ6_bitCount_0f7a4_25 rfl (lv_at hl 0 rfl) ?_
  refine lv_iconst (v := 4) hx hb dJ6_bitCount_0f7a4_26 (by decide) ?_
  obtain ⟨x_8, ex_8⟩ : ∃ v : Int32, ((x_7 : Int32).toUInt32 >>> ((4 : Int32).toUInt32 &&& Int32.toUInt32 31)).toInt32 = v := ⟨_, rfl⟩
  have fx_8 : 0 ≤ x_8.toInt ∧ x_8.toInt < 268435456 := I_ushr 4 (by decide) (by decide) (by decide) ex_8
  refine lv_iushr (v := x_8) hx hb dJ6_bitCount_0f7a4_27 ex_8 ?_
  refine lv_iadd hx hb dJ6_bitCount_0f7a4_28 ?_
  refine lv_topi (fun x_9 ex_9 => ?_)
  have fx_9 : x_9.toInt = x_7.toInt + x_8.toInt := by rw [ex_9]; exact I_add rfl rfl (by omega) (by omega)
  refine lv_ldcw (v := 252645135) hx hb hown (hT _ bw_25) dJ6_bitCount_0f7a4_29 ?_
  refine lv_iand hx hb dJ6_bitCount_0f7a4_32 ?_
  refine lv_topi (fun x_10 ex_10 => ?_)
  have fx_10 : 0 ≤ x_10.toInt ∧ x_10.toInt ≤ 252645135 := by rw [ex_10]; exact I_and (by decide) (by decide)
  refine lv_istore_n (lv' := [(0, .int x_10)]) hx hb dJ6_bitCount_0f7a4_33 rfl hl (by decide) rfl (fun ls hl => ?_)
  refine lv_iload_n hx hb dJ6_bitCount_0f7a4_34 rfl (lv_at hl 0 rfl) ?_
  refine lv_iload_n hx hb dJ6_bitCount_0f7a4_35 rfl (lv_at hl 0 rfl) ?_
  refine lv_bipush (v := 8) hx hb dJ6_bitCount_0f7a4_36 (by decide) ?_
  obtain ⟨x_11, ex_11⟩ : ∃ v : Int32, ((x_10 : Int32).toUInt32 >>> ((8 : Int32).toUInt32 &&& Int32.toUInt32 31)).toInt32 = v := ⟨_, rfl⟩
  have fx_11 : 0 ≤ x_11.toInt ∧ x_11.toInt < 16777216 := I_ushr 8 (by decide) (by decide) (by decide) ex_11
  refine lv_iushr (v := x_11) hx hb dJ6_bitCount_0f7a4_38 ex_11 ?_
  refine lv_iadd hx hb dJ6_bitCount_0f7a4_39 ?_
  refine lv_topi (fun x_12 ex_12 => ?_)
  have fx_12 : x_12.toInt = x_10.toInt + x_11.toInt := by rw [ex_12]; exact I_add rfl rfl (by omega) (by omega)
  refine lv_istore_n (lv' := [(0, .int x_12)]) hx hb dJ6_bitCount_0f7a4_40 rfl hl (by decide) rfl (fun ls hl => ?_)
  refine lv_iload_n hx hb dJ6_bitCount_0f7a4_41 rfl (lv_at hl 0 rfl) ?_
  refine lv_iload_n hx hb dJ6_bitCount_0f7a4_42 rfl (lv_at hl 0 rfl) ?_
  refine lv_bipush (v := 16) hx hb dJ6_bitCount_0f7a4_43 (by decide) ?_
  obtain ⟨x_13, ex_13⟩ : ∃ v : Int32, ((x_12 : Int32).toUInt32 >>> ((16 : Int32).toUInt32 &&& Int32.toUInt32 31)).toInt32 = v := ⟨_, rfl⟩
  have fx_13 : 0 ≤ x_13.toInt ∧ x_13.toInt < 65536 := I_ushr 16 (by decide) (by decide) (by decide) ex_13
  refine lv_iushr (v := x_13) hx hb dJ6_bitCount_0f7a4_45 ex_13 ?_
  refine lv_iadd hx hb dJ6_bitCount_0f7a4_46 ?_
  refine lv_topi (fun x_14 ex_14 => ?_)
  have fx_14 : x_14.toInt = x_12.toInt + x_13.toInt := by rw [ex_14]; exact I_add rfl rfl (by omega) (by omega)
  refine lv_istore_n (lv' := [(0, .int x_14)]) hx hb dJ6_bitCount_0f7a4_47 rfl hl (by decide) rfl (fun ls hl => ?_)
  refine lv_iload_n hx hb dJ6_bitCount_0f7a4_48 rfl (lv_at hl 0 rfl) ?_
  refine lv_bipush (v := 63) hx hb dJ6_bitCount_0f7a4_49 (by decide) ?_
  refine lv_iand hx hb dJ6_bitCount_0f7a4_51 ?_
  refine lv_topi (fun x_15 ex_15 => ?_)
  have fx_15 : 0 ≤ x_15.toInt ∧ x_15.toInt ≤ 63 := by rw [ex_15]; exact I_and (by decide) (by decide)
  have hP9 : va_P g.1 vwCl [] H := hP.sub [] rfl
  have hD9 : va_D A [] := ⟨fun i j p q h => by simp at h, fun k q h => by simp at h⟩
  exact W.iret (v := x_15) hx hb hr (fun t ht hW => ⟨⟨x_15, (), rfl, ⟨(by first | with_reducible assumption | omega), (by subst ex_15; subst ex_14; subst ex_13; subst ex_12; subst ex_11; subst ex_10; subst ex_9; subst ex_8; subst ex_7; subst ex_6; subst ex_5; subst ex_4; subst ex_3; subst ex_2; subst ex_1; rfl)⟩, by rw [ht]; exact hP9, by rw [hAe]; exact hD9⟩, hS.F ht⟩) hS.2.2 dJ6_bitCount_0f7a4_52

set_option maxHeartbeats 4000000 in
set_option maxRecDepth 100000 in
theorem s_J7_fill_53178_sl (l : Launch) (g : GG) (sz : Nat) (ga : Nat) (Fga : Nat → Int32) (hh0 : Sl Fga) : Met l yJ7_fill_53178 (.code yJ7_fill_53178 cJ7_fill_53178 4 none :: gT) ({ frames := 0, cells := 0, slots := 0, locals := 0 }) (va_Pc [.ref ga, .int 0] (Pst g sz [(ga, aI g 8192 Fga)] nX)) (va_Qv (fun (o0_F : (Nat → Int32)) => Sl o0_F) (Qst g [(ga, aI g 8192 Fga)] sz (fun (o0_F : (Nat → Int32)) => [(ga, aI g 8192 o0_F)])) (va_A [(ga, aI g 8192 Fga)] sz)) 0 0 (va_A [(ga, aI g 8192 Fga)] sz) := by
  refine Met.ofW (cc := cJ7_fill_53178) (maxL := 4) (ret := none) (by decide) rfl ?_
  intro p e s m args below meth c s₁ B hml hv
  obtain ⟨rfl, hsz, hP, hK, hD0, hX⟩ := hv
  have hx := B.exec
  have hb := B.bytes
  have hr := B.returns
  have hT : ∀ w ∈ gT, w.before _ s = true := fun w h => atoms_spec (ws := .code yJ7_fill_53178 cJ7_fill_53178 4 none :: gT) B.pre w (List.mem_cons_of_mem _ h)
  have hown : s.vm.findClass RJ7 = some m.cls := findClass_of_methodNamed B.named
  have hlocks := B.notSynchronized
  subst hsz
  have hD := hD0.self (sz := s.heap.size)
  generalize hAe : va_A [(ga, aI g 8192 Fga)] s.heap.size = A at hD ⊢
  have hA : ∀ q : Nat, s.heap.size ≤ q → A q := fun q h => by rw [← hAe]; exact Or.inr h
  have hS : va_S A s.heap s.heap [] := va_S.rf
  have hl := lv_entry ([.ref ga, .int 0]) (n := 4) (Nat.le_of_ble_eq_true rfl)
  rw [lg_entry_eq]
  generalize (lg_sl ([.ref ga, .int 0]) ++ List.replicate (4 - (lg_sl ([.ref ga, .int 0])).length) Slot.unset).toArray = ls at hl ⊢
  have hl : lv_has ls 4 [(0, .ref ga), (1, .int 0)] := hl
  refine p_nH (fun H hH => ?_)
  have hP : va_P g.1 vwCl [(ga, aI g 8192 Fga)] H := by rw [hH]; exact hP
  have hS : va_S A s.heap H [] := by rw [hH]; exact hS
  refine lv_iconst (v := 0) hx hb dJ7_fill_53178_0 (by decide) ?_
  refine lv_istore_n (lv' := [(2, .int 0), (0, .ref ga), (1, .int 0)]) hx hb dJ7_fill_53178_1 rfl hl (by decide) rfl (fun ls hl => ?_)
  refine lv_aload_n hx hb dJ7_fill_53178_2 rfl (lv_at hl 1 rfl) ?_
  refine va_alen (v := 8192) hx hb hK.1 hP 0 1 rfl rfl rfl dJ7_fill_53178_3 ?_
  refine lv_istore_n (lv' := [(3, .int 8192), (2, .int 0), (0, .ref ga), (1, .int 0)]) hx hb dJ7_fill_53178_4 rfl hl (by decide) rfl (fun ls hl => ?_)
  refine k_floop 5 (fun n H locs ls => ∃ (L_1 : Int32) (f_2 : Nat → Int32), (0 ≤ L_1.toInt ∧ L_1.toInt ≤ 8192) ∧ (Sl f_2) ∧ 8192 - L_1.toInt ≤ (n : Int) ∧ va_P g.1 vwCl [(ga, aI g 8192 f_2)] H ∧ va_D A [(ga, aI g 8192 f_2)] ∧ va_S A s.heap H locs ∧ lv_has ls 4 [(3, .int 8192), (2, .int L_1), (0, .ref ga), (1, .int 0)]) (fun n H locs ls hI ih => ?_) ((8192 - 0 : Int)).toNat ⟨0, Fga, by decide, hh0, by have k0 : (0 : Int32).toInt = 0 := (by decide); omega, hP, hD, hS, hl⟩
  refine hI.elim (fun L_1 hI => hI.elim (fun f_2 hI => ?_))
  have g_3 := hI.1
  have g_4 := hI.2.1
  have hm_5 := hI.2.2.1
  have hP := hI.2.2.2.1
  have hD := hI.2.2.2.2.1
  have hS := hI.2.2.2.2.2.1
  have hl := hI.2.2.2.2.2.2
  clear hI
  refine lv_iload_n hx hb dJ7_fill_53178_5 rfl (lv_at hl 1 rfl) ?_
  refine lv_iload_n hx hb dJ7_fill_53178_6 rfl (lv_at hl 0 rfl) ?_
  refine lv_icmp_ge (tgt := 20) hx hb dJ7_fill_53178_7 (by decide) (fun c_6 => ?_) (fun c_6 => ?_)
  · have f_7 := E_le (by decide : (8192 : Int32).toInt = 8192) (rfl : L_1.toInt = _) c_6
    have hP9 : va_P g.1 vwCl [(ga, aI g 8192 f_2)] H := hP.sub [0] rfl
    have hD9 : va_D A [(ga, aI g 8192 f_2)] := hD.sub [0] (by decide +kernel) rfl
    exact W.vret hx hb hr (fun t ht hW => ⟨⟨f_2, rfl, g_4, by rw [ht]; exact hP9, by rw [hAe]; exact hD9⟩, hS.F ht⟩) hS.2.2 dJ7_fill_53178_20
  · have f_8 := E_nle (by decide : (8192 : Int32).toInt = 8192) (rfl : L_1.toInt = _) c_6
    refine lv_aload_n hx hb dJ7_fill_53178_10 rfl (lv_at hl 2 rfl) ?_
    refine lv_iload_n hx hb dJ7_fill_53178_11 rfl (lv_at hl 1 rfl) ?_
    refine lv_iload_n hx hb dJ7_fill_53178_12 rfl (lv_at hl 3 rfl) ?_
    have h_9 : vp_in L_1 8192 := vp_in_iff.mpr (by omega)
    refine va_iast hx hb hK.1 hP hD hS 0 1 rfl rfl (i := L_1) (x := 0) h_9 dJ7_fill_53178_13 (fun H locs hP hD hS => ?_)
    have gf_10 : Sl (upd f_2 (L_1 : Int32).toNatClampNeg 0) := Sl.upd g_4 (by decide)
    generalize upd f_2 (L_1 : Int32).toNatClampNeg 0 = f_10 at hP hD gf_10
    have hP : va_P g.1 vwCl [(ga, aI g 8192 f_10)] H := hP
    have hD : va_D A [(ga, aI g 8192 f_10)] := hD
    obtain ⟨x_11, ex_11⟩ : ∃ y : Int32, y = L_1 + 1 := ⟨_, rfl⟩
    have fx_11 : x_11.toInt = L_1.toInt + 1 := by rw [ex_11]; exact I_add rfl (by decide) (by omega) (by omega)
    refine lv_iinc (v := x_11) (lv' := [(2, .int x_11), (3, .int 8192), (0, .ref ga), (1, .int 0)]) hx hb dJ7_fill_53178_14 hl (k := 1) rfl (by rw [ex_11]; rfl) (by decide) rfl (fun ls hl => ?_)
    refine lv_goto (tgt := 5) hx hb dJ7_fill_53178_17 (by decide) ?_
    exact ih (n - 1) (by omega) H locs ls ⟨x_11, f_10, (by first | with_reducible assumption | omega), gf_10, by omega, hP.sub [0] rfl, hD.sub [0] (by decide +kernel) rfl, hS, lv_sub hl [1, 0, 2, 3] rfl⟩

set_option maxHeartbeats 4000000 in
set_option maxRecDepth 100000 in
theorem s_J7_fill_53178_w4 (l : Launch) (g : GG) (sz : Nat) (ga : Nat) (Fga : Nat → Int32) (hh0 : Rg 4 0 365 Fga) : Met l yJ7_fill_53178 (.code yJ7_fill_53178 cJ7_fill_53178 4 none :: gT) ({ frames := 0, cells := 0, slots := 0, locals := 0 }) (va_Pc [.ref ga, .int 0] (Pst g sz [(ga, aI g 4 Fga)] nX)) (va_Qv (fun (o0_F : (Nat → Int32)) => Rg 4 0 365 o0_F) (Qst g [(ga, aI g 4 Fga)] sz (fun (o0_F : (Nat → Int32)) => [(ga, aI g 4 o0_F)])) (va_A [(ga, aI g 4 Fga)] sz)) 0 0 (va_A [(ga, aI g 4 Fga)] sz) := by
  refine Met.ofW (cc := cJ7_fill_53178) (maxL := 4) (ret := none) (by decide) rfl ?_
  intro p e s m args below meth c s₁ B hml hv
  obtain ⟨rfl, hsz, hP, hK, hD0, hX⟩ := hv
  have hx := B.exec
  have hb := B.bytes
  have hr := B.returns
  have hT : ∀ w ∈ gT, w.before _ s = true := fun w h => atoms_spec (ws := .code yJ7_fill_53178 cJ7_fill_53178 4 none :: gT) B.pre w (List.mem_cons_of_mem _ h)
  have hown : s.vm.findClass RJ7 = some m.cls := findClass_of_methodNamed B.named
  have hlocks := B.notSynchronized
  subst hsz
  have hD := hD0.self (sz := s.heap.size)
  generalize hAe : va_A [(ga, aI g 4 Fga)] s.heap.size = A at hD ⊢
  have hA : ∀ q : Nat, s.heap.size ≤ q → A q := fun q h => by rw [← hAe]; exact Or.inr h
  have hS : va_S A s.heap s.heap [] := va_S.rf
  have hl := lv_entry ([.ref ga, .int 0]) (n := 4) (Nat.le_of_ble_eq_true rfl)
  rw [lg_entry_eq]
  generalize (lg_sl ([.ref ga, .int 0]) ++ List.replicate (4 - (lg_sl ([.ref ga, .int 0])).length) Slot.unset).toArray = ls at hl ⊢
  have hl : lv_has ls 4 [(0, .ref ga), (1, .int 0)] := hl
  refine p_nH (fun H hH => ?_)
  have hP : va_P g.1 vwCl [(ga, aI g 4 Fga)] H := by rw [hH]; exact hP
  have hS : va_S A s.heap H [] := by rw [hH]; exact hS
  refine lv_iconst (v := 0) hx hb dJ7_fill_53178_0 (by decide) ?_
  refine lv_istore_n (lv' := [(2, .int 0), (0, .ref ga), (1, .int 0)]) hx hb dJ7_fill_53178_1 rfl hl (by decide) rfl (fun ls hl => ?_)
  refine lv_aload_n hx hb dJ7_fill_53178_2 rfl (lv_at hl 1 rfl) ?_
  refine va_alen (v := 4) hx hb hK.1 hP 0 1 rfl rfl rfl dJ7_fill_53178_3 ?_
  refine lv_istore_n (lv' := [(3, .int 4), (2, .int 0), (0, .ref ga), (1, .int 0)]) hx hb dJ7_fill_53178_4 rfl hl (by decide) rfl (fun ls hl => ?_)
  refine k_floop 5 (fun n H locs ls => ∃ (L_1 : Int32) (f_2 : Nat → Int32), (0 ≤ L_1.toInt ∧ L_1.toInt ≤ 4) ∧ (Rg 4 0 365 f_2) ∧ 4 - L_1.toInt ≤ (n : Int) ∧ va_P g.1 vwCl [(ga, aI g 4 f_2)] H ∧ va_D A [(ga, aI g 4 f_2)] ∧ va_S A s.heap H locs ∧ lv_has ls 4 [(3, .int 4), (2, .int L_1), (0, .ref ga), (1, .int 0)]) (fun n H locs ls hI ih => ?_) ((4 - 0 : Int)).toNat ⟨0, Fga, by decide, hh0, by have k0 : (0 : Int32).toInt = 0 := (by decide); omega, hP, hD, hS, hl⟩
  refine hI.elim (fun L_1 hI => hI.elim (fun f_2 hI => ?_))
  have g_3 := hI.1
  have g_4 := hI.2.1
  have hm_5 := hI.2.2.1
  have hP := hI.2.2.2.1
  have hD := hI.2.2.2.2.1
  have hS := hI.2.2.2.2.2.1
  have hl := hI.2.2.2.2.2.2
  clear hI
  refine lv_iload_n hx hb dJ7_fill_53178_5 rfl (lv_at hl 1 rfl) ?_
  refine lv_iload_n hx hb dJ7_fill_53178_6 rfl (lv_at hl 0 rfl) ?_
  refine lv_icmp_ge (tgt := 20) hx hb dJ7_fill_53178_7 (by decide) (fun c_6 => ?_) (fun c_6 => ?_)
  · have f_7 := E_le (by decide : (4 : Int32).toInt = 4) (rfl : L_1.toInt = _) c_6
    have hP9 : va_P g.1 vwCl [(ga, aI g 4 f_2)] H := hP.sub [0] rfl
    have hD9 : va_D A [(ga, aI g 4 f_2)] := hD.sub [0] (by decide +kernel) rfl
    exact W.vret hx hb hr (fun t ht hW => ⟨⟨f_2, rfl, g_4, by rw [ht]; exact hP9, by rw [hAe]; exact hD9⟩, hS.F ht⟩) hS.2.2 dJ7_fill_53178_20
  · have f_8 := E_nle (by decide : (4 : Int32).toInt = 4) (rfl : L_1.toInt = _) c_6
    refine lv_aload_n hx hb dJ7_fill_53178_10 rfl (lv_at hl 2 rfl) ?_
    refine lv_iload_n hx hb dJ7_fill_53178_11 rfl (lv_at hl 1 rfl) ?_
    refine lv_iload_n hx hb dJ7_fill_53178_12 rfl (lv_at hl 3 rfl) ?_
    have h_9 : vp_in L_1 4 := vp_in_iff.mpr (by omega)
    refine va_iast hx hb hK.1 hP hD hS 0 1 rfl rfl (i := L_1) (x := 0) h_9 dJ7_fill_53178_13 (fun H locs hP hD hS => ?_)
    have gf_10 : Rg 4 0 365 (upd f_2 (L_1 : Int32).toNatClampNeg 0) := Rg.upd g_4 (by decide)
    generalize upd f_2 (L_1 : Int32).toNatClampNeg 0 = f_10 at hP hD gf_10
    have hP : va_P g.1 vwCl [(ga, aI g 4 f_10)] H := hP
    have hD : va_D A [(ga, aI g 4 f_10)] := hD
    obtain ⟨x_11, ex_11⟩ : ∃ y : Int32, y = L_1 + 1 := ⟨_, rfl⟩
    have fx_11 : x_11.toInt = L_1.toInt + 1 := by rw [ex_11]; exact I_add rfl (by decide) (by omega) (by omega)
    refine lv_iinc (v := x_11) (lv' := [(2, .int x_11), (3, .int 4), (0, .ref ga), (1, .int 0)]) hx hb dJ7_fill_53178_14 hl (k := 1) rfl (by rw [ex_11]; rfl) (by decide) rfl (fun ls hl => ?_)
    refine lv_goto (tgt := 5) hx hb dJ7_fill_53178_17 (by decide) ?_
    exact ih (n - 1) (by omega) H locs ls ⟨x_11, f_10, (by first | with_reducible assumption | omega), gf_10, by omega, hP.sub [0] rfl, hD.sub [0] (by decide +kernel) rfl, hS, lv_sub hl [1, 0, 2, 3] rfl⟩

set_option maxHeartbeats 4000000 in
set_option maxRecDepth 100000 in
theorem s_X7_usedOf2 (l : Launch) (g : GG) (sz : Nat) (h : Nat) (bland : Nat) (bdeathDay : Int32) (bfreeFrom : Nat) (bbarring : Nat) (bkeys : Nat) (Fbkeys : Nat → Int32) (bways : Nat) (bcount : Int32) (bwins : Nat) (bslots : Nat) (bround : Int32) (bworths : Nat) (bpath : Nat) (p0 : Int32) (hh1 : 0 ≤ bcount.toInt ∧ bcount.toInt ≤ 3000) (hh3 : 0 ≤ bround.toInt ∧ bround.toInt ≤ 1048575) (hh6 : 0 ≤ p0.toInt ∧ p0.toInt ≤ 2999) : Met l yX7_usedOf (.code yX7_usedOf cX7_usedOf 2 (some .int) :: gT) ({ frames := 0, cells := 0, slots := 0, locals := 0 }) (va_Pc [.ref h, .int p0] (Pst g sz [(h, .inr (7, [.ref bland, .int bdeathDay, .ref bfreeFrom, .ref bbarring, .ref bkeys, .ref bways, .int bcount, .ref bwins, .ref bslots, .int bround, .ref bworths, .ref bpath])), (bkeys, aI g 3000 Fbkeys)] nX)) (va_Qi (fun (r : Int32) => fun (_ : Unit) => ((-131072) ≤ r.toInt ∧ r.toInt ≤ 131071) ∧ (r = Fbkeys p0.toNatClampNeg >>> ((14 : Int32) &&& 31))) (Qst g [] sz (fun _ => [])) (va_A [] sz)) 0 0 (va_A [] sz) := by
  refine Met.ofW (cc := cX7_usedOf) (maxL := 2) (ret := (some .int)) (by decide) rfl ?_
  intro p e s m args below meth c s₁ B hml hv
  obtain ⟨rfl, hsz, hP, hK, hD0, hX⟩ := hv
  have hx := B.exec
  have hb := B.bytes
  have hr := B.returns
  have hT : ∀ w ∈ gT, w.before _ s = true := fun w h => atoms_spec (ws := .code yX7_usedOf cX7_usedOf 2 (some .int) :: gT) B.pre w (List.mem_cons_of_mem _ h)
  have hown : s.vm.findClass RX7 = some m.cls := findClass_of_methodNamed B.named
  have hlocks := B.notSynchronized
  subst hsz
  have hD := hD0
  generalize hAe : va_A [] s.heap.size = A at ⊢
  have hA : ∀ q : Nat, s.heap.size ≤ q → A q := fun q h => by rw [← hAe]; exact Or.inr h
  have hS : va_S A s.heap s.heap [] := va_S.rf
  have hl := lv_entry ([.ref h, .int p0]) (n := 2) (Nat.le_of_ble_eq_true rfl)
  rw [lg_entry_eq]
  generalize (lg_sl ([.ref h, .int p0]) ++ List.replicate (2 - (lg_sl ([.ref h, .int p0])).length) Slot.unset).toArray = ls at hl ⊢
  have hl : lv_has ls 2 [(0, .ref h), (1, .int p0)] := hl
  refine p_nH (fun H hH => ?_)
  have hP : va_P g.1 vwCl [(h, .inr (7, [.ref bland, .int bdeathDay, .ref bfreeFrom, .ref bbarring, .ref bkeys, .ref bways, .int bcount, .ref bwins, .ref bslots, .int bround, .ref bworths, .ref bpath])), (bkeys, aI g 3000 Fbkeys)] H := by rw [hH]; exact hP
  have hS : va_S A s.heap H [] := by rw [hH]; exact hS
  refine lv_aload_n hx hb dX7_usedOf_0 rfl (lv_at hl 0 rfl) ?_
  refine va_get (D := g.1) (ci := 7) (v := .ref bkeys) (C := RX7) (T := TX7) (N := 12) hx hb hT inF_X7 hown hK.1 hP 0 rfl rfl 4 (by decide) (hT _ bw_417) (fun _ h9 => h9) rfl dX7_usedOf_1 ?_
  refine lv_iload_n hx hb dX7_usedOf_4 rfl (lv_at hl 1 rfl) ?_
  have h_1 : vp_in p0 3000 := vp_in_iff.mpr (by omega)
  refine va_iald hx hb hK.1 hP 1 1 rfl rfl (i := p0) h_1 dX7_usedOf_5 ?_
  refine lv_topi (fun x_2 ex_2 => ?_)
  have ux_2 := congrArg Int32.toInt ex_2
  refine lv_bipush (v := 14) hx hb dX7_usedOf_6 (by decide) ?_
  refine lv_ishr hx hb dX7_usedOf_8 ?_
  have qq_3 := I_rng x_2
  refine lv_topi (fun x_4 ex_4 => ?_)
  have fx_4 : x_4.toInt = x_2.toInt / 16384 := by rw [ex_4]; exact I_shr 14 16384 (by decide) (by decide) rfl
  have hP9 : va_P g.1 vwCl [] H := hP.sub [] rfl
  have hD9 : va_D A [] := ⟨fun i j p q h => by simp at h, fun k q h => by simp at h⟩
  exact W.iret (v := x_4) hx hb hr (fun t ht hW => ⟨⟨x_4, (), rfl, ⟨(by first | with_reducible assumption | omega), (by rw [ex_4, ex_2])⟩, by rw [ht]; exact hP9, by rw [hAe]; exact hD9⟩, hS.F ht⟩) hS.2.2 dX7_usedOf_9

set_option maxHeartbeats 4000000 in
set_option maxRecDepth 100000 in
theorem s_X7_pathMove2 (l : Launch) (g : GG) (sz : Nat) (h : Nat) (bland : Nat) (bdeathDay : Int32) (bfreeFrom : Nat) (bbarring : Nat) (bkeys : Nat) (bways : Nat) (bcount : Int32) (bwins : Nat) (bslots : Nat) (bround : Int32) (bworths : Nat) (bpath : Nat) (Fbpath : Nat → Int32) (p0 : Int32) (hh1 : 0 ≤ bcount.toInt ∧ bcount.toInt ≤ 3000) (hh3 : 0 ≤ bround.toInt ∧ bround.toInt ≤ 1048575) (hh5 : Rg 16 0 15 Fbpath) : Met l yX7_pathMove (.code yX7_pathMove cX7_pathMove 2 (some .int) :: gT) ({ frames := 0, cells := 0, slots := 0, locals := 0 }) (va_Pc [.ref h, .int p0] (Pst g sz [(h, .inr (7, [.ref bland, .int bdeathDay, .ref bfreeFrom, .ref bbarring, .ref bkeys, .ref bways, .int bcount, .ref bwins, .ref bslots, .int bround, .ref bworths, .ref bpath])), (bpath, aI g 16 Fbpath)] nX)) (va_Qi (fun (r : Int32) => fun (_ : Unit) => 0 ≤ r.toInt ∧ r.toInt ≤ 15) (Qst g [] sz (fun _ => [])) (va_A [] sz)) 0 0 (va_A [] sz) := by
  refine Met.ofW (cc := cX7_pathMove) (maxL := 2) (ret := (some .int)) (by decide) rfl ?_
  intro p e s m args below meth c s₁ B hml hv
  obtain ⟨rfl, hsz, hP, hK, hD0, hX⟩ := hv
  have hx := B.exec
  have hb := B.bytes
  have hr := B.returns
  have hT : ∀ w ∈ gT, w.before _ s = true := fun w h => atoms_spec (ws := .code yX7_pathMove cX7_pathMove 2 (some .int) :: gT) B.pre w (List.mem_cons_of_mem _ h)
  have hown : s.vm.findClass RX7 = some m.cls := findClass_of_methodNamed B.named
  have hlocks := B.notSynchronized
  subst hsz
  have hD := hD0
  generalize hAe : va_A [] s.heap.size = A at ⊢
  have hA : ∀ q : Nat, s.heap.size ≤ q → A q := fun q h => by rw [← hAe]; exact Or.inr h
  have hS : va_S A s.heap s.heap [] := va_S.rf
  have hl := lv_entry ([.ref h, .int p0]) (n := 2) (Nat.le_of_ble_eq_true rfl)
  rw [lg_entry_eq]
  generalize (lg_sl ([.ref h, .int p0]) ++ List.replicate (2 - (lg_sl ([.ref h, .int p0])).length) Slot.unset).toArray = ls at hl ⊢
  have hl : lv_has ls 2 [(0, .ref h), (1, .int p0)] := hl
  refine p_nH (fun H hH => ?_)
  have hP : va_P g.1 vwCl [(h, .inr (7, [.ref bland, .int bdeathDay, .ref bfreeFrom, .ref bbarring, .ref bkeys, .ref bways, .int bcount, .ref bwins, .ref bslots, .int bround, .ref bworths, .ref bpath])), (bpath, aI g 16 Fbpath)] H := by rw [hH]; exact hP
  have hS : va_S A s.heap H [] := by rw [hH]; exact hS
  refine lv_iload_n hx hb dX7_pathMove_0 rfl (lv_at hl 1 rfl) ?_
  refine lv_if_lt (tgt := 22) hx hb dX7_pathMove_1 (by decide) (fun c_1 => ?_) (fun c_1 => ?_)
  · have f_2 := E_lt (rfl : p0.toInt = _) (by decide : (0 : Int32).toInt = 0) c_1
    refine lv_iconst (v := 0) hx hb dX7_pathMove_22 (by decide) ?_
    have hP9 : va_P g.1 vwCl [] H := hP.sub [] rfl
    have hD9 : va_D A [] := ⟨fun i j p q h => by simp at h, fun k q h => by simp at h⟩
    exact W.iret (v := 0) hx hb hr (fun t ht hW => ⟨⟨0, (), rfl, ⟨by decide, by decide⟩, by rw [ht]; exact hP9, by rw [hAe]; exact hD9⟩, hS.F ht⟩) hS.2.2 dX7_pathMove_23
  · have f_3 := E_nlt (rfl : p0.toInt = _) (by decide : (0 : Int32).toInt = 0) c_1
    refine lv_iload_n hx hb dX7_pathMove_4 rfl (lv_at hl 1 rfl) ?_
    refine lv_aload_n hx hb dX7_pathMove_5 rfl (lv_at hl 0 rfl) ?_
    refine va_get (D := g.1) (ci := 7) (v := .ref bpath) (C := RX7) (T := TX7) (N := 12) hx hb hT inF_X7 hown hK.1 hP 0 rfl rfl 11 (by decide) (hT _ bw_415) (fun _ h9 => h9) rfl dX7_pathMove_6 ?_
    refine va_alen (v := 16) hx hb hK.1 hP 1 1 rfl rfl rfl dX7_pathMove_9 ?_
    refine lv_icmp_ge (tgt := 22) hx hb dX7_pathMove_10 (by decide) (fun c_4 => ?_) (fun c_4 => ?_)
    · have f_5 := E_le (by decide : (16 : Int32).toInt = 16) (rfl : p0.toInt = _) c_4
      refine lv_iconst (v := 0) hx hb dX7_pathMove_22 (by decide) ?_
      have hP9 : va_P g.1 vwCl [] H := hP.sub [] rfl
      have hD9 : va_D A [] := ⟨fun i j p q h => by simp at h, fun k q h => by simp at h⟩
      exact W.iret (v := 0) hx hb hr (fun t ht hW => ⟨⟨0, (), rfl, ⟨by decide, by decide⟩, by rw [ht]; exact hP9, by rw [hAe]; exact hD9⟩, hS.F ht⟩) hS.2.2 dX7_pathMove_23
    · have f_6 := E_nle (by decide : (16 : Int32).toInt = 16) (rfl : p0.toInt = _) c_4
      refine lv_aload_n hx hb dX7_pathMove_13 rfl (lv_at hl 0 rfl) ?_
      refine va_get (D := g.1) (ci := 7) (v := .ref bpath) (C := RX7) (T := TX7) (N := 12) hx hb hT inF_X7 hown hK.1 hP 0 rfl rfl 11 (by decide) (hT _ bw_415) (fun _ h9 => h9) rfl dX7_pathMove_14 ?_
      refine lv_iload_n hx hb dX7_pathMove_17 rfl (lv_at hl 1 rfl) ?_
      have h_7 : vp_in p0 16 := vp_in_iff.mpr (by omega)
      refine va_iald hx hb hK.1 hP 1 1 rfl rfl (i := p0) h_7 dX7_pathMove_18 ?_
      refine lv_topi (fun x_8 ex_8 => ?_)
      have fx_8 : 0 ≤ x_8.toInt ∧ x_8.toInt ≤ 15 := Rg.rd hh5 h_7 ex_8
      have ux_8 := congrArg Int32.toInt ex_8
      refine lv_goto (tgt := 23) hx hb dX7_pathMove_19 (by decide) ?_
      have hP9 : va_P g.1 vwCl [] H := hP.sub [] rfl
      have hD9 : va_D A [] := ⟨fun i j p q h => by simp at h, fun k q h => by simp at h⟩
      exact W.iret (v := x_8) hx hb hr (fun t ht hW => ⟨⟨x_8, (), rfl, (by first | with_reducible assumption | omega), by rw [ht]; exact hP9, by rw [hAe]; exact hD9⟩, hS.F ht⟩) hS.2.2 dX7_pathMove_23

set_option maxHeartbeats 4000000 in
set_option maxRecDepth 100000 in
theorem s_X7_keepPath2 (l : Launch) (g : GG) (sz : Nat) (h : Nat) (bland : Nat) (bdeathDay : Int32) (bfreeFrom : Nat) (bbarring : Nat) (bkeys : Nat) (bways : Nat) (Fbways : Nat → Int32) (bcount : Int32) (bwins : Nat) (bslots : Nat) (bround : Int32) (bworths : Nat) (bpath : Nat) (Fbpath : Nat → Int32) (p0 : Int32) (p1 : Int32) (hh0 : Rg 3000 0 47999 Fbways) (hh1 : 0 ≤ bcount.toInt ∧ bcount.toInt ≤ 3000) (hh3 : 0 ≤ bround.toInt ∧ bround.toInt ≤ 1048575) (hh5 : Rg 16 0 15 Fbpath) (hh6 : 0 ≤ p0.toInt ∧ p0.toInt ≤ 2999) (hh7 : 0 ≤ p1.toInt ∧ p1.toInt ≤ 17) : Met l yX7_keepPath (.code yX7_keepPath cX7_keepPath 5 none :: gT) ({ frames := 1, cells := 0, slots := 0, locals := 60 }) (va_Pc [.ref h, .int p0, .int p1] (Pst g sz [(h, .inr (7, [.ref bland, .int bdeathDay, .ref bfreeFrom, .ref bbarring, .ref bkeys, .ref bways, .int bcount, .ref bwins, .ref bslots, .int bround, .ref bworths, .ref bpath])), (bways, aI g 3000 Fbways), (bpath, aI g 16 Fbpath)] nX)) (va_Qv (fun (o0_F : (Nat → Int32)) => Rg 16 0 15 o0_F) (Qst g [(h, .inr (7, [.ref bland, .int bdeathDay, .ref bfreeFrom, .ref bbarring, .ref bkeys, .ref bways, .int bcount, .ref bwins, .ref bslots, .int bround, .ref bworths, .ref bpath])), (bways, aI g 3000 Fbways), (bpath, aI g 16 Fbpath)] sz (fun (o0_F : (Nat → Int32)) => [(h, .inr (7, [.ref bland, .int bdeathDay, .ref bfreeFrom, .ref bbarring, .ref bkeys, .ref bways, .int bcount, .ref bwins, .ref bslots, .int bround, .ref bworths, .ref bpath])), (bways, aI g 3000 Fbways), (bpath, aI g 16 o0_F)])) (va_A [(h, .inr (7, [.ref bland, .int bdeathDay, .ref bfreeFrom, .ref bbarring, .ref bkeys, .ref bways, .int bcount, .ref bwins, .ref bslots, .int bround, .ref bworths, .ref bpath])), (bways, aI g 3000 Fbways), (bpath, aI g 16 Fbpath)] sz)) 0 0 (va_A [(h, .inr (7, [.ref bland, .int bdeathDay, .ref bfreeFrom, .ref bbarring, .ref bkeys, .ref bways, .int bcount, .ref bwins, .ref bslots, .int bround, .ref bworths, .ref bpath])), (bways, aI g 3000 Fbways), (bpath, aI g 16 Fbpath)] sz) := by
  refine Met.ofW (cc := cX7_keepPath) (maxL := 5) (ret := none) (by decide) rfl ?_
  intro p e s m args below meth c s₁ B hml hv
  obtain ⟨rfl, hsz, hP, hK, hD0, hX⟩ := hv
  have hx := B.exec
  have hb := B.bytes
  have hr := B.returns
  have hT : ∀ w ∈ gT, w.before _ s = true := fun w h => atoms_spec (ws := .code yX7_keepPath cX7_keepPath 5 none :: gT) B.pre w (List.mem_cons_of_mem _ h)
  have hown : s.vm.findClass RX7 = some m.cls := findClass_of_methodNamed B.named
  have hlocks := B.notSynchronized
  subst hsz
  have hD := hD0.self (sz := s.heap.size)
  generalize hAe : va_A [(h, .inr (7, [.ref bland, .int bdeathDay, .ref bfreeFrom, .ref bbarring, .ref bkeys, .ref bways, .int bcount, .ref bwins, .ref bslots, .int bround, .ref bworths, .ref bpath])), (bways, aI g 3000 Fbways), (bpath, aI g 16 Fbpath)] s.heap.size = A at hD ⊢
  have hA : ∀ q : Nat, s.heap.size ≤ q → A q := fun q h => by rw [← hAe]; exact Or.inr h
  have hS : va_S A s.heap s.heap [] := va_S.rf
  have hl := lv_entry ([.ref h, .int p0, .int p1]) (n := 5) (Nat.le_of_ble_eq_true rfl)
  rw [lg_entry_eq]
  generalize (lg_sl ([.ref h, .int p0, .int p1]) ++ List.replicate (5 - (lg_sl ([.ref h, .int p0, .int p1])).length) Slot.unset).toArray = ls at hl ⊢
  have hl : lv_has ls 5 [(0, .ref h), (1, .int p0), (2, .int p1)] := hl
  refine p_nH (fun H hH => ?_)
  have hP : va_P g.1 vwCl [(h, .inr (7, [.ref bland, .int bdeathDay, .ref bfreeFrom, .ref bbarring, .ref bkeys, .ref bways, .int bcount, .ref bwins, .ref bslots, .int bround, .ref bworths, .ref bpath])), (bways, aI g 3000 Fbways), (bpath, aI g 16 Fbpath)] H := by rw [hH]; exact hP
  have hS : va_S A s.heap H [] := by rw [hH]; exact hS
  refine lv_iload_n hx hb dX7_keepPath_0 rfl (lv_at hl 1 rfl) ?_
  refine lv_istore_n (lv' := [(3, .int p0), (0, .ref h), (1, .int p0), (2, .int p1)]) hx hb dX7_keepPath_1 rfl hl (by decide) rfl (fun ls hl => ?_)
  refine lv_iload_n hx hb dX7_keepPath_2 rfl (lv_at hl 3 rfl) ?_
  refine lv_aload_n hx hb dX7_keepPath_3 rfl (lv_at hl 1 rfl) ?_
  refine va_get (D := g.1) (ci := 7) (v := .ref bpath) (C := RX7) (T := TX7) (N := 12) hx hb hT inF_X7 hown hK.1 hP 0 rfl rfl 11 (by decide) (hT _ bw_415) (fun _ h9 => h9) rfl dX7_keepPath_4 ?_
  refine va_alen (v := 16) hx hb hK.1 hP 2 1 rfl rfl rfl dX7_keepPath_7 ?_
  refine va_mmin hx hb (hml.trans hl.1.symm) hown (hT _ bw_438) (hT _ bw_160) (hT _ bw_161) (hT _ bw_159) (Nat.le_of_ble_eq_true rfl) (Nat.le_of_ble_eq_true rfl) (Nat.le_of_ble_eq_true rfl) (Nat.le_of_ble_eq_true rfl) dX7_keepPath_8 ?_
  refine lv_topi (fun x_1 ex_1 => ?_)
  have fx_1 : x_1.toInt = min p1.toInt 16 := by rw [ex_1]; exact I_min rfl (by decide : (16 : Int32).toInt = 16)
  refine lv_iconst (v := 1) hx hb dX7_keepPath_11 (by decide) ?_
  refine lv_isub hx hb dX7_keepPath_12 ?_
  refine lv_topi (fun x_2 ex_2 => ?_)
  have fx_2 : x_2.toInt = x_1.toInt - 1 := by rw [ex_2]; exact I_sub rfl (by decide : (1 : Int32).toInt = 1) (by omega) (by omega)
  refine lv_istore (lv' := [(4, .int x_2), (3, .int p0), (0, .ref h), (1, .int p0), (2, .int p1)]) hx hb dX7_keepPath_13 hl (by decide) rfl (fun ls hl => ?_)
  refine k_floop 15 (fun n H locs ls => ∃ (L_3 : Int32) (L_4 : Int32) (f_5 : Nat → Int32), ((-1) ≤ L_3.toInt ∧ L_3.toInt ≤ 15) ∧ (0 ≤ L_4.toInt ∧ L_4.toInt ≤ 2999) ∧ (Rg 16 0 15 f_5) ∧ L_3.toInt + 1 ≤ (n : Int) ∧ va_P g.1 vwCl [(h, .inr (7, [.ref bland, .int bdeathDay, .ref bfreeFrom, .ref bbarring, .ref bkeys, .ref bways, .int bcount, .ref bwins, .ref bslots, .int bround, .ref bworths, .ref bpath])), (bways, aI g 3000 Fbways), (bpath, aI g 16 f_5)] H ∧ va_D A [(h, .inr (7, [.ref bland, .int bdeathDay, .ref bfreeFrom, .ref bbarring, .ref bkeys, .ref bways, .int bcount, .ref bwins, .ref bslots, .int bround, .ref bworths, .ref bpath])), (bways, aI g 3000 Fbways), (bpath, aI g 16 f_5)] ∧ va_S A s.heap H locs ∧ lv_has ls 5 [(4, .int L_3), (3, .int L_4), (0, .ref h), (1, .int p0), (2, .int p1)]) (fun n H locs ls hI ih => ?_) ((x_2.toInt + 1 : Int)).toNat ⟨x_2, p0, Fbpath, (by first | with_reducible assumption | omega), (by first | with_reducible assumption | omega), hh5, by omega, hP, hD, hS, hl⟩
  refine hI.elim (fun L_3 hI => hI.elim (fun L_4 hI => hI.elim (fun f_5 hI => ?_)))
  have g_6 := hI.1
  have g_7 := hI.2.1
  have g_8 := hI.2.2.1
  have hm_9 := hI.2.2.2.1
  have hP := hI.2.2.2.2.1
  have hD := hI.2.2.2.2.2.1
  have hS := hI.2.2.2.2.2.2.1
  have hl := hI.2.2.2.2.2.2.2
  clear hI
  refine lv_iload hx hb dX7_keepPath_15 (lv_at hl 0 rfl) ?_
  refine lv_if_lt (tgt := 52) hx hb dX7_keepPath_17 (by decide) (fun c_10 => ?_) (fun c_10 => ?_)
  · have f_11 := E_lt (rfl : L_3.toInt = _) (by decide : (0 : Int32).toInt = 0) c_10
    have hP9 : va_P g.1 vwCl [(h, .inr (7, [.ref bland, .int bdeathDay, .ref bfreeFrom, .ref bbarring, .ref bkeys, .ref bways, .int bcount, .ref bwins, .ref bslots, .int bround, .ref bworths, .ref bpath])), (bways, aI g 3000 Fbways), (bpath, aI g 16 f_5)] H := hP.sub [0, 1, 2] rfl
    have hD9 : va_D A [(h, .inr (7, [.ref bland, .int bdeathDay, .ref bfreeFrom, .ref bbarring, .ref bkeys, .ref bways, .int bcount, .ref bwins, .ref bslots, .int bround, .ref bworths, .ref bpath])), (bways, aI g 3000 Fbways), (bpath, aI g 16 f_5)] := hD.sub [0, 1, 2] (by decide +kernel) rfl
    exact W.vret hx hb hr (fun t ht hW => ⟨⟨f_5, rfl, g_8, by rw [ht]; exact hP9, by rw [hAe]; exact hD9⟩, hS.F ht⟩) hS.2.2 dX7_keepPath_52
  · have f_12 := E_nlt (rfl : L_3.toInt = _) (by decide : (0 : Int32).toInt = 0) c_10
    refine lv_aload_n hx hb dX7_keepPath_20 rfl (lv_at hl 2 rfl) ?_
    refine va_get (D := g.1) (ci := 7) (v := .ref bpath) (C := RX7) (T := TX7) (N := 12) hx hb hT inF_X7 hown hK.1 hP 0 rfl rfl 11 (by decide) (hT _ bw_415) (fun _ h9 => h9) rfl dX7_keepPath_21 ?_
    refine lv_iload hx hb dX7_keepPath_24 (lv_at hl 0 rfl) ?_
    refine lv_aload_n hx hb dX7_keepPath_26 rfl (lv_at hl 2 rfl) ?_
    refine va_get (D := g.1) (ci := 7) (v := .ref bways) (C := RX7) (T := TX7) (N := 12) hx hb hT inF_X7 hown hK.1 hP 0 rfl rfl 5 (by decide) (hT _ bw_441) (fun _ h9 => h9) rfl dX7_keepPath_27 ?_
    refine lv_iload_n hx hb dX7_keepPath_30 rfl (lv_at hl 1 rfl) ?_
    have h_13 : vp_in L_4 3000 := vp_in_iff.mpr (by omega)
    refine va_iald hx hb hK.1 hP 1 1 rfl rfl (i := L_4) h_13 dX7_keepPath_31 ?_
    refine lv_topi (fun x_14 ex_14 => ?_)
    have fx_14 : 0 ≤ x_14.toInt ∧ x_14.toInt ≤ 47999 := Rg.rd hh0 h_13 ex_14
    have ux_14 := congrArg Int32.toInt ex_14
    refine lv_bipush (v := 16) hx hb dX7_keepPath_32 (by decide) ?_
    refine lv_irem hx hb dX7_keepPath_34 (by decide) ?_
    refine lv_topi (fun x_15 ex_15 => ?_)
    have fx_15 : x_15.toInt = x_14.toInt % 16 := by rw [ex_15]; exact I_rem rfl (by decide : (16 : Int32).toInt = 16) (by omega) (by decide)
    have h_16 : vp_in L_3 16 := vp_in_iff.mpr (by omega)
    refine va_iast hx hb hK.1 hP hD hS 2 1 rfl rfl (i := L_3) (x := x_15) h_16 dX7_keepPath_35 (fun H locs hP hD hS => ?_)
    have gf_17 : Rg 16 0 15 (upd f_5 (L_3 : Int32).toNatClampNeg x_15) := Rg.upd g_8 (by omega)
    generalize upd f_5 (L_3 : Int32).toNatClampNeg x_15 = f_17 at hP hD gf_17
    have hP : va_P g.1 vwCl [(h, .inr (7, [.ref bland, .int bdeathDay, .ref bfreeFrom, .ref bbarring, .ref bkeys, .ref bways, .int bcount, .ref bwins, .ref bslots, .int bround, .ref bworths, .ref bpath])), (bways, aI g 3000 Fbways), (bpath, aI g 16 f_17)] H := hP
    have hD : va_D A [(h, .inr (7, [.ref bland, .int bdeathDay, .ref bfreeFrom, .ref bbarring, .ref bkeys, .ref bways, .int bcount, .ref bwins, .ref bslots, .int bround, .ref bworths, .ref bpath])), (bways, aI g 3000 Fbways), (bpath, aI g 16 f_17)] := hD
    refine lv_aload_n hx hb dX7_keepPath_36 rfl (lv_at hl 2 rfl) ?_
    refine va_get (D := g.1) (ci := 7) (v := .ref bways) (C := RX7) (T := TX7) (N := 12) hx hb hT inF_X7 hown hK.1 hP 0 rfl rfl 5 (by decide) (hT _ bw_441) (fun _ h9 => h9) rfl dX7_keepPath_37 ?_
    refine lv_iload_n hx hb dX7_keepPath_40 rfl (lv_at hl 1 rfl) ?_
    have h_18 : vp_in L_4 3000 := vp_in_iff.mpr (by omega)
    refine va_iald hx hb hK.1 hP 1 1 rfl rfl (i := L_4) h_18 dX7_keepPath_41 ?_
    refine lv_topi (fun x_19 ex_19 => ?_)
    have fx_19 : 0 ≤ x_19.toInt ∧ x_19.toInt ≤ 47999 := Rg.rd hh0 h_18 ex_19
    have ux_19 := congrArg Int32.toInt ex_19
    refine lv_bipush (v := 16) hx hb dX7_keepPath_42 (by decide) ?_
    refine lv_idiv hx hb dX7_keepPath_44 (by decide) ?_
    refine lv_topi (fun x_20 ex_20 => ?_)
    have fx_20 : x_20.toInt = x_19.toInt / 16 := by rw [ex_20]; exact I_div rfl (by decide : (16 : Int32).toInt = 16) (by omega) (by decide)
    refine lv_istore_n (lv' := [(3, .int x_20), (4, .int L_3), (0, .ref h), (1, .int p0), (2, .int p1)]) hx hb dX7_keepPath_45 rfl hl (by decide) rfl (fun ls hl => ?_)
    obtain ⟨x_21, ex_21⟩ : ∃ y : Int32, y = L_3 + (-1) := ⟨_, rfl⟩
    have fx_21 : x_21.toInt = L_3.toInt + (-1) := by rw [ex_21]; exact I_add rfl (by decide) (by omega) (by omega)
    refine lv_iinc (v := x_21) (lv' := [(4, .int x_21), (3, .int x_20), (0, .ref h), (1, .int p0), (2, .int p1)]) hx hb dX7_keepPath_46 hl (k := 1) rfl (by rw [ex_21]; rfl) (by decide) rfl (fun ls hl => ?_)
    refine lv_goto (tgt := 15) hx hb dX7_keepPath_49 (by decide) ?_
    exact ih (n - 1) (by omega) H locs ls ⟨x_21, x_20, f_17, (by first | with_reducible assumption | omega), (by first | with_reducible assumption | omega), gf_17, by omega, hP.sub [0, 1, 2] rfl, hD.sub [0, 1, 2] (by decide +kernel) rfl, hS, lv_sub hl [0, 1, 2, 3, 4] rfl⟩

set_option maxHeartbeats 4000000 in
set_option maxRecDepth 100000 in
theorem s_X7_keyBehind2 (l : Launch) (g : GG) (sz : Nat) (h : Nat) (bland : Nat) (bdeathDay : Int32) (bfreeFrom : Nat) (bbarring : Nat) (bkeys : Nat) (Fbkeys : Nat → Int32) (bways : Nat) (bcount : Int32) (bwins : Nat) (bslots : Nat) (bround : Int32) (bworths : Nat) (Fbworths : Nat → Int32) (bpath : Nat) (dduels : Int32) (dduelSides : Nat) (dduelMornings : Nat) (dhonour : Int32) (ddraw : Int32) (dusesOfKind : Nat) (FdusesOfKind : Nat → Int32) (dmen : Nat) (dformulas : Nat) (dformulas_count : Int32) (dformulas_units : Int32) (dformulas_names : Nat) (dformulas_unitsOfThis : Int32) (dformulas_length : Int32) (dformulas_starts : Nat) (Fdformulas_starts : Nat → Int32) (dformulas_steps : Nat) (Fdformulas_steps : Nat → Int32) (dformulas_stack : Nat) (Fdformulas_stack : Nat → Int32) (dreasons : Nat) (dreasons_count : Int32) (dreasons_names : Nat) (dreasons_kinds : Nat) (Fdreasons_kinds : Nat → Int32) (dreasons_owners : Nat) (dreasons_froms : Nat) (dreasons_tos : Nat) (dreasons_rents : Nat) (dreasons_sorts : Nat) (p0 : Int32) (p1 : Int32) (hh1 : 0 ≤ bcount.toInt ∧ bcount.toInt ≤ 3000) (hh3 : 0 ≤ bround.toInt ∧ bround.toInt ≤ 1048575) (hh4 : Rg 4 0 365 Fbworths) (hh6 : 0 ≤ dduels.toInt ∧ dduels.toInt ≤ 6) (hh8 : 0 ≤ ddraw.toInt ∧ ddraw.toInt ≤ 999) (hh10 : 0 ≤ dformulas_count.toInt ∧ dformulas_count.toInt ≤ 4) (hh11 : 0 ≤ dformulas_units.toInt ∧ dformulas_units.toInt ≤ 60) (hh12 : 0 ≤ dformulas_unitsOfThis.toInt ∧ dformulas_unitsOfThis.toInt ≤ 30) (hh13 : 0 ≤ dformulas_length.toInt ∧ dformulas_length.toInt ≤ 640) (hh14 : Rg 5 0 640 Fdformulas_starts) (hh15 : 0 ≤ dreasons_count.toInt ∧ dreasons_count.toInt ≤ 8) (hh16 : Rg 8 0 3 Fdreasons_kinds) (hh18 : 0 ≤ p0.toInt ∧ p0.toInt ≤ 2999) (hh19 : 0 ≤ p1.toInt ∧ p1.toInt ≤ 15) : Met l yX7_keyBehind (.code yX7_keyBehind cX7_keyBehind 5 (some .int) :: gT) ({ frames := 3, cells := 0, slots := 0, locals := 85 }) (va_Pc [.ref h, .int p0, .int p1] (Pst g sz [(h, .inr (7, [.ref bland, .int bdeathDay, .ref bfreeFrom, .ref bbarring, .ref bkeys, .ref bways, .int bcount, .ref bwins, .ref bslots, .int bround, .ref bworths, .ref bpath])), (bkeys, aI g 3000 Fbkeys), (bworths, aI g 4 Fbworths), (bland, .inr (2, [.ref dmen, .ref dformulas, .ref dreasons, .int dduels, .ref dduelSides, .ref dduelMornings, .int dhonour, .int ddraw, .ref dusesOfKind])), (dusesOfKind, aI g 4 FdusesOfKind), (dformulas, .inr (0, [.int dformulas_count, .int dformulas_units, .ref dformulas_names, .int dformulas_unitsOfThis, .int dformulas_length, .ref dformulas_starts, .ref dformulas_steps, .ref dformulas_stack])), (dformulas_starts, aI g 5 Fdformulas_starts), (dformulas_steps, aI g 640 Fdformulas_steps), (dformulas_stack, aI g 32 Fdformulas_stack), (dreasons, .inr (6, [.int dreasons_count, .ref dreasons_names, .ref dreasons_kinds, .ref dreasons_owners, .ref dreasons_froms, .ref dreasons_tos, .ref dreasons_rents, .ref dreasons_sorts])), (dreasons_kinds, aI g 8 Fdreasons_kinds)] nX)) (va_Qi (fun (r : Int32) => fun ((o0_F, o1_F) : (Nat → Int32) × (Nat → Int32)) => (Kb (Fbkeys p0.toNatClampNeg) ≤ Kb r) ∧ (Rg 4 0 365 o0_F)) (Qst g [(h, .inr (7, [.ref bland, .int bdeathDay, .ref bfreeFrom, .ref bbarring, .ref bkeys, .ref bways, .int bcount, .ref bwins, .ref bslots, .int bround, .ref bworths, .ref bpath])), (bkeys, aI g 3000 Fbkeys), (bworths, aI g 4 Fbworths), (bland, .inr (2, [.ref dmen, .ref dformulas, .ref dreasons, .int dduels, .ref dduelSides, .ref dduelMornings, .int dhonour, .int ddraw, .ref dusesOfKind])), (dusesOfKind, aI g 4 FdusesOfKind), (dformulas, .inr (0, [.int dformulas_count, .int dformulas_units, .ref dformulas_names, .int dformulas_unitsOfThis, .int dformulas_length, .ref dformulas_starts, .ref dformulas_steps, .ref dformulas_stack])), (dformulas_starts, aI g 5 Fdformulas_starts), (dformulas_steps, aI g 640 Fdformulas_steps), (dformulas_stack, aI g 32 Fdformulas_stack), (dreasons, .inr (6, [.int dreasons_count, .ref dreasons_names, .ref dreasons_kinds, .ref dreasons_owners, .ref dreasons_froms, .ref dreasons_tos, .ref dreasons_rents, .ref dreasons_sorts])), (dreasons_kinds, aI g 8 Fdreasons_kinds)] sz (fun ((o0_F, o1_F) : (Nat → Int32) × (Nat → Int32)) => [(h, .inr (7, [.ref bland, .int bdeathDay, .ref bfreeFrom, .ref bbarring, .ref bkeys, .ref bways, .int bcount, .ref bwins, .ref bslots, .int bround, .ref bworths, .ref bpath])), (bkeys, aI g 3000 Fbkeys), (bworths, aI g 4 o0_F), (bland, .inr (2, [.ref dmen, .ref dformulas, .ref dreasons, .int dduels, .ref dduelSides, .ref dduelMornings, .int dhonour, .int ddraw, .ref dusesOfKind])), (dusesOfKind, aI g 4 FdusesOfKind), (dformulas, .inr (0, [.int dformulas_count, .int dformulas_units, .ref dformulas_names, .int dformulas_unitsOfThis, .int dformulas_length, .ref dformulas_starts, .ref dformulas_steps, .ref dformulas_stack])), (dformulas_starts, aI g 5 Fdformulas_starts), (dformulas_steps, aI g 640 Fdformulas_steps), (dformulas_stack, aI g 32 o1_F), (dreasons, .inr (6, [.int dreasons_count, .ref dreasons_names, .ref dreasons_kinds, .ref dreasons_owners, .ref dreasons_froms, .ref dreasons_tos, .ref dreasons_rents, .ref dreasons_sorts])), (dreasons_kinds, aI g 8 Fdreasons_kinds)])) (va_A [(h, .inr (7, [.ref bland, .int bdeathDay, .ref bfreeFrom, .ref bbarring, .ref bkeys, .ref bways, .int bcount, .ref bwins, .ref bslots, .int bround, .ref bworths, .ref bpath])), (bkeys, aI g 3000 Fbkeys), (bworths, aI g 4 Fbworths), (bland, .inr (2, [.ref dmen, .ref dformulas, .ref dreasons, .int dduels, .ref dduelSides, .ref dduelMornings, .int dhonour, .int ddraw, .ref dusesOfKind])), (dusesOfKind, aI g 4 FdusesOfKind), (dformulas, .inr (0, [.int dformulas_count, .int dformulas_units, .ref dformulas_names, .int dformulas_unitsOfThis, .int dformulas_length, .ref dformulas_starts, .ref dformulas_steps, .ref dformulas_stack])), (dformulas_starts, aI g 5 Fdformulas_starts), (dformulas_steps, aI g 640 Fdformulas_steps), (dformulas_stack, aI g 32 Fdformulas_stack), (dreasons, .inr (6, [.int dreasons_count, .ref dreasons_names, .ref dreasons_kinds, .ref dreasons_owners, .ref dreasons_froms, .ref dreasons_tos, .ref dreasons_rents, .ref dreasons_sorts])), (dreasons_kinds, aI g 8 Fdreasons_kinds)] sz)) 0 0 (va_A [(h, .inr (7, [.ref bland, .int bdeathDay, .ref bfreeFrom, .ref bbarring, .ref bkeys, .ref bways, .int bcount, .ref bwins, .ref bslots, .int bround, .ref bworths, .ref bpath])), (bkeys, aI g 3000 Fbkeys), (bworths, aI g 4 Fbworths), (bland, .inr (2, [.ref dmen, .ref dformulas, .ref dreasons, .int dduels, .ref dduelSides, .ref dduelMornings, .int dhonour, .int ddraw, .ref dusesOfKind])), (dusesOfKind, aI g 4 FdusesOfKind), (dformulas, .inr (0, [.int dformulas_count, .int dformulas_units, .ref dformulas_names, .int dformulas_unitsOfThis, .int dformulas_length, .ref dformulas_starts, .ref dformulas_steps, .ref dformulas_stack])), (dformulas_starts, aI g 5 Fdformulas_starts), (dformulas_steps, aI g 640 Fdformulas_steps), (dformulas_stack, aI g 32 Fdformulas_stack), (dreasons, .inr (6, [.int dreasons_count, .ref dreasons_names, .ref dreasons_kinds, .ref dreasons_owners, .ref dreasons_froms, .ref dreasons_tos, .ref dreasons_rents, .ref dreasons_sorts])), (dreasons_kinds, aI g 8 Fdreasons_kinds)] sz) := by
  refine Met.ofW (cc := cX7_keyBehind) (maxL := 5) (ret := (some .int)) (by decide) rfl ?_
  intro p e s m args below meth c s₁ B hml hv
  obtain ⟨rfl, hsz, hP, hK, hD0, hX⟩ := hv
  have hx := B.exec
  have hb := B.bytes
  have hr := B.returns
  have hT : ∀ w ∈ gT, w.before _ s = true := fun w h => atoms_spec (ws := .code yX7_keyBehind cX7_keyBehind 5 (some .int) :: gT) B.pre w (List.mem_cons_of_mem _ h)
  have hown : s.vm.findClass RX7 = some m.cls := findClass_of_methodNamed B.named
  have hlocks := B.notSynchronized
  subst hsz
  have hD := hD0.self (sz := s.heap.size)
  generalize hAe : va_A [(h, .inr (7, [.ref bland, .int bdeathDay, .ref bfreeFrom, .ref bbarring, .ref bkeys, .ref bways, .int bcount, .ref bwins, .ref bslots, .int bround, .ref bworths, .ref bpath])), (bkeys, aI g 3000 Fbkeys), (bworths, aI g 4 Fbworths), (bland, .inr (2, [.ref dmen, .ref dformulas, .ref dreasons, .int dduels, .ref dduelSides, .ref dduelMornings, .int dhonour, .int ddraw, .ref dusesOfKind])), (dusesOfKind, aI g 4 FdusesOfKind), (dformulas, .inr (0, [.int dformulas_count, .int dformulas_units, .ref dformulas_names, .int dformulas_unitsOfThis, .int dformulas_length, .ref dformulas_starts, .ref dformulas_steps, .ref dformulas_stack])), (dformulas_starts, aI g 5 Fdformulas_starts), (dformulas_steps, aI g 640 Fdformulas_steps), (dformulas_stack, aI g 32 Fdformulas_stack), (dreasons, .inr (6, [.int dreasons_count, .ref dreasons_names, .ref dreasons_kinds, .ref dreasons_owners, .ref dreasons_froms, .ref dreasons_tos, .ref dreasons_rents, .ref dreasons_sorts])), (dreasons_kinds, aI g 8 Fdreasons_kinds)] s.heap.size = A at hD ⊢
  have hA : ∀ q : Nat, s.heap.size ≤ q → A q := fun q h => by rw [← hAe]; exact Or.inr h
  have hS : va_S A s.heap s.heap [] := va_S.rf
  have hl := lv_entry ([.ref h, .int p0, .int p1]) (n := 5) (Nat.le_of_ble_eq_true rfl)
  rw [lg_entry_eq]
  generalize (lg_sl ([.ref h, .int p0, .int p1]) ++ List.replicate (5 - (lg_sl ([.ref h, .int p0, .int p1])).length) Slot.unset).toArray = ls at hl ⊢
  have hl : lv_has ls 5 [(0, .ref h), (1, .int p0), (2, .int p1)] := hl
  refine p_nH (fun H hH => ?_)
  have hP : va_P g.1 vwCl [(h, .inr (7, [.ref bland, .int bdeathDay, .ref bfreeFrom, .ref bbarring, .ref bkeys, .ref bways, .int bcount, .ref bwins, .ref bslots, .int bround, .ref bworths, .ref bpath])), (bkeys, aI g 3000 Fbkeys), (bworths, aI g 4 Fbworths), (bland, .inr (2, [.ref dmen, .ref dformulas, .ref dreasons, .int dduels, .ref dduelSides, .ref dduelMornings, .int dhonour, .int ddraw, .ref dusesOfKind])), (dusesOfKind, aI g 4 FdusesOfKind), (dformulas, .inr (0, [.int dformulas_count, .int dformulas_units, .ref dformulas_names, .int dformulas_unitsOfThis, .int dformulas_length, .ref dformulas_starts, .ref dformulas_steps, .ref dformulas_stack])), (dformulas_starts, aI g 5 Fdformulas_starts), (dformulas_steps, aI g 640 Fdformulas_steps), (dformulas_stack, aI g 32 Fdformulas_stack), (dreasons, .inr (6, [.int dreasons_count, .ref dreasons_names, .ref dreasons_kinds, .ref dreasons_owners, .ref dreasons_froms, .ref dreasons_tos, .ref dreasons_rents, .ref dreasons_sorts])), (dreasons_kinds, aI g 8 Fdreasons_kinds)] H := by rw [hH]; exact hP
  have hS : va_S A s.heap H [] := by rw [hH]; exact hS
  refine lv_aload_n hx hb dX7_keyBehind_0 rfl (lv_at hl 0 rfl) ?_
  refine va_get (D := g.1) (ci := 7) (v := .ref bland) (C := RX7) (T := TX7) (N := 12) hx hb hT inF_X7 hown hK.1 hP 0 rfl rfl 0 (by decide) (hT _ bw_428) (fun _ h9 => h9) rfl dX7_keyBehind_1 ?_
  refine va_get (D := g.1) (ci := 2) (v := .ref dreasons) (C := RX2) (T := TX2) (N := 9) hx hb hT inF_X2 hown hK.1 hP 3 rfl rfl 2 (by decide) (hT _ bw_429) (fun _ h9 => h9) rfl dX7_keyBehind_4 ?_
  refine va_get (D := g.1) (ci := 6) (v := .ref dreasons_kinds) (C := RX6) (T := TX6) (N := 8) hx hb hT inF_X6 hown hK.1 hP 9 rfl rfl 2 (by decide) (hT _ bw_436) (fun _ h9 => h9) rfl dX7_keyBehind_7 ?_
  refine lv_iload_n hx hb dX7_keyBehind_10 rfl (lv_at hl 2 rfl) ?_
  refine lv_bipush (v := 8) hx hb dX7_keyBehind_11 (by decide) ?_
  refine lv_irem hx hb dX7_keyBehind_13 (by decide) ?_
  refine lv_topi (fun x_1 ex_1 => ?_)
  have fx_1 : x_1.toInt = p1.toInt % 8 := by rw [ex_1]; exact I_rem rfl (by decide : (8 : Int32).toInt = 8) (by omega) (by decide)
  have h_2 : vp_in x_1 8 := vp_in_iff.mpr (by omega)
  refine va_iald hx hb hK.1 hP 10 1 rfl rfl (i := x_1) h_2 dX7_keyBehind_14 ?_
  refine lv_topi (fun x_3 ex_3 => ?_)
  have fx_3 : 0 ≤ x_3.toInt ∧ x_3.toInt ≤ 3 := Rg.rd hh16 h_2 ex_3
  have ux_3 := congrArg Int32.toInt ex_3
  refine lv_istore_n (lv' := [(3, .int x_3), (0, .ref h), (1, .int p0), (2, .int p1)]) hx hb dX7_keyBehind_15 rfl hl (by decide) rfl (fun ls hl => ?_)
  refine lv_aload_n hx hb dX7_keyBehind_16 rfl (lv_at hl 1 rfl) ?_
  refine va_get (D := g.1) (ci := 7) (v := .ref bworths) (C := RX7) (T := TX7) (N := 12) hx hb hT inF_X7 hown hK.1 hP 0 rfl rfl 10 (by decide) (hT _ bw_437) (fun _ h9 => h9) rfl dX7_keyBehind_17 ?_
  refine lv_iload_n hx hb dX7_keyBehind_20 rfl (lv_at hl 0 rfl) ?_
  have h_4 : vp_in x_3 4 := vp_in_iff.mpr (by omega)
  refine va_iald hx hb hK.1 hP 2 1 rfl rfl (i := x_3) h_4 dX7_keyBehind_21 ?_
  refine lv_topi (fun x_5 ex_5 => ?_)
  have fx_5 : 0 ≤ x_5.toInt ∧ x_5.toInt ≤ 365 := Rg.rd hh4 h_4 ex_5
  have ux_5 := congrArg Int32.toInt ex_5
  refine lv_if_ne (tgt := 49) hx hb dX7_keyBehind_22 (by decide) (fun c_6 => ?_) (fun c_6 => ?_)
  · have f_7 := E_ne (rfl : x_5.toInt = _) (by decide : (0 : Int32).toInt = 0) c_6
    refine lv_aload_n hx hb dX7_keyBehind_49 rfl (lv_at hl 1 rfl) ?_
    refine lv_iload_n hx hb dX7_keyBehind_50 rfl (lv_at hl 2 rfl) ?_
    refine k_iR (k_V (n := 1) ⟨hx, hb, hml, hown, hT⟩ hK hP hD [0, 1] rfl (by decide +kernel) (s_X7_usedOf2 l g H.size h bland bdeathDay bfreeFrom bbarring bkeys Fbkeys bways bcount bwins bslots bround bworths bpath p0 (by first | with_reducible assumption | omega) (by first | with_reducible assumption | omega) (by first | with_reducible assumption | omega)) (gV bw_431 bw_432 bw_433 bw_426 bw_418) rfl rfl (by decide +kernel) ⟨by decide, by decide⟩ (ci := 7) (q0 := 0) rfl rfl (fun _ _ _ _ _ => trivial) (fun _ _ _ => trivial) rfl rfl hl.1 (Nat.le_of_ble_eq_true rfl) dX7_keyBehind_51 ⟨by decide, by decide⟩) hP hS hA (fun r_8 _ H locs hw0 hP hS => ?_)
    have hw : ((-131072) ≤ r_8.toInt ∧ r_8.toInt ≤ 131071) ∧ (r_8 = Fbkeys p0.toNatClampNeg >>> ((14 : Int32) &&& 31)) := hw0
    clear hw0
    have w_9 := hw.1
    have w_10 := hw.2
    clear hw
    refine lv_iconst (v := 1) hx hb dX7_keyBehind_54 (by decide) ?_
    refine lv_iload_n hx hb dX7_keyBehind_55 rfl (lv_at hl 3 rfl) ?_
    refine lv_ishl hx hb dX7_keyBehind_56 ?_
    refine lv_topi (fun x_11 ex_11 => ?_)
    have fx_11 : 1 ≤ x_11.toInt ∧ x_11.toInt ≤ 32768 := by rw [ex_11]; exact I_shl1 15 32768 (by decide) rfl (by omega) (by omega) (by decide)
    refine lv_ior hx hb dX7_keyBehind_57 ?_
    refine lv_topi (fun x_12 ex_12 => ?_)
    refine lv_istore (lv' := [(4, .int x_12), (3, .int x_3), (0, .ref h), (1, .int p0), (2, .int p1)]) hx hb dX7_keyBehind_58 hl (by decide) rfl (fun ls hl => ?_)
    refine lv_iload hx hb dX7_keyBehind_60 (lv_at hl 0 rfl) ?_
    refine lv_bipush (v := 14) hx hb dX7_keyBehind_62 (by decide) ?_
    refine lv_ishl hx hb dX7_keyBehind_64 ?_
    refine lv_topi (fun x_13 ex_13 => ?_)
    refine lv_sipush (v := 9999) hx hb dX7_keyBehind_65 (by decide) ?_
    refine lv_aload_n hx hb dX7_keyBehind_68 rfl (lv_at hl 2 rfl) ?_
    refine lv_iload_n hx hb dX7_keyBehind_69 rfl (lv_at hl 3 rfl) ?_
    refine k_iR (k_V (n := 1) ⟨hx, hb, hml, hown, hT⟩ hK hP hD [0, 1] rfl (by decide +kernel) (s_X7_morningOf l g H.size h bland bdeathDay bfreeFrom bbarring bkeys Fbkeys bways bcount bwins bslots bround bworths bpath p0 (by first | with_reducible assumption | omega) (by first | with_reducible assumption | omega) (by first | with_reducible assumption | omega)) (gV bw_423 bw_424 bw_425 bw_426 bw_419) rfl rfl (by decide +kernel) ⟨by decide, by decide⟩ (ci := 7) (q0 := 0) rfl rfl (fun _ _ _ _ _ => trivial) (fun _ _ _ => trivial) rfl rfl hl.1 (Nat.le_of_ble_eq_true rfl) dX7_keyBehind_70 ⟨by decide, by decide⟩) hP hS hA (fun r_14 _ H locs hw0 hP hS => ?_)
    have hw : 0 ≤ r_14.toInt ∧ r_14.toInt ≤ 16383 := hw0
    clear hw0
    have w_15 := hw
    refine lv_aload_n hx hb dX7_keyBehind_73 rfl (lv_at hl 2 rfl) ?_
    refine va_get (D := g.1) (ci := 7) (v := .ref bworths) (C := RX7) (T := TX7) (N := 12) hx hb hT inF_X7 hown hK.1 hP 0 rfl rfl 10 (by decide) (hT _ bw_437) (fun _ h9 => h9) rfl dX7_keyBehind_74 ?_
    refine lv_iload_n hx hb dX7_keyBehind_77 rfl (lv_at hl 1 rfl) ?_
    have h_16 : vp_in x_3 4 := vp_in_iff.mpr (by omega)
    refine va_iald hx hb hK.1 hP 2 1 rfl rfl (i := x_3) h_16 dX7_keyBehind_78 ?_
    refine lv_topi (fun x_17 ex_17 => ?_)
    have fx_17 : 0 ≤ x_17.toInt ∧ x_17.toInt ≤ 365 := Rg.rd hh4 h_16 ex_17
    have ux_17 := congrArg Int32.toInt ex_17
    refine lv_iadd hx hb dX7_keyBehind_79 ?_
    refine lv_topi (fun x_18 ex_18 => ?_)
    have fx_18 : x_18.toInt = r_14.toInt + x_17.toInt := by rw [ex_18]; exact I_add rfl rfl (by omega) (by omega)
    refine va_mmin hx hb (hml.trans hl.1.symm) hown (hT _ bw_438) (hT _ bw_160) (hT _ bw_161) (hT _ bw_159) (Nat.le_of_ble_eq_true rfl) (Nat.le_of_ble_eq_true rfl) (Nat.le_of_ble_eq_true rfl) (Nat.le_of_ble_eq_true rfl) dX7_keyBehind_80 ?_
    refine lv_topi (fun x_19 ex_19 => ?_)
    have fx_19 : x_19.toInt = min 9999 x_18.toInt := by rw [ex_19]; exact I_min (by decide : (9999 : Int32).toInt = 9999) rfl
    refine lv_ior hx hb dX7_keyBehind_83 ?_
    refine lv_topi (fun x_20 ex_20 => ?_)
    have hP9 : va_P g.1 vwCl [(h, .inr (7, [.ref bland, .int bdeathDay, .ref bfreeFrom, .ref bbarring, .ref bkeys, .ref bways, .int bcount, .ref bwins, .ref bslots, .int bround, .ref bworths, .ref bpath])), (bkeys, aI g 3000 Fbkeys), (bworths, aI g 4 Fbworths), (bland, .inr (2, [.ref dmen, .ref dformulas, .ref dreasons, .int dduels, .ref dduelSides, .ref dduelMornings, .int dhonour, .int ddraw, .ref dusesOfKind])), (dusesOfKind, aI g 4 FdusesOfKind), (dformulas, .inr (0, [.int dformulas_count, .int dformulas_units, .ref dformulas_names, .int dformulas_unitsOfThis, .int dformulas_length, .ref dformulas_starts, .ref dformulas_steps, .ref dformulas_stack])), (dformulas_starts, aI g 5 Fdformulas_starts), (dformulas_steps, aI g 640 Fdformulas_steps), (dformulas_stack, aI g 32 Fdformulas_stack), (dreasons, .inr (6, [.int dreasons_count, .ref dreasons_names, .ref dreasons_kinds, .ref dreasons_owners, .ref dreasons_froms, .ref dreasons_tos, .ref dreasons_rents, .ref dreasons_sorts])), (dreasons_kinds, aI g 8 Fdreasons_kinds)] H := hP.sub [0, 1, 2, 3, 4, 5, 6, 7, 8, 9, 10] rfl
    have hD9 : va_D A [(h, .inr (7, [.ref bland, .int bdeathDay, .ref bfreeFrom, .ref bbarring, .ref bkeys, .ref bways, .int bcount, .ref bwins, .ref bslots, .int bround, .ref bworths, .ref bpath])), (bkeys, aI g 3000 Fbkeys), (bworths, aI g 4 Fbworths), (bland, .inr (2, [.ref dmen, .ref dformulas, .ref dreasons, .int dduels, .ref dduelSides, .ref dduelMornings, .int dhonour, .int ddraw, .ref dusesOfKind])), (dusesOfKind, aI g 4 FdusesOfKind), (dformulas, .inr (0, [.int dformulas_count, .int dformulas_units, .ref dformulas_names, .int dformulas_unitsOfThis, .int dformulas_length, .ref dformulas_starts, .ref dformulas_steps, .ref dformulas_stack])), (dformulas_starts, aI g 5 Fdformulas_starts), (dformulas_steps, aI g 640 Fdformulas_steps), (dformulas_stack, aI g 32 Fdformulas_stack), (dreasons, .inr (6, [.int dreasons_count, .ref dreasons_names, .ref dreasons_kinds, .ref dreasons_owners, .ref dreasons_froms, .ref dreasons_tos, .ref dreasons_rents, .ref dreasons_sorts])), (dreasons_kinds, aI g 8 Fdreasons_kinds)] := hD.sub [0, 1, 2, 3, 4, 5, 6, 7, 8, 9, 10] (by decide +kernel) rfl
    exact W.iret (v := x_20) hx hb hr (fun t ht hW => ⟨⟨x_20, (Fbworths, Fdformulas_stack), rfl, ⟨(Kb_or w_10 ex_12 ex_13 ex_20 (by omega) (by omega)), hh4⟩, by rw [ht]; exact hP9, by rw [hAe]; exact hD9⟩, hS.F ht⟩) hS.2.2 dX7_keyBehind_84
  · have f_21 := E_eq (rfl : x_5.toInt = _) (by decide : (0 : Int32).toInt = 0) c_6
    refine lv_aload_n hx hb dX7_keyBehind_25 rfl (lv_at hl 1 rfl) ?_
    refine va_get (D := g.1) (ci := 7) (v := .ref bworths) (C := RX7) (T := TX7) (N := 12) hx hb hT inF_X7 hown hK.1 hP 0 rfl rfl 10 (by decide) (hT _ bw_437) (fun _ h9 => h9) rfl dX7_keyBehind_26 ?_
    refine lv_iload_n hx hb dX7_keyBehind_29 rfl (lv_at hl 0 rfl) ?_
    refine lv_aload_n hx hb dX7_keyBehind_30 rfl (lv_at hl 1 rfl) ?_
    refine va_get (D := g.1) (ci := 7) (v := .ref bland) (C := RX7) (T := TX7) (N := 12) hx hb hT inF_X7 hown hK.1 hP 0 rfl rfl 0 (by decide) (hT _ bw_428) (fun _ h9 => h9) rfl dX7_keyBehind_31 ?_
    refine lv_iload_n hx hb dX7_keyBehind_34 rfl (lv_at hl 0 rfl) ?_
    refine lv_aload_n hx hb dX7_keyBehind_35 rfl (lv_at hl 1 rfl) ?_
    refine lv_iload_n hx hb dX7_keyBehind_36 rfl (lv_at hl 2 rfl) ?_
    refine k_iR (k_V (n := 1) ⟨hx, hb, hml, hown, hT⟩ hK hP hD [0, 1] rfl (by decide +kernel) (s_X7_usedOf2 l g H.size h bland bdeathDay bfreeFrom bbarring bkeys Fbkeys bways bcount bwins bslots bround bworths bpath p0 (by first | with_reducible assumption | omega) (by first | with_reducible assumption | omega) (by first | with_reducible assumption | omega)) (gV bw_431 bw_432 bw_433 bw_426 bw_418) rfl rfl (by decide +kernel) ⟨by decide, by decide⟩ (ci := 7) (q0 := 0) rfl rfl (fun _ _ _ _ _ => trivial) (fun _ _ _ => trivial) rfl rfl hl.1 (Nat.le_of_ble_eq_true rfl) dX7_keyBehind_37 ⟨by decide, by decide⟩) hP hS hA (fun r_22 _ H locs hw0 hP hS => ?_)
    have hw : ((-131072) ≤ r_22.toInt ∧ r_22.toInt ≤ 131071) ∧ (r_22 = Fbkeys p0.toNatClampNeg >>> ((14 : Int32) &&& 31)) := hw0
    clear hw0
    have w_23 := hw.1
    have w_24 := hw.2
    clear hw
    refine lv_aload_n hx hb dX7_keyBehind_40 rfl (lv_at hl 1 rfl) ?_
    refine lv_iload_n hx hb dX7_keyBehind_41 rfl (lv_at hl 2 rfl) ?_
    refine k_iR (k_V (n := 1) ⟨hx, hb, hml, hown, hT⟩ hK hP hD [0, 1] rfl (by decide +kernel) (s_X7_morningOf l g H.size h bland bdeathDay bfreeFrom bbarring bkeys Fbkeys bways bcount bwins bslots bround bworths bpath p0 (by first | with_reducible assumption | omega) (by first | with_reducible assumption | omega) (by first | with_reducible assumption | omega)) (gV bw_423 bw_424 bw_425 bw_426 bw_419) rfl rfl (by decide +kernel) ⟨by decide, by decide⟩ (ci := 7) (q0 := 0) rfl rfl (fun _ _ _ _ _ => trivial) (fun _ _ _ => trivial) rfl rfl hl.1 (Nat.le_of_ble_eq_true rfl) dX7_keyBehind_42 ⟨by decide, by decide⟩) hP hS hA (fun r_25 _ H locs hw0 hP hS => ?_)
    have hw : 0 ≤ r_25.toInt ∧ r_25.toInt ≤ 16383 := hw0
    clear hw0
    have w_26 := hw
    refine k_i (wr := [(h, .inr (7, [.ref bland, .int bdeathDay, .ref bfreeFrom, .ref bbarring, .ref bkeys, .ref bways, .int bcount, .ref bwins, .ref bslots, .int bround, .ref bworths, .ref bpath])), (bkeys, aI g 3000 Fbkeys), (bworths, aI g 4 Fbworths), (dreasons, .inr (6, [.int dreasons_count, .ref dreasons_names, .ref dreasons_kinds, .ref dreasons_owners, .ref dreasons_froms, .ref dreasons_tos, .ref dreasons_rents, .ref dreasons_sorts])), (dreasons_kinds, aI g 8 Fdreasons_kinds)]) (k_V (n := 3) ⟨hx, hb, hml, hown, hT⟩ hK hP hD [3, 4, 5, 6, 7, 8] rfl (by decide +kernel) (s_X2_worthOf l g H.size bland dduels dduelSides dduelMornings dhonour ddraw dusesOfKind FdusesOfKind dmen dformulas dformulas_count dformulas_units dformulas_names dformulas_unitsOfThis dformulas_length dformulas_starts Fdformulas_starts dformulas_steps Fdformulas_steps dformulas_stack Fdformulas_stack dreasons x_3 r_22 r_25 (by first | with_reducible assumption | omega) (by first | with_reducible assumption | omega) (by first | with_reducible assumption | omega) (by first | with_reducible assumption | omega) (by first | with_reducible assumption | omega) (by first | with_reducible assumption | omega) hh14 (by first | with_reducible assumption | omega)) (gV bw_439 bw_200 bw_201 bw_202 bw_165) rfl rfl (by decide +kernel) ⟨by decide, by decide⟩ (ci := 2) (q0 := 0) rfl rfl (fun _ _ _ _ _ => trivial) (fun _ _ _ => trivial) rfl rfl hl.1 (Nat.le_of_ble_eq_true rfl) dX7_keyBehind_45 ⟨by decide, by decide⟩) hP hD hS hA [3, 4, 5, 6, 7, 8] [0, 1, 2, 9, 10] rfl rfl (by decide +kernel) (by decide +kernel) (fun r_27 => fun f_28 H locs hw0 hP hD hS => ?_)
    have hP : va_P g.1 vwCl [(h, .inr (7, [.ref bland, .int bdeathDay, .ref bfreeFrom, .ref bbarring, .ref bkeys, .ref bways, .int bcount, .ref bwins, .ref bslots, .int bround, .ref bworths, .ref bpath])), (bkeys, aI g 3000 Fbkeys), (bworths, aI g 4 Fbworths), (dreasons, .inr (6, [.int dreasons_count, .ref dreasons_names, .ref dreasons_kinds, .ref dreasons_owners, .ref dreasons_froms, .ref dreasons_tos, .ref dreasons_rents, .ref dreasons_sorts])), (dreasons_kinds, aI g 8 Fdreasons_kinds), (bland, .inr (2, [.ref dmen, .ref dformulas, .ref dreasons, .int dduels, .ref dduelSides, .ref dduelMornings, .int dhonour, .int ddraw, .ref dusesOfKind])), (dusesOfKind, aI g 4 FdusesOfKind), (dformulas, .inr (0, [.int dformulas_count, .int dformulas_units, .ref dformulas_names, .int dformulas_unitsOfThis, .int dformulas_length, .ref dformulas_starts, .ref dformulas_steps, .ref dformulas_stack])), (dformulas_starts, aI g 5 Fdformulas_starts), (dformulas_steps, aI g 640 Fdformulas_steps), (dformulas_stack, aI g 32 f_28)] H := hP
    have hD : va_D A [(h, .inr (7, [.ref bland, .int bdeathDay, .ref bfreeFrom, .ref bbarring, .ref bkeys, .ref bways, .int bcount, .ref bwins, .ref bslots, .int bround, .ref bworths, .ref bpath])), (bkeys, aI g 3000 Fbkeys), (bworths, aI g 4 Fbworths), (dreasons, .inr (6, [.int dreasons_count, .ref dreasons_names, .ref dreasons_kinds, .ref dreasons_owners, .ref dreasons_froms, .ref dreasons_tos, .ref dreasons_rents, .ref dreasons_sorts])), (dreasons_kinds, aI g 8 Fdreasons_kinds), (bland, .inr (2, [.ref dmen, .ref dformulas, .ref dreasons, .int dduels, .ref dduelSides, .ref dduelMornings, .int dhonour, .int ddraw, .ref dusesOfKind])), (dusesOfKind, aI g 4 FdusesOfKind), (dformulas, .inr (0, [.int dformulas_count, .int dformulas_units, .ref dformulas_names, .int dformulas_unitsOfThis, .int dformulas_length, .ref dformulas_starts, .ref dformulas_steps, .ref dformulas_stack])), (dformulas_starts, aI g 5 Fdformulas_starts), (dformulas_steps, aI g 640 Fdformulas_steps), (dformulas_stack, aI g 32 f_28)] := hD
    have hw : 1 ≤ r_27.toInt ∧ r_27.toInt ≤ 365 := hw0
    clear hw0
    have w_29 := hw
    have h_30 : vp_in x_3 4 := vp_in_iff.mpr (by omega)
    refine va_iast hx hb hK.1 hP hD hS 2 1 rfl rfl (i := x_3) (x := r_27) h_30 dX7_keyBehind_48 (fun H locs hP hD hS => ?_)
    have gf_31 : Rg 4 0 365 (upd Fbworths (x_3 : Int32).toNatClampNeg r_27) := Rg.upd hh4 (by omega)
    generalize upd Fbworths (x_3 : Int32).toNatClampNeg r_27 = f_31 at hP hD gf_31
    have hP : va_P g.1 vwCl [(h, .inr (7, [.ref bland, .int bdeathDay, .ref bfreeFrom, .ref bbarring, .ref bkeys, .ref bways, .int bcount, .ref bwins, .ref bslots, .int bround, .ref bworths, .ref bpath])), (bkeys, aI g 3000 Fbkeys), (bworths, aI g 4 f_31), (dreasons, .inr (6, [.int dreasons_count, .ref dreasons_names, .ref dreasons_kinds, .ref dreasons_owners, .ref dreasons_froms, .ref dreasons_tos, .ref dreasons_rents, .ref dreasons_sorts])), (dreasons_kinds, aI g 8 Fdreasons_kinds), (bland, .inr (2, [.ref dmen, .ref dformulas, .ref dreasons, .int dduels, .ref dduelSides, .ref dduelMornings, .int dhonour, .int ddraw, .ref dusesOfKind])), (dusesOfKind, aI g 4 FdusesOfKind), (dformulas, .inr (0, [.int dformulas_count, .int dformulas_units, .ref dformulas_names, .int dformulas_unitsOfThis, .int dformulas_length, .ref dformulas_starts, .ref dformulas_steps, .ref dformulas_stack])), (dformulas_starts, aI g 5 Fdformulas_starts), (dformulas_steps, aI g 640 Fdformulas_steps), (dformulas_stack, aI g 32 f_28)] H := hP
    have hD : va_D A [(h, .inr (7, [.ref bland, .int bdeathDay, .ref bfreeFrom, .ref bbarring, .ref bkeys, .ref bways, .int bcount, .ref bwins, .ref bslots, .int bround, .ref bworths, .ref bpath])), (bkeys, aI g 3000 Fbkeys), (bworths, aI g 4 f_31), (dreasons, .inr (6, [.int dreasons_count, .ref dreasons_names, .ref dreasons_kinds, .ref dreasons_owners, .ref dreasons_froms, .ref dreasons_tos, .ref dreasons_rents, .ref dreasons_sorts])), (dreasons_kinds, aI g 8 Fdreasons_kinds), (bland, .inr (2, [.ref dmen, .ref dformulas, .ref dreasons, .int dduels, .ref dduelSides, .ref dduelMornings, .int dhonour, .int ddraw, .ref dusesOfKind])), (dusesOfKind, aI g 4 FdusesOfKind), (dformulas, .inr (0, [.int dformulas_count, .int dformulas_units, .ref dformulas_names, .int dformulas_unitsOfThis, .int dformulas_length, .ref dformulas_starts, .ref dformulas_steps, .ref dformulas_stack])), (dformulas_starts, aI g 5 Fdformulas_starts), (dformulas_steps, aI g 640 Fdformulas_steps), (dformulas_stack, aI g 32 f_28)] := hD
    refine lv_aload_n hx hb dX7_keyBehind_49 rfl (lv_at hl 1 rfl) ?_
    refine lv_iload_n hx hb dX7_keyBehind_50 rfl (lv_at hl 2 rfl) ?_
    refine k_iR (k_V (n := 1) ⟨hx, hb, hml, hown, hT⟩ hK hP hD [0, 1] rfl (by decide +kernel) (s_X7_usedOf2 l g H.size h bland bdeathDay bfreeFrom bbarring bkeys Fbkeys bways bcount bwins bslots bround bworths bpath p0 (by first | with_reducible assumption | omega) (by first | with_reducible assumption | omega) (by first | with_reducible assumption | omega)) (gV bw_431 bw_432 bw_433 bw_426 bw_418) rfl rfl (by decide +kernel) ⟨by decide, by decide⟩ (ci := 7) (q0 := 0) rfl rfl (fun _ _ _ _ _ => trivial) (fun _ _ _ => trivial) rfl rfl hl.1 (Nat.le_of_ble_eq_true rfl) dX7_keyBehind_51 ⟨by decide, by decide⟩) hP hS hA (fun r_32 _ H locs hw0 hP hS => ?_)
    have hw : ((-131072) ≤ r_32.toInt ∧ r_32.toInt ≤ 131071) ∧ (r_32 = Fbkeys p0.toNatClampNeg >>> ((14 : Int32) &&& 31)) := hw0
    clear hw0
    have w_33 := hw.1
    have w_34 := hw.2
    clear hw
    refine lv_iconst (v := 1) hx hb dX7_keyBehind_54 (by decide) ?_
    refine lv_iload_n hx hb dX7_keyBehind_55 rfl (lv_at hl 3 rfl) ?_
    refine lv_ishl hx hb dX7_keyBehind_56 ?_
    refine lv_topi (fun x_35 ex_35 => ?_)
    have fx_35 : 1 ≤ x_35.toInt ∧ x_35.toInt ≤ 32768 := by rw [ex_35]; exact I_shl1 15 32768 (by decide) rfl (by omega) (by omega) (by decide)
    refine lv_ior hx hb dX7_keyBehind_57 ?_
    refine lv_topi (fun x_36 ex_36 => ?_)
    refine lv_istore (lv' := [(4, .int x_36), (3, .int x_3), (0, .ref h), (1, .int p0), (2, .int p1)]) hx hb dX7_keyBehind_58 hl (by decide) rfl (fun ls hl => ?_)
    refine lv_iload hx hb dX7_keyBehind_60 (lv_at hl 0 rfl) ?_
    refine lv_bipush (v := 14) hx hb dX7_keyBehind_62 (by decide) ?_
    refine lv_ishl hx hb dX7_keyBehind_64 ?_
    refine lv_topi (fun x_37 ex_37 => ?_)
    refine lv_sipush (v := 9999) hx hb dX7_keyBehind_65 (by decide) ?_
    refine lv_aload_n hx hb dX7_keyBehind_68 rfl (lv_at hl 2 rfl) ?_
    refine lv_iload_n hx hb dX7_keyBehind_69 rfl (lv_at hl 3 rfl) ?_
    refine k_iR (k_V (n := 1) ⟨hx, hb, hml, hown, hT⟩ hK hP hD [0, 1] rfl (by decide +kernel) (s_X7_morningOf l g H.size h bland bdeathDay bfreeFrom bbarring bkeys Fbkeys bways bcount bwins bslots bround bworths bpath p0 (by first | with_reducible assumption | omega) (by first | with_reducible assumption | omega) (by first | with_reducible assumption | omega)) (gV bw_423 bw_424 bw_425 bw_426 bw_419) rfl rfl (by decide +kernel) ⟨by decide, by decide⟩ (ci := 7) (q0 := 0) rfl rfl (fun _ _ _ _ _ => trivial) (fun _ _ _ => trivial) rfl rfl hl.1 (Nat.le_of_ble_eq_true rfl) dX7_keyBehind_70 ⟨by decide, by decide⟩) hP hS hA (fun r_38 _ H locs hw0 hP hS => ?_)
    have hw : 0 ≤ r_38.toInt ∧ r_38.toInt ≤ 16383 := hw0
    clear hw0
    have w_39 := hw
    refine lv_aload_n hx hb dX7_keyBehind_73 rfl (lv_at hl 2 rfl) ?_
    refine va_get (D := g.1) (ci := 7) (v := .ref bworths) (C := RX7) (T := TX7) (N := 12) hx hb hT inF_X7 hown hK.1 hP 0 rfl rfl 10 (by decide) (hT _ bw_437) (fun _ h9 => h9) rfl dX7_keyBehind_74 ?_
    refine lv_iload_n hx hb dX7_keyBehind_77 rfl (lv_at hl 1 rfl) ?_
    have h_40 : vp_in x_3 4 := vp_in_iff.mpr (by omega)
    refine va_iald hx hb hK.1 hP 2 1 rfl rfl (i := x_3) h_40 dX7_keyBehind_78 ?_
    refine lv_topi (fun x_41 ex_41 => ?_)
    have fx_41 : 0 ≤ x_41.toInt ∧ x_41.toInt ≤ 365 := Rg.rd gf_31 h_40 ex_41
    have ux_41 := congrArg Int32.toInt ex_41
    refine lv_iadd hx hb dX7_keyBehind_79 ?_
    refine lv_topi (fun x_42 ex_42 => ?_)
    have fx_42 : x_42.toInt = r_38.toInt + x_41.toInt := by rw [ex_42]; exact I_add rfl rfl (by omega) (by omega)
    refine va_mmin hx hb (hml.trans hl.1.symm) hown (hT _ bw_438) (hT _ bw_160) (hT _ bw_161) (hT _ bw_159) (Nat.le_of_ble_eq_true rfl) (Nat.le_of_ble_eq_true rfl) (Nat.le_of_ble_eq_true rfl) (Nat.le_of_ble_eq_true rfl) dX7_keyBehind_80 ?_
    refine lv_topi (fun x_43 ex_43 => ?_)
    have fx_43 : x_43.toInt = min 9999 x_42.toInt := by rw [ex_43]; exact I_min (by decide : (9999 : Int32).toInt = 9999) rfl
    refine lv_ior hx hb dX7_keyBehind_83 ?_
    refine lv_topi (fun x_44 ex_44 => ?_)
    have hP9 : va_P g.1 vwCl [(h, .inr (7, [.ref bland, .int bdeathDay, .ref bfreeFrom, .ref bbarring, .ref bkeys, .ref bways, .int bcount, .ref bwins, .ref bslots, .int bround, .ref bworths, .ref bpath])), (bkeys, aI g 3000 Fbkeys), (bworths, aI g 4 f_31), (bland, .inr (2, [.ref dmen, .ref dformulas, .ref dreasons, .int dduels, .ref dduelSides, .ref dduelMornings, .int dhonour, .int ddraw, .ref dusesOfKind])), (dusesOfKind, aI g 4 FdusesOfKind), (dformulas, .inr (0, [.int dformulas_count, .int dformulas_units, .ref dformulas_names, .int dformulas_unitsOfThis, .int dformulas_length, .ref dformulas_starts, .ref dformulas_steps, .ref dformulas_stack])), (dformulas_starts, aI g 5 Fdformulas_starts), (dformulas_steps, aI g 640 Fdformulas_steps), (dformulas_stack, aI g 32 f_28), (dreasons, .inr (6, [.int dreasons_count, .ref dreasons_names, .ref dreasons_kinds, .ref dreasons_owners, .ref dreasons_froms, .ref dreasons_tos, .ref dreasons_rents, .ref dreasons_sorts])), (dreasons_kinds, aI g 8 Fdreasons_kinds)] H := hP.sub [0, 1, 2, 5, 6, 7, 8, 9, 10, 3, 4] rfl
    have hD9 : va_D A [(h, .inr (7, [.ref bland, .int bdeathDay, .ref bfreeFrom, .ref bbarring, .ref bkeys, .ref bways, .int bcount, .ref bwins, .ref bslots, .int bround, .ref bworths, .ref bpath])), (bkeys, aI g 3000 Fbkeys), (bworths, aI g 4 f_31), (bland, .inr (2, [.ref dmen, .ref dformulas, .ref dreasons, .int dduels, .ref dduelSides, .ref dduelMornings, .int dhonour, .int ddraw, .ref dusesOfKind])), (dusesOfKind, aI g 4 FdusesOfKind), (dformulas, .inr (0, [.int dformulas_count, .int dformulas_units, .ref dformulas_names, .int dformulas_unitsOfThis, .int dformulas_length, .ref dformulas_starts, .ref dformulas_steps, .ref dformulas_stack])), (dformulas_starts, aI g 5 Fdformulas_starts), (dformulas_steps, aI g 640 Fdformulas_steps), (dformulas_stack, aI g 32 f_28), (dreasons, .inr (6, [.int dreasons_count, .ref dreasons_names, .ref dreasons_kinds, .ref dreasons_owners, .ref dreasons_froms, .ref dreasons_tos, .ref dreasons_rents, .ref dreasons_sorts])), (dreasons_kinds, aI g 8 Fdreasons_kinds)] := hD.sub [0, 1, 2, 5, 6, 7, 8, 9, 10, 3, 4] (by decide +kernel) rfl
    exact W.iret (v := x_44) hx hb hr (fun t ht hW => ⟨⟨x_44, (f_31, f_28), rfl, ⟨(Kb_or w_34 ex_36 ex_37 ex_44 (by omega) (by omega)), gf_31⟩, by rw [ht]; exact hP9, by rw [hAe]; exact hD9⟩, hS.F ht⟩) hS.2.2 dX7_keyBehind_84

set_option maxHeartbeats 4000000 in
set_option maxRecDepth 100000 in
theorem s_X7_reach2 (l : Launch) (g : GG) (sz : Nat) (h : Nat) (bland : Nat) (bdeathDay : Int32) (bfreeFrom : Nat) (bbarring : Nat) (bkeys : Nat) (Fbkeys : Nat → Int32) (bways : Nat) (Fbways : Nat → Int32) (bcount : Int32) (bwins : Nat) (bslots : Nat) (Fbslots : Nat → Int32) (bround : Int32) (bworths : Nat) (bpath : Nat) (p0 : Int32) (p1 : Int32) (p2 : Int32) (hh0 : Rg 3000 0 47999 Fbways) (hh1 : 0 ≤ bcount.toInt ∧ bcount.toInt ≤ 3000) (hh2 : Sl Fbslots) (hh3 : 0 ≤ bround.toInt ∧ bround.toInt ≤ 1048575) (hh6 : 0 ≤ p1.toInt ∧ p1.toInt ≤ 2999) (hh7 : 0 ≤ p2.toInt ∧ p2.toInt ≤ 15) (hkm : KM bcount Fbkeys) (hk0 : bcount.toInt = 0 ∨ Kb (Fbkeys 0) ≤ Kb p0) : Met l yX7_reach (.code yX7_reach cX7_reach 5 (some .boolean) :: gT) ({ frames := 2, cells := 0, slots := 0, locals := 44 }) (va_Pc [.ref h, .int p0, .int p1, .int p2] (Pst g sz [(h, .inr (7, [.ref bland, .int bdeathDay, .ref bfreeFrom, .ref bbarring, .ref bkeys, .ref bways, .int bcount, .ref bwins, .ref bslots, .int bround, .ref bworths, .ref bpath])), (bkeys, aI g 3000 Fbkeys), (bways, aI g 3000 Fbways), (bslots, aI g 8192 Fbslots)] nX)) (va_Qi (fun (r : Int32) => fun ((o0_count, o1_F, o2_F, o3_F) : Int32 × (Nat → Int32) × (Nat → Int32) × (Nat → Int32)) => (0 ≤ r.toInt ∧ r.toInt ≤ 1) ∧ (KM o0_count o1_F) ∧ (bcount.toInt ≤ o0_count.toInt) ∧ (0 ≤ o0_count.toInt ∧ o0_count.toInt ≤ 3000) ∧ (Rg 3000 0 47999 o2_F) ∧ (Sl o3_F)) (Qst g [(h, .inr (7, [.ref bland, .int bdeathDay, .ref bfreeFrom, .ref bbarring, .ref bkeys, .ref bways, .int bcount, .ref bwins, .ref bslots, .int bround, .ref bworths, .ref bpath])), (bkeys, aI g 3000 Fbkeys), (bways, aI g 3000 Fbways), (bslots, aI g 8192 Fbslots)] sz (fun ((o0_count, o1_F, o2_F, o3_F) : Int32 × (Nat → Int32) × (Nat → Int32) × (Nat → Int32)) => [(h, .inr (7, [.ref bland, .int bdeathDay, .ref bfreeFrom, .ref bbarring, .ref bkeys, .ref bways, .int o0_count, .ref bwins, .ref bslots, .int bround, .ref bworths, .ref bpath])), (bkeys, aI g 3000 o1_F), (bways, aI g 3000 o2_F), (bslots, aI g 8192 o3_F)])) (va_A [(h, .inr (7, [.ref bland, .int bdeathDay, .ref bfreeFrom, .ref bbarring, .ref bkeys, .ref bways, .int bcount, .ref bwins, .ref bslots, .int bround, .ref bworths, .ref bpath])), (bkeys, aI g 3000 Fbkeys), (bways, aI g 3000 Fbways), (bslots, aI g 8192 Fbslots)] sz)) 0 0 (va_A [(h, .inr (7, [.ref bland, .int bdeathDay, .ref bfreeFrom, .ref bbarring, .ref bkeys, .ref bways, .int bcount, .ref bwins, .ref bslots, .int bround, .ref bworths, .ref bpath])), (bkeys, aI g 3000 Fbkeys), (bways, aI g 3000 Fbways), (bslots, aI g 8192 Fbslots)] sz) := by
  refine Met.ofW (cc := cX7_reach) (maxL := 5) (ret := (some .boolean)) (by decide) rfl ?_
  intro p e s m args below meth c s₁ B hml hv
  obtain ⟨rfl, hsz, hP, hK, hD0, hX⟩ := hv
  have hx := B.exec
  have hb := B.bytes
  have hr := B.returns
  have hT : ∀ w ∈ gT, w.before _ s = true := fun w h => atoms_spec (ws := .code yX7_reach cX7_reach 5 (some .boolean) :: gT) B.pre w (List.mem_cons_of_mem _ h)
  have hown : s.vm.findClass RX7 = some m.cls := findClass_of_methodNamed B.named
  have hlocks := B.notSynchronized
  subst hsz
  have hD := hD0.self (sz := s.heap.size)
  generalize hAe : va_A [(h, .inr (7, [.ref bland, .int bdeathDay, .ref bfreeFrom, .ref bbarring, .ref bkeys, .ref bways, .int bcount, .ref bwins, .ref bslots, .int bround, .ref bworths, .ref bpath])), (bkeys, aI g 3000 Fbkeys), (bways, aI g 3000 Fbways), (bslots, aI g 8192 Fbslots)] s.heap.size = A at hD ⊢
  have hA : ∀ q : Nat, s.heap.size ≤ q → A q := fun q h => by rw [← hAe]; exact Or.inr h
  have hS : va_S A s.heap s.heap [] := va_S.rf
  have hl := lv_entry ([.ref h, .int p0, .int p1, .int p2]) (n := 5) (Nat.le_of_ble_eq_true rfl)
  rw [lg_entry_eq]
  generalize (lg_sl ([.ref h, .int p0, .int p1, .int p2]) ++ List.replicate (5 - (lg_sl ([.ref h, .int p0, .int p1, .int p2])).length) Slot.unset).toArray = ls at hl ⊢
  have hl : lv_has ls 5 [(0, .ref h), (1, .int p0), (2, .int p1), (3, .int p2)] := hl
  refine p_nH (fun H hH => ?_)
  have hP : va_P g.1 vwCl [(h, .inr (7, [.ref bland, .int bdeathDay, .ref bfreeFrom, .ref bbarring, .ref bkeys, .ref bways, .int bcount, .ref bwins, .ref bslots, .int bround, .ref bworths, .ref bpath])), (bkeys, aI g 3000 Fbkeys), (bways, aI g 3000 Fbways), (bslots, aI g 8192 Fbslots)] H := by rw [hH]; exact hP
  have hS : va_S A s.heap H [] := by rw [hH]; exact hS
  refine lv_aload_n hx hb dX7_reach_0 rfl (lv_at hl 0 rfl) ?_
  refine lv_iload_n hx hb dX7_reach_1 rfl (lv_at hl 1 rfl) ?_
  refine k_iR (k_V (n := 1) ⟨hx, hb, hml, hown, hT⟩ hK hP hD [0, 1, 3] rfl (by decide +kernel) (s_X7_slotOf l g H.size h bland bdeathDay bfreeFrom bbarring bkeys Fbkeys bways bcount bwins bslots Fbslots bround bworths bpath p0 (by first | with_reducible assumption | omega) hh2 (by first | with_reducible assumption | omega)) (gV bw_457 bw_458 bw_459 bw_426 bw_456) rfl rfl (by decide +kernel) ⟨by decide, by decide⟩ (ci := 7) (q0 := 0) rfl rfl (fun _ _ _ _ _ => trivial) (fun _ _ _ => trivial) rfl rfl hl.1 (Nat.le_of_ble_eq_true rfl) dX7_reach_2 ⟨by decide, by decide⟩) hP hS hA (fun r_1 _ H locs hw0 hP hS => ?_)
  have hw : 0 ≤ r_1.toInt ∧ r_1.toInt ≤ 8191 := hw0
  clear hw0
  have w_2 := hw
  refine lv_istore (lv' := [(4, .int r_1), (0, .ref h), (1, .int p0), (2, .int p1), (3, .int p2)]) hx hb dX7_reach_5 hl (by decide) rfl (fun ls hl => ?_)
  refine lv_aload_n hx hb dX7_reach_7 rfl (lv_at hl 1 rfl) ?_
  refine lv_iload hx hb dX7_reach_8 (lv_at hl 0 rfl) ?_
  refine k_iR (k_V (n := 1) ⟨hx, hb, hml, hown, hT⟩ hK hP hD [0, 3] rfl (by decide +kernel) (s_X7_isTaken l g H.size h bland bdeathDay bfreeFrom bbarring bkeys bways bcount bwins bslots Fbslots bround bworths bpath r_1 (by first | with_reducible assumption | omega) (by first | with_reducible assumption | omega) (by first | with_reducible assumption | omega)) (gV bw_453 bw_454 bw_455 bw_426 bw_422) rfl rfl (by decide +kernel) ⟨by decide, by decide⟩ (ci := 7) (q0 := 0) rfl rfl (fun _ _ _ _ _ => trivial) (fun _ _ _ => trivial) rfl rfl hl.1 (Nat.le_of_ble_eq_true rfl) dX7_reach_10 ⟨by decide, by decide⟩) hP hS hA (fun r_3 _ H locs hw0 hP hS => ?_)
  have hw : 0 ≤ r_3.toInt ∧ r_3.toInt ≤ 1 := hw0
  clear hw0
  have w_4 := hw
  refine lv_if_eq (tgt := 18) hx hb dX7_reach_13 (by decide) (fun c_5 => ?_) (fun c_5 => ?_)
  · have f_6 := E_eq (rfl : r_3.toInt = _) (by decide : (0 : Int32).toInt = 0) c_5
    refine lv_aload_n hx hb dX7_reach_18 rfl (lv_at hl 1 rfl) ?_
    refine va_get (D := g.1) (ci := 7) (v := .int bcount) (C := RX7) (T := TX7) (N := 12) hx hb hT inF_X7 hown hK.1 hP 0 rfl rfl 6 (by decide) (hT _ bw_460) (fun _ h9 => h9) rfl dX7_reach_19 ?_
    refine lv_sipush (v := 3000) hx hb dX7_reach_22 (by decide) ?_
    refine lv_icmp_lt (tgt := 30) hx hb dX7_reach_25 (by decide) (fun c_7 => ?_) (fun c_7 => ?_)
    · have f_8 := E_lt (rfl : bcount.toInt = _) (by decide : (3000 : Int32).toInt = 3000) c_7
      refine lv_aload_n hx hb dX7_reach_30 rfl (lv_at hl 1 rfl) ?_
      refine va_get (D := g.1) (ci := 7) (v := .ref bslots) (C := RX7) (T := TX7) (N := 12) hx hb hT inF_X7 hown hK.1 hP 0 rfl rfl 8 (by decide) (hT _ bw_420) (fun _ h9 => h9) rfl dX7_reach_31 ?_
      refine lv_iload hx hb dX7_reach_34 (lv_at hl 0 rfl) ?_
      refine lv_aload_n hx hb dX7_reach_36 rfl (lv_at hl 1 rfl) ?_
      refine va_get (D := g.1) (ci := 7) (v := .int bround) (C := RX7) (T := TX7) (N := 12) hx hb hT inF_X7 hown hK.1 hP 0 rfl rfl 9 (by decide) (hT _ bw_421) (fun _ h9 => h9) rfl dX7_reach_37 ?_
      refine lv_bipush (v := 12) hx hb dX7_reach_40 (by decide) ?_
      refine lv_ishl hx hb dX7_reach_42 ?_
      refine lv_topi (fun x_9 ex_9 => ?_)
      refine lv_aload_n hx hb dX7_reach_43 rfl (lv_at hl 1 rfl) ?_
      refine va_get (D := g.1) (ci := 7) (v := .int bcount) (C := RX7) (T := TX7) (N := 12) hx hb hT inF_X7 hown hK.1 hP 0 rfl rfl 6 (by decide) (hT _ bw_460) (fun _ h9 => h9) rfl dX7_reach_44 ?_
      refine lv_ior hx hb dX7_reach_47 ?_
      refine lv_topi (fun x_10 ex_10 => ?_)
      have h_11 : vp_in r_1 8192 := vp_in_iff.mpr (by omega)
      refine va_iast hx hb hK.1 hP hD hS 3 1 rfl rfl (i := r_1) (x := x_10) h_11 dX7_reach_48 (fun H locs hP hD hS => ?_)
      have gf_12 : Sl (upd Fbslots (r_1 : Int32).toNatClampNeg x_10) := Sl.upd hh2 (by rw [ex_10, ex_9, low12 (by omega) (by omega)]; omega)
      generalize upd Fbslots (r_1 : Int32).toNatClampNeg x_10 = f_12 at hP hD gf_12
      have hP : va_P g.1 vwCl [(h, .inr (7, [.ref bland, .int bdeathDay, .ref bfreeFrom, .ref bbarring, .ref bkeys, .ref bways, .int bcount, .ref bwins, .ref bslots, .int bround, .ref bworths, .ref bpath])), (bkeys, aI g 3000 Fbkeys), (bways, aI g 3000 Fbways), (bslots, aI g 8192 f_12)] H := hP
      have hD : va_D A [(h, .inr (7, [.ref bland, .int bdeathDay, .ref bfreeFrom, .ref bbarring, .ref bkeys, .ref bways, .int bcount, .ref bwins, .ref bslots, .int bround, .ref bworths, .ref bpath])), (bkeys, aI g 3000 Fbkeys), (bways, aI g 3000 Fbways), (bslots, aI g 8192 f_12)] := hD
      refine lv_aload_n hx hb dX7_reach_49 rfl (lv_at hl 1 rfl) ?_
      refine va_get (D := g.1) (ci := 7) (v := .ref bkeys) (C := RX7) (T := TX7) (N := 12) hx hb hT inF_X7 hown hK.1 hP 0 rfl rfl 4 (by decide) (hT _ bw_417) (fun _ h9 => h9) rfl dX7_reach_50 ?_
      refine lv_aload_n hx hb dX7_reach_53 rfl (lv_at hl 1 rfl) ?_
      refine va_get (D := g.1) (ci := 7) (v := .int bcount) (C := RX7) (T := TX7) (N := 12) hx hb hT inF_X7 hown hK.1 hP 0 rfl rfl 6 (by decide) (hT _ bw_460) (fun _ h9 => h9) rfl dX7_reach_54 ?_
      refine lv_iload_n hx hb dX7_reach_57 rfl (lv_at hl 2 rfl) ?_
      have h_13 : vp_in bcount 3000 := vp_in_iff.mpr (by omega)
      refine va_iast hx hb hK.1 hP hD hS 1 1 rfl rfl (i := bcount) (x := p0) h_13 dX7_reach_58 (fun H locs hP hD hS => ?_)
      have hP : va_P g.1 vwCl [(h, .inr (7, [.ref bland, .int bdeathDay, .ref bfreeFrom, .ref bbarring, .ref bkeys, .ref bways, .int bcount, .ref bwins, .ref bslots, .int bround, .ref bworths, .ref bpath])), (bkeys, aI g 3000 (upd Fbkeys (bcount : Int32).toNatClampNeg p0)), (bways, aI g 3000 Fbways), (bslots, aI g 8192 f_12)] H := hP
      have hD : va_D A [(h, .inr (7, [.ref bland, .int bdeathDay, .ref bfreeFrom, .ref bbarring, .ref bkeys, .ref bways, .int bcount, .ref bwins, .ref bslots, .int bround, .ref bworths, .ref bpath])), (bkeys, aI g 3000 (upd Fbkeys (bcount : Int32).toNatClampNeg p0)), (bways, aI g 3000 Fbways), (bslots, aI g 8192 f_12)] := hD
      refine lv_aload_n hx hb dX7_reach_59 rfl (lv_at hl 1 rfl) ?_
      refine va_get (D := g.1) (ci := 7) (v := .ref bways) (C := RX7) (T := TX7) (N := 12) hx hb hT inF_X7 hown hK.1 hP 0 rfl rfl 5 (by decide) (hT _ bw_441) (fun _ h9 => h9) rfl dX7_reach_60 ?_
      refine lv_aload_n hx hb dX7_reach_63 rfl (lv_at hl 1 rfl) ?_
      refine va_get (D := g.1) (ci := 7) (v := .int bcount) (C := RX7) (T := TX7) (N := 12) hx hb hT inF_X7 hown hK.1 hP 0 rfl rfl 6 (by decide) (hT _ bw_460) (fun _ h9 => h9) rfl dX7_reach_64 ?_
      refine lv_bipush (v := 16) hx hb dX7_reach_67 (by decide) ?_
      refine lv_iload_n hx hb dX7_reach_69 rfl (lv_at hl 3 rfl) ?_
      refine lv_imul hx hb dX7_reach_70 ?_
      refine lv_topi (fun x_15 ex_15 => ?_)
      have fx_15 : x_15.toInt = 16 * p1.toInt := by rw [ex_15]; exact I_mul (by decide : (16 : Int32).toInt = 16) rfl (by omega) (by omega)
      refine lv_iload_n hx hb dX7_reach_71 rfl (lv_at hl 4 rfl) ?_
      refine lv_iadd hx hb dX7_reach_72 ?_
      refine lv_topi (fun x_16 ex_16 => ?_)
      have fx_16 : x_16.toInt = x_15.toInt + p2.toInt := by rw [ex_16]; exact I_add rfl rfl (by omega) (by omega)
      have h_17 : vp_in bcount 3000 := vp_in_iff.mpr (by omega)
      refine va_iast hx hb hK.1 hP hD hS 2 1 rfl rfl (i := bcount) (x := x_16) h_17 dX7_reach_73 (fun H locs hP hD hS => ?_)
      have gf_18 : Rg 3000 0 47999 (upd Fbways (bcount : Int32).toNatClampNeg x_16) := Rg.upd hh0 (by omega)
      generalize upd Fbways (bcount : Int32).toNatClampNeg x_16 = f_18 at hP hD gf_18
      have hP : va_P g.1 vwCl [(h, .inr (7, [.ref bland, .int bdeathDay, .ref bfreeFrom, .ref bbarring, .ref bkeys, .ref bways, .int bcount, .ref bwins, .ref bslots, .int bround, .ref bworths, .ref bpath])), (bkeys, aI g 3000 (upd Fbkeys (bcount : Int32).toNatClampNeg p0)), (bways, aI g 3000 f_18), (bslots, aI g 8192 f_12)] H := hP
      have hD : va_D A [(h, .inr (7, [.ref bland, .int bdeathDay, .ref bfreeFrom, .ref bbarring, .ref bkeys, .ref bways, .int bcount, .ref bwins, .ref bslots, .int bround, .ref bworths, .ref bpath])), (bkeys, aI g 3000 (upd Fbkeys (bcount : Int32).toNatClampNeg p0)), (bways, aI g 3000 f_18), (bslots, aI g 8192 f_12)] := hD
      refine lv_aload_n hx hb dX7_reach_74 rfl (lv_at hl 1 rfl) ?_
      refine lv_dup hx hb dX7_reach_75 rfl ?_
      refine va_get (D := g.1) (ci := 7) (v := .int bcount) (C := RX7) (T := TX7) (N := 12) hx hb hT inF_X7 hown hK.1 hP 0 rfl rfl 6 (by decide) (hT _ bw_460) (fun _ h9 => h9) rfl dX7_reach_76 ?_
      refine lv_iconst (v := 1) hx hb dX7_reach_79 (by decide) ?_
      refine lv_iadd hx hb dX7_reach_80 ?_
      refine lv_topi (fun x_19 ex_19 => ?_)
      have fx_19 : x_19.toInt = bcount.toInt + 1 := by rw [ex_19]; exact I_add rfl (by decide : (1 : Int32).toInt = 1) (by omega) (by omega)
      refine va_put (D := g.1) (ci := 7) (v := .int x_19) (ty := .int) (C := RX7) (T := TX7) (N := 12) hx hb hT inF_X7 tyX7 tyX7_ok nmX7 hown hK.1 hP hD hS 0 rfl rfl 6 (by decide) (hT _ bw_460) (fun _ h9 => h9) rfl (by decide +kernel) rfl rfl (Nat.le_of_ble_eq_true rfl) dX7_reach_81 (fun H locs hP hD hS => ?_)
      have hP : va_P g.1 vwCl [(h, .inr (7, [.ref bland, .int bdeathDay, .ref bfreeFrom, .ref bbarring, .ref bkeys, .ref bways, .int x_19, .ref bwins, .ref bslots, .int bround, .ref bworths, .ref bpath])), (bkeys, aI g 3000 (upd Fbkeys (bcount : Int32).toNatClampNeg p0)), (bways, aI g 3000 f_18), (bslots, aI g 8192 f_12)] H := hP
      have hD : va_D A [(h, .inr (7, [.ref bland, .int bdeathDay, .ref bfreeFrom, .ref bbarring, .ref bkeys, .ref bways, .int x_19, .ref bwins, .ref bslots, .int bround, .ref bworths, .ref bpath])), (bkeys, aI g 3000 (upd Fbkeys (bcount : Int32).toNatClampNeg p0)), (bways, aI g 3000 f_18), (bslots, aI g 8192 f_12)] := hD
      refine lv_iconst (v := 1) hx hb dX7_reach_84 (by decide) ?_
      have hP9 : va_P g.1 vwCl [(h, .inr (7, [.ref bland, .int bdeathDay, .ref bfreeFrom, .ref bbarring, .ref bkeys, .ref bways, .int x_19, .ref bwins, .ref bslots, .int bround, .ref bworths, .ref bpath])), (bkeys, aI g 3000 (upd Fbkeys (bcount : Int32).toNatClampNeg p0)), (bways, aI g 3000 f_18), (bslots, aI g 8192 f_12)] H := hP.sub [0, 1, 2, 3] rfl
      have hD9 : va_D A [(h, .inr (7, [.ref bland, .int bdeathDay, .ref bfreeFrom, .ref bbarring, .ref bkeys, .ref bways, .int x_19, .ref bwins, .ref bslots, .int bround, .ref bworths, .ref bpath])), (bkeys, aI g 3000 (upd Fbkeys (bcount : Int32).toNatClampNeg p0)), (bways, aI g 3000 f_18), (bslots, aI g 8192 f_12)] := hD.sub [0, 1, 2, 3] (by decide +kernel) rfl
      exact W.zret (v := 1) (ty := .boolean) hx hb hr rfl (fun t ht hW => ⟨⟨1, (x_19, (upd Fbkeys (bcount : Int32).toNatClampNeg p0), f_18, f_12), rfl, ⟨⟨by decide, by decide⟩, (KM.push hkm (by omega) (by omega) hk0), (by omega), (by first | with_reducible assumption | omega), gf_18, gf_12⟩, by rw [ht]; exact hP9, by rw [hAe]; exact hD9⟩, hS.F ht⟩) hS.2.2 dX7_reach_85
    · have f_20 := E_nlt (rfl : bcount.toInt = _) (by decide : (3000 : Int32).toInt = 3000) c_7
      refine lv_iconst (v := 0) hx hb dX7_reach_28 (by decide) ?_
      have hP9 : va_P g.1 vwCl [(h, .inr (7, [.ref bland, .int bdeathDay, .ref bfreeFrom, .ref bbarring, .ref bkeys, .ref bways, .int bcount, .ref bwins, .ref bslots, .int bround, .ref bworths, .ref bpath])), (bkeys, aI g 3000 Fbkeys), (bways, aI g 3000 Fbways), (bslots, aI g 8192 Fbslots)] H := hP.sub [0, 1, 2, 3] rfl
      have hD9 : va_D A [(h, .inr (7, [.ref bland, .int bdeathDay, .ref bfreeFrom, .ref bbarring, .ref bkeys, .ref bways, .int bcount, .ref bwins, .ref bslots, .int bround, .ref bworths, .ref bpath])), (bkeys, aI g 3000 Fbkeys), (bways, aI g 3000 Fbways), (bslots, aI g 8192 Fbslots)] := hD.sub [0, 1, 2, 3] (by decide +kernel) rfl
      exact W.zret (v := 0) (ty := .boolean) hx hb hr rfl (fun t ht hW => ⟨⟨0, (bcount, Fbkeys, Fbways, Fbslots), rfl, ⟨⟨by decide, by decide⟩, hkm, (by omega), (by first | with_reducible assumption | omega), hh0, hh2⟩, by rw [ht]; exact hP9, by rw [hAe]; exact hD9⟩, hS.F ht⟩) hS.2.2 dX7_reach_29
  · have f_21 := E_ne (rfl : r_3.toInt = _) (by decide : (0 : Int32).toInt = 0) c_5
    refine lv_iconst (v := 1) hx hb dX7_reach_16 (by decide) ?_
    have hP9 : va_P g.1 vwCl [(h, .inr (7, [.ref bland, .int bdeathDay, .ref bfreeFrom, .ref bbarring, .ref bkeys, .ref bways, .int bcount, .ref bwins, .ref bslots, .int bround, .ref bworths, .ref bpath])), (bkeys, aI g 3000 Fbkeys), (bways, aI g 3000 Fbways), (bslots, aI g 8192 Fbslots)] H := hP.sub [0, 1, 2, 3] rfl
    have hD9 : va_D A [(h, .inr (7, [.ref bland, .int bdeathDay, .ref bfreeFrom, .ref bbarring, .ref bkeys, .ref bways, .int bcount, .ref bwins, .ref bslots, .int bround, .ref bworths, .ref bpath])), (bkeys, aI g 3000 Fbkeys), (bways, aI g 3000 Fbways), (bslots, aI g 8192 Fbslots)] := hD.sub [0, 1, 2, 3] (by decide +kernel) rfl
    exact W.zret (v := 1) (ty := .boolean) hx hb hr rfl (fun t ht hW => ⟨⟨1, (bcount, Fbkeys, Fbways, Fbslots), rfl, ⟨⟨by decide, by decide⟩, hkm, (by omega), (by first | with_reducible assumption | omega), hh0, hh2⟩, by rw [ht]; exact hP9, by rw [hAe]; exact hD9⟩, hS.F ht⟩) hS.2.2 dX7_reach_17

theorem bw_475 : Cond.code yX7_startAt cX7_startAt 3 none ∈ gT := gT_tb 1075 (by decide +kernel) (by decide +kernel)
set_option maxHeartbeats 4000000 in
set_option maxRecDepth 100000 in
theorem s_X7_startAt2 (l : Launch) (g : GG) (sz : Nat) (h : Nat) (bland : Nat) (bdeathDay : Int32) (bfreeFrom : Nat) (bbarring : Nat) (bkeys : Nat) (Fbkeys : Nat → Int32) (bways : Nat) (Fbways : Nat → Int32) (bcount : Int32) (bwins : Nat) (bslots : Nat) (Fbslots : Nat → Int32) (bround : Int32) (bworths : Nat) (bpath : Nat) (p0 : Int32) (p1 : Int32) (hh0 : Rg 3000 0 47999 Fbways) (hh1 : 0 ≤ bcount.toInt ∧ bcount.toInt ≤ 3000) (hh2 : Sl Fbslots) (hh3 : 0 ≤ bround.toInt ∧ bround.toInt ≤ 1048575) : Met l yX7_startAt (.code yX7_startAt cX7_startAt 3 none :: gT) ({ frames := 3, cells := 0, slots := 0, locals := 68 }) (va_Pc [.ref h, .int p0, .int p1] (Pst g sz [(h, .inr (7, [.ref bland, .int bdeathDay, .ref bfreeFrom, .ref bbarring, .ref bkeys, .ref bways, .int bcount, .ref bwins, .ref bslots, .int bround, .ref bworths, .ref bpath])), (bkeys, aI g 3000 Fbkeys), (bways, aI g 3000 Fbways), (bslots, aI g 8192 Fbslots)] nX)) (va_Qv (fun ((o0_count, o1_round, o2_F, o3_F, o4_F) : Int32 × Int32 × (Nat → Int32) × (Nat → Int32) × (Nat → Int32)) => (KM o0_count o2_F) ∧ (0 ≤ o0_count.toInt ∧ o0_count.toInt ≤ 3000) ∧ (0 ≤ o1_round.toInt ∧ o1_round.toInt ≤ 1048575) ∧ (Rg 3000 0 47999 o3_F) ∧ (Sl o4_F)) (Qst g [(h, .inr (7, [.ref bland, .int bdeathDay, .ref bfreeFrom, .ref bbarring, .ref bkeys, .ref bways, .int bcount, .ref bwins, .ref bslots, .int bround, .ref bworths, .ref bpath])), (bkeys, aI g 3000 Fbkeys), (bways, aI g 3000 Fbways), (bslots, aI g 8192 Fbslots)] sz (fun ((o0_count, o1_round, o2_F, o3_F, o4_F) : Int32 × Int32 × (Nat → Int32) × (Nat → Int32) × (Nat → Int32)) => [(h, .inr (7, [.ref bland, .int bdeathDay, .ref bfreeFrom, .ref bbarring, .ref bkeys, .ref bways, .int o0_count, .ref bwins, .ref bslots, .int o1_round, .ref bworths, .ref bpath])), (bkeys, aI g 3000 o2_F), (bways, aI g 3000 o3_F), (bslots, aI g 8192 o4_F)])) (va_A [(h, .inr (7, [.ref bland, .int bdeathDay, .ref bfreeFrom, .ref bbarring, .ref bkeys, .ref bways, .int bcount, .ref bwins, .ref bslots, .int bround, .ref bworths, .ref bpath])), (bkeys, aI g 3000 Fbkeys), (bways, aI g 3000 Fbways), (bslots, aI g 8192 Fbslots)] sz)) 0 0 (va_A [(h, .inr (7, [.ref bland, .int bdeathDay, .ref bfreeFrom, .ref bbarring, .ref bkeys, .ref bways, .int bcount, .ref bwins, .ref bslots, .int bround, .ref bworths, .ref bpath])), (bkeys, aI g 3000 Fbkeys), (bways, aI g 3000 Fbways), (bslots, aI g 8192 Fbslots)] sz) := by
  refine Met.ofW (cc := cX7_startAt) (maxL := 3) (ret := none) (by decide) rfl ?_
  intro p e s m args below meth c s₁ B hml hv
  obtain ⟨rfl, hsz, hP, hK, hD0, hX⟩ := hv
  have hx := B.exec
  have hb := B.bytes
  have hr := B.returns
  have hT : ∀ w ∈ gT, w.before _ s = true := fun w h => atoms_spec (ws := .code yX7_startAt cX7_startAt 3 none :: gT) B.pre w (List.mem_cons_of_mem _ h)
  have hown : s.vm.findClass RX7 = some m.cls := findClass_of_methodNamed B.named
  have hlocks := B.notSynchronized
  subst hsz
  have hD := hD0.self (sz := s.heap.size)
  generalize hAe : va_A [(h, .inr (7, [.ref bland, .int bdeathDay, .ref bfreeFrom, .ref bbarring, .ref bkeys, .ref bways, .int bcount, .ref bwins, .ref bslots, .int bround, .ref bworths, .ref bpath])), (bkeys, aI g 3000 Fbkeys), (bways, aI g 3000 Fbways), (bslots, aI g 8192 Fbslots)] s.heap.size = A at hD ⊢
  have hA : ∀ q : Nat, s.heap.size ≤ q → A q := fun q h => by rw [← hAe]; exact Or.inr h
  have hS : va_S A s.heap s.heap [] := va_S.rf
  have hl := lv_entry ([.ref h, .int p0, .int p1]) (n := 3) (Nat.le_of_ble_eq_true rfl)
  rw [lg_entry_eq]
  generalize (lg_sl ([.ref h, .int p0, .int p1]) ++ List.replicate (3 - (lg_sl ([.ref h, .int p0, .int p1])).length) Slot.unset).toArray = ls at hl ⊢
  have hl : lv_has ls 3 [(0, .ref h), (1, .int p0), (2, .int p1)] := hl
  refine p_nH (fun H hH => ?_)
  have hP : va_P g.1 vwCl [(h, .inr (7, [.ref bland, .int bdeathDay, .ref bfreeFrom, .ref bbarring, .ref bkeys, .ref bways, .int bcount, .ref bwins, .ref bslots, .int bround, .ref bworths, .ref bpath])), (bkeys, aI g 3000 Fbkeys), (bways, aI g 3000 Fbways), (bslots, aI g 8192 Fbslots)] H := by rw [hH]; exact hP
  have hS : va_S A s.heap H [] := by rw [hH]; exact hS
  refine lv_aload_n hx hb dX7_startAt_0 rfl (lv_at hl 0 rfl) ?_
  refine lv_dup hx hb dX7_startAt_1 rfl ?_
  refine va_get (D := g.1) (ci := 7) (v := .int bround) (C := RX7) (T := TX7) (N := 12) hx hb hT inF_X7 hown hK.1 hP 0 rfl rfl 9 (by decide) (hT _ bw_421) (fun _ h9 => h9) rfl dX7_startAt_2 ?_
  refine lv_iconst (v := 1) hx hb dX7_startAt_5 (by decide) ?_
  refine lv_iadd hx hb dX7_startAt_6 ?_
  refine lv_topi (fun x_1 ex_1 => ?_)
  have fx_1 : x_1.toInt = bround.toInt + 1 := by rw [ex_1]; exact I_add rfl (by decide : (1 : Int32).toInt = 1) (by omega) (by omega)
  refine va_put (D := g.1) (ci := 7) (v := .int x_1) (ty := .int) (C := RX7) (T := TX7) (N := 12) hx hb hT inF_X7 tyX7 tyX7_ok nmX7 hown hK.1 hP hD hS 0 rfl rfl 9 (by decide) (hT _ bw_421) (fun _ h9 => h9) rfl (by decide +kernel) rfl rfl (Nat.le_of_ble_eq_true rfl) dX7_startAt_7 (fun H locs hP hD hS => ?_)
  have hP : va_P g.1 vwCl [(h, .inr (7, [.ref bland, .int bdeathDay, .ref bfreeFrom, .ref bbarring, .ref bkeys, .ref bways, .int bcount, .ref bwins, .ref bslots, .int x_1, .ref bworths, .ref bpath])), (bkeys, aI g 3000 Fbkeys), (bways, aI g 3000 Fbways), (bslots, aI g 8192 Fbslots)] H := hP
  have hD : va_D A [(h, .inr (7, [.ref bland, .int bdeathDay, .ref bfreeFrom, .ref bbarring, .ref bkeys, .ref bways, .int bcount, .ref bwins, .ref bslots, .int x_1, .ref bworths, .ref bpath])), (bkeys, aI g 3000 Fbkeys), (bways, aI g 3000 Fbways), (bslots, aI g 8192 Fbslots)] := hD
  refine lv_aload_n hx hb dX7_startAt_10 rfl (lv_at hl 0 rfl) ?_
  refine va_get (D := g.1) (ci := 7) (v := .int x_1) (C := RX7) (T := TX7) (N := 12) hx hb hT inF_X7 hown hK.1 hP 0 rfl rfl 9 (by decide) (hT _ bw_421) (fun _ h9 => h9) rfl dX7_startAt_11 ?_
  refine lv_ldc (v := 1048575) hx hb hown (hT _ bw_462) dX7_startAt_14 ?_
  refine lv_icmp_le (tgt := 32) hx hb dX7_startAt_16 (by decide) (fun c_2 => ?_) (fun c_2 => ?_)
  · have f_3 := E_le (rfl : x_1.toInt = _) (by decide : (1048575 : Int32).toInt = 1048575) c_2
    refine lv_aload_n hx hb dX7_startAt_32 rfl (lv_at hl 0 rfl) ?_
    refine lv_iconst (v := 0) hx hb dX7_startAt_33 (by decide) ?_
    refine va_put (D := g.1) (ci := 7) (v := .int 0) (ty := .int) (C := RX7) (T := TX7) (N := 12) hx hb hT inF_X7 tyX7 tyX7_ok nmX7 hown hK.1 hP hD hS 0 rfl rfl 6 (by decide) (hT _ bw_460) (fun _ h9 => h9) rfl (by decide +kernel) rfl rfl (Nat.le_of_ble_eq_true rfl) dX7_startAt_34 (fun H locs hP hD hS => ?_)
    have hP : va_P g.1 vwCl [(h, .inr (7, [.ref bland, .int bdeathDay, .ref bfreeFrom, .ref bbarring, .ref bkeys, .ref bways, .int 0, .ref bwins, .ref bslots, .int x_1, .ref bworths, .ref bpath])), (bkeys, aI g 3000 Fbkeys), (bways, aI g 3000 Fbways), (bslots, aI g 8192 Fbslots)] H := hP
    have hD : va_D A [(h, .inr (7, [.ref bland, .int bdeathDay, .ref bfreeFrom, .ref bbarring, .ref bkeys, .ref bways, .int 0, .ref bwins, .ref bslots, .int x_1, .ref bworths, .ref bpath])), (bkeys, aI g 3000 Fbkeys), (bways, aI g 3000 Fbways), (bslots, aI g 8192 Fbslots)] := hD
    refine lv_aload_n hx hb dX7_startAt_37 rfl (lv_at hl 0 rfl) ?_
    refine lv_iload_n hx hb dX7_startAt_38 rfl (lv_at hl 1 rfl) ?_
    refine lv_bipush (v := 14) hx hb dX7_startAt_39 (by decide) ?_
    refine lv_ishl hx hb dX7_startAt_41 ?_
    refine lv_topi (fun x_4 ex_4 => ?_)
    refine lv_iload_n hx hb dX7_startAt_42 rfl (lv_at hl 2 rfl) ?_
    refine lv_ior hx hb dX7_startAt_43 ?_
    refine lv_topi (fun x_5 ex_5 => ?_)
    refine lv_iconst (v := 0) hx hb dX7_startAt_44 (by decide) ?_
    refine lv_iconst (v := 0) hx hb dX7_startAt_45 (by decide) ?_
    refine k_i (wr := []) (k_V (n := 3) ⟨hx, hb, hml, hown, hT⟩ hK hP hD [0, 1, 2, 3] rfl (by decide +kernel) (s_X7_reach2 l g H.size h bland bdeathDay bfreeFrom bbarring bkeys Fbkeys bways Fbways 0 bwins bslots Fbslots x_1 bworths bpath x_5 0 0 hh0 (by decide) hh2 (by first | with_reducible assumption | omega) (by decide) (by decide) KM.z (Or.inl rfl)) (gV bw_463 bw_464 bw_465 bw_426 bw_461) rfl rfl (by decide +kernel) ⟨by decide, by decide⟩ (ci := 7) (q0 := 0) rfl rfl (fun _ _ _ _ _ => trivial) (fun _ _ _ => trivial) rfl rfl hl.1 (Nat.le_of_ble_eq_true rfl) dX7_startAt_46 ⟨by decide, by decide⟩) hP hD hS hA [0, 1, 2, 3] [] rfl rfl (by decide +kernel) (by decide +kernel) (fun r_6 => pr_all fun y_7 => pr_all fun f_8 => pr_all fun f_9 => fun f_10 H locs hw0 hP hD hS => ?_)
    have hP : va_P g.1 vwCl [(h, .inr (7, [.ref bland, .int bdeathDay, .ref bfreeFrom, .ref bbarring, .ref bkeys, .ref bways, .int y_7, .ref bwins, .ref bslots, .int x_1, .ref bworths, .ref bpath])), (bkeys, aI g 3000 f_8), (bways, aI g 3000 f_9), (bslots, aI g 8192 f_10)] H := hP
    have hD : va_D A [(h, .inr (7, [.ref bland, .int bdeathDay, .ref bfreeFrom, .ref bbarring, .ref bkeys, .ref bways, .int y_7, .ref bwins, .ref bslots, .int x_1, .ref bworths, .ref bpath])), (bkeys, aI g 3000 f_8), (bways, aI g 3000 f_9), (bslots, aI g 8192 f_10)] := hD
    have hw : (0 ≤ r_6.toInt ∧ r_6.toInt ≤ 1) ∧ (KM y_7 f_8) ∧ (0 ≤ y_7.toInt) ∧ (0 ≤ y_7.toInt ∧ y_7.toInt ≤ 3000) ∧ (Rg 3000 0 47999 f_9) ∧ (Sl f_10) := hw0
    clear hw0
    have w_11 := hw.1
    have w_12 := hw.2.1
    have w_13 := hw.2.2.1
    have w_14 := hw.2.2.2.1
    have w_15 := hw.2.2.2.2.1
    have w_16 := hw.2.2.2.2.2
    clear hw
    refine lv_pop hx hb dX7_startAt_49 rfl ?_
    have hP9 : va_P g.1 vwCl [(h, .inr (7, [.ref bland, .int bdeathDay, .ref bfreeFrom, .ref bbarring, .ref bkeys, .ref bways, .int y_7, .ref bwins, .ref bslots, .int x_1, .ref bworths, .ref bpath])), (bkeys, aI g 3000 f_8), (bways, aI g 3000 f_9), (bslots, aI g 8192 f_10)] H := hP.sub [0, 1, 2, 3] rfl
    have hD9 : va_D A [(h, .inr (7, [.ref bland, .int bdeathDay, .ref bfreeFrom, .ref bbarring, .ref bkeys, .ref bways, .int y_7, .ref bwins, .ref bslots, .int x_1, .ref bworths, .ref bpath])), (bkeys, aI g 3000 f_8), (bways, aI g 3000 f_9), (bslots, aI g 8192 f_10)] := hD.sub [0, 1, 2, 3] (by decide +kernel) rfl
    exact W.vret hx hb hr (fun t ht hW => ⟨⟨(y_7, x_1, f_8, f_9, f_10), rfl, ⟨w_12, (by first | with_reducible assumption | omega), (by first | with_reducible assumption | omega), w_15, w_16⟩, by rw [ht]; exact hP9, by rw [hAe]; exact hD9⟩, hS.F ht⟩) hS.2.2 dX7_startAt_50
  · have f_17 := E_nle (rfl : x_1.toInt = _) (by decide : (1048575 : Int32).toInt = 1048575) c_2
    refine lv_aload_n hx hb dX7_startAt_19 rfl (lv_at hl 0 rfl) ?_
    refine lv_iconst (v := 1) hx hb dX7_startAt_20 (by decide) ?_
    refine va_put (D := g.1) (ci := 7) (v := .int 1) (ty := .int) (C := RX7) (T := TX7) (N := 12) hx hb hT inF_X7 tyX7 tyX7_ok nmX7 hown hK.1 hP hD hS 0 rfl rfl 9 (by decide) (hT _ bw_421) (fun _ h9 => h9) rfl (by decide +kernel) rfl rfl (Nat.le_of_ble_eq_true rfl) dX7_startAt_21 (fun H locs hP hD hS => ?_)
    have hP : va_P g.1 vwCl [(h, .inr (7, [.ref bland, .int bdeathDay, .ref bfreeFrom, .ref bbarring, .ref bkeys, .ref bways, .int bcount, .ref bwins, .ref bslots, .int 1, .ref bworths, .ref bpath])), (bkeys, aI g 3000 Fbkeys), (bways, aI g 3000 Fbways), (bslots, aI g 8192 Fbslots)] H := hP
    have hD : va_D A [(h, .inr (7, [.ref bland, .int bdeathDay, .ref bfreeFrom, .ref bbarring, .ref bkeys, .ref bways, .int bcount, .ref bwins, .ref bslots, .int 1, .ref bworths, .ref bpath])), (bkeys, aI g 3000 Fbkeys), (bways, aI g 3000 Fbways), (bslots, aI g 8192 Fbslots)] := hD
    refine lv_aload_n hx hb dX7_startAt_24 rfl (lv_at hl 0 rfl) ?_
    refine va_get (D := g.1) (ci := 7) (v := .ref bslots) (C := RX7) (T := TX7) (N := 12) hx hb hT inF_X7 hown hK.1 hP 0 rfl rfl 8 (by decide) (hT _ bw_420) (fun _ h9 => h9) rfl dX7_startAt_25 ?_
    refine lv_iconst (v := 0) hx hb dX7_startAt_28 (by decide) ?_
    refine k_v (wr := [(h, .inr (7, [.ref bland, .int bdeathDay, .ref bfreeFrom, .ref bbarring, .ref bkeys, .ref bways, .int bcount, .ref bwins, .ref bslots, .int 1, .ref bworths, .ref bpath])), (bkeys, aI g 3000 Fbkeys), (bways, aI g 3000 Fbways)]) (k_S (n := 2) ⟨hx, hb, hml, hown, hT⟩ hK hP hD [3] rfl (by decide +kernel) (s_J7_fill_53178_sl l g H.size bslots Fbslots hh2) (gS bw_466 bw_107 bw_108 bw_97) rfl rfl (by decide +kernel) ⟨by decide, by decide⟩ (fun _ _ _ _ _ => trivial) (fun _ _ _ => trivial) rfl rfl hl.1 (Nat.le_of_ble_eq_true rfl) dX7_startAt_29 ⟨by decide, by decide⟩) hP hD hS hA [3] [0, 1, 2] rfl rfl (by decide +kernel) (by decide +kernel) (fun f_18 H locs hw0 hP hD hS => ?_)
    have hP : va_P g.1 vwCl [(h, .inr (7, [.ref bland, .int bdeathDay, .ref bfreeFrom, .ref bbarring, .ref bkeys, .ref bways, .int bcount, .ref bwins, .ref bslots, .int 1, .ref bworths, .ref bpath])), (bkeys, aI g 3000 Fbkeys), (bways, aI g 3000 Fbways), (bslots, aI g 8192 f_18)] H := hP
    have hD : va_D A [(h, .inr (7, [.ref bland, .int bdeathDay, .ref bfreeFrom, .ref bbarring, .ref bkeys, .ref bways, .int bcount, .ref bwins, .ref bslots, .int 1, .ref bworths, .ref bpath])), (bkeys, aI g 3000 Fbkeys), (bways, aI g 3000 Fbways), (bslots, aI g 8192 f_18)] := hD
    have hw : Sl f_18 := hw0
    clear hw0
    have w_19 := hw
    refine lv_aload_n hx hb dX7_startAt_32 rfl (lv_at hl 0 rfl) ?_
    refine lv_iconst (v := 0) hx hb dX7_startAt_33 (by decide) ?_
    refine va_put (D := g.1) (ci := 7) (v := .int 0) (ty := .int) (C := RX7) (T := TX7) (N := 12) hx hb hT inF_X7 tyX7 tyX7_ok nmX7 hown hK.1 hP hD hS 0 rfl rfl 6 (by decide) (hT _ bw_460) (fun _ h9 => h9) rfl (by decide +kernel) rfl rfl (Nat.le_of_ble_eq_true rfl) dX7_startAt_34 (fun H locs hP hD hS => ?_)
    have hP : va_P g.1 vwCl [(h, .inr (7, [.ref bland, .int bdeathDay, .ref bfreeFrom, .ref bbarring, .ref bkeys, .ref bways, .int 0, .ref bwins, .ref bslots, .int 1, .ref bworths, .ref bpath])), (bkeys, aI g 3000 Fbkeys), (bways, aI g 3000 Fbways), (bslots, aI g 8192 f_18)] H := hP
    have hD : va_D A [(h, .inr (7, [.ref bland, .int bdeathDay, .ref bfreeFrom, .ref bbarring, .ref bkeys, .ref bways, .int 0, .ref bwins, .ref bslots, .int 1, .ref bworths, .ref bpath])), (bkeys, aI g 3000 Fbkeys), (bways, aI g 3000 Fbways), (bslots, aI g 8192 f_18)] := hD
    refine lv_aload_n hx hb dX7_startAt_37 rfl (lv_at hl 0 rfl) ?_
    refine lv_iload_n hx hb dX7_startAt_38 rfl (lv_at hl 1 rfl) ?_
    refine lv_bipush (v := 14) hx hb dX7_startAt_39 (by decide) ?_
    refine lv_ishl hx hb dX7_startAt_41 ?_
    refine lv_topi (fun x_20 ex_20 => ?_)
    refine lv_iload_n hx hb dX7_startAt_42 rfl (lv_at hl 2 rfl) ?_
    refine lv_ior hx hb dX7_startAt_43 ?_
    refine lv_topi (fun x_21 ex_21 => ?_)
    refine lv_iconst (v := 0) hx hb dX7_startAt_44 (by decide) ?_
    refine lv_iconst (v := 0) hx hb dX7_startAt_45 (by decide) ?_
    refine k_i (wr := []) (k_V (n := 3) ⟨hx, hb, hml, hown, hT⟩ hK hP hD [0, 1, 2, 3] rfl (by decide +kernel) (s_X7_reach2 l g H.size h bland bdeathDay bfreeFrom bbarring bkeys Fbkeys bways Fbways 0 bwins bslots f_18 1 bworths bpath x_21 0 0 hh0 (by decide) w_19 (by decide) (by decide) (by decide) KM.z (Or.inl rfl)) (gV bw_463 bw_464 bw_465 bw_426 bw_461) rfl rfl (by decide +kernel) ⟨by decide, by decide⟩ (ci := 7) (q0 := 0) rfl rfl (fun _ _ _ _ _ => trivial) (fun _ _ _ => trivial) rfl rfl hl.1 (Nat.le_of_ble_eq_true rfl) dX7_startAt_46 ⟨by decide, by decide⟩) hP hD hS hA [0, 1, 2, 3] [] rfl rfl (by decide +kernel) (by decide +kernel) (fun r_22 => pr_all fun y_23 => pr_all fun f_24 => pr_all fun f_25 => fun f_26 H locs hw0 hP hD hS => ?_)
    have hP : va_P g.1 vwCl [(h, .inr (7, [.ref bland, .int bdeathDay, .ref bfreeFrom, .ref bbarring, .ref bkeys, .ref bways, .int y_23, .ref bwins, .ref bslots, .int 1, .ref bworths, .ref bpath])), (bkeys, aI g 3000 f_24), (bways, aI g 3000 f_25), (bslots, aI g 8192 f_26)] H := hP
    have hD : va_D A [(h, .inr (7, [.ref bland, .int bdeathDay, .ref bfreeFrom, .ref bbarring, .ref bkeys, .ref bways, .int y_23, .ref bwins, .ref bslots, .int 1, .ref bworths, .ref bpath])), (bkeys, aI g 3000 f_24), (bways, aI g 3000 f_25), (bslots, aI g 8192 f_26)] := hD
    have hw : (0 ≤ r_22.toInt ∧ r_22.toInt ≤ 1) ∧ (KM y_23 f_24) ∧ (0 ≤ y_23.toInt) ∧ (0 ≤ y_23.toInt ∧ y_23.toInt ≤ 3000) ∧ (Rg 3000 0 47999 f_25) ∧ (Sl f_26) := hw0
    clear hw0
    have w_27 := hw.1
    have w_28 := hw.2.1
    have w_29 := hw.2.2.1
    have w_30 := hw.2.2.2.1
    have w_31 := hw.2.2.2.2.1
    have w_32 := hw.2.2.2.2.2
    clear hw
    refine lv_pop hx hb dX7_startAt_49 rfl ?_
    have hP9 : va_P g.1 vwCl [(h, .inr (7, [.ref bland, .int bdeathDay, .ref bfreeFrom, .ref bbarring, .ref bkeys, .ref bways, .int y_23, .ref bwins, .ref bslots, .int 1, .ref bworths, .ref bpath])), (bkeys, aI g 3000 f_24), (bways, aI g 3000 f_25), (bslots, aI g 8192 f_26)] H := hP.sub [0, 1, 2, 3] rfl
    have hD9 : va_D A [(h, .inr (7, [.ref bland, .int bdeathDay, .ref bfreeFrom, .ref bbarring, .ref bkeys, .ref bways, .int y_23, .ref bwins, .ref bslots, .int 1, .ref bworths, .ref bpath])), (bkeys, aI g 3000 f_24), (bways, aI g 3000 f_25), (bslots, aI g 8192 f_26)] := hD.sub [0, 1, 2, 3] (by decide +kernel) rfl
    exact W.vret hx hb hr (fun t ht hW => ⟨⟨(y_23, 1, f_24, f_25, f_26), rfl, ⟨w_28, (by first | with_reducible assumption | omega), ⟨by decide, by decide⟩, w_31, w_32⟩, by rw [ht]; exact hP9, by rw [hAe]; exact hD9⟩, hS.F ht⟩) hS.2.2 dX7_startAt_50

set_option maxHeartbeats 4000000 in
set_option maxRecDepth 100000 in
theorem s_X7_expand2 (l : Launch) (g : GG) (sz : Nat) (h : Nat) (bland : Nat) (bdeathDay : Int32) (bfreeFrom : Nat) (FbfreeFrom : Nat → Int32) (bbarring : Nat) (Fbbarring : Nat → Int32) (bkeys : Nat) (Fbkeys : Nat → Int32) (bways : Nat) (Fbways : Nat → Int32) (bcount : Int32) (bwins : Nat) (bslots : Nat) (Fbslots : Nat → Int32) (bround : Int32) (bworths : Nat) (Fbworths : Nat → Int32) (bpath : Nat) (dduels : Int32) (dduelSides : Nat) (dduelMornings : Nat) (dhonour : Int32) (ddraw : Int32) (dusesOfKind : Nat) (FdusesOfKind : Nat → Int32) (dmen : Nat) (dformulas : Nat) (dformulas_count : Int32) (dformulas_units : Int32) (dformulas_names : Nat) (dformulas_unitsOfThis : Int32) (dformulas_length : Int32) (dformulas_starts : Nat) (Fdformulas_starts : Nat → Int32) (dformulas_steps : Nat) (Fdformulas_steps : Nat → Int32) (dformulas_stack : Nat) (Fdformulas_stack : Nat → Int32) (dreasons : Nat) (dreasons_count : Int32) (dreasons_names : Nat) (dreasons_kinds : Nat) (Fdreasons_kinds : Nat → Int32) (dreasons_owners : Nat) (dreasons_froms : Nat) (Fdreasons_froms : Nat → Int32) (dreasons_tos : Nat) (Fdreasons_tos : Nat → Int32) (dreasons_rents : Nat) (dreasons_sorts : Nat) (p0 : Int32) (p1 : Int32) (p2 : Int32) (p3 : Int32) (hh0 : Rg 3000 0 47999 Fbways) (hh1 : 0 ≤ bcount.toInt ∧ bcount.toInt ≤ 3000) (hh2 : Sl Fbslots) (hh3 : 0 ≤ bround.toInt ∧ bround.toInt ≤ 1048575) (hh4 : Rg 4 0 365 Fbworths) (hh6 : 0 ≤ dduels.toInt ∧ dduels.toInt ≤ 6) (hh8 : 0 ≤ ddraw.toInt ∧ ddraw.toInt ≤ 999) (hh10 : 0 ≤ dformulas_count.toInt ∧ dformulas_count.toInt ≤ 4) (hh11 : 0 ≤ dformulas_units.toInt ∧ dformulas_units.toInt ≤ 60) (hh12 : 0 ≤ dformulas_unitsOfThis.toInt ∧ dformulas_unitsOfThis.toInt ≤ 30) (hh13 : 0 ≤ dformulas_length.toInt ∧ dformulas_length.toInt ≤ 640) (hh14 : Rg 5 0 640 Fdformulas_starts) (hh15 : 0 ≤ dreasons_count.toInt ∧ dreasons_count.toInt ≤ 8) (hh16 : Rg 8 0 3 Fdreasons_kinds) (hh18 : 0 ≤ p0.toInt ∧ p0.toInt ≤ 3000) (hh19 : 0 ≤ p1.toInt ∧ p1.toInt ≤ 3000) (hh20 : 0 ≤ p2.toInt ∧ p2.toInt ≤ 1) (hh21 : 0 ≤ p3.toInt ∧ p3.toInt ≤ 1) (hkm : KM bcount Fbkeys) (hpc : p1.toInt ≤ bcount.toInt) : Met l yX7_expand (.code yX7_expand cX7_expand 8 (some .boolean) :: gT) ({ frames := 4, cells := 0, slots := 0, locals := 109 }) (va_Pc [.ref h, .int p0, .int p1, .int p2, .int p3] (Pst g sz [(h, .inr (7, [.ref bland, .int bdeathDay, .ref bfreeFrom, .ref bbarring, .ref bkeys, .ref bways, .int bcount, .ref bwins, .ref bslots, .int bround, .ref bworths, .ref bpath])), (bfreeFrom, aI g 16 FbfreeFrom), (bbarring, aI g 16 Fbbarring), (bkeys, aI g 3000 Fbkeys), (bways, aI g 3000 Fbways), (bslots, aI g 8192 Fbslots), (bworths, aI g 4 Fbworths), (bland, .inr (2, [.ref dmen, .ref dformulas, .ref dreasons, .int dduels, .ref dduelSides, .ref dduelMornings, .int dhonour, .int ddraw, .ref dusesOfKind])), (dusesOfKind, aI g 4 FdusesOfKind), (dformulas, .inr (0, [.int dformulas_count, .int dformulas_units, .ref dformulas_names, .int dformulas_unitsOfThis, .int dformulas_length, .ref dformulas_starts, .ref dformulas_steps, .ref dformulas_stack])), (dformulas_starts, aI g 5 Fdformulas_starts), (dformulas_steps, aI g 640 Fdformulas_steps), (dformulas_stack, aI g 32 Fdformulas_stack), (dreasons, .inr (6, [.int dreasons_count, .ref dreasons_names, .ref dreasons_kinds, .ref dreasons_owners, .ref dreasons_froms, .ref dreasons_tos, .ref dreasons_rents, .ref dreasons_sorts])), (dreasons_kinds, aI g 8 Fdreasons_kinds), (dreasons_froms, aI g 8 Fdreasons_froms), (dreasons_tos, aI g 8 Fdreasons_tos)] nX)) (va_Qi (fun (r : Int32) => fun ((o0_count, o1_F, o2_F, o3_F, o4_F, o5_F) : Int32 × (Nat → Int32) × (Nat → Int32) × (Nat → Int32) × (Nat → Int32) × (Nat → Int32)) => (0 ≤ r.toInt ∧ r.toInt ≤ 1) ∧ (KM o0_count o1_F) ∧ (0 ≤ o0_count.toInt ∧ o0_count.toInt ≤ 3000) ∧ (Rg 3000 0 47999 o2_F) ∧ (Sl o3_F) ∧ (Rg 4 0 365 o4_F)) (Qst g [(h, .inr (7, [.ref bland, .int bdeathDay, .ref bfreeFrom, .ref bbarring, .ref bkeys, .ref bways, .int bcount, .ref bwins, .ref bslots, .int bround, .ref bworths, .ref bpath])), (bfreeFrom, aI g 16 FbfreeFrom), (bbarring, aI g 16 Fbbarring), (bkeys, aI g 3000 Fbkeys), (bways, aI g 3000 Fbways), (bslots, aI g 8192 Fbslots), (bworths, aI g 4 Fbworths), (bland, .inr (2, [.ref dmen, .ref dformulas, .ref dreasons, .int dduels, .ref dduelSides, .ref dduelMornings, .int dhonour, .int ddraw, .ref dusesOfKind])), (dusesOfKind, aI g 4 FdusesOfKind), (dformulas, .inr (0, [.int dformulas_count, .int dformulas_units, .ref dformulas_names, .int dformulas_unitsOfThis, .int dformulas_length, .ref dformulas_starts, .ref dformulas_steps, .ref dformulas_stack])), (dformulas_starts, aI g 5 Fdformulas_starts), (dformulas_steps, aI g 640 Fdformulas_steps), (dformulas_stack, aI g 32 Fdformulas_stack), (dreasons, .inr (6, [.int dreasons_count, .ref dreasons_names, .ref dreasons_kinds, .ref dreasons_owners, .ref dreasons_froms, .ref dreasons_tos, .ref dreasons_rents, .ref dreasons_sorts])), (dreasons_kinds, aI g 8 Fdreasons_kinds), (dreasons_froms, aI g 8 Fdreasons_froms), (dreasons_tos, aI g 8 Fdreasons_tos)] sz (fun ((o0_count, o1_F, o2_F, o3_F, o4_F, o5_F) : Int32 × (Nat → Int32) × (Nat → Int32) × (Nat → Int32) × (Nat → Int32) × (Nat → Int32)) => [(h, .inr (7, [.ref bland, .int bdeathDay, .ref bfreeFrom, .ref bbarring, .ref bkeys, .ref bways, .int o0_count, .ref bwins, .ref bslots, .int bround, .ref bworths, .ref bpath])), (bfreeFrom, aI g 16 FbfreeFrom), (bbarring, aI g 16 Fbbarring), (bkeys, aI g 3000 o1_F), (bways, aI g 3000 o2_F), (bslots, aI g 8192 o3_F), (bworths, aI g 4 o4_F), (bland, .inr (2, [.ref dmen, .ref dformulas, .ref dreasons, .int dduels, .ref dduelSides, .ref dduelMornings, .int dhonour, .int ddraw, .ref dusesOfKind])), (dusesOfKind, aI g 4 FdusesOfKind), (dformulas, .inr (0, [.int dformulas_count, .int dformulas_units, .ref dformulas_names, .int dformulas_unitsOfThis, .int dformulas_length, .ref dformulas_starts, .ref dformulas_steps, .ref dformulas_stack])), (dformulas_starts, aI g 5 Fdformulas_starts), (dformulas_steps, aI g 640 Fdformulas_steps), (dformulas_stack, aI g 32 o5_F), (dreasons, .inr (6, [.int dreasons_count, .ref dreasons_names, .ref dreasons_kinds, .ref dreasons_owners, .ref dreasons_froms, .ref dreasons_tos, .ref dreasons_rents, .ref dreasons_sorts])), (dreasons_kinds, aI g 8 Fdreasons_kinds), (dreasons_froms, aI g 8 Fdreasons_froms), (dreasons_tos, aI g 8 Fdreasons_tos)])) (va_A [(h, .inr (7, [.ref bland, .int bdeathDay, .ref bfreeFrom, .ref bbarring, .ref bkeys, .ref bways, .int bcount, .ref bwins, .ref bslots, .int bround, .ref bworths, .ref bpath])), (bfreeFrom, aI g 16 FbfreeFrom), (bbarring, aI g 16 Fbbarring), (bkeys, aI g 3000 Fbkeys), (bways, aI g 3000 Fbways), (bslots, aI g 8192 Fbslots), (bworths, aI g 4 Fbworths), (bland, .inr (2, [.ref dmen, .ref dformulas, .ref dreasons, .int dduels, .ref dduelSides, .ref dduelMornings, .int dhonour, .int ddraw, .ref dusesOfKind])), (dusesOfKind, aI g 4 FdusesOfKind), (dformulas, .inr (0, [.int dformulas_count, .int dformulas_units, .ref dformulas_names, .int dformulas_unitsOfThis, .int dformulas_length, .ref dformulas_starts, .ref dformulas_steps, .ref dformulas_stack])), (dformulas_starts, aI g 5 Fdformulas_starts), (dformulas_steps, aI g 640 Fdformulas_steps), (dformulas_stack, aI g 32 Fdformulas_stack), (dreasons, .inr (6, [.int dreasons_count, .ref dreasons_names, .ref dreasons_kinds, .ref dreasons_owners, .ref dreasons_froms, .ref dreasons_tos, .ref dreasons_rents, .ref dreasons_sorts])), (dreasons_kinds, aI g 8 Fdreasons_kinds), (dreasons_froms, aI g 8 Fdreasons_froms), (dreasons_tos, aI g 8 Fdreasons_tos)] sz)) 0 0 (va_A [(h, .inr (7, [.ref bland, .int bdeathDay, .ref bfreeFrom, .ref bbarring, .ref bkeys, .ref bways, .int bcount, .ref bwins, .ref bslots, .int bround, .ref bworths, .ref bpath])), (bfreeFrom, aI g 16 FbfreeFrom), (bbarring, aI g 16 Fbbarring), (bkeys, aI g 3000 Fbkeys), (bways, aI g 3000 Fbways), (bslots, aI g 8192 Fbslots), (bworths, aI g 4 Fbworths), (bland, .inr (2, [.ref dmen, .ref dformulas, .ref dreasons, .int dduels, .ref dduelSides, .ref dduelMornings, .int dhonour, .int ddraw, .ref dusesOfKind])), (dusesOfKind, aI g 4 FdusesOfKind), (dformulas, .inr (0, [.int dformulas_count, .int dformulas_units, .ref dformulas_names, .int dformulas_unitsOfThis, .int dformulas_length, .ref dformulas_starts, .ref dformulas_steps, .ref dformulas_stack])), (dformulas_starts, aI g 5 Fdformulas_starts), (dformulas_steps, aI g 640 Fdformulas_steps), (dformulas_stack, aI g 32 Fdformulas_stack), (dreasons, .inr (6, [.int dreasons_count, .ref dreasons_names, .ref dreasons_kinds, .ref dreasons_owners, .ref dreasons_froms, .ref dreasons_tos, .ref dreasons_rents, .ref dreasons_sorts])), (dreasons_kinds, aI g 8 Fdreasons_kinds), (dreasons_froms, aI g 8 Fdreasons_froms), (dreasons_tos, aI g 8 Fdreasons_tos)] sz) := by
  refine Met.ofW (cc := cX7_expand) (maxL := 8) (ret := (some .boolean)) (by decide) rfl ?_
  intro p e s m args below meth c s₁ B hml hv
  obtain ⟨rfl, hsz, hP, hK, hD0, hX⟩ := hv
  have hx := B.exec
  have hb := B.bytes
  have hr := B.returns
  have hT : ∀ w ∈ gT, w.before _ s = true := fun w h => atoms_spec (ws := .code yX7_expand cX7_expand 8 (some .boolean) :: gT) B.pre w (List.mem_cons_of_mem _ h)
  have hown : s.vm.findClass RX7 = some m.cls := findClass_of_methodNamed B.named
  have hlocks := B.notSynchronized
  subst hsz
  have hD := hD0.self (sz := s.heap.size)
  generalize hAe : va_A [(h, .inr (7, [.ref bland, .int bdeathDay, .ref bfreeFrom, .ref bbarring, .ref bkeys, .ref bways, .int bcount, .ref bwins, .ref bslots, .int bround, .ref bworths, .ref bpath])), (bfreeFrom, aI g 16 FbfreeFrom), (bbarring, aI g 16 Fbbarring), (bkeys, aI g 3000 Fbkeys), (bways, aI g 3000 Fbways), (bslots, aI g 8192 Fbslots), (bworths, aI g 4 Fbworths), (bland, .inr (2, [.ref dmen, .ref dformulas, .ref dreasons, .int dduels, .ref dduelSides, .ref dduelMornings, .int dhonour, .int ddraw, .ref dusesOfKind])), (dusesOfKind, aI g 4 FdusesOfKind), (dformulas, .inr (0, [.int dformulas_count, .int dformulas_units, .ref dformulas_names, .int dformulas_unitsOfThis, .int dformulas_length, .ref dformulas_starts, .ref dformulas_steps, .ref dformulas_stack])), (dformulas_starts, aI g 5 Fdformulas_starts), (dformulas_steps, aI g 640 Fdformulas_steps), (dformulas_stack, aI g 32 Fdformulas_stack), (dreasons, .inr (6, [.int dreasons_count, .ref dreasons_names, .ref dreasons_kinds, .ref dreasons_owners, .ref dreasons_froms, .ref dreasons_tos, .ref dreasons_rents, .ref dreasons_sorts])), (dreasons_kinds, aI g 8 Fdreasons_kinds), (dreasons_froms, aI g 8 Fdreasons_froms), (dreasons_tos, aI g 8 Fdreasons_tos)] s.heap.size = A at hD ⊢
  have hA : ∀ q : Nat, s.heap.size ≤ q → A q := fun q h => by rw [← hAe]; exact Or.inr h
  have hS : va_S A s.heap s.heap [] := va_S.rf
  have hl := lv_entry ([.ref h, .int p0, .int p1, .int p2, .int p3]) (n := 8) (Nat.le_of_ble_eq_true rfl)
  rw [lg_entry_eq]
  generalize (lg_sl ([.ref h, .int p0, .int p1, .int p2, .int p3]) ++ List.replicate (8 - (lg_sl ([.ref h, .int p0, .int p1, .int p2, .int p3])).length) Slot.unset).toArray = ls at hl ⊢
  have hl : lv_has ls 8 [(0, .ref h), (1, .int p0), (2, .int p1), (3, .int p2), (4, .int p3)] := hl
  refine p_nH (fun H hH => ?_)
  have hP : va_P g.1 vwCl [(h, .inr (7, [.ref bland, .int bdeathDay, .ref bfreeFrom, .ref bbarring, .ref bkeys, .ref bways, .int bcount, .ref bwins, .ref bslots, .int bround, .ref bworths, .ref bpath])), (bfreeFrom, aI g 16 FbfreeFrom), (bbarring, aI g 16 Fbbarring), (bkeys, aI g 3000 Fbkeys), (bways, aI g 3000 Fbways), (bslots, aI g 8192 Fbslots), (bworths, aI g 4 Fbworths), (bland, .inr (2, [.ref dmen, .ref dformulas, .ref dreasons, .int dduels, .ref dduelSides, .ref dduelMornings, .int dhonour, .int ddraw, .ref dusesOfKind])), (dusesOfKind, aI g 4 FdusesOfKind), (dformulas, .inr (0, [.int dformulas_count, .int dformulas_units, .ref dformulas_names, .int dformulas_unitsOfThis, .int dformulas_length, .ref dformulas_starts, .ref dformulas_steps, .ref dformulas_stack])), (dformulas_starts, aI g 5 Fdformulas_starts), (dformulas_steps, aI g 640 Fdformulas_steps), (dformulas_stack, aI g 32 Fdformulas_stack), (dreasons, .inr (6, [.int dreasons_count, .ref dreasons_names, .ref dreasons_kinds, .ref dreasons_owners, .ref dreasons_froms, .ref dreasons_tos, .ref dreasons_rents, .ref dreasons_sorts])), (dreasons_kinds, aI g 8 Fdreasons_kinds), (dreasons_froms, aI g 8 Fdreasons_froms), (dreasons_tos, aI g 8 Fdreasons_tos)] H := by rw [hH]; exact hP
  have hS : va_S A s.heap H [] := by rw [hH]; exact hS
  refine lv_iload_n hx hb dX7_expand_0 rfl (lv_at hl 1 rfl) ?_
  refine lv_istore (lv' := [(5, .int p0), (0, .ref h), (1, .int p0), (2, .int p1), (3, .int p2), (4, .int p3)]) hx hb dX7_expand_1 hl (by decide) rfl (fun ls hl => ?_)
  refine k_floop 3 (fun n H locs ls => ∃ (L_1 : Int32) (L_2 : Int32) (f_3 : Nat → Int32) (f_4 : Nat → Int32) (f_5 : Nat → Int32) (f_6 : Nat → Int32) (f_7 : Nat → Int32), (0 ≤ L_1.toInt ∧ L_1.toInt ≤ 3000) ∧ (0 ≤ L_2.toInt ∧ L_2.toInt ≤ 3000) ∧ (Sl f_4) ∧ (Rg 3000 0 47999 f_5) ∧ (Rg 4 0 365 f_6) ∧ (p1.toInt ≤ L_2.toInt) ∧ (KM L_2 f_3) ∧ 3000 - L_1.toInt ≤ (n : Int) ∧ va_P g.1 vwCl [(h, .inr (7, [.ref bland, .int bdeathDay, .ref bfreeFrom, .ref bbarring, .ref bkeys, .ref bways, .int L_2, .ref bwins, .ref bslots, .int bround, .ref bworths, .ref bpath])), (bfreeFrom, aI g 16 FbfreeFrom), (bbarring, aI g 16 Fbbarring), (bkeys, aI g 3000 f_3), (bways, aI g 3000 f_5), (bslots, aI g 8192 f_4), (bworths, aI g 4 f_6), (bland, .inr (2, [.ref dmen, .ref dformulas, .ref dreasons, .int dduels, .ref dduelSides, .ref dduelMornings, .int dhonour, .int ddraw, .ref dusesOfKind])), (dusesOfKind, aI g 4 FdusesOfKind), (dformulas, .inr (0, [.int dformulas_count, .int dformulas_units, .ref dformulas_names, .int dformulas_unitsOfThis, .int dformulas_length, .ref dformulas_starts, .ref dformulas_steps, .ref dformulas_stack])), (dformulas_starts, aI g 5 Fdformulas_starts), (dformulas_steps, aI g 640 Fdformulas_steps), (dformulas_stack, aI g 32 f_7), (dreasons, .inr (6, [.int dreasons_count, .ref dreasons_names, .ref dreasons_kinds, .ref dreasons_owners, .ref dreasons_froms, .ref dreasons_tos, .ref dreasons_rents, .ref dreasons_sorts])), (dreasons_kinds, aI g 8 Fdreasons_kinds), (dreasons_froms, aI g 8 Fdreasons_froms), (dreasons_tos, aI g 8 Fdreasons_tos)] H ∧ va_D A [(h, .inr (7, [.ref bland, .int bdeathDay, .ref bfreeFrom, .ref bbarring, .ref bkeys, .ref bways, .int L_2, .ref bwins, .ref bslots, .int bround, .ref bworths, .ref bpath])), (bfreeFrom, aI g 16 FbfreeFrom), (bbarring, aI g 16 Fbbarring), (bkeys, aI g 3000 f_3), (bways, aI g 3000 f_5), (bslots, aI g 8192 f_4), (bworths, aI g 4 f_6), (bland, .inr (2, [.ref dmen, .ref dformulas, .ref dreasons, .int dduels, .ref dduelSides, .ref dduelMornings, .int dhonour, .int ddraw, .ref dusesOfKind])), (dusesOfKind, aI g 4 FdusesOfKind), (dformulas, .inr (0, [.int dformulas_count, .int dformulas_units, .ref dformulas_names, .int dformulas_unitsOfThis, .int dformulas_length, .ref dformulas_starts, .ref dformulas_steps, .ref dformulas_stack])), (dformulas_starts, aI g 5 Fdformulas_starts), (dformulas_steps, aI g 640 Fdformulas_steps), (dformulas_stack, aI g 32 f_7), (dreasons, .inr (6, [.int dreasons_count, .ref dreasons_names, .ref dreasons_kinds, .ref dreasons_owners, .ref dreasons_froms, .ref dreasons_tos, .ref dreasons_rents, .ref dreasons_sorts])), (dreasons_kinds, aI g 8 Fdreasons_kinds), (dreasons_froms, aI g 8 Fdreasons_froms), (dreasons_tos, aI g 8 Fdreasons_tos)] ∧ va_S A s.heap H locs ∧ lv_has ls 8 [(5, .int L_1), (0, .ref h), (1, .int p0), (2, .int p1), (3, .int p2), (4, .int p3)]) (fun n H locs ls hI ih => ?_) ((3000 - p0.toInt : Int)).toNat ⟨p0, bcount, Fbkeys, Fbslots, Fbways, Fbworths, Fdformulas_stack, (by first | with_reducible assumption | omega), (by first | with_reducible assumption | omega), hh2, hh0, hh4, by omega, hkm, by omega, hP, hD, hS, hl⟩
  refine hI.elim (fun L_1 hI => hI.elim (fun L_2 hI => hI.elim (fun f_3 hI => hI.elim (fun f_4 hI => hI.elim (fun f_5 hI => hI.elim (fun f_6 hI => hI.elim (fun f_7 hI => ?_)))))))
  have g_8 := hI.1
  have g_9 := hI.2.1
  have g_10 := hI.2.2.1
  have g_11 := hI.2.2.2.1
  have g_12 := hI.2.2.2.2.1
  have q_13 := hI.2.2.2.2.2.1
  have w_14 := hI.2.2.2.2.2.2.1
  have hm_15 := hI.2.2.2.2.2.2.2.1
  have hP := hI.2.2.2.2.2.2.2.2.1
  have hD := hI.2.2.2.2.2.2.2.2.2.1
  have hS := hI.2.2.2.2.2.2.2.2.2.2.1
  have hl := hI.2.2.2.2.2.2.2.2.2.2.2
  clear hI
  refine lv_iload hx hb dX7_expand_3 (lv_at hl 0 rfl) ?_
  refine lv_iload_n hx hb dX7_expand_5 rfl (lv_at hl 3 rfl) ?_
  refine lv_icmp_ge (tgt := 110) hx hb dX7_expand_6 (by decide) (fun c_16 => ?_) (fun c_16 => ?_)
  · have f_17 := E_le (rfl : p1.toInt = _) (rfl : L_1.toInt = _) c_16
    refine lv_iconst (v := 1) hx hb dX7_expand_110 (by decide) ?_
    have hP9 : va_P g.1 vwCl [(h, .inr (7, [.ref bland, .int bdeathDay, .ref bfreeFrom, .ref bbarring, .ref bkeys, .ref bways, .int L_2, .ref bwins, .ref bslots, .int bround, .ref bworths, .ref bpath])), (bfreeFrom, aI g 16 FbfreeFrom), (bbarring, aI g 16 Fbbarring), (bkeys, aI g 3000 f_3), (bways, aI g 3000 f_5), (bslots, aI g 8192 f_4), (bworths, aI g 4 f_6), (bland, .inr (2, [.ref dmen, .ref dformulas, .ref dreasons, .int dduels, .ref dduelSides, .ref dduelMornings, .int dhonour, .int ddraw, .ref dusesOfKind])), (dusesOfKind, aI g 4 FdusesOfKind), (dformulas, .inr (0, [.int dformulas_count, .int dformulas_units, .ref dformulas_names, .int dformulas_unitsOfThis, .int dformulas_length, .ref dformulas_starts, .ref dformulas_steps, .ref dformulas_stack])), (dformulas_starts, aI g 5 Fdformulas_starts), (dformulas_steps, aI g 640 Fdformulas_steps), (dformulas_stack, aI g 32 f_7), (dreasons, .inr (6, [.int dreasons_count, .ref dreasons_names, .ref dreasons_kinds, .ref dreasons_owners, .ref dreasons_froms, .ref dreasons_tos, .ref dreasons_rents, .ref dreasons_sorts])), (dreasons_kinds, aI g 8 Fdreasons_kinds), (dreasons_froms, aI g 8 Fdreasons_froms), (dreasons_tos, aI g 8 Fdreasons_tos)] H := hP.sub [0, 1, 2, 3, 4, 5, 6, 7, 8, 9, 10, 11, 12, 13, 14, 15, 16] rfl
    have hD9 : va_D A [(h, .inr (7, [.ref bland, .int bdeathDay, .ref bfreeFrom, .ref bbarring, .ref bkeys, .ref bways, .int L_2, .ref bwins, .ref bslots, .int bround, .ref bworths, .ref bpath])), (bfreeFrom, aI g 16 FbfreeFrom), (bbarring, aI g 16 Fbbarring), (bkeys, aI g 3000 f_3), (bways, aI g 3000 f_5), (bslots, aI g 8192 f_4), (bworths, aI g 4 f_6), (bland, .inr (2, [.ref dmen, .ref dformulas, .ref dreasons, .int dduels, .ref dduelSides, .ref dduelMornings, .int dhonour, .int ddraw, .ref dusesOfKind])), (dusesOfKind, aI g 4 FdusesOfKind), (dformulas, .inr (0, [.int dformulas_count, .int dformulas_units, .ref dformulas_names, .int dformulas_unitsOfThis, .int dformulas_length, .ref dformulas_starts, .ref dformulas_steps, .ref dformulas_stack])), (dformulas_starts, aI g 5 Fdformulas_starts), (dformulas_steps, aI g 640 Fdformulas_steps), (dformulas_stack, aI g 32 f_7), (dreasons, .inr (6, [.int dreasons_count, .ref dreasons_names, .ref dreasons_kinds, .ref dreasons_owners, .ref dreasons_froms, .ref dreasons_tos, .ref dreasons_rents, .ref dreasons_sorts])), (dreasons_kinds, aI g 8 Fdreasons_kinds), (dreasons_froms, aI g 8 Fdreasons_froms), (dreasons_tos, aI g 8 Fdreasons_tos)] := hD.sub [0, 1, 2, 3, 4, 5, 6, 7, 8, 9, 10, 11, 12, 13, 14, 15, 16] (by decide +kernel) rfl
    exact W.zret (v := 1) (ty := .boolean) hx hb hr rfl (fun t ht hW => ⟨⟨1, (L_2, f_3, f_5, f_4, f_6, f_7), rfl, ⟨⟨by decide, by decide⟩, w_14, (by first | with_reducible assumption | omega), g_11, g_10, g_12⟩, by rw [ht]; exact hP9, by rw [hAe]; exact hD9⟩, hS.F ht⟩) hS.2.2 dX7_expand_111
  · have f_18 := E_nle (rfl : p1.toInt = _) (rfl : L_1.toInt = _) c_16
    refine lv_aload_n hx hb dX7_expand_9 rfl (lv_at hl 1 rfl) ?_
    refine lv_iload hx hb dX7_expand_10 (lv_at hl 0 rfl) ?_
    refine k_iR (k_V (n := 1) ⟨hx, hb, hml, hown, hT⟩ hK hP hD [0, 3] rfl (by decide +kernel) (s_X7_morningOf l g H.size h bland bdeathDay bfreeFrom bbarring bkeys f_3 bways L_2 bwins bslots bround bworths bpath L_1 (by first | with_reducible assumption | omega) (by first | with_reducible assumption | omega) (by first | with_reducible assumption | omega)) (gV bw_423 bw_424 bw_425 bw_426 bw_419) rfl rfl (by decide +kernel) ⟨by decide, by decide⟩ (ci := 7) (q0 := 0) rfl rfl (fun _ _ _ _ _ => trivial) (fun _ _ _ => trivial) rfl rfl hl.1 (Nat.le_of_ble_eq_true rfl) dX7_expand_12 ⟨by decide, by decide⟩) hP hS hA (fun r_19 _ H locs hw0 hP hS => ?_)
    have hw : 0 ≤ r_19.toInt ∧ r_19.toInt ≤ 16383 := hw0
    clear hw0
    have w_20 := hw
    refine lv_aload_n hx hb dX7_expand_15 rfl (lv_at hl 1 rfl) ?_
    refine va_get (D := g.1) (ci := 7) (v := .int bdeathDay) (C := RX7) (T := TX7) (N := 12) hx hb hT inF_X7 hown hK.1 hP 0 rfl rfl 1 (by decide) (hT _ bw_445) (fun _ h9 => h9) rfl dX7_expand_16 ?_
    refine lv_icmp_lt (tgt := 25) hx hb dX7_expand_19 (by decide) (fun c_21 => ?_) (fun c_21 => ?_)
    · have f_22 := E_lt (rfl : r_19.toInt = _) (rfl : bdeathDay.toInt = _) c_21
      refine lv_aload_n hx hb dX7_expand_25 rfl (lv_at hl 1 rfl) ?_
      refine va_get (D := g.1) (ci := 7) (v := .ref bworths) (C := RX7) (T := TX7) (N := 12) hx hb hT inF_X7 hown hK.1 hP 0 rfl rfl 10 (by decide) (hT _ bw_437) (fun _ h9 => h9) rfl dX7_expand_26 ?_
      refine lv_iconst (v := 0) hx hb dX7_expand_29 (by decide) ?_
      refine k_v (wr := [(h, .inr (7, [.ref bland, .int bdeathDay, .ref bfreeFrom, .ref bbarring, .ref bkeys, .ref bways, .int L_2, .ref bwins, .ref bslots, .int bround, .ref bworths, .ref bpath])), (bfreeFrom, aI g 16 FbfreeFrom), (bbarring, aI g 16 Fbbarring), (bkeys, aI g 3000 f_3), (bways, aI g 3000 f_5), (bslots, aI g 8192 f_4), (bland, .inr (2, [.ref dmen, .ref dformulas, .ref dreasons, .int dduels, .ref dduelSides, .ref dduelMornings, .int dhonour, .int ddraw, .ref dusesOfKind])), (dusesOfKind, aI g 4 FdusesOfKind), (dformulas, .inr (0, [.int dformulas_count, .int dformulas_units, .ref dformulas_names, .int dformulas_unitsOfThis, .int dformulas_length, .ref dformulas_starts, .ref dformulas_steps, .ref dformulas_stack])), (dformulas_starts, aI g 5 Fdformulas_starts), (dformulas_steps, aI g 640 Fdformulas_steps), (dformulas_stack, aI g 32 f_7), (dreasons, .inr (6, [.int dreasons_count, .ref dreasons_names, .ref dreasons_kinds, .ref dreasons_owners, .ref dreasons_froms, .ref dreasons_tos, .ref dreasons_rents, .ref dreasons_sorts])), (dreasons_kinds, aI g 8 Fdreasons_kinds), (dreasons_froms, aI g 8 Fdreasons_froms), (dreasons_tos, aI g 8 Fdreasons_tos)]) (k_S (n := 2) ⟨hx, hb, hml, hown, hT⟩ hK hP hD [6] rfl (by decide +kernel) (s_J7_fill_53178_w4 l g H.size bworths f_6 g_12) (gS bw_466 bw_107 bw_108 bw_97) rfl rfl (by decide +kernel) ⟨by decide, by decide⟩ (fun _ _ _ _ _ => trivial) (fun _ _ _ => trivial) rfl rfl hl.1 (Nat.le_of_ble_eq_true rfl) dX7_expand_30 ⟨by decide, by decide⟩) hP hD hS hA [6] [0, 1, 2, 3, 4, 5, 7, 8, 9, 10, 11, 12, 13, 14, 15, 16] rfl rfl (by decide +kernel) (by decide +kernel) (fun f_23 H locs hw0 hP hD hS => ?_)
      have hP : va_P g.1 vwCl [(h, .inr (7, [.ref bland, .int bdeathDay, .ref bfreeFrom, .ref bbarring, .ref bkeys, .ref bways, .int L_2, .ref bwins, .ref bslots, .int bround, .ref bworths, .ref bpath])), (bfreeFrom, aI g 16 FbfreeFrom), (bbarring, aI g 16 Fbbarring), (bkeys, aI g 3000 f_3), (bways, aI g 3000 f_5), (bslots, aI g 8192 f_4), (bland, .inr (2, [.ref dmen, .ref dformulas, .ref dreasons, .int dduels, .ref dduelSides, .ref dduelMornings, .int dhonour, .int ddraw, .ref dusesOfKind])), (dusesOfKind, aI g 4 FdusesOfKind), (dformulas, .inr (0, [.int dformulas_count, .int dformulas_units, .ref dformulas_names, .int dformulas_unitsOfThis, .int dformulas_length, .ref dformulas_starts, .ref dformulas_steps, .ref dformulas_stack])), (dformulas_starts, aI g 5 Fdformulas_starts), (dformulas_steps, aI g 640 Fdformulas_steps), (dformulas_stack, aI g 32 f_7), (dreasons, .inr (6, [.int dreasons_count, .ref dreasons_names, .ref dreasons_kinds, .ref dreasons_owners, .ref dreasons_froms, .ref dreasons_tos, .ref dreasons_rents, .ref dreasons_sorts])), (dreasons_kinds, aI g 8 Fdreasons_kinds), (dreasons_froms, aI g 8 Fdreasons_froms), (dreasons_tos, aI g 8 Fdreasons_tos), (bworths, aI g 4 f_23)] H := hP
      have hD : va_D A [(h, .inr (7, [.ref bland, .int bdeathDay, .ref bfreeFrom, .ref bbarring, .ref bkeys, .ref bways, .int L_2, .ref bwins, .ref bslots, .int bround, .ref bworths, .ref bpath])), (bfreeFrom, aI g 16 FbfreeFrom), (bbarring, aI g 16 Fbbarring), (bkeys, aI g 3000 f_3), (bways, aI g 3000 f_5), (bslots, aI g 8192 f_4), (bland, .inr (2, [.ref dmen, .ref dformulas, .ref dreasons, .int dduels, .ref dduelSides, .ref dduelMornings, .int dhonour, .int ddraw, .ref dusesOfKind])), (dusesOfKind, aI g 4 FdusesOfKind), (dformulas, .inr (0, [.int dformulas_count, .int dformulas_units, .ref dformulas_names, .int dformulas_unitsOfThis, .int dformulas_length, .ref dformulas_starts, .ref dformulas_steps, .ref dformulas_stack])), (dformulas_starts, aI g 5 Fdformulas_starts), (dformulas_steps, aI g 640 Fdformulas_steps), (dformulas_stack, aI g 32 f_7), (dreasons, .inr (6, [.int dreasons_count, .ref dreasons_names, .ref dreasons_kinds, .ref dreasons_owners, .ref dreasons_froms, .ref dreasons_tos, .ref dreasons_rents, .ref dreasons_sorts])), (dreasons_kinds, aI g 8 Fdreasons_kinds), (dreasons_froms, aI g 8 Fdreasons_froms), (dreasons_tos, aI g 8 Fdreasons_tos), (bworths, aI g 4 f_23)] := hD
      have hw : Rg 4 0 365 f_23 := hw0
      clear hw0
      have w_24 := hw
      refine lv_iload hx hb dX7_expand_33 (lv_at hl 5 rfl) ?_
      refine lv_bipush (v := 8) hx hb dX7_expand_35 (by decide) ?_
      refine lv_imul hx hb dX7_expand_37 ?_
      refine lv_topi (fun x_25 ex_25 => ?_)
      have fx_25 : x_25.toInt = p3.toInt * 8 := by rw [ex_25]; exact I_mul rfl (by decide : (8 : Int32).toInt = 8) (by omega) (by omega)
      refine lv_aload_n hx hb dX7_expand_38 rfl (lv_at hl 1 rfl) ?_
      refine va_get (D := g.1) (ci := 7) (v := .ref bland) (C := RX7) (T := TX7) (N := 12) hx hb hT inF_X7 hown hK.1 hP 0 rfl rfl 0 (by decide) (hT _ bw_428) (fun _ h9 => h9) rfl dX7_expand_39 ?_
      refine va_get (D := g.1) (ci := 2) (v := .ref dreasons) (C := RX2) (T := TX2) (N := 9) hx hb hT inF_X2 hown hK.1 hP 6 rfl rfl 2 (by decide) (hT _ bw_429) (fun _ h9 => h9) rfl dX7_expand_42 ?_
      refine va_get (D := g.1) (ci := 6) (v := .int dreasons_count) (C := RX6) (T := TX6) (N := 8) hx hb hT inF_X6 hown hK.1 hP 12 rfl rfl 0 (by decide) (hT _ bw_467) (fun _ h9 => h9) rfl dX7_expand_45 ?_
      refine lv_iadd hx hb dX7_expand_48 ?_
      refine lv_topi (fun x_26 ex_26 => ?_)
      have fx_26 : x_26.toInt = x_25.toInt + dreasons_count.toInt := by rw [ex_26]; exact I_add rfl rfl (by omega) (by omega)
      refine lv_iconst (v := 1) hx hb dX7_expand_49 (by decide) ?_
      refine lv_isub hx hb dX7_expand_50 ?_
      refine lv_topi (fun x_27 ex_27 => ?_)
      have fx_27 : x_27.toInt = x_26.toInt - 1 := by rw [ex_27]; exact I_sub rfl (by decide : (1 : Int32).toInt = 1) (by omega) (by omega)
      refine lv_istore (lv' := [(6, .int x_27), (5, .int L_1), (0, .ref h), (1, .int p0), (2, .int p1), (3, .int p2), (4, .int p3)]) hx hb dX7_expand_51 hl (by decide) rfl (fun ls hl => ?_)
      refine lv_iload_n hx hb dX7_expand_53 rfl (lv_at hl 5 rfl) ?_
      refine lv_bipush (v := 8) hx hb dX7_expand_54 (by decide) ?_
      refine lv_imul hx hb dX7_expand_56 ?_
      refine lv_topi (fun x_28 ex_28 => ?_)
      have fx_28 : x_28.toInt = p2.toInt * 8 := by rw [ex_28]; exact I_mul rfl (by decide : (8 : Int32).toInt = 8) (by omega) (by omega)
      refine lv_istore (lv' := [(7, .int x_28), (6, .int x_27), (5, .int L_1), (0, .ref h), (1, .int p0), (2, .int p1), (3, .int p2), (4, .int p3)]) hx hb dX7_expand_57 hl (by decide) rfl (fun ls hl => ?_)
      refine k_floop 59 (fun n H locs ls => ∃ (L_29 : Int32) (L_30 : Int32) (f_31 : Nat → Int32) (f_32 : Nat → Int32) (f_33 : Nat → Int32) (f_34 : Nat → Int32) (f_35 : Nat → Int32), (0 ≤ L_29.toInt ∧ L_29.toInt ≤ 16) ∧ (0 ≤ L_30.toInt ∧ L_30.toInt ≤ 3000) ∧ (Sl f_32) ∧ (Rg 3000 0 47999 f_33) ∧ (Rg 4 0 365 f_34) ∧ (p1.toInt ≤ L_30.toInt) ∧ (KM L_30 f_31) ∧ 16 - L_29.toInt ≤ (n : Int) ∧ va_P g.1 vwCl [(h, .inr (7, [.ref bland, .int bdeathDay, .ref bfreeFrom, .ref bbarring, .ref bkeys, .ref bways, .int L_30, .ref bwins, .ref bslots, .int bround, .ref bworths, .ref bpath])), (bfreeFrom, aI g 16 FbfreeFrom), (bbarring, aI g 16 Fbbarring), (bkeys, aI g 3000 f_31), (bways, aI g 3000 f_33), (bslots, aI g 8192 f_32), (bland, .inr (2, [.ref dmen, .ref dformulas, .ref dreasons, .int dduels, .ref dduelSides, .ref dduelMornings, .int dhonour, .int ddraw, .ref dusesOfKind])), (dusesOfKind, aI g 4 FdusesOfKind), (dformulas, .inr (0, [.int dformulas_count, .int dformulas_units, .ref dformulas_names, .int dformulas_unitsOfThis, .int dformulas_length, .ref dformulas_starts, .ref dformulas_steps, .ref dformulas_stack])), (dformulas_starts, aI g 5 Fdformulas_starts), (dformulas_steps, aI g 640 Fdformulas_steps), (dformulas_stack, aI g 32 f_35), (dreasons, .inr (6, [.int dreasons_count, .ref dreasons_names, .ref dreasons_kinds, .ref dreasons_owners, .ref dreasons_froms, .ref dreasons_tos, .ref dreasons_rents, .ref dreasons_sorts])), (dreasons_kinds, aI g 8 Fdreasons_kinds), (dreasons_froms, aI g 8 Fdreasons_froms), (dreasons_tos, aI g 8 Fdreasons_tos), (bworths, aI g 4 f_34)] H ∧ va_D A [(h, .inr (7, [.ref bland, .int bdeathDay, .ref bfreeFrom, .ref bbarring, .ref bkeys, .ref bways, .int L_30, .ref bwins, .ref bslots, .int bround, .ref bworths, .ref bpath])), (bfreeFrom, aI g 16 FbfreeFrom), (bbarring, aI g 16 Fbbarring), (bkeys, aI g 3000 f_31), (bways, aI g 3000 f_33), (bslots, aI g 8192 f_32), (bland, .inr (2, [.ref dmen, .ref dformulas, .ref dreasons, .int dduels, .ref dduelSides, .ref dduelMornings, .int dhonour, .int ddraw, .ref dusesOfKind])), (dusesOfKind, aI g 4 FdusesOfKind), (dformulas, .inr (0, [.int dformulas_count, .int dformulas_units, .ref dformulas_names, .int dformulas_unitsOfThis, .int dformulas_length, .ref dformulas_starts, .ref dformulas_steps, .ref dformulas_stack])), (dformulas_starts, aI g 5 Fdformulas_starts), (dformulas_steps, aI g 640 Fdformulas_steps), (dformulas_stack, aI g 32 f_35), (dreasons, .inr (6, [.int dreasons_count, .ref dreasons_names, .ref dreasons_kinds, .ref dreasons_owners, .ref dreasons_froms, .ref dreasons_tos, .ref dreasons_rents, .ref dreasons_sorts])), (dreasons_kinds, aI g 8 Fdreasons_kinds), (dreasons_froms, aI g 8 Fdreasons_froms), (dreasons_tos, aI g 8 Fdreasons_tos), (bworths, aI g 4 f_34)] ∧ va_S A s.heap H locs ∧ lv_has ls 8 [(7, .int L_29), (6, .int x_27), (5, .int L_1), (0, .ref h), (1, .int p0), (2, .int p1), (3, .int p2), (4, .int p3)]) (fun n1 H locs ls hI ih1 => ?_) ((16 - x_28.toInt : Int)).toNat ⟨x_28, L_2, f_3, f_4, f_5, f_23, f_7, (by first | with_reducible assumption | omega), (by first | with_reducible assumption | omega), g_10, g_11, w_24, by omega, w_14, by omega, hP, hD, hS, hl⟩
      refine hI.elim (fun L_29 hI => hI.elim (fun L_30 hI => hI.elim (fun f_31 hI => hI.elim (fun f_32 hI => hI.elim (fun f_33 hI => hI.elim (fun f_34 hI => hI.elim (fun f_35 hI => ?_)))))))
      have g_36 := hI.1
      have g_37 := hI.2.1
      have g_38 := hI.2.2.1
      have g_39 := hI.2.2.2.1
      have g_40 := hI.2.2.2.2.1
      have q_41 := hI.2.2.2.2.2.1
      have w_42 := hI.2.2.2.2.2.2.1
      have hm_43 := hI.2.2.2.2.2.2.2.1
      have hP := hI.2.2.2.2.2.2.2.2.1
      have hD := hI.2.2.2.2.2.2.2.2.2.1
      have hS := hI.2.2.2.2.2.2.2.2.2.2.1
      have hl := hI.2.2.2.2.2.2.2.2.2.2.2
      clear hI
      refine lv_iload hx hb dX7_expand_59 (lv_at hl 0 rfl) ?_
      refine lv_iload hx hb dX7_expand_61 (lv_at hl 1 rfl) ?_
      refine lv_icmp_gt (tgt := 104) hx hb dX7_expand_63 (by decide) (fun c_44 => ?_) (fun c_44 => ?_)
      · have f_45 := E_lt (rfl : x_27.toInt = _) (rfl : L_29.toInt = _) c_44
        obtain ⟨x_46, ex_46⟩ : ∃ y : Int32, y = L_1 + 1 := ⟨_, rfl⟩
        have fx_46 : x_46.toInt = L_1.toInt + 1 := by rw [ex_46]; exact I_add rfl (by decide) (by omega) (by omega)
        refine lv_iinc (v := x_46) (lv' := [(5, .int x_46), (7, .int L_29), (6, .int x_27), (0, .ref h), (1, .int p0), (2, .int p1), (3, .int p2), (4, .int p3)]) hx hb dX7_expand_104 hl (k := 2) rfl (by rw [ex_46]; rfl) (by decide) rfl (fun ls hl => ?_)
        refine lv_goto (tgt := 3) hx hb dX7_expand_107 (by decide) ?_
        exact ih (n - 1) (by omega) H locs ls ⟨x_46, L_30, f_31, f_32, f_33, f_34, f_35, (by first | with_reducible assumption | omega), (by first | with_reducible assumption | omega), g_38, g_39, g_40, by omega, w_42, by omega, hP.sub [0, 1, 2, 3, 4, 5, 16, 6, 7, 8, 9, 10, 11, 12, 13, 14, 15] rfl, hD.sub [0, 1, 2, 3, 4, 5, 16, 6, 7, 8, 9, 10, 11, 12, 13, 14, 15] (by decide +kernel) rfl, hS, lv_sub hl [0, 3, 4, 5, 6, 7] rfl⟩
      · have f_47 := E_nlt (rfl : x_27.toInt = _) (rfl : L_29.toInt = _) c_44
        refine lv_aload_n hx hb dX7_expand_66 rfl (lv_at hl 3 rfl) ?_
        refine lv_iload hx hb dX7_expand_67 (lv_at hl 2 rfl) ?_
        refine lv_iload hx hb dX7_expand_69 (lv_at hl 0 rfl) ?_
        refine k_iR (k_V (n := 2) ⟨hx, hb, hml, hown, hT⟩ hK hP hD [0, 1, 2, 3, 6, 12, 14, 15] rfl (by decide +kernel) (s_X7_allows l g H.size h bland bdeathDay bfreeFrom FbfreeFrom bbarring Fbbarring bkeys f_31 bways L_30 bwins bslots bround bworths bpath dduels dduelSides dduelMornings dhonour ddraw dusesOfKind dmen dformulas dreasons dreasons_count dreasons_names dreasons_kinds dreasons_owners dreasons_froms Fdreasons_froms dreasons_tos Fdreasons_tos dreasons_rents dreasons_sorts L_1 L_29 (by first | with_reducible assumption | omega) (by first | with_reducible assumption | omega) (by first | with_reducible assumption | omega) (by first | with_reducible assumption | omega) (by first | with_reducible assumption | omega) (by first | with_reducible assumption | omega) (by first | with_reducible assumption | omega)) (gV bw_468 bw_469 bw_470 bw_426 bw_435) rfl rfl (by decide +kernel) ⟨by decide, by decide⟩ (ci := 7) (q0 := 0) rfl rfl (fun _ _ _ _ _ => trivial) (fun _ _ _ => trivial) rfl rfl hl.1 (Nat.le_of_ble_eq_true rfl) dX7_expand_71 ⟨by decide, by decide⟩) hP hS hA (fun r_48 _ H locs hw0 hP hS => ?_)
        have hw : 0 ≤ r_48.toInt ∧ r_48.toInt ≤ 1 := hw0
        clear hw0
        have w_49 := hw
        refine lv_if_eq (tgt := 98) hx hb dX7_expand_74 (by decide) (fun c_50 => ?_) (fun c_50 => ?_)
        · have f_51 := E_eq (rfl : r_48.toInt = _) (by decide : (0 : Int32).toInt = 0) c_50
          obtain ⟨x_52, ex_52⟩ : ∃ y : Int32, y = L_29 + 1 := ⟨_, rfl⟩
          have fx_52 : x_52.toInt = L_29.toInt + 1 := by rw [ex_52]; exact I_add rfl (by decide) (by omega) (by omega)
          refine lv_iinc (v := x_52) (lv' := [(7, .int x_52), (6, .int x_27), (5, .int L_1), (0, .ref h), (1, .int p0), (2, .int p1), (3, .int p2), (4, .int p3)]) hx hb dX7_expand_98 hl (k := 0) rfl (by rw [ex_52]; rfl) (by decide) rfl (fun ls hl => ?_)
          refine lv_goto (tgt := 59) hx hb dX7_expand_101 (by decide) ?_
          exact ih1 (n1 - 1) (by omega) H locs ls ⟨x_52, L_30, f_31, f_32, f_33, f_34, f_35, (by first | with_reducible assumption | omega), (by first | with_reducible assumption | omega), g_38, g_39, g_40, by omega, w_42, by omega, hP.sub [0, 1, 2, 3, 4, 5, 6, 7, 8, 9, 10, 11, 12, 13, 14, 15, 16] rfl, hD.sub [0, 1, 2, 3, 4, 5, 6, 7, 8, 9, 10, 11, 12, 13, 14, 15, 16] (by decide +kernel) rfl, hS, lv_sub hl [0, 1, 2, 3, 4, 5, 6, 7] rfl⟩
        · have f_53 := E_ne (rfl : r_48.toInt = _) (by decide : (0 : Int32).toInt = 0) c_50
          refine lv_aload_n hx hb dX7_expand_77 rfl (lv_at hl 3 rfl) ?_
          refine lv_aload_n hx hb dX7_expand_78 rfl (lv_at hl 3 rfl) ?_
          refine lv_iload hx hb dX7_expand_79 (lv_at hl 2 rfl) ?_
          refine lv_iload hx hb dX7_expand_81 (lv_at hl 0 rfl) ?_
          refine k_i (wr := [(bfreeFrom, aI g 16 FbfreeFrom), (bbarring, aI g 16 Fbbarring), (bways, aI g 3000 f_33), (bslots, aI g 8192 f_32), (dreasons_froms, aI g 8 Fdreasons_froms), (dreasons_tos, aI g 8 Fdreasons_tos)]) (k_V (n := 2) ⟨hx, hb, hml, hown, hT⟩ hK hP hD [0, 3, 16, 6, 7, 8, 9, 10, 11, 12, 13] rfl (by decide +kernel) (s_X7_keyBehind2 l g H.size h bland bdeathDay bfreeFrom bbarring bkeys f_31 bways L_30 bwins bslots bround bworths f_34 bpath dduels dduelSides dduelMornings dhonour ddraw dusesOfKind FdusesOfKind dmen dformulas dformulas_count dformulas_units dformulas_names dformulas_unitsOfThis dformulas_length dformulas_starts Fdformulas_starts dformulas_steps Fdformulas_steps dformulas_stack f_35 dreasons dreasons_count dreasons_names dreasons_kinds Fdreasons_kinds dreasons_owners dreasons_froms dreasons_tos dreasons_rents dreasons_sorts L_1 L_29 (by first | with_reducible assumption | omega) (by first | with_reducible assumption | omega) g_40 (by first | with_reducible assumption | omega) (by first | with_reducible assumption | omega) (by first | with_reducible assumption | omega) (by first | with_reducible assumption | omega) (by first | with_reducible assumption | omega) (by first | with_reducible assumption | omega) hh14 (by first | with_reducible assumption | omega) hh16 (by first | with_reducible assumption | omega) (by first | with_reducible assumption | omega)) (gV bw_471 bw_472 bw_473 bw_426 bw_440) rfl rfl (by decide +kernel) ⟨by decide, by decide⟩ (ci := 7) (q0 := 0) rfl rfl (fun _ _ _ _ _ => trivial) (fun _ _ _ => trivial) rfl rfl hl.1 (Nat.le_of_ble_eq_true rfl) dX7_expand_83 ⟨by decide, by decide⟩) hP hD hS hA [0, 3, 16, 6, 7, 8, 9, 10, 11, 12, 13] [1, 2, 4, 5, 14, 15] rfl rfl (by decide +kernel) (by decide +kernel) (fun r_54 => pr_all fun f_55 => fun f_56 H locs hw0 hP hD hS => ?_)
          have hP : va_P g.1 vwCl [(bfreeFrom, aI g 16 FbfreeFrom), (bbarring, aI g 16 Fbbarring), (bways, aI g 3000 f_33), (bslots, aI g 8192 f_32), (dreasons_froms, aI g 8 Fdreasons_froms), (dreasons_tos, aI g 8 Fdreasons_tos), (h, .inr (7, [.ref bland, .int bdeathDay, .ref bfreeFrom, .ref bbarring, .ref bkeys, .ref bways, .int L_30, .ref bwins, .ref bslots, .int bround, .ref bworths, .ref bpath])), (bkeys, aI g 3000 f_31), (bworths, aI g 4 f_55), (bland, .inr (2, [.ref dmen, .ref dformulas, .ref dreasons, .int dduels, .ref dduelSides, .ref dduelMornings, .int dhonour, .int ddraw, .ref dusesOfKind])), (dusesOfKind, aI g 4 FdusesOfKind), (dformulas, .inr (0, [.int dformulas_count, .int dformulas_units, .ref dformulas_names, .int dformulas_unitsOfThis, .int dformulas_length, .ref dformulas_starts, .ref dformulas_steps, .ref dformulas_stack])), (dformulas_starts, aI g 5 Fdformulas_starts), (dformulas_steps, aI g 640 Fdformulas_steps), (dformulas_stack, aI g 32 f_56), (dreasons, .inr (6, [.int dreasons_count, .ref dreasons_names, .ref dreasons_kinds, .ref dreasons_owners, .ref dreasons_froms, .ref dreasons_tos, .ref dreasons_rents, .ref dreasons_sorts])), (dreasons_kinds, aI g 8 Fdreasons_kinds)] H := hP
          have hD : va_D A [(bfreeFrom, aI g 16 FbfreeFrom), (bbarring, aI g 16 Fbbarring), (bways, aI g 3000 f_33), (bslots, aI g 8192 f_32), (dreasons_froms, aI g 8 Fdreasons_froms), (dreasons_tos, aI g 8 Fdreasons_tos), (h, .inr (7, [.ref bland, .int bdeathDay, .ref bfreeFrom, .ref bbarring, .ref bkeys, .ref bways, .int L_30, .ref bwins, .ref bslots, .int bround, .ref bworths, .ref bpath])), (bkeys, aI g 3000 f_31), (bworths, aI g 4 f_55), (bland, .inr (2, [.ref dmen, .ref dformulas, .ref dreasons, .int dduels, .ref dduelSides, .ref dduelMornings, .int dhonour, .int ddraw, .ref dusesOfKind])), (dusesOfKind, aI g 4 FdusesOfKind), (dformulas, .inr (0, [.int dformulas_count, .int dformulas_units, .ref dformulas_names, .int dformulas_unitsOfThis, .int dformulas_length, .ref dformulas_starts, .ref dformulas_steps, .ref dformulas_stack])), (dformulas_starts, aI g 5 Fdformulas_starts), (dformulas_steps, aI g 640 Fdformulas_steps), (dformulas_stack, aI g 32 f_56), (dreasons, .inr (6, [.int dreasons_count, .ref dreasons_names, .ref dreasons_kinds, .ref dreasons_owners, .ref dreasons_froms, .ref dreasons_tos, .ref dreasons_rents, .ref dreasons_sorts])), (dreasons_kinds, aI g 8 Fdreasons_kinds)] := hD
          have hw : (Kb (f_31 L_1.toNatClampNeg) ≤ Kb r_54) ∧ (Rg 4 0 365 f_55) := hw0
          clear hw0
          have w_57 := hw.1
          have w_58 := hw.2
          clear hw
          refine lv_iload hx hb dX7_expand_86 (lv_at hl 2 rfl) ?_
          refine lv_iload hx hb dX7_expand_88 (lv_at hl 0 rfl) ?_
          refine k_i (wr := [(bfreeFrom, aI g 16 FbfreeFrom), (bbarring, aI g 16 Fbbarring), (dreasons_froms, aI g 8 Fdreasons_froms), (dreasons_tos, aI g 8 Fdreasons_tos), (bworths, aI g 4 f_55), (bland, .inr (2, [.ref dmen, .ref dformulas, .ref dreasons, .int dduels, .ref dduelSides, .ref dduelMornings, .int dhonour, .int ddraw, .ref dusesOfKind])), (dusesOfKind, aI g 4 FdusesOfKind), (dformulas, .inr (0, [.int dformulas_count, .int dformulas_units, .ref dformulas_names, .int dformulas_unitsOfThis, .int dformulas_length, .ref dformulas_starts, .ref dformulas_steps, .ref dformulas_stack])), (dformulas_starts, aI g 5 Fdformulas_starts), (dformulas_steps, aI g 640 Fdformulas_steps), (dformulas_stack, aI g 32 f_56), (dreasons, .inr (6, [.int dreasons_count, .ref dreasons_names, .ref dreasons_kinds, .ref dreasons_owners, .ref dreasons_froms, .ref dreasons_tos, .ref dreasons_rents, .ref dreasons_sorts])), (dreasons_kinds, aI g 8 Fdreasons_kinds)]) (k_V (n := 3) ⟨hx, hb, hml, hown, hT⟩ hK hP hD [6, 7, 2, 3] rfl (by decide +kernel) (s_X7_reach2 l g H.size h bland bdeathDay bfreeFrom bbarring bkeys f_31 bways f_33 L_30 bwins bslots f_32 bround bworths bpath r_54 L_1 L_29 g_39 (by first | with_reducible assumption | omega) g_38 (by first | with_reducible assumption | omega) (by first | with_reducible assumption | omega) (by first | with_reducible assumption | omega) w_42 (Or.inr (Int.le_trans (KM.at w_42 (i := L_1) (by omega) (by omega)) w_57))) (gV bw_463 bw_464 bw_465 bw_426 bw_461) rfl rfl (by decide +kernel) ⟨by decide, by decide⟩ (ci := 7) (q0 := 0) rfl rfl (fun _ _ _ _ _ => trivial) (fun _ _ _ => trivial) rfl rfl hl.1 (Nat.le_of_ble_eq_true rfl) dX7_expand_90 ⟨by decide, by decide⟩) hP hD hS hA [6, 7, 2, 3] [0, 1, 4, 5, 8, 9, 10, 11, 12, 13, 14, 15, 16] rfl rfl (by decide +kernel) (by decide +kernel) (fun r_59 => pr_all fun y_60 => pr_all fun f_61 => pr_all fun f_62 => fun f_63 H locs hw0 hP hD hS => ?_)
          have hP : va_P g.1 vwCl [(bfreeFrom, aI g 16 FbfreeFrom), (bbarring, aI g 16 Fbbarring), (dreasons_froms, aI g 8 Fdreasons_froms), (dreasons_tos, aI g 8 Fdreasons_tos), (bworths, aI g 4 f_55), (bland, .inr (2, [.ref dmen, .ref dformulas, .ref dreasons, .int dduels, .ref dduelSides, .ref dduelMornings, .int dhonour, .int ddraw, .ref dusesOfKind])), (dusesOfKind, aI g 4 FdusesOfKind), (dformulas, .inr (0, [.int dformulas_count, .int dformulas_units, .ref dformulas_names, .int dformulas_unitsOfThis, .int dformulas_length, .ref dformulas_starts, .ref dformulas_steps, .ref dformulas_stack])), (dformulas_starts, aI g 5 Fdformulas_starts), (dformulas_steps, aI g 640 Fdformulas_steps), (dformulas_stack, aI g 32 f_56), (dreasons, .inr (6, [.int dreasons_count, .ref dreasons_names, .ref dreasons_kinds, .ref dreasons_owners, .ref dreasons_froms, .ref dreasons_tos, .ref dreasons_rents, .ref dreasons_sorts])), (dreasons_kinds, aI g 8 Fdreasons_kinds), (h, .inr (7, [.ref bland, .int bdeathDay, .ref bfreeFrom, .ref bbarring, .ref bkeys, .ref bways, .int y_60, .ref bwins, .ref bslots, .int bround, .ref bworths, .ref bpath])), (bkeys, aI g 3000 f_61), (bways, aI g 3000 f_62), (bslots, aI g 8192 f_63)] H := hP
          have hD : va_D A [(bfreeFrom, aI g 16 FbfreeFrom), (bbarring, aI g 16 Fbbarring), (dreasons_froms, aI g 8 Fdreasons_froms), (dreasons_tos, aI g 8 Fdreasons_tos), (bworths, aI g 4 f_55), (bland, .inr (2, [.ref dmen, .ref dformulas, .ref dreasons, .int dduels, .ref dduelSides, .ref dduelMornings, .int dhonour, .int ddraw, .ref dusesOfKind])), (dusesOfKind, aI g 4 FdusesOfKind), (dformulas, .inr (0, [.int dformulas_count, .int dformulas_units, .ref dformulas_names, .int dformulas_unitsOfThis, .int dformulas_length, .ref dformulas_starts, .ref dformulas_steps, .ref dformulas_stack])), (dformulas_starts, aI g 5 Fdformulas_starts), (dformulas_steps, aI g 640 Fdformulas_steps), (dformulas_stack, aI g 32 f_56), (dreasons, .inr (6, [.int dreasons_count, .ref dreasons_names, .ref dreasons_kinds, .ref dreasons_owners, .ref dreasons_froms, .ref dreasons_tos, .ref dreasons_rents, .ref dreasons_sorts])), (dreasons_kinds, aI g 8 Fdreasons_kinds), (h, .inr (7, [.ref bland, .int bdeathDay, .ref bfreeFrom, .ref bbarring, .ref bkeys, .ref bways, .int y_60, .ref bwins, .ref bslots, .int bround, .ref bworths, .ref bpath])), (bkeys, aI g 3000 f_61), (bways, aI g 3000 f_62), (bslots, aI g 8192 f_63)] := hD
          have hw : (0 ≤ r_59.toInt ∧ r_59.toInt ≤ 1) ∧ (KM y_60 f_61) ∧ (L_30.toInt ≤ y_60.toInt) ∧ (0 ≤ y_60.toInt ∧ y_60.toInt ≤ 3000) ∧ (Rg 3000 0 47999 f_62) ∧ (Sl f_63) := hw0
          clear hw0
          have w_64 := hw.1
          have w_65 := hw.2.1
          have w_66 := hw.2.2.1
          have w_67 := hw.2.2.2.1
          have w_68 := hw.2.2.2.2.1
          have w_69 := hw.2.2.2.2.2
          clear hw
          refine lv_if_ne (tgt := 98) hx hb dX7_expand_93 (by decide) (fun c_70 => ?_) (fun c_70 => ?_)
          · have f_71 := E_ne (rfl : r_59.toInt = _) (by decide : (0 : Int32).toInt = 0) c_70
            obtain ⟨x_72, ex_72⟩ : ∃ y : Int32, y = L_29 + 1 := ⟨_, rfl⟩
            have fx_72 : x_72.toInt = L_29.toInt + 1 := by rw [ex_72]; exact I_add rfl (by decide) (by omega) (by omega)
            refine lv_iinc (v := x_72) (lv' := [(7, .int x_72), (6, .int x_27), (5, .int L_1), (0, .ref h), (1, .int p0), (2, .int p1), (3, .int p2), (4, .int p3)]) hx hb dX7_expand_98 hl (k := 0) rfl (by rw [ex_72]; rfl) (by decide) rfl (fun ls hl => ?_)
            refine lv_goto (tgt := 59) hx hb dX7_expand_101 (by decide) ?_
            exact ih1 (n1 - 1) (by omega) H locs ls ⟨x_72, y_60, f_61, f_63, f_62, f_55, f_56, (by first | with_reducible assumption | omega), (by first | with_reducible assumption | omega), w_69, w_68, w_58, by omega, w_65, by omega, hP.sub [13, 0, 1, 14, 15, 16, 5, 6, 7, 8, 9, 10, 11, 12, 2, 3, 4] rfl, hD.sub [13, 0, 1, 14, 15, 16, 5, 6, 7, 8, 9, 10, 11, 12, 2, 3, 4] (by decide +kernel) rfl, hS, lv_sub hl [0, 1, 2, 3, 4, 5, 6, 7] rfl⟩
          · have f_73 := E_eq (rfl : r_59.toInt = _) (by decide : (0 : Int32).toInt = 0) c_70
            refine lv_iconst (v := 0) hx hb dX7_expand_96 (by decide) ?_
            have hP9 : va_P g.1 vwCl [(h, .inr (7, [.ref bland, .int bdeathDay, .ref bfreeFrom, .ref bbarring, .ref bkeys, .ref bways, .int y_60, .ref bwins, .ref bslots, .int bround, .ref bworths, .ref bpath])), (bfreeFrom, aI g 16 FbfreeFrom), (bbarring, aI g 16 Fbbarring), (bkeys, aI g 3000 f_61), (bways, aI g 3000 f_62), (bslots, aI g 8192 f_63), (bworths, aI g 4 f_55), (bland, .inr (2, [.ref dmen, .ref dformulas, .ref dreasons, .int dduels, .ref dduelSides, .ref dduelMornings, .int dhonour, .int ddraw, .ref dusesOfKind])), (dusesOfKind, aI g 4 FdusesOfKind), (dformulas, .inr (0, [.int dformulas_count, .int dformulas_units, .ref dformulas_names, .int dformulas_unitsOfThis, .int dformulas_length, .ref dformulas_starts, .ref dformulas_steps, .ref dformulas_stack])), (dformulas_starts, aI g 5 Fdformulas_starts), (dformulas_steps, aI g 640 Fdformulas_steps), (dformulas_stack, aI g 32 f_56), (dreasons, .inr (6, [.int dreasons_count, .ref dreasons_names, .ref dreasons_kinds, .ref dreasons_owners, .ref dreasons_froms, .ref dreasons_tos, .ref dreasons_rents, .ref dreasons_sorts])), (dreasons_kinds, aI g 8 Fdreasons_kinds), (dreasons_froms, aI g 8 Fdreasons_froms), (dreasons_tos, aI g 8 Fdreasons_tos)] H := hP.sub [13, 0, 1, 14, 15, 16, 4, 5, 6, 7, 8, 9, 10, 11, 12, 2, 3] rfl
            have hD9 : va_D A [(h, .inr (7, [.ref bland, .int bdeathDay, .ref bfreeFrom, .ref bbarring, .ref bkeys, .ref bways, .int y_60, .ref bwins, .ref bslots, .int bround, .ref bworths, .ref bpath])), (bfreeFrom, aI g 16 FbfreeFrom), (bbarring, aI g 16 Fbbarring), (bkeys, aI g 3000 f_61), (bways, aI g 3000 f_62), (bslots, aI g 8192 f_63), (bworths, aI g 4 f_55), (bland, .inr (2, [.ref dmen, .ref dformulas, .ref dreasons, .int dduels, .ref dduelSides, .ref dduelMornings, .int dhonour, .int ddraw, .ref dusesOfKind])), (dusesOfKind, aI g 4 FdusesOfKind), (dformulas, .inr (0, [.int dformulas_count, .int dformulas_units, .ref dformulas_names, .int dformulas_unitsOfThis, .int dformulas_length, .ref dformulas_starts, .ref dformulas_steps, .ref dformulas_stack])), (dformulas_starts, aI g 5 Fdformulas_starts), (dformulas_steps, aI g 640 Fdformulas_steps), (dformulas_stack, aI g 32 f_56), (dreasons, .inr (6, [.int dreasons_count, .ref dreasons_names, .ref dreasons_kinds, .ref dreasons_owners, .ref dreasons_froms, .ref dreasons_tos, .ref dreasons_rents, .ref dreasons_sorts])), (dreasons_kinds, aI g 8 Fdreasons_kinds), (dreasons_froms, aI g 8 Fdreasons_froms), (dreasons_tos, aI g 8 Fdreasons_tos)] := hD.sub [13, 0, 1, 14, 15, 16, 4, 5, 6, 7, 8, 9, 10, 11, 12, 2, 3] (by decide +kernel) rfl
            exact W.zret (v := 0) (ty := .boolean) hx hb hr rfl (fun t ht hW => ⟨⟨0, (y_60, f_61, f_62, f_63, f_55, f_56), rfl, ⟨⟨by decide, by decide⟩, w_65, (by first | with_reducible assumption | omega), w_68, w_69, w_58⟩, by rw [ht]; exact hP9, by rw [hAe]; exact hD9⟩, hS.F ht⟩) hS.2.2 dX7_expand_97
    · have f_74 := E_nlt (rfl : r_19.toInt = _) (rfl : bdeathDay.toInt = _) c_21
      refine lv_goto (tgt := 104) hx hb dX7_expand_22 (by decide) ?_
      obtain ⟨x_75, ex_75⟩ : ∃ y : Int32, y = L_1 + 1 := ⟨_, rfl⟩
      have fx_75 : x_75.toInt = L_1.toInt + 1 := by rw [ex_75]; exact I_add rfl (by decide) (by omega) (by omega)
      refine lv_iinc (v := x_75) (lv' := [(5, .int x_75), (0, .ref h), (1, .int p0), (2, .int p1), (3, .int p2), (4, .int p3)]) hx hb dX7_expand_104 hl (k := 0) rfl (by rw [ex_75]; rfl) (by decide) rfl (fun ls hl => ?_)
      refine lv_goto (tgt := 3) hx hb dX7_expand_107 (by decide) ?_
      exact ih (n - 1) (by omega) H locs ls ⟨x_75, L_2, f_3, f_4, f_5, f_6, f_7, (by first | with_reducible assumption | omega), (by first | with_reducible assumption | omega), g_10, g_11, g_12, by omega, w_14, by omega, hP.sub [0, 1, 2, 3, 4, 5, 6, 7, 8, 9, 10, 11, 12, 13, 14, 15, 16] rfl, hD.sub [0, 1, 2, 3, 4, 5, 6, 7, 8, 9, 10, 11, 12, 13, 14, 15, 16] (by decide +kernel) rfl, hS, lv_sub hl [0, 1, 2, 3, 4, 5] rfl⟩
