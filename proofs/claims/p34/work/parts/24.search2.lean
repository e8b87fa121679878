theorem bw_441 : Cond.fieldLink RX7 21 "DuelDelays$Search" "ways" "[I" ∈ gT := gT_tb 347 (by decide +kernel) (by decide +kernel)
theorem bw_442 : Cond.code yX7_keepPath cX7_keepPath 5 none ∈ gT := gT_tb 1102 (by decide +kernel) (by decide +kernel)
theorem dX7_keepPath_0 : decode cX7_keepPath 0 = .ok (.iload_n 1, 1) := by decide +kernel
theorem dX7_keepPath_1 : decode cX7_keepPath 1 = .ok (.istore_n 3, 1) := by decide +kernel
theorem dX7_keepPath_2 : decode cX7_keepPath 2 = .ok (.iload_n 2, 1) := by decide +kernel
theorem dX7_keepPath_3 : decode cX7_keepPath 3 = .ok (.aload_n 0, 1) := by decide +kernel
theorem dX7_keepPath_4 : decode cX7_keepPath 4 = .ok (.getfield 34, 3) := by decide +kernel
theorem dX7_keepPath_7 : decode cX7_keepPath 7 = .ok (.arraylength, 1) := by decide +kernel
theorem dX7_keepPath_8 : decode cX7_keepPath 8 = .ok (.invokestatic 72, 3) := by decide +kernel
theorem dX7_keepPath_11 : decode cX7_keepPath 11 = .ok (.iconst 1, 1) := by decide +kernel
theorem dX7_keepPath_12 : decode cX7_keepPath 12 = .ok (.isub, 1) := by decide +kernel
theorem dX7_keepPath_13 : decode cX7_keepPath 13 = .ok (.istore 4, 2) := by decide +kernel
theorem dX7_keepPath_15 : decode cX7_keepPath 15 = .ok (.iload 4, 2) := by decide +kernel
theorem dX7_keepPath_17 : decode cX7_keepPath 17 = .ok (.ifCond .lt 35, 3) := by decide +kernel
theorem dX7_keepPath_20 : decode cX7_keepPath 20 = .ok (.aload_n 0, 1) := by decide +kernel
theorem dX7_keepPath_21 : decode cX7_keepPath 21 = .ok (.getfield 34, 3) := by decide +kernel
theorem dX7_keepPath_24 : decode cX7_keepPath 24 = .ok (.iload 4, 2) := by decide +kernel
theorem dX7_keepPath_26 : decode cX7_keepPath 26 = .ok (.aload_n 0, 1) := by decide +kernel
theorem dX7_keepPath_27 : decode cX7_keepPath 27 = .ok (.getfield 21, 3) := by decide +kernel
theorem dX7_keepPath_30 : decode cX7_keepPath 30 = .ok (.iload_n 3, 1) := by decide +kernel
theorem dX7_keepPath_31 : decode cX7_keepPath 31 = .ok (.iaload, 1) := by decide +kernel
theorem dX7_keepPath_32 : decode cX7_keepPath 32 = .ok (.bipush 16, 2) := by decide +kernel
theorem dX7_keepPath_34 : decode cX7_keepPath 34 = .ok (.irem, 1) := by decide +kernel
theorem dX7_keepPath_35 : decode cX7_keepPath 35 = .ok (.iastore, 1) := by decide +kernel
theorem dX7_keepPath_36 : decode cX7_keepPath 36 = .ok (.aload_n 0, 1) := by decide +kernel
theorem dX7_keepPath_37 : decode cX7_keepPath 37 = .ok (.getfield 21, 3) := by decide +kernel
theorem dX7_keepPath_40 : decode cX7_keepPath 40 = .ok (.iload_n 3, 1) := by decide +kernel
theorem dX7_keepPath_41 : decode cX7_keepPath 41 = .ok (.iaload, 1) := by decide +kernel
theorem dX7_keepPath_42 : decode cX7_keepPath 42 = .ok (.bipush 16, 2) := by decide +kernel
theorem dX7_keepPath_44 : decode cX7_keepPath 44 = .ok (.idiv, 1) := by decide +kernel
theorem dX7_keepPath_45 : decode cX7_keepPath 45 = .ok (.istore_n 3, 1) := by decide +kernel
theorem dX7_keepPath_46 : decode cX7_keepPath 46 = .ok (.iinc 4 (-1), 3) := by decide +kernel
theorem dX7_keepPath_49 : decode cX7_keepPath 49 = .ok (.goto (-34), 3) := by decide +kernel
theorem dX7_keepPath_52 : decode cX7_keepPath 52 = .ok (.return_, 1) := by decide +kernel
set_option maxHeartbeats 4000000 in
set_option maxRecDepth 100000 in
theorem s_X7_keepPath (l : Launch) (g : GG) (sz : Nat) (h : Nat) (bland : Nat) (bdeathDay : Int32) (bfreeFrom : Nat) (bbarring : Nat) (bkeys : Nat) (bways : Nat) (Fbways : Nat → Int32) (bcount : Int32) (bwins : Nat) (bslots : Nat) (bround : Int32) (bworths : Nat) (bpath : Nat) (Fbpath : Nat → Int32) (p0 : Int32) (p1 : Int32) (hh0 : Rg 3000 0 47999 Fbways) (hh1 : 0 ≤ bcount.toInt ∧ bcount.toInt ≤ 3000) (hh2 : 0 ≤ bround.toInt ∧ bround.toInt ≤ 1048575) (hh3 : 0 ≤ p0.toInt ∧ p0.toInt ≤ 2999) (hh4 : 0 ≤ p1.toInt ∧ p1.toInt ≤ 17) : Met l yX7_keepPath (.code yX7_keepPath cX7_keepPath 5 none :: gT) ({ frames := 1, cells := 0, slots := 0, locals := 60 }) (va_Pc [.ref h, .int p0, .int p1] (Pst g sz [(h, .inr (7, [.ref bland, .int bdeathDay, .ref bfreeFrom, .ref bbarring, .ref bkeys, .ref bways, .int bcount, .ref bwins, .ref bslots, .int bround, .ref bworths, .ref bpath])), (bways, aI g 3000 Fbways), (bpath, aI g 16 Fbpath)] nX)) (va_Qv (fun (o0_F : (Nat → Int32)) => True) (Qst g [(h, .inr (7, [.ref bland, .int bdeathDay, .ref bfreeFrom, .ref bbarring, .ref bkeys, .ref bways, .int bcount, .ref bwins, .ref bslots, .int bround, .ref bworths, .ref bpath])), (bways, aI g 3000 Fbways), (bpath, aI g 16 Fbpath)] sz (fun (o0_F : (Nat → Int32)) => [(h, .inr (7, [.ref bland, .int bdeathDay, .ref bfreeFrom, .ref bbarring, .ref bkeys, .ref bways, .int bcount, .ref bwins, .ref bslots, .int bround, .ref bworths, .ref bpath])), (bways, aI g 3000 Fbways), (bpath, aI g 16 o0_F)])) (va_A [(h, .inr (7, [.ref bland, .int bdeathDay, .ref bfreeFrom, .ref bbarring, .ref bkeys, .ref bways, .int bcount, .ref bwins, .ref bslots, .int bround, .ref bworths, .ref bpath])), (bways, aI g 3000 Fbways), (bpath, aI g 16 Fbpath)] sz)) 0 0 (va_A [(h, .inr (7, [.ref bland, .int bdeathDay, .ref bfreeFrom, .ref bbarring, .ref bkeys, .ref bways, .int bcount, .ref bwins, .ref bslots, .int bround, .ref bworths, .ref bpath])), (bways, aI g 3000 Fbways), (bpath, aI g 16 Fbpath)] sz) := by
  refine Met.ofW (cc := cX7_keepPath) (maxL := 5) (ret := none) (by decide) rfl ?_
  intro p e s m args below meth c s₁ B hml hv
  obtain ⟨rfl, hsz, hP, hK, hD0, hX⟩ := hv
  have hx := B.exec
  have hb := B.bytes
  have hr := B.returns
  have hT : ∀ w ∈ gT, w.before _ s = true := fun w h => atoms_spec (ws := .code yX7_keepPath cX7_keepPath 5 none :: gT) B.pre w (List.mem_cons_of_mem _ h)
  have hown : s.vm.findClass RX7 = some m.cls := findClass_of_methodNamed B.named
  have hlocks := B.notSynchronized
  subst hsz
  have hD := hD0.self (sz := s.heap.size)
  generalize hAe : va_A [(h, .inr (7, [.ref bland, .int bdeathDay, .ref bfreeFrom, .ref bbarring, .ref bkeys, .ref bways, .int bcount, .ref bwins, .ref bslots, .int bround, .ref bworths, .ref bpath])), (bways, aI g 3000 Fbways), (bpath, aI g 16 Fbpath)] s.heap.size = A at hD ⊢
  have hA : ∀ q : Nat, s.heap.size ≤ q → A q := fun q h => by rw [← hAe]; exact Or.inr h
  have hS : va_S A s.heap s.heap [] := va_S.rf
  have hl := lv_entry ([.ref h, .int p0, .int p1]) (n := 5) (Nat.le_of_ble_eq_true rfl)
  rw [lg_entry_eq]
  generalize (lg_sl ([.ref h, .int p0, .int p1]) ++ List.replicate (5 - (lg_sl ([.ref h, .int p0, .int p1])).length) Slot.unset).toArray = ls at hl ⊢
  have hl : lv_has ls 5 [(0, .ref h), (1, .int p0), (2, .int p1)] := hl
  refine p_nH (fun H hH => ?_)
  have hP : va_P g.1 vwCl [(h, .inr (7, [.ref bland, .int bdeathDay, .ref bfreeFrom, .ref bbarring, .ref bkeys, .ref bways, .int bcount, .ref bwins, .ref bslots, .int bround, .ref bworths, .ref bpath])), (bways, aI g 3000 Fbways), (bpath, aI g 16 Fbpath)] H := by rw [hH]; exact hP
  have hS : va_S A s.heap H [] := by rw [hH]; exact hS
  refine lv_iload_n hx hb dX7_keepPath_0 rfl (lv_at hl 1 rfl) ?_
  refine lv_istore_n (lv' := [(3, .int p0), (0, .ref h), (1, .int p0), (2, .int p1)]) hx hb dX7_keepPath_1 rfl hl (by decide) rfl (fun ls hl => ?_)
  refine lv_iload_n hx hb dX7_keepPath_2 rfl (lv_at hl 3 rfl) ?_
  refine lv_aload_n hx hb dX7_keepPath_3 rfl (lv_at hl 1 rfl) ?_
  refine va_get (D := g.1) (ci := 7) (v := .ref bpath) (C := RX7) (T := TX7) (N := 12) hx hb hT inF_X7 hown hK.1 hP 0 rfl rfl 11 (by decide) (hT _ bw_415) (fun _ h9 => h9) rfl dX7_keepPath_4 ?_
  refine va_alen (v := 16) hx hb hK.1 hP 2 1 rfl rfl rfl dX7_keepPath_7 ?_
  refine va_mmin hx hb (hml.trans hl.1.symm) hown (hT _ bw_438) (hT _ bw_160) (hT _ bw_161) (hT _ bw_159) (Nat.le_of_ble_eq_true rfl) (Nat.le_of_ble_eq_true rfl) (Nat.le_of_ble_eq_true rfl) (Nat.le_of_ble_eq_true rfl) dX7_keepPath_8 ?_
  refine lv_topi (fun x_1 ex_1 => ?_)
  have fx_1 : x_1.toInt = min p1.toInt 16 := by rw [ex_1]; exact I_min rfl (by decide : (16 : Int32).toInt = 16)
  refine lv_iconst (v := 1) hx hb dX7_keepPath_11 (by decide) ?_
  refine lv_isub hx hb dX7_keepPath_12 ?_
  refine lv_topi (fun x_2 ex_2 => ?_)
  have fx_2 : x_2.toInt = x_1.toInt - 1 := by rw [ex_2]; exact I_sub rfl (by decide : (1 : Int32).toInt = 1) (by omega) (by omega)
  refine lv_istore (lv' := [(4, .int x_2), (3, .int p0), (0, .ref h), (1, .int p0), (2, .int p1)]) hx hb dX7_keepPath_13 hl (by decide) rfl (fun ls hl => ?_)
  refine k_floop 15 (fun n H locs ls => ∃ (L_3 : Int32) (L_4 : Int32) (f_5 : Nat → Int32), ((-1) ≤ L_3.toInt ∧ L_3.toInt ≤ 15) ∧ (0 ≤ L_4.toInt ∧ L_4.toInt ≤ 2999) ∧ L_3.toInt + 1 ≤ (n : Int) ∧ va_P g.1 vwCl [(h, .inr (7, [.ref bland, .int bdeathDay, .ref bfreeFrom, .ref bbarring, .ref bkeys, .ref bways, .int bcount, .ref bwins, .ref bslots, .int bround, .ref bworths, .ref bpath])), (bways, aI g 3000 Fbways), (bpath, aI g 16 f_5)] H ∧ va_D A [(h, .inr (7, [.ref bland, .int bdeathDay, .ref bfreeFrom, .ref bbarring, .ref bkeys, .ref bways, .int bcount, .ref bwins, .ref bslots, .int bround, .ref bworths, .ref bpath])), (bways, aI g 3000 Fbways), (bpath, aI g 16 f_5)] ∧ va_S A s.heap H locs ∧ lv_has ls 5 [(4, .int L_3), (3, .int L_4), (0, .ref h), (1, .int p0), (2, .int p1)]) (fun n H locs ls hI ih => ?_) ((x_2.toInt + 1 : Int)).toNat ⟨x_2, p0, Fbpath, (by first | with_reducible assumption | omega), (by first | with_reducible assumption | omega), by omega, hP, hD, hS, hl⟩
  refine hI.elim (fun L_3 hI => hI.elim (fun L_4 hI => hI.elim (fun f_5 hI => ?_)))
  have g_6 := hI.1
  have g_7 := hI.2.1
  have hm_8 := hI.2.2.1
  have hP := hI.2.2.2.1
  have hD := hI.2.2.2.2.1
  have hS := hI.2.2.2.2.2.1
  have hl := hI.2.2.2.2.2.2
  clear hI
  refine lv_iload hx hb dX7_keepPath_15 (lv_at hl 0 rfl) ?_
  refine lv_if_lt (tgt := 52) hx hb dX7_keepPath_17 (by decide) (fun c_9 => ?_) (fun c_9 => ?_)
  · have f_10 := E_lt (rfl : L_3.toInt = _) (by decide : (0 : Int32).toInt = 0) c_9
    have hP9 : va_P g.1 vwCl [(h, .inr (7, [.ref bland, .int bdeathDay, .ref bfreeFrom, .ref bbarring, .ref bkeys, .ref bways, .int bcount, .ref bwins, .ref bslots, .int bround, .ref bworths, .ref bpath])), (bways, aI g 3000 Fbways), (bpath, aI g 16 f_5)] H := hP.sub [0, 1, 2] rfl
    have hD9 : va_D A [(h, .inr (7, [.ref bland, .int bdeathDay, .ref bfreeFrom, .ref bbarring, .ref bkeys, .ref bways, .int bcount, .ref bwins, .ref bslots, .int bround, .ref bworths, .ref bpath])), (bways, aI g 3000 Fbways), (bpath, aI g 16 f_5)] := hD.sub [0, 1, 2] (by decide +kernel) rfl
    exact W.vret hx hb hr (fun t ht hW => ⟨⟨f_5, rfl, trivial, by rw [ht]; exact hP9, by rw [hAe]; exact hD9⟩, hS.F ht⟩) hS.2.2 dX7_keepPath_52
  · have f_11 := E_nlt (rfl : L_3.toInt = _) (by decide : (0 : Int32).toInt = 0) c_9
    refine lv_aload_n hx hb dX7_keepPath_20 rfl (lv_at hl 2 rfl) ?_
    refine va_get (D := g.1) (ci := 7) (v := .ref bpath) (C := RX7) (T := TX7) (N := 12) hx hb hT inF_X7 hown hK.1 hP 0 rfl rfl 11 (by decide) (hT _ bw_415) (fun _ h9 => h9) rfl dX7_keepPath_21 ?_
    refine lv_iload hx hb dX7_keepPath_24 (lv_at hl 0 rfl) ?_
    refine lv_aload_n hx hb dX7_keepPath_26 rfl (lv_at hl 2 rfl) ?_
    refine va_get (D := g.1) (ci := 7) (v := .ref bways) (C := RX7) (T := TX7) (N := 12) hx hb hT inF_X7 hown hK.1 hP 0 rfl rfl 5 (by decide) (hT _ bw_441) (fun _ h9 => h9) rfl dX7_keepPath_27 ?_
    refine lv_iload_n hx hb dX7_keepPath_30 rfl (lv_at hl 1 rfl) ?_
    have h_12 : vp_in L_4 3000 := vp_in_iff.mpr (by omega)
    refine va_iald hx hb hK.1 hP 1 1 rfl rfl (i := L_4) h_12 dX7_keepPath_31 ?_
    refine lv_topi (fun x_13 ex_13 => ?_)
    have fx_13 : 0 ≤ x_13.toInt ∧ x_13.toInt ≤ 47999 := Rg.rd hh0 h_12 ex_13
    have ux_13 := congrArg Int32.toInt ex_13
    refine lv_bipush (v := 16) hx hb dX7_keepPath_32 (by decide) ?_
    refine lv_irem hx hb dX7_keepPath_34 (by decide) ?_
    refine lv_topi (fun x_14 ex_14 => ?_)
    have fx_14 : x_14.toInt = x_13.toInt % 16 := by rw [ex_14]; exact I_rem rfl (by decide : (16 : Int32).toInt = 16) (by omega) (by decide)
    have h_15 : vp_in L_3 16 := vp_in_iff.mpr (by omega)
    refine va_iast hx hb hK.1 hP hD hS 2 1 rfl rfl (i := L_3) (x := x_14) h_15 dX7_keepPath_35 (fun H locs hP hD hS => ?_)
    generalize upd f_5 (L_3 : Int32).toNatClampNeg x_14 = f_16 at hP hD
    have hP : va_P g.1 vwCl [(h, .inr (7, [.ref bland, .int bdeathDay, .ref bfreeFrom, .ref bbarring, .ref bkeys, .ref bways, .int bcount, .ref bwins, .ref bslots, .int bround, .ref bworths, .ref bpath])), (bways, aI g 3000 Fbways), (bpath, aI g 16 f_16)] H := hP
    have hD : va_D A [(h, .inr (7, [.ref bland, .int bdeathDay, .ref bfreeFrom, .ref bbarring, .ref bkeys, .ref bways, .int bcount, .ref bwins, .ref bslots, .int bround, .ref bworths, .ref bpath])), (bways, aI g 3000 Fbways), (bpath, aI g 16 f_16)] := hD
    refine lv_aload_n hx hb dX7_keepPath_36 rfl (lv_at hl 2 rfl) ?_
    refine va_get (D := g.1) (ci := 7) (v := .ref bways) (C := RX7) (T := TX7) (N := 12) hx hb hT inF_X7 hown hK.1 hP 0 rfl rfl 5 (by decide) (hT _ bw_441) (fun _ h9 => h9) rfl dX7_keepPath_37 ?_
    refine lv_iload_n hx hb dX7_keepPath_40 rfl (lv_at hl 1 rfl) ?_
    have h_17 : vp_in L_4 3000 := vp_in_iff.mpr (by omega)
    refine va_iald hx hb hK.1 hP 1 1 rfl rfl (i := L_4) h_17 dX7_keepPath_41 ?_
    refine lv_topi (fun x_18 ex_18 => ?_)
    have fx_18 : 0 ≤ x_18.toInt ∧ x_18.toInt ≤ 47999 := Rg.rd hh0 h_17 ex_18
    have ux_18 := congrArg Int32.toInt ex_18
    refine lv_bipush (v := 16) hx hb dX7_keepPath_42 (by decide) ?_
    refine lv_idiv hx hb dX7_keepPath_44 (by decide) ?_
    refine lv_topi (fun x_19 ex_19 => ?_)
    have fx_19 : x_19.toInt = x_18.toInt / 16 := by rw [ex_19]; exact I_div rfl (by decide : (16 : Int32).toInt = 16) (by omega) (by decide)
    refine lv_istore_n (lv' := [(3, .int x_19), (4, .int L_3), (0, .ref h), (1, .int p0), (2, .int p1)]) hx hb dX7_keepPath_45 rfl hl (by decide) rfl (fun ls hl => ?_)
    obtain ⟨x_20, ex_20⟩ : ∃ y : Int32, y = L_3 + (-1) := ⟨_, rfl⟩
    have fx_20 : x_20.toInt = L_3.toInt + (-1) := by rw [ex_20]; exact I_add rfl (by decide) (by omega) (by omega)
    refine lv_iinc (v := x_20) (lv' := [(4, .int x_20), (3, .int x_19), (0, .ref h), (1, .int p0), (2, .int p1)]) hx hb dX7_keepPath_46 hl (k := 1) rfl (by rw [ex_20]; rfl) (by decide) rfl (fun ls hl => ?_)
    refine lv_goto (tgt := 15) hx hb dX7_keepPath_49 (by decide) ?_
    exact ih (n - 1) (by omega) H locs ls ⟨x_20, x_19, f_16, (by first | with_reducible assumption | omega), (by first | with_reducible assumption | omega), by omega, hP.sub [0, 1, 2] rfl, hD.sub [0, 1, 2] (by decide +kernel) rfl, hS, lv_sub hl [0, 1, 2, 3, 4] rfl⟩

theorem bw_443 : Cond.fieldLink RX7 61 "DuelDelays$Land" "men" "LDuelDelays$Men;" ∈ gT := gT_tb 287 (by decide +kernel) (by decide +kernel)
theorem bw_444 : Cond.fieldLink RX7 67 "DuelDelays$Men" "dies" "[I" ∈ gT := gT_tb 171 (by decide +kernel) (by decide +kernel)
theorem bw_445 : Cond.fieldLink RX7 77 "DuelDelays$Search" "deathDay" "I" ∈ gT := gT_tb 343 (by decide +kernel) (by decide +kernel)
theorem bw_446 : Cond.fieldLink RX7 85 "DuelDelays$Reasons" "sorts" "[I" ∈ gT := gT_tb 262 (by decide +kernel) (by decide +kernel)
theorem bw_447 : Cond.methodLink RX7 94 yX6_has ∈ gT := gT_tb 1068 (by decide +kernel) (by decide +kernel)
theorem bw_448 : Cond.methodLink RX7 98 yX9_isGone ∈ gT := gT_tb 1069 (by decide +kernel) (by decide +kernel)
theorem bw_449 : Cond.methodLink RX7 103 yX9_freeFrom ∈ gT := gT_tb 1071 (by decide +kernel) (by decide +kernel)
theorem bw_450 : Cond.constant RX7 102 (1000000) ∈ gT := gT_tb 1070 (by decide +kernel) (by decide +kernel)
theorem bw_451 : Cond.code yX7_prepare cX7_prepare 10 none ∈ gT := gT_tb 1065 (by decide +kernel) (by decide +kernel)
theorem dX7_prepare_0 : decode cX7_prepare 0 = .ok (.aload_n 0, 1) := by decide +kernel
theorem dX7_prepare_1 : decode cX7_prepare 1 = .ok (.aload_n 1, 1) := by decide +kernel
theorem dX7_prepare_2 : decode cX7_prepare 2 = .ok (.putfield 57, 3) := by decide +kernel
theorem dX7_prepare_5 : decode cX7_prepare 5 = .ok (.aload_n 0, 1) := by decide +kernel
theorem dX7_prepare_6 : decode cX7_prepare 6 = .ok (.aload_n 1, 1) := by decide +kernel
theorem dX7_prepare_7 : decode cX7_prepare 7 = .ok (.getfield 61, 3) := by decide +kernel
theorem dX7_prepare_10 : decode cX7_prepare 10 = .ok (.getfield 67, 3) := by decide +kernel
theorem dX7_prepare_13 : decode cX7_prepare 13 = .ok (.iload_n 3, 1) := by decide +kernel
theorem dX7_prepare_14 : decode cX7_prepare 14 = .ok (.iaload, 1) := by decide +kernel
theorem dX7_prepare_15 : decode cX7_prepare 15 = .ok (.aload_n 1, 1) := by decide +kernel
theorem dX7_prepare_16 : decode cX7_prepare 16 = .ok (.getfield 61, 3) := by decide +kernel
theorem dX7_prepare_19 : decode cX7_prepare 19 = .ok (.getfield 67, 3) := by decide +kernel
theorem dX7_prepare_22 : decode cX7_prepare 22 = .ok (.iload 4, 2) := by decide +kernel
theorem dX7_prepare_24 : decode cX7_prepare 24 = .ok (.iaload, 1) := by decide +kernel
theorem dX7_prepare_25 : decode cX7_prepare 25 = .ok (.invokestatic 72, 3) := by decide +kernel
theorem dX7_prepare_28 : decode cX7_prepare 28 = .ok (.putfield 77, 3) := by decide +kernel
theorem dX7_prepare_31 : decode cX7_prepare 31 = .ok (.iconst 0, 1) := by decide +kernel
theorem dX7_prepare_32 : decode cX7_prepare 32 = .ok (.istore 7, 2) := by decide +kernel
theorem dX7_prepare_34 : decode cX7_prepare 34 = .ok (.iload 7, 2) := by decide +kernel
theorem dX7_prepare_36 : decode cX7_prepare 36 = .ok (.bipush 16, 2) := by decide +kernel
theorem dX7_prepare_38 : decode cX7_prepare 38 = .ok (.if_icmp .ge 134, 3) := by decide +kernel
theorem dX7_prepare_41 : decode cX7_prepare 41 = .ok (.iload 7, 2) := by decide +kernel
theorem dX7_prepare_43 : decode cX7_prepare 43 = .ok (.bipush 8, 2) := by decide +kernel
theorem dX7_prepare_45 : decode cX7_prepare 45 = .ok (.irem, 1) := by decide +kernel
theorem dX7_prepare_46 : decode cX7_prepare 46 = .ok (.istore 8, 2) := by decide +kernel
theorem dX7_prepare_48 : decode cX7_prepare 48 = .ok (.iload 7, 2) := by decide +kernel
theorem dX7_prepare_50 : decode cX7_prepare 50 = .ok (.bipush 8, 2) := by decide +kernel
theorem dX7_prepare_52 : decode cX7_prepare 52 = .ok (.idiv, 1) := by decide +kernel
theorem dX7_prepare_53 : decode cX7_prepare 53 = .ok (.istore 9, 2) := by decide +kernel
theorem dX7_prepare_55 : decode cX7_prepare 55 = .ok (.aload_n 0, 1) := by decide +kernel
theorem dX7_prepare_56 : decode cX7_prepare 56 = .ok (.getfield 15, 3) := by decide +kernel
theorem dX7_prepare_59 : decode cX7_prepare 59 = .ok (.iload 7, 2) := by decide +kernel
theorem dX7_prepare_61 : decode cX7_prepare 61 = .ok (.aload_n 1, 1) := by decide +kernel
theorem dX7_prepare_62 : decode cX7_prepare 62 = .ok (.getfield 81, 3) := by decide +kernel
theorem dX7_prepare_65 : decode cX7_prepare 65 = .ok (.getfield 85, 3) := by decide +kernel
theorem dX7_prepare_68 : decode cX7_prepare 68 = .ok (.iload 8, 2) := by decide +kernel
theorem dX7_prepare_70 : decode cX7_prepare 70 = .ok (.iaload, 1) := by decide +kernel
theorem dX7_prepare_71 : decode cX7_prepare 71 = .ok (.iload 9, 2) := by decide +kernel
theorem dX7_prepare_73 : decode cX7_prepare 73 = .ok (.iload 8, 2) := by decide +kernel
theorem dX7_prepare_75 : decode cX7_prepare 75 = .ok (.invokestatic 90, 3) := by decide +kernel
theorem dX7_prepare_78 : decode cX7_prepare 78 = .ok (.iastore, 1) := by decide +kernel
theorem dX7_prepare_79 : decode cX7_prepare 79 = .ok (.aload_n 1, 1) := by decide +kernel
theorem dX7_prepare_80 : decode cX7_prepare 80 = .ok (.getfield 81, 3) := by decide +kernel
theorem dX7_prepare_83 : decode cX7_prepare 83 = .ok (.iload 8, 2) := by decide +kernel
theorem dX7_prepare_85 : decode cX7_prepare 85 = .ok (.invokevirtual 94, 3) := by decide +kernel
theorem dX7_prepare_88 : decode cX7_prepare 88 = .ok (.ifCond .eq 13, 3) := by decide +kernel
theorem dX7_prepare_91 : decode cX7_prepare 91 = .ok (.aload_n 2, 1) := by decide +kernel
theorem dX7_prepare_92 : decode cX7_prepare 92 = .ok (.aload_n 1, 1) := by decide +kernel
theorem dX7_prepare_93 : decode cX7_prepare 93 = .ok (.iload 8, 2) := by decide +kernel
theorem dX7_prepare_95 : decode cX7_prepare 95 = .ok (.invokevirtual 98, 3) := by decide +kernel
theorem dX7_prepare_98 : decode cX7_prepare 98 = .ok (.ifCond .eq 15, 3) := by decide +kernel
theorem dX7_prepare_101 : decode cX7_prepare 101 = .ok (.aload_n 0, 1) := by decide +kernel
theorem dX7_prepare_102 : decode cX7_prepare 102 = .ok (.getfield 11, 3) := by decide +kernel
theorem dX7_prepare_105 : decode cX7_prepare 105 = .ok (.iload 7, 2) := by decide +kernel
theorem dX7_prepare_107 : decode cX7_prepare 107 = .ok (.ldc 102, 2) := by decide +kernel
theorem dX7_prepare_109 : decode cX7_prepare 109 = .ok (.iastore, 1) := by decide +kernel
theorem dX7_prepare_110 : decode cX7_prepare 110 = .ok (.goto 56, 3) := by decide +kernel
theorem dX7_prepare_113 : decode cX7_prepare 113 = .ok (.iload 9, 2) := by decide +kernel
theorem dX7_prepare_115 : decode cX7_prepare 115 = .ok (.iload 5, 2) := by decide +kernel
theorem dX7_prepare_117 : decode cX7_prepare 117 = .ok (.if_icmp .ne 24, 3) := by decide +kernel
theorem dX7_prepare_120 : decode cX7_prepare 120 = .ok (.iload 6, 2) := by decide +kernel
theorem dX7_prepare_122 : decode cX7_prepare 122 = .ok (.iload 8, 2) := by decide +kernel
theorem dX7_prepare_124 : decode cX7_prepare 124 = .ok (.ishr, 1) := by decide +kernel
theorem dX7_prepare_125 : decode cX7_prepare 125 = .ok (.iconst 1, 1) := by decide +kernel
theorem dX7_prepare_126 : decode cX7_prepare 126 = .ok (.iand, 1) := by decide +kernel
theorem dX7_prepare_127 : decode cX7_prepare 127 = .ok (.ifCond .eq 14, 3) := by decide +kernel
theorem dX7_prepare_130 : decode cX7_prepare 130 = .ok (.aload_n 0, 1) := by decide +kernel
theorem dX7_prepare_131 : decode cX7_prepare 131 = .ok (.getfield 11, 3) := by decide +kernel
theorem dX7_prepare_134 : decode cX7_prepare 134 = .ok (.iload 7, 2) := by decide +kernel
theorem dX7_prepare_136 : decode cX7_prepare 136 = .ok (.iconst 0, 1) := by decide +kernel
theorem dX7_prepare_137 : decode cX7_prepare 137 = .ok (.iastore, 1) := by decide +kernel
theorem dX7_prepare_138 : decode cX7_prepare 138 = .ok (.goto 28, 3) := by decide +kernel
theorem dX7_prepare_141 : decode cX7_prepare 141 = .ok (.aload_n 0, 1) := by decide +kernel
theorem dX7_prepare_142 : decode cX7_prepare 142 = .ok (.getfield 11, 3) := by decide +kernel
theorem dX7_prepare_145 : decode cX7_prepare 145 = .ok (.iload 7, 2) := by decide +kernel
theorem dX7_prepare_147 : decode cX7_prepare 147 = .ok (.aload_n 2, 1) := by decide +kernel
theorem dX7_prepare_148 : decode cX7_prepare 148 = .ok (.aload_n 1, 1) := by decide +kernel
theorem dX7_prepare_149 : decode cX7_prepare 149 = .ok (.iload 9, 2) := by decide +kernel
theorem dX7_prepare_151 : decode cX7_prepare 151 = .ok (.ifCond .ne 7, 3) := by decide +kernel
theorem dX7_prepare_154 : decode cX7_prepare 154 = .ok (.iload_n 3, 1) := by decide +kernel
theorem dX7_prepare_155 : decode cX7_prepare 155 = .ok (.goto 5, 3) := by decide +kernel
theorem dX7_prepare_158 : decode cX7_prepare 158 = .ok (.iload 4, 2) := by decide +kernel
theorem dX7_prepare_160 : decode cX7_prepare 160 = .ok (.iload 8, 2) := by decide +kernel
theorem dX7_prepare_162 : decode cX7_prepare 162 = .ok (.invokevirtual 103, 3) := by decide +kernel
theorem dX7_prepare_165 : decode cX7_prepare 165 = .ok (.iastore, 1) := by decide +kernel
theorem dX7_prepare_166 : decode cX7_prepare 166 = .ok (.iinc 7 1, 3) := by decide +kernel
theorem dX7_prepare_169 : decode cX7_prepare 169 = .ok (.goto (-135), 3) := by decide +kernel
theorem dX7_prepare_172 : decode cX7_prepare 172 = .ok (.return_, 1) := by decide +kernel
set_option maxHeartbeats 4000000 in
set_option maxRecDepth 100000 in
theorem s_X7_prepare (l : Launch) (g : GG) (sz : Nat) (h : Nat) (bland : Nat) (bdeathDay : Int32) (bfreeFrom : Nat) (FbfreeFrom : Nat → Int32) (bbarring : Nat) (Fbbarring : Nat → Int32) (bkeys : Nat) (bways : Nat) (bcount : Int32) (bwins : Nat) (bslots : Nat) (bround : Int32) (bworths : Nat) (bpath : Nat) (la : Nat) (dduels : Int32) (dduelSides : Nat) (dduelMornings : Nat) (dhonour : Int32) (ddraw : Int32) (dusesOfKind : Nat) (dmen : Nat) (dmen_count : Int32) (dmen_names : Nat) (dmen_dies : Nat) (Fdmen_dies : Nat → Int32) (dmen_coins : Nat) (dmen_fathers : Nat) (dformulas : Nat) (dreasons : Nat) (dreasons_count : Int32) (dreasons_names : Nat) (dreasons_kinds : Nat) (dreasons_owners : Nat) (Fdreasons_owners : Nat → Int32) (dreasons_froms : Nat) (dreasons_tos : Nat) (dreasons_rents : Nat) (dreasons_sorts : Nat) (Fdreasons_sorts : Nat → Int32) (st : Nat) (sday : Int32) (sseed : Int32) (salive : Int32) (sstruck : Int32) (sopen : Int32) (sduels : Int32) (slines : Int32) (scoins : Nat) (srented : Nat) (Fsrented : Nat → Int32) (smornings : Nat) (shonours : Nat) (sused : Nat) (Fsused : Nat → Int32) (ssides : Nat) (slog : Nat) (p0 : Int32) (p1 : Int32) (p2 : Int32) (p3 : Int32) (hh1 : 0 ≤ bcount.toInt ∧ bcount.toInt ≤ 3000) (hh2 : 0 ≤ bround.toInt ∧ bround.toInt ≤ 1048575) (hh3 : 0 ≤ dduels.toInt ∧ dduels.toInt ≤ 6) (hh5 : 0 ≤ ddraw.toInt ∧ ddraw.toInt ≤ 999) (hh6 : 0 ≤ dmen_count.toInt ∧ dmen_count.toInt ≤ 6) (hh12 : 0 ≤ dreasons_count.toInt ∧ dreasons_count.toInt ≤ 8) (hh14 : Rg 8 (-1) 5 Fdreasons_owners) (hh15 : 0 ≤ sseed.toInt ∧ sseed.toInt ≤ 999) (hh16 : 0 ≤ sduels.toInt ∧ sduels.toInt ≤ 8) (hh17 : 0 ≤ slines.toInt ∧ slines.toInt ≤ 60) (hh19 : 0 ≤ p0.toInt ∧ p0.toInt ≤ 5) (hh20 : 0 ≤ p1.toInt ∧ p1.toInt ≤ 5) : Met l yX7_prepare (.code yX7_prepare cX7_prepare 10 none :: gT) ({ frames := 4, cells := 0, slots := 0, locals := 91 }) (va_Pc [.ref h, .ref la, .ref st, .int p0, .int p1, .int p2, .int p3] (Pst g sz [(h, .inr (7, [.ref bland, .int bdeathDay, .ref bfreeFrom, .ref bbarring, .ref bkeys, .ref bways, .int bcount, .ref bwins, .ref bslots, .int bround, .ref bworths, .ref bpath])), (bfreeFrom, aI g 16 FbfreeFrom), (bbarring, aI g 16 Fbbarring), (la, .inr (2, [.ref dmen, .ref dformulas, .ref dreasons, .int dduels, .ref dduelSides, .ref dduelMornings, .int dhonour, .int ddraw, .ref dusesOfKind])), (dmen, .inr (3, [.int dmen_count, .ref dmen_names, .ref dmen_dies, .ref dmen_coins, .ref dmen_fathers])), (dmen_dies, aI g 6 Fdmen_dies), (dreasons, .inr (6, [.int dreasons_count, .ref dreasons_names, .ref dreasons_kinds, .ref dreasons_owners, .ref dreasons_froms, .ref dreasons_tos, .ref dreasons_rents, .ref dreasons_sorts])), (dreasons_owners, aI g 8 Fdreasons_owners), (dreasons_sorts, aI g 8 Fdreasons_sorts), (st, .inr (9, [.int sday, .int sseed, .int salive, .int sstruck, .int sopen, .int sduels, .int slines, .ref scoins, .ref srented, .ref smornings, .ref shonours, .ref sused, .ref ssides, .ref slog])), (srented, aI g 6 Fsrented), (sused, aI g 8 Fsused)] nX)) (va_Qv (fun ((o0_deathDay, o1_F, o2_F) : Int32 × (Nat → Int32) × (Nat → Int32)) => True) (Qst g [(h, .inr (7, [.ref bland, .int bdeathDay, .ref bfreeFrom, .ref bbarring, .ref bkeys, .ref bways, .int bcount, .ref bwins, .ref bslots, .int bround, .ref bworths, .ref bpath])), (bfreeFrom, aI g 16 FbfreeFrom), (bbarring, aI g 16 Fbbarring), (la, .inr (2, [.ref dmen, .ref dformulas, .ref dreasons, .int dduels, .ref dduelSides, .ref dduelMornings, .int dhonour, .int ddraw, .ref dusesOfKind])), (dmen, .inr (3, [.int dmen_count, .ref dmen_names, .ref dmen_dies, .ref dmen_coins, .ref dmen_fathers])), (dmen_dies, aI g 6 Fdmen_dies), (dreasons, .inr (6, [.int dreasons_count, .ref dreasons_names, .ref dreasons_kinds, .ref dreasons_owners, .ref dreasons_froms, .ref dreasons_tos, .ref dreasons_rents, .ref dreasons_sorts])), (dreasons_owners, aI g 8 Fdreasons_owners), (dreasons_sorts, aI g 8 Fdreasons_sorts), (st, .inr (9, [.int sday, .int sseed, .int salive, .int sstruck, .int sopen, .int sduels, .int slines, .ref scoins, .ref srented, .ref smornings, .ref shonours, .ref sused, .ref ssides, .ref slog])), (srented, aI g 6 Fsrented), (sused, aI g 8 Fsused)] sz (fun ((o0_deathDay, o1_F, o2_F) : Int32 × (Nat → Int32) × (Nat → Int32)) => [(h, .inr (7, [.ref la, .int o0_deathDay, .ref bfreeFrom, .ref bbarring, .ref bkeys, .ref bways, .int bcount, .ref bwins, .ref bslots, .int bround, .ref bworths, .ref bpath])), (bfreeFrom, aI g 16 o1_F), (bbarring, aI g 16 o2_F), (la, .inr (2, [.ref dmen, .ref dformulas, .ref dreasons, .int dduels, .ref dduelSides, .ref dduelMornings, .int dhonour, .int ddraw, .ref dusesOfKind])), (dmen, .inr (3, [.int dmen_count, .ref dmen_names, .ref dmen_dies, .ref dmen_coins, .ref dmen_fathers])), (dmen_dies, aI g 6 Fdmen_dies), (dreasons, .inr (6, [.int dreasons_count, .ref dreasons_names, .ref dreasons_kinds, .ref dreasons_owners, .ref dreasons_froms, .ref dreasons_tos, .ref dreasons_rents, .ref dreasons_sorts])), (dreasons_owners, aI g 8 Fdreasons_owners), (dreasons_sorts, aI g 8 Fdreasons_sorts), (st, .inr (9, [.int sday, .int sseed, .int salive, .int sstruck, .int sopen, .int sduels, .int slines, .ref scoins, .ref srented, .ref smornings, .ref shonours, .ref sused, .ref ssides, .ref slog])), (srented, aI g 6 Fsrented), (sused, aI g 8 Fsused)])) (va_A [(h, .inr (7, [.ref bland, .int bdeathDay, .ref bfreeFrom, .ref bbarring, .ref bkeys, .ref bways, .int bcount, .ref bwins, .ref bslots, .int bround, .ref bworths, .ref bpath])), (bfreeFrom, aI g 16 FbfreeFrom), (bbarring, aI g 16 Fbbarring), (la, .inr (2, [.ref dmen, .ref dformulas, .ref dreasons, .int dduels, .ref dduelSides, .ref dduelMornings, .int dhonour, .int ddraw, .ref dusesOfKind])), (dmen, .inr (3, [.int dmen_count, .ref dmen_names, .ref dmen_dies, .ref dmen_coins, .ref dmen_fathers])), (dmen_dies, aI g 6 Fdmen_dies), (dreasons, .inr (6, [.int dreasons_count, .ref dreasons_names, .ref dreasons_kinds, .ref dreasons_owners, .ref dreasons_froms, .ref dreasons_tos, .ref dreasons_rents, .ref dreasons_sorts])), (dreasons_owners, aI g 8 Fdreasons_owners), (dreasons_sorts, aI g 8 Fdreasons_sorts), (st, .inr (9, [.int sday, .int sseed, .int salive, .int sstruck, .int sopen, .int sduels, .int slines, .ref scoins, .ref srented, .ref smornings, .ref shonours, .ref sused, .ref ssides, .ref slog])), (srented, aI g 6 Fsrented), (sused, aI g 8 Fsused)] sz)) 0 0 (va_A [(h, .inr (7, [.ref bland, .int bdeathDay, .ref bfreeFrom, .ref bbarring, .ref bkeys, .ref bways, .int bcount, .ref bwins, .ref bslots, .int bround, .ref bworths, .ref bpath])), (bfreeFrom, aI g 16 FbfreeFrom), (bbarring, aI g 16 Fbbarring), (la, .inr (2, [.ref dmen, .ref dformulas, .ref dreasons, .int dduels, .ref dduelSides, .ref dduelMornings, .int dhonour, .int ddraw, .ref dusesOfKind])), (dmen, .inr (3, [.int dmen_count, .ref dmen_names, .ref dmen_dies, .ref dmen_coins, .ref dmen_fathers])), (dmen_dies, aI g 6 Fdmen_dies), (dreasons, .inr (6, [.int dreasons_count, .ref dreasons_names, .ref dreasons_kinds, .ref dreasons_owners, .ref dreasons_froms, .ref dreasons_tos, .ref dreasons_rents, .ref dreasons_sorts])), (dreasons_owners, aI g 8 Fdreasons_owners), (dreasons_sorts, aI g 8 Fdreasons_sorts), (st, .inr (9, [.int sday, .int sseed, .int salive, .int sstruck, .int sopen, .int sduels, .int slines, .ref scoins, .ref srented, .ref smornings, .ref shonours, .ref sused, .ref ssides, .ref slog])), (srented, aI g 6 Fsrented), (sused, aI g 8 Fsused)] sz) := by
  refine Met.ofW (cc := cX7_prepare) (maxL := 10) (ret := none) (by decide) rfl ?_
  intro p e s m args below meth c s₁ B hml hv
  obtain ⟨rfl, hsz, hP, hK, hD0, hX⟩ := hv
  have hx := B.exec
  have hb := B.bytes
  have hr := B.returns
  have hT : ∀ w ∈ gT, w.before _ s = true := fun w h => atoms_spec (ws := .code yX7_prepare cX7_prepare 10 none :: gT) B.pre w (List.mem_cons_of_mem _ h)
  have hown : s.vm.findClass RX7 = some m.cls := findClass_of_methodNamed B.named
  have hlocks := B.notSynchronized
  subst hsz
  have hD := hD0.self (sz := s.heap.size)
  generalize hAe : va_A [(h, .inr (7, [.ref bland, .int bdeathDay, .ref bfreeFrom, .ref bbarring, .ref bkeys, .ref bways, .int bcount, .ref bwins, .ref bslots, .int bround, .ref bworths, .ref bpath])), (bfreeFrom, aI g 16 FbfreeFrom), (bbarring, aI g 16 Fbbarring), (la, .inr (2, [.ref dmen, .ref dformulas, .ref dreasons, .int dduels, .ref dduelSides, .ref dduelMornings, .int dhonour, .int ddraw, .ref dusesOfKind])), (dmen, .inr (3, [.int dmen_count, .ref dmen_names, .ref dmen_dies, .ref dmen_coins, .ref dmen_fathers])), (dmen_dies, aI g 6 Fdmen_dies), (dreasons, .inr (6, [.int dreasons_count, .ref dreasons_names, .ref dreasons_kinds, .ref dreasons_owners, .ref dreasons_froms, .ref dreasons_tos, .ref dreasons_rents, .ref dreasons_sorts])), (dreasons_owners, aI g 8 Fdreasons_owners), (dreasons_sorts, aI g 8 Fdreasons_sorts), (st, .inr (9, [.int sday, .int sseed, .int salive, .int sstruck, .int sopen, .int sduels, .int slines, .ref scoins, .ref srented, .ref smornings, .ref shonours, .ref sused, .ref ssides, .ref slog])), (srented, aI g 6 Fsrented), (sused, aI g 8 Fsused)] s.heap.size = A at hD ⊢
  have hA : ∀ q : Nat, s.heap.size ≤ q → A q := fun q h => by rw [← hAe]; exact Or.inr h
  have hS : va_S A s.heap s.heap [] := va_S.rf
  have hl := lv_entry ([.ref h, .ref la, .ref st, .int p0, .int p1, .int p2, .int p3]) (n := 10) (Nat.le_of_ble_eq_true rfl)
  rw [lg_entry_eq]
  generalize (lg_sl ([.ref h, .ref la, .ref st, .int p0, .int p1, .int p2, .int p3]) ++ List.replicate (10 - (lg_sl ([.ref h, .ref la, .ref st, .int p0, .int p1, .int p2, .int p3])).length) Slot.unset).toArray = ls at hl ⊢
  have hl : lv_has ls 10 [(0, .ref h), (1, .ref la), (2, .ref st), (3, .int p0), (4, .int p1), (5, .int p2), (6, .int p3)] := hl
  refine p_nH (fun H hH => ?_)
  have hP : va_P g.1 vwCl [(h, .inr (7, [.ref bland, .int bdeathDay, .ref bfreeFrom, .ref bbarring, .ref bkeys, .ref bways, .int bcount, .ref bwins, .ref bslots, .int bround, .ref bworths, .ref bpath])), (bfreeFrom, aI g 16 FbfreeFrom), (bbarring, aI g 16 Fbbarring), (la, .inr (2, [.ref dmen, .ref dformulas, .ref dreasons, .int dduels, .ref dduelSides, .ref dduelMornings, .int dhonour, .int ddraw, .ref dusesOfKind])), (dmen, .inr (3, [.int dmen_count, .ref dmen_names, .ref dmen_dies, .ref dmen_coins, .ref dmen_fathers])), (dmen_dies, aI g 6 Fdmen_dies), (dreasons, .inr (6, [.int dreasons_count, .ref dreasons_names, .ref dreasons_kinds, .ref dreasons_owners, .ref dreasons_froms, .ref dreasons_tos, .ref dreasons_rents, .ref dreasons_sorts])), (dreasons_owners, aI g 8 Fdreasons_owners), (dreasons_sorts, aI g 8 Fdreasons_sorts), (st, .inr (9, [.int sday, .int sseed, .int salive, .int sstruck, .int sopen, .int sduels, .int slines, .ref scoins, .ref srented, .ref smornings, .ref shonours, .ref sused, .ref ssides, .ref slog])), (srented, aI g 6 Fsrented), (sused, aI g 8 Fsused)] H := by rw [hH]; exact hP
  have hS : va_S A s.heap H [] := by rw [hH]; exact hS
  refine lv_aload_n hx hb dX7_prepare_0 rfl (lv_at hl 0 rfl) ?_
  refine lv_aload_n hx hb dX7_prepare_1 rfl (lv_at hl 1 rfl) ?_
  refine va_put (D := g.1) (ci := 7) (v := .ref la) (ty := .object "DuelDelays$Land") (C := RX7) (T := TX7) (N := 12) hx hb hT inF_X7 tyX7 tyX7_ok nmX7 hown hK.1 hP hD hS 0 rfl rfl 0 (by decide) (hT _ bw_428) (fun _ h9 => h9) rfl (by decide +kernel) rfl rfl (Nat.le_of_ble_eq_true rfl) dX7_prepare_2 (fun H locs hP hD hS => ?_)
  have hP : va_P g.1 vwCl [(h, .inr (7, [.ref la, .int bdeathDay, .ref bfreeFrom, .ref bbarring, .ref bkeys, .ref bways, .int bcount, .ref bwins, .ref bslots, .int bround, .ref bworths, .ref bpath])), (bfreeFrom, aI g 16 FbfreeFrom), (bbarring, aI g 16 Fbbarring), (la, .inr (2, [.ref dmen, .ref dformulas, .ref dreasons, .int dduels, .ref dduelSides, .ref dduelMornings, .int dhonour, .int ddraw, .ref dusesOfKind])), (dmen, .inr (3, [.int dmen_count, .ref dmen_names, .ref dmen_dies, .ref dmen_coins, .ref dmen_fathers])), (dmen_dies, aI g 6 Fdmen_dies), (dreasons, .inr (6, [.int dreasons_count, .ref dreasons_names, .ref dreasons_kinds, .ref dreasons_owners, .ref dreasons_froms, .ref dreasons_tos, .ref dreasons_rents, .ref dreasons_sorts])), (dreasons_owners, aI g 8 Fdreasons_owners), (dreasons_sorts, aI g 8 Fdreasons_sorts), (st, .inr (9, [.int sday, .int sseed, .int salive, .int sstruck, .int sopen, .int sduels, .int slines, .ref scoins, .ref srented, .ref smornings, .ref shonours, .ref sused, .ref ssides, .ref slog])), (srented, aI g 6 Fsrented), (sused, aI g 8 Fsused)] H := hP
  have hD : va_D A [(h, .inr (7, [.ref la, .int bdeathDay, .ref bfreeFrom, .ref bbarring, .ref bkeys, .ref bways, .int bcount, .ref bwins, .ref bslots, .int bround, .ref bworths, .ref bpath])), (bfreeFrom, aI g 16 FbfreeFrom), (bbarring, aI g 16 Fbbarring), (la, .inr (2, [.ref dmen, .ref dformulas, .ref dreasons, .int dduels, .ref dduelSides, .ref dduelMornings, .int dhonour, .int ddraw, .ref dusesOfKind])), (dmen, .inr (3, [.int dmen_count, .ref dmen_names, .ref dmen_dies, .ref dmen_coins, .ref dmen_fathers])), (dmen_dies, aI g 6 Fdmen_dies), (dreasons, .inr (6, [.int dreasons_count, .ref dreasons_names, .ref dreasons_kinds, .ref dreasons_owners, .ref dreasons_froms, .ref dreasons_tos, .ref dreasons_rents, .ref dreasons_sorts])), (dreasons_owners, aI g 8 Fdreasons_owners), (dreasons_sorts, aI g 8 Fdreasons_sorts), (st, .inr (9, [.int sday, .int sseed, .int salive, .int sstruck, .int sopen, .int sduels, .int slines, .ref scoins, .ref srented, .ref smornings, .ref shonours, .ref sused, .ref ssides, .ref slog])), (srented, aI g 6 Fsrented), (sused, aI g 8 Fsused)] := hD
  refine lv_aload_n hx hb dX7_prepare_5 rfl (lv_at hl 0 rfl) ?_
  refine lv_aload_n hx hb dX7_prepare_6 rfl (lv_at hl 1 rfl) ?_
  refine va_get (D := g.1) (ci := 2) (v := .ref dmen) (C := RX2) (T := TX2) (N := 9) hx hb hT inF_X2 hown hK.1 hP 3 rfl rfl 0 (by decide) (hT _ bw_443) (fun _ h9 => h9) rfl dX7_prepare_7 ?_
  refine va_get (D := g.1) (ci := 3) (v := .ref dmen_dies) (C := RX3) (T := TX3) (N := 5) hx hb hT inF_X3 hown hK.1 hP 4 rfl rfl 2 (by decide) (hT _ bw_444) (fun _ h9 => h9) rfl dX7_prepare_10 ?_
  refine lv_iload_n hx hb dX7_prepare_13 rfl (lv_at hl 3 rfl) ?_
  have h_1 : vp_in p0 6 := vp_in_iff.mpr (by omega)
  refine va_iald hx hb hK.1 hP 5 1 rfl rfl (i := p0) h_1 dX7_prepare_14 ?_
  refine lv_topi (fun x_2 ex_2 => ?_)
  have ux_2 := congrArg Int32.toInt ex_2
  refine lv_aload_n hx hb dX7_prepare_15 rfl (lv_at hl 1 rfl) ?_
  refine va_get (D := g.1) (ci := 2) (v := .ref dmen) (C := RX2) (T := TX2) (N := 9) hx hb hT inF_X2 hown hK.1 hP 3 rfl rfl 0 (by decide) (hT _ bw_443) (fun _ h9 => h9) rfl dX7_prepare_16 ?_
  refine va_get (D := g.1) (ci := 3) (v := .ref dmen_dies) (C := RX3) (T := TX3) (N := 5) hx hb hT inF_X3 hown hK.1 hP 4 rfl rfl 2 (by decide) (hT _ bw_444) (fun _ h9 => h9) rfl dX7_prepare_19 ?_
  refine lv_iload hx hb dX7_prepare_22 (lv_at hl 4 rfl) ?_
  have h_3 : vp_in p1 6 := vp_in_iff.mpr (by omega)
  refine va_iald hx hb hK.1 hP 5 1 rfl rfl (i := p1) h_3 dX7_prepare_24 ?_
  refine lv_topi (fun x_4 ex_4 => ?_)
  have ux_4 := congrArg Int32.toInt ex_4
  refine va_mmin hx hb (hml.trans hl.1.symm) hown (hT _ bw_438) (hT _ bw_160) (hT _ bw_161) (hT _ bw_159) (Nat.le_of_ble_eq_true rfl) (Nat.le_of_ble_eq_true rfl) (Nat.le_of_ble_eq_true rfl) (Nat.le_of_ble_eq_true rfl) dX7_prepare_25 ?_
  refine lv_topi (fun x_5 ex_5 => ?_)
  have fx_5 : x_5.toInt = min x_2.toInt x_4.toInt := by rw [ex_5]; exact I_min rfl rfl
  refine va_put (D := g.1) (ci := 7) (v := .int x_5) (ty := .int) (C := RX7) (T := TX7) (N := 12) hx hb hT inF_X7 tyX7 tyX7_ok nmX7 hown hK.1 hP hD hS 0 rfl rfl 1 (by decide) (hT _ bw_445) (fun _ h9 => h9) rfl (by decide +kernel) rfl rfl (Nat.le_of_ble_eq_true rfl) dX7_prepare_28 (fun H locs hP hD hS => ?_)
  have hP : va_P g.1 vwCl [(h, .inr (7, [.ref la, .int x_5, .ref bfreeFrom, .ref bbarring, .ref bkeys, .ref bways, .int bcount, .ref bwins, .ref bslots, .int bround, .ref bworths, .ref bpath])), (bfreeFrom, aI g 16 FbfreeFrom), (bbarring, aI g 16 Fbbarring), (la, .inr (2, [.ref dmen, .ref dformulas, .ref dreasons, .int dduels, .ref dduelSides, .ref dduelMornings, .int dhonour, .int ddraw, .ref dusesOfKind])), (dmen, .inr (3, [.int dmen_count, .ref dmen_names, .ref dmen_dies, .ref dmen_coins, .ref dmen_fathers])), (dmen_dies, aI g 6 Fdmen_dies), (dreasons, .inr (6, [.int dreasons_count, .ref dreasons_names, .ref dreasons_kinds, .ref dreasons_owners, .ref dreasons_froms, .ref dreasons_tos, .ref dreasons_rents, .ref dreasons_sorts])), (dreasons_owners, aI g 8 Fdreasons_owners), (dreasons_sorts, aI g 8 Fdreasons_sorts), (st, .inr (9, [.int sday, .int sseed, .int salive, .int sstruck, .int sopen, .int sduels, .int slines, .ref scoins, .ref srented, .ref smornings, .ref shonours, .ref sused, .ref ssides, .ref slog])), (srented, aI g 6 Fsrented), (sused, aI g 8 Fsused)] H := hP
  have hD : va_D A [(h, .inr (7, [.ref la, .int x_5, .ref bfreeFrom, .ref bbarring, .ref bkeys, .ref bways, .int bcount, .ref bwins, .ref bslots, .int bround, .ref bworths, .ref bpath])), (bfreeFrom, aI g 16 FbfreeFrom), (bbarring, aI g 16 Fbbarring), (la, .inr (2, [.ref dmen, .ref dformulas, .ref dreasons, .int dduels, .ref dduelSides, .ref dduelMornings, .int dhonour, .int ddraw, .ref dusesOfKind])), (dmen, .inr (3, [.int dmen_count, .ref dmen_names, .ref dmen_dies, .ref dmen_coins, .ref dmen_fathers])), (dmen_dies, aI g 6 Fdmen_dies), (dreasons, .inr (6, [.int dreasons_count, .ref dreasons_names, .ref dreasons_kinds, .ref dreasons_owners, .ref dreasons_froms, .ref dreasons_tos, .ref dreasons_rents, .ref dreasons_sorts])), (dreasons_owners, aI g 8 Fdreasons_owners), (dreasons_sorts, aI g 8 Fdreasons_sorts), (st, .inr (9, [.int sday, .int sseed, .int salive, .int sstruck, .int sopen, .int sduels, .int slines, .ref scoins, .ref srented, .ref smornings, .ref shonours, .ref sused, .ref ssides, .ref slog])), (srented, aI g 6 Fsrented), (sused, aI g 8 Fsused)] := hD
  refine lv_iconst (v := 0) hx hb dX7_prepare_31 (by decide) ?_
  refine lv_istore (lv' := [(7, .int 0), (0, .ref h), (1, .ref la), (2, .ref st), (3, .int p0), (4, .int p1), (5, .int p2), (6, .int p3)]) hx hb dX7_prepare_32 hl (by decide) rfl (fun ls hl => ?_)
  refine k_floop 34 (fun n H locs ls => ∃ (L_6 : Int32) (f_7 : Nat → Int32) (f_8 : Nat → Int32), (0 ≤ L_6.toInt ∧ L_6.toInt ≤ 16) ∧ 16 - L_6.toInt ≤ (n : Int) ∧ va_P g.1 vwCl [(h, .inr (7, [.ref la, .int x_5, .ref bfreeFrom, .ref bbarring, .ref bkeys, .ref bways, .int bcount, .ref bwins, .ref bslots, .int bround, .ref bworths, .ref bpath])), (bfreeFrom, aI g 16 f_8), (bbarring, aI g 16 f_7), (la, .inr (2, [.ref dmen, .ref dformulas, .ref dreasons, .int dduels, .ref dduelSides, .ref dduelMornings, .int dhonour, .int ddraw, .ref dusesOfKind])), (dmen, .inr (3, [.int dmen_count, .ref dmen_names, .ref dmen_dies, .ref dmen_coins, .ref dmen_fathers])), (dmen_dies, aI g 6 Fdmen_dies), (dreasons, .inr (6, [.int dreasons_count, .ref dreasons_names, .ref dreasons_kinds, .ref dreasons_owners, .ref dreasons_froms, .ref dreasons_tos, .ref dreasons_rents, .ref dreasons_sorts])), (dreasons_owners, aI g 8 Fdreasons_owners), (dreasons_sorts, aI g 8 Fdreasons_sorts), (st, .inr (9, [.int sday, .int sseed, .int salive, .int sstruck, .int sopen, .int sduels, .int slines, .ref scoins, .ref srented, .ref smornings, .ref shonours, .ref sused, .ref ssides, .ref slog])), (srented, aI g 6 Fsrented), (sused, aI g 8 Fsused)] H ∧ va_D A [(h, .inr (7, [.ref la, .int x_5, .ref bfreeFrom, .ref bbarring, .ref bkeys, .ref bways, .int bcount, .ref bwins, .ref bslots, .int bround, .ref bworths, .ref bpath])), (bfreeFrom, aI g 16 f_8), (bbarring, aI g 16 f_7), (la, .inr (2, [.ref dmen, .ref dformulas, .ref dreasons, .int dduels, .ref dduelSides, .ref dduelMornings, .int dhonour, .int ddraw, .ref dusesOfKind])), (dmen, .inr (3, [.int dmen_count, .ref dmen_names, .ref dmen_dies, .ref dmen_coins, .ref dmen_fathers])), (dmen_dies, aI g 6 Fdmen_dies), (dreasons, .inr (6, [.int dreasons_count, .ref dreasons_names, .ref dreasons_kinds, .ref dreasons_owners, .ref dreasons_froms, .ref dreasons_tos, .ref dreasons_rents, .ref dreasons_sorts])), (dreasons_owners, aI g 8 Fdreasons_owners), (dreasons_sorts, aI g 8 Fdreasons_sorts), (st, .inr (9, [.int sday, .int sseed, .int salive, .int sstruck, .int sopen, .int sduels, .int slines, .ref scoins, .ref srented, .ref smornings, .ref shonours, .ref sused, .ref ssides, .ref slog])), (srented, aI g 6 Fsrented), (sused, aI g 8 Fsused)] ∧ va_S A s.heap H locs ∧ lv_has ls 10 [(7, .int L_6), (0, .ref h), (1, .ref la), (2, .ref st), (3, .int p0), (4, .int p1), (5, .int p2), (6, .int p3)]) (fun n H locs ls hI ih => ?_) ((16 - 0 : Int)).toNat ⟨0, Fbbarring, FbfreeFrom, by decide, by have k0 : (0 : Int32).toInt = 0 := (by decide); omega, hP, hD, hS, hl⟩
  refine hI.elim (fun L_6 hI => hI.elim (fun f_7 hI => hI.elim (fun f_8 hI => ?_)))
  have g_9 := hI.1
  have hm_10 := hI.2.1
  have hP := hI.2.2.1
  have hD := hI.2.2.2.1
  have hS := hI.2.2.2.2.1
  have hl := hI.2.2.2.2.2
  clear hI
  refine lv_iload hx hb dX7_prepare_34 (lv_at hl 0 rfl) ?_
  refine lv_bipush (v := 16) hx hb dX7_prepare_36 (by decide) ?_
  refine lv_icmp_ge (tgt := 172) hx hb dX7_prepare_38 (by decide) (fun c_11 => ?_) (fun c_11 => ?_)
  · have f_12 := E_le (by decide : (16 : Int32).toInt = 16) (rfl : L_6.toInt = _) c_11
    have hP9 : va_P g.1 vwCl [(h, .inr (7, [.ref la, .int x_5, .ref bfreeFrom, .ref bbarring, .ref bkeys, .ref bways, .int bcount, .ref bwins, .ref bslots, .int bround, .ref bworths, .ref bpath])), (bfreeFrom, aI g 16 f_8), (bbarring, aI g 16 f_7), (la, .inr (2, [.ref dmen, .ref dformulas, .ref dreasons, .int dduels, .ref dduelSides, .ref dduelMornings, .int dhonour, .int ddraw, .ref dusesOfKind])), (dmen, .inr (3, [.int dmen_count, .ref dmen_names, .ref dmen_dies, .ref dmen_coins, .ref dmen_fathers])), (dmen_dies, aI g 6 Fdmen_dies), (dreasons, .inr (6, [.int dreasons_count, .ref dreasons_names, .ref dreasons_kinds, .ref dreasons_owners, .ref dreasons_froms, .ref dreasons_tos, .ref dreasons_rents, .ref dreasons_sorts])), (dreasons_owners, aI g 8 Fdreasons_owners), (dreasons_sorts, aI g 8 Fdreasons_sorts), (st, .inr (9, [.int sday, .int sseed, .int salive, .int sstruck, .int sopen, .int sduels, .int slines, .ref scoins, .ref srented, .ref smornings, .ref shonours, .ref sused, .ref ssides, .ref slog])), (srented, aI g 6 Fsrented), (sused, aI g 8 Fsused)] H := hP.sub [0, 1, 2, 3, 4, 5, 6, 7, 8, 9, 10, 11] rfl
    have hD9 : va_D A [(h, .inr (7, [.ref la, .int x_5, .ref bfreeFrom, .ref bbarring, .ref bkeys, .ref bways, .int bcount, .ref bwins, .ref bslots, .int bround, .ref bworths, .ref bpath])), (bfreeFrom, aI g 16 f_8), (bbarring, aI g 16 f_7), (la, .inr (2, [.ref dmen, .ref dformulas, .ref dreasons, .int dduels, .ref dduelSides, .ref dduelMornings, .int dhonour, .int ddraw, .ref dusesOfKind])), (dmen, .inr (3, [.int dmen_count, .ref dmen_names, .ref dmen_dies, .ref dmen_coins, .ref dmen_fathers])), (dmen_dies, aI g 6 Fdmen_dies), (dreasons, .inr (6, [.int dreasons_count, .ref dreasons_names, .ref dreasons_kinds, .ref dreasons_owners, .ref dreasons_froms, .ref dreasons_tos, .ref dreasons_rents, .ref dreasons_sorts])), (dreasons_owners, aI g 8 Fdreasons_owners), (dreasons_sorts, aI g 8 Fdreasons_sorts), (st, .inr (9, [.int sday, .int sseed, .int salive, .int sstruck, .int sopen, .int sduels, .int slines, .ref scoins, .ref srented, .ref smornings, .ref shonours, .ref sused, .ref ssides, .ref slog])), (srented, aI g 6 Fsrented), (sused, aI g 8 Fsused)] := hD.sub [0, 1, 2, 3, 4, 5, 6, 7, 8, 9, 10, 11] (by decide +kernel) rfl
    exact W.vret hx hb hr (fun t ht hW => ⟨⟨(x_5, f_8, f_7), rfl, trivial, by rw [ht]; exact hP9, by rw [hAe]; exact hD9⟩, hS.F ht⟩) hS.2.2 dX7_prepare_172
  · have f_13 := E_nle (by decide : (16 : Int32).toInt = 16) (rfl : L_6.toInt = _) c_11
    refine lv_iload hx hb dX7_prepare_41 (lv_at hl 0 rfl) ?_
    refine lv_bipush (v := 8) hx hb dX7_prepare_43 (by decide) ?_
    refine lv_irem hx hb dX7_prepare_45 (by decide) ?_
    refine lv_topi (fun x_14 ex_14 => ?_)
    have fx_14 : x_14.toInt = L_6.toInt % 8 := by rw [ex_14]; exact I_rem rfl (by decide : (8 : Int32).toInt = 8) (by omega) (by decide)
    refine lv_istore (lv' := [(8, .int x_14), (7, .int L_6), (0, .ref h), (1, .ref la), (2, .ref st), (3, .int p0), (4, .int p1), (5, .int p2), (6, .int p3)]) hx hb dX7_prepare_46 hl (by decide) rfl (fun ls hl => ?_)
    refine lv_iload hx hb dX7_prepare_48 (lv_at hl 1 rfl) ?_
    refine lv_bipush (v := 8) hx hb dX7_prepare_50 (by decide) ?_
    refine lv_idiv hx hb dX7_prepare_52 (by decide) ?_
    refine lv_topi (fun x_15 ex_15 => ?_)
    have fx_15 : x_15.toInt = L_6.toInt / 8 := by rw [ex_15]; exact I_div rfl (by decide : (8 : Int32).toInt = 8) (by omega) (by decide)
    refine lv_istore (lv' := [(9, .int x_15), (8, .int x_14), (7, .int L_6), (0, .ref h), (1, .ref la), (2, .ref st), (3, .int p0), (4, .int p1), (5, .int p2), (6, .int p3)]) hx hb dX7_prepare_53 hl (by decide) rfl (fun ls hl => ?_)
    refine lv_aload_n hx hb dX7_prepare_55 rfl (lv_at hl 3 rfl) ?_
    refine va_get (D := g.1) (ci := 7) (v := .ref bbarring) (C := RX7) (T := TX7) (N := 12) hx hb hT inF_X7 hown hK.1 hP 0 rfl rfl 3 (by decide) (hT _ bw_434) (fun _ h9 => h9) rfl dX7_prepare_56 ?_
    refine lv_iload hx hb dX7_prepare_59 (lv_at hl 2 rfl) ?_
    refine lv_aload_n hx hb dX7_prepare_61 rfl (lv_at hl 4 rfl) ?_
    refine va_get (D := g.1) (ci := 2) (v := .ref dreasons) (C := RX2) (T := TX2) (N := 9) hx hb hT inF_X2 hown hK.1 hP 3 rfl rfl 2 (by decide) (hT _ bw_429) (fun _ h9 => h9) rfl dX7_prepare_62 ?_
    refine va_get (D := g.1) (ci := 6) (v := .ref dreasons_sorts) (C := RX6) (T := TX6) (N := 8) hx hb hT inF_X6 hown hK.1 hP 6 rfl rfl 7 (by decide) (hT _ bw_446) (fun _ h9 => h9) rfl dX7_prepare_65 ?_
    refine lv_iload hx hb dX7_prepare_68 (lv_at hl 1 rfl) ?_
    have h_16 : vp_in x_14 8 := vp_in_iff.mpr (by omega)
    refine va_iald hx hb hK.1 hP 8 1 rfl rfl (i := x_14) h_16 dX7_prepare_70 ?_
    refine lv_topi (fun x_17 ex_17 => ?_)
    have ux_17 := congrArg Int32.toInt ex_17
    refine lv_iload hx hb dX7_prepare_71 (lv_at hl 0 rfl) ?_
    refine lv_iload hx hb dX7_prepare_73 (lv_at hl 1 rfl) ?_
    refine k_iR (k_SN (n := 3) ⟨hx, hb, hml, hown, hT⟩ hK hP hD [] rfl (by decide +kernel) (s_X11_barringUses l g H.size x_17 x_15 x_14) (gI bw_22) bw_61 (eW_X7_90 hK.2) bw_62 rfl rfl (by decide +kernel) ⟨by decide, by decide⟩ (fun _ _ _ _ _ => trivial) (fun _ _ _ => trivial) rfl rfl hl.1 (Nat.le_of_ble_eq_true rfl) dX7_prepare_75 ⟨by decide, by decide⟩) hP hS hA (fun r_18 _ H locs hw0 hP hS => ?_)
    have h_19 : vp_in L_6 16 := vp_in_iff.mpr (by omega)
    refine va_iast hx hb hK.1 hP hD hS 2 1 rfl rfl (i := L_6) (x := r_18) h_19 dX7_prepare_78 (fun H locs hP hD hS => ?_)
    generalize upd f_7 (L_6 : Int32).toNatClampNeg r_18 = f_20 at hP hD
    have hP : va_P g.1 vwCl [(h, .inr (7, [.ref la, .int x_5, .ref bfreeFrom, .ref bbarring, .ref bkeys, .ref bways, .int bcount, .ref bwins, .ref bslots, .int bround, .ref bworths, .ref bpath])), (bfreeFrom, aI g 16 f_8), (bbarring, aI g 16 f_20), (la, .inr (2, [.ref dmen, .ref dformulas, .ref dreasons, .int dduels, .ref dduelSides, .ref dduelMornings, .int dhonour, .int ddraw, .ref dusesOfKind])), (dmen, .inr (3, [.int dmen_count, .ref dmen_names, .ref dmen_dies, .ref dmen_coins, .ref dmen_fathers])), (dmen_dies, aI g 6 Fdmen_dies), (dreasons, .inr (6, [.int dreasons_count, .ref dreasons_names, .ref dreasons_kinds, .ref dreasons_owners, .ref dreasons_froms, .ref dreasons_tos, .ref dreasons_rents, .ref dreasons_sorts])), (dreasons_owners, aI g 8 Fdreasons_owners), (dreasons_sorts, aI g 8 Fdreasons_sorts), (st, .inr (9, [.int sday, .int sseed, .int salive, .int sstruck, .int sopen, .int sduels, .int slines, .ref scoins, .ref srented, .ref smornings, .ref shonours, .ref sused, .ref ssides, .ref slog])), (srented, aI g 6 Fsrented), (sused, aI g 8 Fsused)] H := hP
    have hD : va_D A [(h, .inr (7, [.ref la, .int x_5, .ref bfreeFrom, .ref bbarring, .ref bkeys, .ref bways, .int bcount, .ref bwins, .ref bslots, .int bround, .ref bworths, .ref bpath])), (bfreeFrom, aI g 16 f_8), (bbarring, aI g 16 f_20), (la, .inr (2, [.ref dmen, .ref dformulas, .ref dreasons, .int dduels, .ref dduelSides, .ref dduelMornings, .int dhonour, .int ddraw, .ref dusesOfKind])), (dmen, .inr (3, [.int dmen_count, .ref dmen_names, .ref dmen_dies, .ref dmen_coins, .ref dmen_fathers])), (dmen_dies, aI g 6 Fdmen_dies), (dreasons, .inr (6, [.int dreasons_count, .ref dreasons_names, .ref dreasons_kinds, .ref dreasons_owners, .ref dreasons_froms, .ref dreasons_tos, .ref dreasons_rents, .ref dreasons_sorts])), (dreasons_owners, aI g 8 Fdreasons_owners), (dreasons_sorts, aI g 8 Fdreasons_sorts), (st, .inr (9, [.int sday, .int sseed, .int salive, .int sstruck, .int sopen, .int sduels, .int slines, .ref scoins, .ref srented, .ref smornings, .ref shonours, .ref sused, .ref ssides, .ref slog])), (srented, aI g 6 Fsrented), (sused, aI g 8 Fsused)] := hD
    refine lv_aload_n hx hb dX7_prepare_79 rfl (lv_at hl 4 rfl) ?_
    refine va_get (D := g.1) (ci := 2) (v := .ref dreasons) (C := RX2) (T := TX2) (N := 9) hx hb hT inF_X2 hown hK.1 hP 3 rfl rfl 2 (by decide) (hT _ bw_429) (fun _ h9 => h9) rfl dX7_prepare_80 ?_
    refine lv_iload hx hb dX7_prepare_83 (lv_at hl 1 rfl) ?_
    refine k_iR (k_V (n := 1) ⟨hx, hb, hml, hown, hT⟩ hK hP hD [6] rfl (by decide +kernel) (s_X6_has l g H.size dreasons dreasons_count dreasons_names dreasons_kinds dreasons_owners dreasons_froms dreasons_tos dreasons_rents dreasons_sorts x_14 (by first | with_reducible assumption | omega)) (gV bw_447 bw_237 bw_238 bw_185 bw_7) rfl rfl (by decide +kernel) ⟨by decide, by decide⟩ (ci := 6) (q0 := 0) rfl rfl (fun _ _ _ _ _ => trivial) (fun _ _ _ => trivial) rfl rfl hl.1 (Nat.le_of_ble_eq_true rfl) dX7_prepare_85 ⟨by decide, by decide⟩) hP hS hA (fun r_21 _ H locs hw0 hP hS => ?_)
    have hw : (r_21 = 1 ∧ (0 ≤ x_14.toInt ∧ x_14.toInt < dreasons_count.toInt)) ∨ (r_21 = 0) := hw0
    clear hw0
    rcases hw with ⟨e_23, w_22⟩ | e_24
    · subst e_23
      refine lv_if_eq (tgt := 101) hx hb dX7_prepare_88 (by decide) (fun c9 => absurd c9 (by decide)) (fun _ => ?_)
      refine lv_aload_n hx hb dX7_prepare_91 rfl (lv_at hl 5 rfl) ?_
      refine lv_aload_n hx hb dX7_prepare_92 rfl (lv_at hl 4 rfl) ?_
      refine lv_iload hx hb dX7_prepare_93 (lv_at hl 1 rfl) ?_
      refine k_iR (k_V (n := 2) ⟨hx, hb, hml, hown, hT⟩ hK hP hD [9, 11, 3, 6, 8] rfl (by decide +kernel) (s_X9_isGone l g H.size st sday sseed salive sstruck sopen sduels slines scoins srented smornings shonours sused Fsused ssides slog la dduels dduelSides dduelMornings dhonour ddraw dusesOfKind dmen dformulas dreasons dreasons_count dreasons_names dreasons_kinds dreasons_owners dreasons_froms dreasons_tos dreasons_rents dreasons_sorts Fdreasons_sorts x_14 (by first | with_reducible assumption | omega) (by first | with_reducible assumption | omega) (by first | with_reducible assumption | omega) (by first | with_reducible assumption | omega) (by first | with_reducible assumption | omega) (by first | with_reducible assumption | omega) (by first | with_reducible assumption | omega)) (gV bw_448 bw_190 bw_191 bw_46 bw_181) rfl rfl (by decide +kernel) ⟨by decide, by decide⟩ (ci := 9) (q0 := 0) rfl rfl (fun _ _ _ _ _ => trivial) (fun _ _ _ => trivial) rfl rfl hl.1 (Nat.le_of_ble_eq_true rfl) dX7_prepare_95 ⟨by decide, by decide⟩) hP hS hA (fun r_25 _ H locs hw0 hP hS => ?_)
      have hw : 0 ≤ r_25.toInt ∧ r_25.toInt ≤ 1 := hw0
      clear hw0
      have w_26 := hw
      refine lv_if_eq (tgt := 113) hx hb dX7_prepare_98 (by decide) (fun c_27 => ?_) (fun c_27 => ?_)
      · have f_28 := E_eq (rfl : r_25.toInt = _) (by decide : (0 : Int32).toInt = 0) c_27
        refine lv_iload hx hb dX7_prepare_113 (lv_at hl 0 rfl) ?_
        refine lv_iload hx hb dX7_prepare_115 (lv_at hl 8 rfl) ?_
        refine lv_icmp_ne (tgt := 141) hx hb dX7_prepare_117 (by decide) (fun c_29 => ?_) (fun c_29 => ?_)
        · have f_30 := E_ne (rfl : x_15.toInt = _) (rfl : p2.toInt = _) c_29
          refine lv_aload_n hx hb dX7_prepare_141 rfl (lv_at hl 3 rfl) ?_
          refine va_get (D := g.1) (ci := 7) (v := .ref bfreeFrom) (C := RX7) (T := TX7) (N := 12) hx hb hT inF_X7 hown hK.1 hP 0 rfl rfl 2 (by decide) (hT _ bw_427) (fun _ h9 => h9) rfl dX7_prepare_142 ?_
          refine lv_iload hx hb dX7_prepare_145 (lv_at hl 2 rfl) ?_
          refine lv_aload_n hx hb dX7_prepare_147 rfl (lv_at hl 5 rfl) ?_
          refine lv_aload_n hx hb dX7_prepare_148 rfl (lv_at hl 4 rfl) ?_
          refine lv_iload hx hb dX7_prepare_149 (lv_at hl 0 rfl) ?_
          refine lv_if_ne (tgt := 158) hx hb dX7_prepare_151 (by decide) (fun c_31 => ?_) (fun c_31 => ?_)
          · have f_32 := E_ne (rfl : x_15.toInt = _) (by decide : (0 : Int32).toInt = 0) c_31
            refine lv_iload hx hb dX7_prepare_158 (lv_at hl 7 rfl) ?_
            refine lv_iload hx hb dX7_prepare_160 (lv_at hl 1 rfl) ?_
            refine k_iR (k_V (n := 3) ⟨hx, hb, hml, hown, hT⟩ hK hP hD [9, 10, 3, 4, 5, 6, 7] rfl (by decide +kernel) (s_X9_freeFrom l g H.size st sday sseed salive sstruck sopen sduels slines scoins srented Fsrented smornings shonours sused ssides slog la dduels dduelSides dduelMornings dhonour ddraw dusesOfKind dmen dmen_count dmen_names dmen_dies Fdmen_dies dmen_coins dmen_fathers dformulas dreasons dreasons_count dreasons_names dreasons_kinds dreasons_owners Fdreasons_owners dreasons_froms dreasons_tos dreasons_rents dreasons_sorts p1 x_14 (by first | with_reducible assumption | omega) (by first | with_reducible assumption | omega) (by first | with_reducible assumption | omega) (by first | with_reducible assumption | omega) (by first | with_reducible assumption | omega) (by first | with_reducible assumption | omega) (by first | with_reducible assumption | omega) hh14 (by first | with_reducible assumption | omega) (by first | with_reducible assumption | omega)) (gV bw_449 bw_187 bw_188 bw_46 bw_173) rfl rfl (by decide +kernel) ⟨by decide, by decide⟩ (ci := 9) (q0 := 0) rfl rfl (fun _ _ _ _ _ => trivial) (fun _ _ _ => trivial) rfl rfl hl.1 (Nat.le_of_ble_eq_true rfl) dX7_prepare_162 ⟨by decide, by decide⟩) hP hS hA (fun r_33 _ H locs hw0 hP hS => ?_)
            have h_34 : vp_in L_6 16 := vp_in_iff.mpr (by omega)
            refine va_iast hx hb hK.1 hP hD hS 1 1 rfl rfl (i := L_6) (x := r_33) h_34 dX7_prepare_165 (fun H locs hP hD hS => ?_)
            generalize upd f_8 (L_6 : Int32).toNatClampNeg r_33 = f_35 at hP hD
            have hP : va_P g.1 vwCl [(h, .inr (7, [.ref la, .int x_5, .ref bfreeFrom, .ref bbarring, .ref bkeys, .ref bways, .int bcount, .ref bwins, .ref bslots, .int bround, .ref bworths, .ref bpath])), (bfreeFrom, aI g 16 f_35), (bbarring, aI g 16 f_20), (la, .inr (2, [.ref dmen, .ref dformulas, .ref dreasons, .int dduels, .ref dduelSides, .ref dduelMornings, .int dhonour, .int ddraw, .ref dusesOfKind])), (dmen, .inr (3, [.int dmen_count, .ref dmen_names, .ref dmen_dies, .ref dmen_coins, .ref dmen_fathers])), (dmen_dies, aI g 6 Fdmen_dies), (dreasons, .inr (6, [.int dreasons_count, .ref dreasons_names, .ref dreasons_kinds, .ref dreasons_owners, .ref dreasons_froms, .ref dreasons_tos, .ref dreasons_rents, .ref dreasons_sorts])), (dreasons_owners, aI g 8 Fdreasons_owners), (dreasons_sorts, aI g 8 Fdreasons_sorts), (st, .inr (9, [.int sday, .int sseed, .int salive, .int sstruck, .int sopen, .int sduels, .int slines, .ref scoins, .ref srented, .ref smornings, .ref shonours, .ref sused, .ref ssides, .ref slog])), (srented, aI g 6 Fsrented), (sused, aI g 8 Fsused)] H := hP
            have hD : va_D A [(h, .inr (7, [.ref la, .int x_5, .ref bfreeFrom, .ref bbarring, .ref bkeys, .ref bways, .int bcount, .ref bwins, .ref bslots, .int bround, .ref bworths, .ref bpath])), (bfreeFrom, aI g 16 f_35), (bbarring, aI g 16 f_20), (la, .inr (2, [.ref dmen, .ref dformulas, .ref dreasons, .int dduels, .ref dduelSides, .ref dduelMornings, .int dhonour, .int ddraw, .ref dusesOfKind])), (dmen, .inr (3, [.int dmen_count, .ref dmen_names, .ref dmen_dies, .ref dmen_coins, .ref dmen_fathers])), (dmen_dies, aI g 6 Fdmen_dies), (dreasons, .inr (6, [.int dreasons_count, .ref dreasons_names, .ref dreasons_kinds, .ref dreasons_owners, .ref dreasons_froms, .ref dreasons_tos, .ref dreasons_rents, .ref dreasons_sorts])), (dreasons_owners, aI g 8 Fdreasons_owners), (dreasons_sorts, aI g 8 Fdreasons_sorts), (st, .inr (9, [.int sday, .int sseed, .int salive, .int sstruck, .int sopen, .int sduels, .int slines, .ref scoins, .ref srented, .ref smornings, .ref shonours, .ref sused, .ref ssides, .ref slog])), (srented, aI g 6 Fsrented), (sused, aI g 8 Fsused)] := hD
            obtain ⟨x_36, ex_36⟩ : ∃ y : Int32, y = L_6 + 1 := ⟨_, rfl⟩
            have fx_36 : x_36.toInt = L_6.toInt + 1 := by rw [ex_36]; exact I_add rfl (by decide) (by omega) (by omega)
            refine lv_iinc (v := x_36) (lv' := [(7, .int x_36), (9, .int x_15), (8, .int x_14), (0, .ref h), (1, .ref la), (2, .ref st), (3, .int p0), (4, .int p1), (5, .int p2), (6, .int p3)]) hx hb dX7_prepare_166 hl (k := 2) rfl (by rw [ex_36]; rfl) (by decide) rfl (fun ls hl => ?_)
            refine lv_goto (tgt := 34) hx hb dX7_prepare_169 (by decide) ?_
            exact ih (n - 1) (by omega) H locs ls ⟨x_36, f_20, f_35, (by first | with_reducible assumption | omega), by omega, hP.sub [0, 1, 2, 3, 4, 5, 6, 7, 8, 9, 10, 11] rfl, hD.sub [0, 1, 2, 3, 4, 5, 6, 7, 8, 9, 10, 11] (by decide +kernel) rfl, hS, lv_sub hl [0, 3, 4, 5, 6, 7, 8, 9] rfl⟩
          · have f_37 := E_eq (rfl : x_15.toInt = _) (by decide : (0 : Int32).toInt = 0) c_31
            refine lv_iload_n hx hb dX7_prepare_154 rfl (lv_at hl 6 rfl) ?_
            refine lv_goto (tgt := 160) hx hb dX7_prepare_155 (by decide) ?_
            refine lv_iload hx hb dX7_prepare_160 (lv_at hl 1 rfl) ?_
            refine k_iR (k_V (n := 3) ⟨hx, hb, hml, hown, hT⟩ hK hP hD [9, 10, 3, 4, 5, 6, 7] rfl (by decide +kernel) (s_X9_freeFrom l g H.size st sday sseed salive sstruck sopen sduels slines scoins srented Fsrented smornings shonours sused ssides slog la dduels dduelSides dduelMornings dhonour ddraw dusesOfKind dmen dmen_count dmen_names dmen_dies Fdmen_dies dmen_coins dmen_fathers dformulas dreasons dreasons_count dreasons_names dreasons_kinds dreasons_owners Fdreasons_owners dreasons_froms dreasons_tos dreasons_rents dreasons_sorts p0 x_14 (by first | with_reducible assumption | omega) (by first | with_reducible assumption | omega) (by first | with_reducible assumption | omega) (by first | with_reducible assumption | omega) (by first | with_reducible assumption | omega) (by first | with_reducible assumption | omega) (by first | with_reducible assumption | omega) hh14 (by first | with_reducible assumption | omega) (by first | with_reducible assumption | omega)) (gV bw_449 bw_187 bw_188 bw_46 bw_173) rfl rfl (by decide +kernel) ⟨by decide, by decide⟩ (ci := 9) (q0 := 0) rfl rfl (fun _ _ _ _ _ => trivial) (fun _ _ _ => trivial) rfl rfl hl.1 (Nat.le_of_ble_eq_true rfl) dX7_prepare_162 ⟨by decide, by decide⟩) hP hS hA (fun r_38 _ H locs hw0 hP hS => ?_)
            have h_39 : vp_in L_6 16 := vp_in_iff.mpr (by omega)
            refine va_iast hx hb hK.1 hP hD hS 1 1 rfl rfl (i := L_6) (x := r_38) h_39 dX7_prepare_165 (fun H locs hP hD hS => ?_)
            generalize upd f_8 (L_6 : Int32).toNatClampNeg r_38 = f_40 at hP hD
            have hP : va_P g.1 vwCl [(h, .inr (7, [.ref la, .int x_5, .ref bfreeFrom, .ref bbarring, .ref bkeys, .ref bways, .int bcount, .ref bwins, .ref bslots, .int bround, .ref bworths, .ref bpath])), (bfreeFrom, aI g 16 f_40), (bbarring, aI g 16 f_20), (la, .inr (2, [.ref dmen, .ref dformulas, .ref dreasons, .int dduels, .ref dduelSides, .ref dduelMornings, .int dhonour, .int ddraw, .ref dusesOfKind])), (dmen, .inr (3, [.int dmen_count, .ref dmen_names, .ref dmen_dies, .ref dmen_coins, .ref dmen_fathers])), (dmen_dies, aI g 6 Fdmen_dies), (dreasons, .inr (6, [.int dreasons_count, .ref dreasons_names, .ref dreasons_kinds, .ref dreasons_owners, .ref dreasons_froms, .ref dreasons_tos, .ref dreasons_rents, .ref dreasons_sorts])), (dreasons_owners, aI g 8 Fdreasons_owners), (dreasons_sorts, aI g 8 Fdreasons_sorts), (st, .inr (9, [.int sday, .int sseed, .int salive, .int sstruck, .int sopen, .int sduels, .int slines, .ref scoins, .ref srented, .ref smornings, .ref shonours, .ref sused, .ref ssides, .ref slog])), (srented, aI g 6 Fsrented), (sused, aI g 8 Fsused)] H := hP
            have hD : va_D A [(h, .inr (7, [.ref la, .int x_5, .ref bfreeFrom, .ref bbarring, .ref bkeys, .ref bways, .int bcount, .ref bwins, .ref bslots, .int bround, .ref bworths, .ref bpath])), (bfreeFrom, aI g 16 f_40), (bbarring, aI g 16 f_20), (la, .inr (2, [.ref dmen, .ref dformulas, .ref dreasons, .int dduels, .ref dduelSides, .ref dduelMornings, .int dhonour, .int ddraw, .ref dusesOfKind])), (dmen, .inr (3, [.int dmen_count, .ref dmen_names, .ref dmen_dies, .ref dmen_coins, .ref dmen_fathers])), (dmen_dies, aI g 6 Fdmen_dies), (dreasons, .inr (6, [.int dreasons_count, .ref dreasons_names, .ref dreasons_kinds, .ref dreasons_owners, .ref dreasons_froms, .ref dreasons_tos, .ref dreasons_rents, .ref dreasons_sorts])), (dreasons_owners, aI g 8 Fdreasons_owners), (dreasons_sorts, aI g 8 Fdreasons_sorts), (st, .inr (9, [.int sday, .int sseed, .int salive, .int sstruck, .int sopen, .int sduels, .int slines, .ref scoins, .ref srented, .ref smornings, .ref shonours, .ref sused, .ref ssides, .ref slog])), (srented, aI g 6 Fsrented), (sused, aI g 8 Fsused)] := hD
            obtain ⟨x_41, ex_41⟩ : ∃ y : Int32, y = L_6 + 1 := ⟨_, rfl⟩
            have fx_41 : x_41.toInt = L_6.toInt + 1 := by rw [ex_41]; exact I_add rfl (by decide) (by omega) (by omega)
            refine lv_iinc (v := x_41) (lv' := [(7, .int x_41), (9, .int x_15), (8, .int x_14), (0, .ref h), (1, .ref la), (2, .ref st), (3, .int p0), (4, .int p1), (5, .int p2), (6, .int p3)]) hx hb dX7_prepare_166 hl (k := 2) rfl (by rw [ex_41]; rfl) (by decide) rfl (fun ls hl => ?_)
            refine lv_goto (tgt := 34) hx hb dX7_prepare_169 (by decide) ?_
            exact ih (n - 1) (by omega) H locs ls ⟨x_41, f_20, f_40, (by first | with_reducible assumption | omega), by omega, hP.sub [0, 1, 2, 3, 4, 5, 6, 7, 8, 9, 10, 11] rfl, hD.sub [0, 1, 2, 3, 4, 5, 6, 7, 8, 9, 10, 11] (by decide +kernel) rfl, hS, lv_sub hl [0, 3, 4, 5, 6, 7, 8, 9] rfl⟩
        · have f_42 := E_eq (rfl : x_15.toInt = _) (rfl : p2.toInt = _) c_29
          refine lv_iload hx hb dX7_prepare_120 (lv_at hl 9 rfl) ?_
          refine lv_iload hx hb dX7_prepare_122 (lv_at hl 1 rfl) ?_
          refine lv_ishr hx hb dX7_prepare_124 ?_
          refine lv_topi (fun x_43 ex_43 => ?_)
          refine lv_iconst (v := 1) hx hb dX7_prepare_125 (by decide) ?_
          refine lv_iand hx hb dX7_prepare_126 ?_
          refine lv_topi (fun x_44 ex_44 => ?_)
          have fx_44 : 0 ≤ x_44.toInt ∧ x_44.toInt ≤ 1 := by rw [ex_44]; exact I_and (by decide) (by decide)
          refine lv_if_eq (tgt := 141) hx hb dX7_prepare_127 (by decide) (fun c_45 => ?_) (fun c_45 => ?_)
          · have f_46 := E_eq (rfl : x_44.toInt = _) (by decide : (0 : Int32).toInt = 0) c_45
            refine lv_aload_n hx hb dX7_prepare_141 rfl (lv_at hl 3 rfl) ?_
            refine va_get (D := g.1) (ci := 7) (v := .ref bfreeFrom) (C := RX7) (T := TX7) (N := 12) hx hb hT inF_X7 hown hK.1 hP 0 rfl rfl 2 (by decide) (hT _ bw_427) (fun _ h9 => h9) rfl dX7_prepare_142 ?_
            refine lv_iload hx hb dX7_prepare_145 (lv_at hl 2 rfl) ?_
            refine lv_aload_n hx hb dX7_prepare_147 rfl (lv_at hl 5 rfl) ?_
            refine lv_aload_n hx hb dX7_prepare_148 rfl (lv_at hl 4 rfl) ?_
            refine lv_iload hx hb dX7_prepare_149 (lv_at hl 0 rfl) ?_
            refine lv_if_ne (tgt := 158) hx hb dX7_prepare_151 (by decide) (fun c_47 => ?_) (fun c_47 => ?_)
            · have f_48 := E_ne (rfl : x_15.toInt = _) (by decide : (0 : Int32).toInt = 0) c_47
              refine lv_iload hx hb dX7_prepare_158 (lv_at hl 7 rfl) ?_
              refine lv_iload hx hb dX7_prepare_160 (lv_at hl 1 rfl) ?_
              refine k_iR (k_V (n := 3) ⟨hx, hb, hml, hown, hT⟩ hK hP hD [9, 10, 3, 4, 5, 6, 7] rfl (by decide +kernel) (s_X9_freeFrom l g H.size st sday sseed salive sstruck sopen sduels slines scoins srented Fsrented smornings shonours sused ssides slog la dduels dduelSides dduelMornings dhonour ddraw dusesOfKind dmen dmen_count dmen_names dmen_dies Fdmen_dies dmen_coins dmen_fathers dformulas dreasons dreasons_count dreasons_names dreasons_kinds dreasons_owners Fdreasons_owners dreasons_froms dreasons_tos dreasons_rents dreasons_sorts p1 x_14 (by first | with_reducible assumption | omega) (by first | with_reducible assumption | omega) (by first | with_reducible assumption | omega) (by first | with_reducible assumption | omega) (by first | with_reducible assumption | omega) (by first | with_reducible assumption | omega) (by first | with_reducible assumption | omega) hh14 (by first | with_reducible assumption | omega) (by first | with_reducible assumption | omega)) (gV bw_449 bw_187 bw_188 bw_46 bw_173) rfl rfl (by decide +kernel) ⟨by decide, by decide⟩ (ci := 9) (q0 := 0) rfl rfl (fun _ _ _ _ _ => trivial) (fun _ _ _ => trivial) rfl rfl hl.1 (Nat.le_of_ble_eq_true rfl) dX7_prepare_162 ⟨by decide, by decide⟩) hP hS hA (fun r_49 _ H locs hw0 hP hS => ?_)
              have h_50 : vp_in L_6 16 := vp_in_iff.mpr (by omega)
              refine va_iast hx hb hK.1 hP hD hS 1 1 rfl rfl (i := L_6) (x := r_49) h_50 dX7_prepare_165 (fun H locs hP hD hS => ?_)
              generalize upd f_8 (L_6 : Int32).toNatClampNeg r_49 = f_51 at hP hD
              have hP : va_P g.1 vwCl [(h, .inr (7, [.ref la, .int x_5, .ref bfreeFrom, .ref bbarring, .ref bkeys, .ref bways, .int bcount, .ref bwins, .ref bslots, .int bround, .ref bworths, .ref bpath])), (bfreeFrom, aI g 16 f_51), (bbarring, aI g 16 f_20), (la, .inr (2, [.ref dmen, .ref dformulas, .ref dreasons, .int dduels, .ref dduelSides, .ref dduelMornings, .int dhonour, .int ddraw, .ref dusesOfKind])), (dmen, .inr (3, [.int dmen_count, .ref dmen_names, .ref dmen_dies, .ref dmen_coins, .ref dmen_fathers])), (dmen_dies, aI g 6 Fdmen_dies), (dreasons, .inr (6, [.int dreasons_count, .ref dreasons_names, .ref dreasons_kinds, .ref dreasons_owners, .ref dreasons_froms, .ref dreasons_tos, .ref dreasons_rents, .ref dreasons_sorts])), (dreasons_owners, aI g 8 Fdreasons_owners), (dreasons_sorts, aI g 8 Fdreasons_sorts), (st, .inr (9, [.int sday, .int sseed, .int salive, .int sstruck, .int sopen, .int sduels, .int slines, .ref scoins, .ref srented, .ref smornings, .ref shonours, .ref sused, .ref ssides, .ref slog])), (srented, aI g 6 Fsrented), (sused, aI g 8 Fsused)] H := hP
              have hD : va_D A [(h, .inr (7, [.ref la, .int x_5, .ref bfreeFrom, .ref bbarring, .ref bkeys, .ref bways, .int bcount, .ref bwins, .ref bslots, .int bround, .ref bworths, .ref bpath])), (bfreeFrom, aI g 16 f_51), (bbarring, aI g 16 f_20), (la, .inr (2, [.ref dmen, .ref dformulas, .ref dreasons, .int dduels, .ref dduelSides, .ref dduelMornings, .int dhonour, .int ddraw, .ref dusesOfKind])), (dmen, .inr (3, [.int dmen_count, .ref dmen_names, .ref dmen_dies, .ref dmen_coins, .ref dmen_fathers])), (dmen_dies, aI g 6 Fdmen_dies), (dreasons, .inr (6, [.int dreasons_count, .ref dreasons_names, .ref dreasons_kinds, .ref dreasons_owners, .ref dreasons_froms, .ref dreasons_tos, .ref dreasons_rents, .ref dreasons_sorts])), (dreasons_owners, aI g 8 Fdreasons_owners), (dreasons_sorts, aI g 8 Fdreasons_sorts), (st, .inr (9, [.int sday, .int sseed, .int salive, .int sstruck, .int sopen, .int sduels, .int slines, .ref scoins, .ref srented, .ref smornings, .ref shonours, .ref sused, .ref ssides, .ref slog])), (srented, aI g 6 Fsrented), (sused, aI g 8 Fsused)] := hD
              obtain ⟨x_52, ex_52⟩ : ∃ y : Int32, y = L_6 + 1 := ⟨_, rfl⟩
              have fx_52 : x_52.toInt = L_6.toInt + 1 := by rw [ex_52]; exact I_add rfl (by decide) (by omega) (by omega)
              refine lv_iinc (v := x_52) (lv' := [(7, .int x_52), (9, .int x_15), (8, .int x_14), (0, .ref h), (1, .ref la), (2, .ref st), (3, .int p0), (4, .int p1), (5, .int p2), (6, .int p3)]) hx hb dX7_prepare_166 hl (k := 2) rfl (by rw [ex_52]; rfl) (by decide) rfl (fun ls hl => ?_)
              refine lv_goto (tgt := 34) hx hb dX7_prepare_169 (by decide) ?_
              exact ih (n - 1) (by omega) H locs ls ⟨x_52, f_20, f_51, (by first | with_reducible assumption | omega), by omega, hP.sub [0, 1, 2, 3, 4, 5, 6, 7, 8, 9, 10, 11] rfl, hD.sub [0, 1, 2, 3, 4, 5, 6, 7, 8, 9, 10, 11] (by decide +kernel) rfl, hS, lv_sub hl [0, 3, 4, 5, 6, 7, 8, 9] rfl⟩
            · have f_53 := E_eq (rfl : x_15.toInt = _) (by decide : (0 : Int32).toInt = 0) c_47
              refine lv_iload_n hx hb dX7_prepare_154 rfl (lv_at hl 6 rfl) ?_
              refine lv_goto (tgt := 160) hx hb dX7_prepare_155 (by decide) ?_
              refine lv_iload hx hb dX7_prepare_160 (lv_at hl 1 rfl) ?_
              refine k_iR (k_V (n := 3) ⟨hx, hb, hml, hown, hT⟩ hK hP hD [9, 10, 3, 4, 5, 6, 7] rfl (by decide +kernel) (s_X9_freeFrom l g H.size st sday sseed salive sstruck sopen sduels slines scoins srented Fsrented smornings shonours sused ssides slog la dduels dduelSides dduelMornings dhonour ddraw dusesOfKind dmen dmen_count dmen_names dmen_dies Fdmen_dies dmen_coins dmen_fathers dformulas dreasons dreasons_count dreasons_names dreasons_kinds dreasons_owners Fdreasons_owners dreasons_froms dreasons_tos dreasons_rents dreasons_sorts p0 x_14 (by first | with_reducible assumption | omega) (by first | with_reducible assumption | omega) (by first | with_reducible assumption | omega) (by first | with_reducible assumption | omega) (by first | with_reducible assumption | omega) (by first | with_reducible assumption | omega) (by first | with_reducible assumption | omega) hh14 (by first | with_reducible assumption | omega) (by first | with_reducible assumption | omega)) (gV bw_449 bw_187 bw_188 bw_46 bw_173) rfl rfl (by decide +kernel) ⟨by decide, by decide⟩ (ci := 9) (q0 := 0) rfl rfl (fun _ _ _ _ _ => trivial) (fun _ _ _ => trivial) rfl rfl hl.1 (Nat.le_of_ble_eq_true rfl) dX7_prepare_162 ⟨by decide, by decide⟩) hP hS hA (fun r_54 _ H locs hw0 hP hS => ?_)
              have h_55 : vp_in L_6 16 := vp_in_iff.mpr (by omega)
              refine va_iast hx hb hK.1 hP hD hS 1 1 rfl rfl (i := L_6) (x := r_54) h_55 dX7_prepare_165 (fun H locs hP hD hS => ?_)
              generalize upd f_8 (L_6 : Int32).toNatClampNeg r_54 = f_56 at hP hD
              have hP : va_P g.1 vwCl [(h, .inr (7, [.ref la, .int x_5, .ref bfreeFrom, .ref bbarring, .ref bkeys, .ref bways, .int bcount, .ref bwins, .ref bslots, .int bround, .ref bworths, .ref bpath])), (bfreeFrom, aI g 16 f_56), (bbarring, aI g 16 f_20), (la, .inr (2, [.ref dmen, .ref dformulas, .ref dreasons, .int dduels, .ref dduelSides, .ref dduelMornings, .int dhonour, .int ddraw, .ref dusesOfKind])), (dmen, .inr (3, [.int dmen_count, .ref dmen_names, .ref dmen_dies, .ref dmen_coins, .ref dmen_fathers])), (dmen_dies, aI g 6 Fdmen_dies), (dreasons, .inr (6, [.int dreasons_count, .ref dreasons_names, .ref dreasons_kinds, .ref dreasons_owners, .ref dreasons_froms, .ref dreasons_tos, .ref dreasons_rents, .ref dreasons_sorts])), (dreasons_owners, aI g 8 Fdreasons_owners), (dreasons_sorts, aI g 8 Fdreasons_sorts), (st, .inr (9, [.int sday, .int sseed, .int salive, .int sstruck, .int sopen, .int sduels, .int slines, .ref scoins, .ref srented, .ref smornings, .ref shonours, .ref sused, .ref ssides, .ref slog])), (srented, aI g 6 Fsrented), (sused, aI g 8 Fsused)] H := hP
              have hD : va_D A [(h, .inr (7, [.ref la, .int x_5, .ref bfreeFrom, .ref bbarring, .ref bkeys, .ref bways, .int bcount, .ref bwins, .ref bslots, .int bround, .ref bworths, .ref bpath])), (bfreeFrom, aI g 16 f_56), (bbarring, aI g 16 f_20), (la, .inr (2, [.ref dmen, .ref dformulas, .ref dreasons, .int dduels, .ref dduelSides, .ref dduelMornings, .int dhonour, .int ddraw, .ref dusesOfKind])), (dmen, .inr (3, [.int dmen_count, .ref dmen_names, .ref dmen_dies, .ref dmen_coins, .ref dmen_fathers])), (dmen_dies, aI g 6 Fdmen_dies), (dreasons, .inr (6, [.int dreasons_count, .ref dreasons_names, .ref dreasons_kinds, .ref dreasons_owners, .ref dreasons_froms, .ref dreasons_tos, .ref dreasons_rents, .ref dreasons_sorts])), (dreasons_owners, aI g 8 Fdreasons_owners), (dreasons_sorts, aI g 8 Fdreasons_sorts), (st, .inr (9, [.int sday, .int sseed, .int salive, .int sstruck, .int sopen, .int sduels, .int slines, .ref scoins, .ref srented, .ref smornings, .ref shonours, .ref sused, .ref ssides, .ref slog])), (srented, aI g 6 Fsrented), (sused, aI g 8 Fsused)] := hD
              obtain ⟨x_57, ex_57⟩ : ∃ y : Int32, y = L_6 + 1 := ⟨_, rfl⟩
              have fx_57 : x_57.toInt = L_6.toInt + 1 := by rw [ex_57]; exact I_add rfl (by decide) (by omega) (by omega)
              refine lv_iinc (v := x_57) (lv' := [(7, .int x_57), (9, .int x_15), (8, .int x_14), (0, .ref h), (1, .ref la), (2, .ref st), (3, .int p0), (4, .int p1), (5, .int p2), (6, .int p3)]) hx hb dX7_prepare_166 hl (k := 2) rfl (by rw [ex_57]; rfl) (by decide) rfl (fun ls hl => ?_)
              refine lv_goto (tgt := 34) hx hb dX7_prepare_169 (by decide) ?_
              exact ih (n - 1) (by omega) H locs ls ⟨x_57, f_20, f_56, (by first | with_reducible assumption | omega), by omega, hP.sub [0, 1, 2, 3, 4, 5, 6, 7, 8, 9, 10, 11] rfl, hD.sub [0, 1, 2, 3, 4, 5, 6, 7, 8, 9, 10, 11] (by decide +kernel) rfl, hS, lv_sub hl [0, 3, 4, 5, 6, 7, 8, 9] rfl⟩
          · have f_58 := E_ne (rfl : x_44.toInt = _) (by decide : (0 : Int32).toInt = 0) c_45
            refine lv_aload_n hx hb dX7_prepare_130 rfl (lv_at hl 3 rfl) ?_
            refine va_get (D := g.1) (ci := 7) (v := .ref bfreeFrom) (C := RX7) (T := TX7) (N := 12) hx hb hT inF_X7 hown hK.1 hP 0 rfl rfl 2 (by decide) (hT _ bw_427) (fun _ h9 => h9) rfl dX7_prepare_131 ?_
            refine lv_iload hx hb dX7_prepare_134 (lv_at hl 2 rfl) ?_
            refine lv_iconst (v := 0) hx hb dX7_prepare_136 (by decide) ?_
            have h_59 : vp_in L_6 16 := vp_in_iff.mpr (by omega)
            refine va_iast hx hb hK.1 hP hD hS 1 1 rfl rfl (i := L_6) (x := 0) h_59 dX7_prepare_137 (fun H locs hP hD hS => ?_)
            generalize upd f_8 (L_6 : Int32).toNatClampNeg 0 = f_60 at hP hD
            have hP : va_P g.1 vwCl [(h, .inr (7, [.ref la, .int x_5, .ref bfreeFrom, .ref bbarring, .ref bkeys, .ref bways, .int bcount, .ref bwins, .ref bslots, .int bround, .ref bworths, .ref bpath])), (bfreeFrom, aI g 16 f_60), (bbarring, aI g 16 f_20), (la, .inr (2, [.ref dmen, .ref dformulas, .ref dreasons, .int dduels, .ref dduelSides, .ref dduelMornings, .int dhonour, .int ddraw, .ref dusesOfKind])), (dmen, .inr (3, [.int dmen_count, .ref dmen_names, .ref dmen_dies, .ref dmen_coins, .ref dmen_fathers])), (dmen_dies, aI g 6 Fdmen_dies), (dreasons, .inr (6, [.int dreasons_count, .ref dreasons_names, .ref dreasons_kinds, .ref dreasons_owners, .ref dreasons_froms, .ref dreasons_tos, .ref dreasons_rents, .ref dreasons_sorts])), (dreasons_owners, aI g 8 Fdreasons_owners), (dreasons_sorts, aI g 8 Fdreasons_sorts), (st, .inr (9, [.int sday, .int sseed, .int salive, .int sstruck, .int sopen, .int sduels, .int slines, .ref scoins, .ref srented, .ref smornings, .ref shonours, .ref sused, .ref ssides, .ref slog])), (srented, aI g 6 Fsrented), (sused, aI g 8 Fsused)] H := hP
            have hD : va_D A [(h, .inr (7, [.ref la, .int x_5, .ref bfreeFrom, .ref bbarring, .ref bkeys, .ref bways, .int bcount, .ref bwins, .ref bslots, .int bround, .ref bworths, .ref bpath])), (bfreeFrom, aI g 16 f_60), (bbarring, aI g 16 f_20), (la, .inr (2, [.ref dmen, .ref dformulas, .ref dreasons, .int dduels, .ref dduelSides, .ref dduelMornings, .int dhonour, .int ddraw, .ref dusesOfKind])), (dmen, .inr (3, [.int dmen_count, .ref dmen_names, .ref dmen_dies, .ref dmen_coins, .ref dmen_fathers])), (dmen_dies, aI g 6 Fdmen_dies), (dreasons, .inr (6, [.int dreasons_count, .ref dreasons_names, .ref dreasons_kinds, .ref dreasons_owners, .ref dreasons_froms, .ref dreasons_tos, .ref dreasons_rents, .ref dreasons_sorts])), (dreasons_owners, aI g 8 Fdreasons_owners), (dreasons_sorts, aI g 8 Fdreasons_sorts), (st, .inr (9, [.int sday, .int sseed, .int salive, .int sstruck, .int sopen, .int sduels, .int slines, .ref scoins, .ref srented, .ref smornings, .ref shonours, .ref sused, .ref ssides, .ref slog])), (srented, aI g 6 Fsrented), (sused, aI g 8 Fsused)] := hD
            refine lv_goto (tgt := 166) hx hb dX7_prepare_138 (by decide) ?_
            obtain ⟨x_61, ex_61⟩ : ∃ y : Int32, y = L_6 + 1 := ⟨_, rfl⟩
            have fx_61 : x_61.toInt = L_6.toInt + 1 := by rw [ex_61]; exact I_add rfl (by decide) (by omega) (by omega)
            refine lv_iinc (v := x_61) (lv' := [(7, .int x_61), (9, .int x_15), (8, .int x_14), (0, .ref h), (1, .ref la), (2, .ref st), (3, .int p0), (4, .int p1), (5, .int p2), (6, .int p3)]) hx hb dX7_prepare_166 hl (k := 2) rfl (by rw [ex_61]; rfl) (by decide) rfl (fun ls hl => ?_)
            refine lv_goto (tgt := 34) hx hb dX7_prepare_169 (by decide) ?_
            exact ih (n - 1) (by omega) H locs ls ⟨x_61, f_20, f_60, (by first | with_reducible assumption | omega), by omega, hP.sub [0, 1, 2, 3, 4, 5, 6, 7, 8, 9, 10, 11] rfl, hD.sub [0, 1, 2, 3, 4, 5, 6, 7, 8, 9, 10, 11] (by decide +kernel) rfl, hS, lv_sub hl [0, 3, 4, 5, 6, 7, 8, 9] rfl⟩
      · have f_62 := E_ne (rfl : r_25.toInt = _) (by decide : (0 : Int32).toInt = 0) c_27
        refine lv_aload_n hx hb dX7_prepare_101 rfl (lv_at hl 3 rfl) ?_
        refine va_get (D := g.1) (ci := 7) (v := .ref bfreeFrom) (C := RX7) (T := TX7) (N := 12) hx hb hT inF_X7 hown hK.1 hP 0 rfl rfl 2 (by decide) (hT _ bw_427) (fun _ h9 => h9) rfl dX7_prepare_102 ?_
        refine lv_iload hx hb dX7_prepare_105 (lv_at hl 2 rfl) ?_
        refine lv_ldc (v := 1000000) hx hb hown (hT _ bw_450) dX7_prepare_107 ?_
        have h_63 : vp_in L_6 16 := vp_in_iff.mpr (by omega)
        refine va_iast hx hb hK.1 hP hD hS 1 1 rfl rfl (i := L_6) (x := 1000000) h_63 dX7_prepare_109 (fun H locs hP hD hS => ?_)
        generalize upd f_8 (L_6 : Int32).toNatClampNeg 1000000 = f_64 at hP hD
        have hP : va_P g.1 vwCl [(h, .inr (7, [.ref la, .int x_5, .ref bfreeFrom, .ref bbarring, .ref bkeys, .ref bways, .int bcount, .ref bwins, .ref bslots, .int bround, .ref bworths, .ref bpath])), (bfreeFrom, aI g 16 f_64), (bbarring, aI g 16 f_20), (la, .inr (2, [.ref dmen, .ref dformulas, .ref dreasons, .int dduels, .ref dduelSides, .ref dduelMornings, .int dhonour, .int ddraw, .ref dusesOfKind])), (dmen, .inr (3, [.int dmen_count, .ref dmen_names, .ref dmen_dies, .ref dmen_coins, .ref dmen_fathers])), (dmen_dies, aI g 6 Fdmen_dies), (dreasons, .inr (6, [.int dreasons_count, .ref dreasons_names, .ref dreasons_kinds, .ref dreasons_owners, .ref dreasons_froms, .ref dreasons_tos, .ref dreasons_rents, .ref dreasons_sorts])), (dreasons_owners, aI g 8 Fdreasons_owners), (dreasons_sorts, aI g 8 Fdreasons_sorts), (st, .inr (9, [.int sday, .int sseed, .int salive, .int sstruck, .int sopen, .int sduels, .int slines, .ref scoins, .ref srented, .ref smornings, .ref shonours, .ref sused, .ref ssides, .ref slog])), (srented, aI g 6 Fsrented), (sused, aI g 8 Fsused)] H := hP
        have hD : va_D A [(h, .inr (7, [.ref la, .int x_5, .ref bfreeFrom, .ref bbarring, .ref bkeys, .ref bways, .int bcount, .ref bwins, .ref bslots, .int bround, .ref bworths, .ref bpath])), (bfreeFrom, aI g 16 f_64), (bbarring, aI g 16 f_20), (la, .inr (2, [.ref dmen, .ref dformulas, .ref dreasons, .int dduels, .ref dduelSides, .ref dduelMornings, .int dhonour, .int ddraw, .ref dusesOfKind])), (dmen, .inr (3, [.int dmen_count, .ref dmen_names, .ref dmen_dies, .ref dmen_coins, .ref dmen_fathers])), (dmen_dies, aI g 6 Fdmen_dies), (dreasons, .inr (6, [.int dreasons_count, .ref dreasons_names, .ref dreasons_kinds, .ref dreasons_owners, .ref dreasons_froms, .ref dreasons_tos, .ref dreasons_rents, .ref dreasons_sorts])), (dreasons_owners, aI g 8 Fdreasons_owners), (dreasons_sorts, aI g 8 Fdreasons_sorts), (st, .inr (9, [.int sday, .int sseed, .int salive, .int sstruck, .int sopen, .int sduels, .int slines, .ref scoins, .ref srented, .ref smornings, .ref shonours, .ref sused, .ref ssides, .ref slog])), (srented, aI g 6 Fsrented), (sused, aI g 8 Fsused)] := hD
        refine lv_goto (tgt := 166) hx hb dX7_prepare_110 (by decide) ?_
        obtain ⟨x_65, ex_65⟩ : ∃ y : Int32, y = L_6 + 1 := ⟨_, rfl⟩
        have fx_65 : x_65.toInt = L_6.toInt + 1 := by rw [ex_65]; exact I_add rfl (by decide) (by omega) (by omega)
        refine lv_iinc (v := x_65) (lv' := [(7, .int x_65), (9, .int x_15), (8, .int x_14), (0, .ref h), (1, .ref la), (2, .ref st), (3, .int p0), (4, .int p1), (5, .int p2), (6, .int p3)]) hx hb dX7_prepare_166 hl (k := 2) rfl (by rw [ex_65]; rfl) (by decide) rfl (fun ls hl => ?_)
        refine lv_goto (tgt := 34) hx hb dX7_prepare_169 (by decide) ?_
        exact ih (n - 1) (by omega) H locs ls ⟨x_65, f_20, f_64, (by first | with_reducible assumption | omega), by omega, hP.sub [0, 1, 2, 3, 4, 5, 6, 7, 8, 9, 10, 11] rfl, hD.sub [0, 1, 2, 3, 4, 5, 6, 7, 8, 9, 10, 11] (by decide +kernel) rfl, hS, lv_sub hl [0, 3, 4, 5, 6, 7, 8, 9] rfl⟩
    · subst e_24
      refine lv_if_eq (tgt := 101) hx hb dX7_prepare_88 (by decide) (fun _ => ?_) (fun c9 => absurd (by decide) c9)
      refine lv_aload_n hx hb dX7_prepare_101 rfl (lv_at hl 3 rfl) ?_
      refine va_get (D := g.1) (ci := 7) (v := .ref bfreeFrom) (C := RX7) (T := TX7) (N := 12) hx hb hT inF_X7 hown hK.1 hP 0 rfl rfl 2 (by decide) (hT _ bw_427) (fun _ h9 => h9) rfl dX7_prepare_102 ?_
      refine lv_iload hx hb dX7_prepare_105 (lv_at hl 2 rfl) ?_
      refine lv_ldc (v := 1000000) hx hb hown (hT _ bw_450) dX7_prepare_107 ?_
      have h_66 : vp_in L_6 16 := vp_in_iff.mpr (by omega)
      refine va_iast hx hb hK.1 hP hD hS 1 1 rfl rfl (i := L_6) (x := 1000000) h_66 dX7_prepare_109 (fun H locs hP hD hS => ?_)
      generalize upd f_8 (L_6 : Int32).toNatClampNeg 1000000 = f_67 at hP hD
      have hP : va_P g.1 vwCl [(h, .inr (7, [.ref la, .int x_5, .ref bfreeFrom, .ref bbarring, .ref bkeys, .ref bways, .int bcount, .ref bwins, .ref bslots, .int bround, .ref bworths, .ref bpath])), (bfreeFrom, aI g 16 f_67), (bbarring, aI g 16 f_20), (la, .inr (2, [.ref dmen, .ref dformulas, .ref dreasons, .int dduels, .ref dduelSides, .ref dduelMornings, .int dhonour, .int ddraw, .ref dusesOfKind])), (dmen, .inr (3, [.int dmen_count, .ref dmen_names, .ref dmen_dies, .ref dmen_coins, .ref dmen_fathers])), (dmen_dies, aI g 6 Fdmen_dies), (dreasons, .inr (6, [.int dreasons_count, .ref dreasons_names, .ref dreasons_kinds, .ref dreasons_owners, .ref dreasons_froms, .ref dreasons_tos, .ref dreasons_rents, .ref dreasons_sorts])), (dreasons_owners, aI g 8 Fdreasons_owners), (dreasons_sorts, aI g 8 Fdreasons_sorts), (st, .inr (9, [.int sday, .int sseed, .int salive, .int sstruck, .int sopen, .int sduels, .int slines, .ref scoins, .ref srented, .ref smornings, .ref shonours, .ref sused, .ref ssides, .ref slog])), (srented, aI g 6 Fsrented), (sused, aI g 8 Fsused)] H := hP
      have hD : va_D A [(h, .inr (7, [.ref la, .int x_5, .ref bfreeFrom, .ref bbarring, .ref bkeys, .ref bways, .int bcount, .ref bwins, .ref bslots, .int bround, .ref bworths, .ref bpath])), (bfreeFrom, aI g 16 f_67), (bbarring, aI g 16 f_20), (la, .inr (2, [.ref dmen, .ref dformulas, .ref dreasons, .int dduels, .ref dduelSides, .ref dduelMornings, .int dhonour, .int ddraw, .ref dusesOfKind])), (dmen, .inr (3, [.int dmen_count, .ref dmen_names, .ref dmen_dies, .ref dmen_coins, .ref dmen_fathers])), (dmen_dies, aI g 6 Fdmen_dies), (dreasons, .inr (6, [.int dreasons_count, .ref dreasons_names, .ref dreasons_kinds, .ref dreasons_owners, .ref dreasons_froms, .ref dreasons_tos, .ref dreasons_rents, .ref dreasons_sorts])), (dreasons_owners, aI g 8 Fdreasons_owners), (dreasons_sorts, aI g 8 Fdreasons_sorts), (st, .inr (9, [.int sday, .int sseed, .int salive, .int sstruck, .int sopen, .int sduels, .int slines, .ref scoins, .ref srented, .ref smornings, .ref shonours, .ref sused, .ref ssides, .ref slog])), (srented, aI g 6 Fsrented), (sused, aI g 8 Fsused)] := hD
      refine lv_goto (tgt := 166) hx hb dX7_prepare_110 (by decide) ?_
      obtain ⟨x_68, ex_68⟩ : ∃ y : Int32, y = L_6 + 1 := ⟨_, rfl⟩
      have fx_68 : x_68.toInt = L_6.toInt + 1 := by rw [ex_68]; exact I_add rfl (by decide) (by omega) (by omega)
      refine lv_iinc (v := x_68) (lv' := [(7, .int x_68), (9, .int x_15), (8, .int x_14), (0, .ref h), (1, .ref la), (2, .ref st), (3, .int p0), (4, .int p1), (5, .int p2), (6, .int p3)]) hx hb dX7_prepare_166 hl (k := 2) rfl (by rw [ex_68]; rfl) (by decide) rfl (fun ls hl => ?_)
      refine lv_goto (tgt := 34) hx hb dX7_prepare_169 (by decide) ?_
      exact ih (n - 1) (by omega) H locs ls ⟨x_68, f_20, f_67, (by first | with_reducible assumption | omega), by omega, hP.sub [0, 1, 2, 3, 4, 5, 6, 7, 8, 9, 10, 11] rfl, hD.sub [0, 1, 2, 3, 4, 5, 6, 7, 8, 9, 10, 11] (by decide +kernel) rfl, hS, lv_sub hl [0, 3, 4, 5, 6, 7, 8, 9] rfl⟩
