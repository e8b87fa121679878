theorem bw_452 : Cond.constant RX7 171 (-1640531535) ∈ gT := gT_tb 1086 (by decide +kernel) (by decide +kernel)
theorem bw_453 : Cond.methodLink RX7 159 yX7_isTaken ∈ gT := gT_tb 1087 (by decide +kernel) (by decide +kernel)
theorem bw_454 : Cond.instanceMethod yX7_isTaken ∈ gT := gT_tb 1089 (by decide +kernel) (by decide +kernel)
theorem bw_455 : Cond.selects RX7 yX7_isTaken yX7_isTaken ∈ gT := gT_sl 36 (by decide +kernel) (by decide +kernel)
theorem bw_456 : Cond.code yX7_slotOf cX7_slotOf 4 (some .int) ∈ gT := gT_tb 1085 (by decide +kernel) (by decide +kernel)
theorem dX7_slotOf_0 : decode cX7_slotOf 0 = .ok (.iload_n 1, 1) := by decide +kernel
theorem dX7_slotOf_1 : decode cX7_slotOf 1 = .ok (.ldc 171, 2) := by decide +kernel
theorem dX7_slotOf_3 : decode cX7_slotOf 3 = .ok (.imul, 1) := by decide +kernel
theorem dX7_slotOf_4 : decode cX7_slotOf 4 = .ok (.bipush 19, 2) := by decide +kernel
theorem dX7_slotOf_6 : decode cX7_slotOf 6 = .ok (.iushr, 1) := by decide +kernel
theorem dX7_slotOf_7 : decode cX7_slotOf 7 = .ok (.istore_n 2, 1) := by decide +kernel
theorem dX7_slotOf_8 : decode cX7_slotOf 8 = .ok (.iconst 0, 1) := by decide +kernel
theorem dX7_slotOf_9 : decode cX7_slotOf 9 = .ok (.istore_n 3, 1) := by decide +kernel
theorem dX7_slotOf_10 : decode cX7_slotOf 10 = .ok (.iload_n 3, 1) := by decide +kernel
theorem dX7_slotOf_11 : decode cX7_slotOf 11 = .ok (.sipush 8192, 3) := by decide +kernel
theorem dX7_slotOf_14 : decode cX7_slotOf 14 = .ok (.if_icmp .ge 44, 3) := by decide +kernel
theorem dX7_slotOf_17 : decode cX7_slotOf 17 = .ok (.aload_n 0, 1) := by decide +kernel
theorem dX7_slotOf_18 : decode cX7_slotOf 18 = .ok (.iload_n 2, 1) := by decide +kernel
theorem dX7_slotOf_19 : decode cX7_slotOf 19 = .ok (.invokevirtual 159, 3) := by decide +kernel
theorem dX7_slotOf_22 : decode cX7_slotOf 22 = .ok (.ifCond .eq 36, 3) := by decide +kernel
theorem dX7_slotOf_25 : decode cX7_slotOf 25 = .ok (.aload_n 0, 1) := by decide +kernel
theorem dX7_slotOf_26 : decode cX7_slotOf 26 = .ok (.getfield 18, 3) := by decide +kernel
theorem dX7_slotOf_29 : decode cX7_slotOf 29 = .ok (.aload_n 0, 1) := by decide +kernel
theorem dX7_slotOf_30 : decode cX7_slotOf 30 = .ok (.getfield 28, 3) := by decide +kernel
theorem dX7_slotOf_33 : decode cX7_slotOf 33 = .ok (.iload_n 2, 1) := by decide +kernel
theorem dX7_slotOf_34 : decode cX7_slotOf 34 = .ok (.iaload, 1) := by decide +kernel
theorem dX7_slotOf_35 : decode cX7_slotOf 35 = .ok (.sipush 4095, 3) := by decide +kernel
theorem dX7_slotOf_38 : decode cX7_slotOf 38 = .ok (.iand, 1) := by decide +kernel
theorem dX7_slotOf_39 : decode cX7_slotOf 39 = .ok (.iaload, 1) := by decide +kernel
theorem dX7_slotOf_40 : decode cX7_slotOf 40 = .ok (.iload_n 1, 1) := by decide +kernel
theorem dX7_slotOf_41 : decode cX7_slotOf 41 = .ok (.if_icmp .eq 17, 3) := by decide +kernel
theorem dX7_slotOf_44 : decode cX7_slotOf 44 = .ok (.iload_n 2, 1) := by decide +kernel
theorem dX7_slotOf_45 : decode cX7_slotOf 45 = .ok (.iconst 1, 1) := by decide +kernel
theorem dX7_slotOf_46 : decode cX7_slotOf 46 = .ok (.iadd, 1) := by decide +kernel
theorem dX7_slotOf_47 : decode cX7_slotOf 47 = .ok (.sipush 8192, 3) := by decide +kernel
theorem dX7_slotOf_50 : decode cX7_slotOf 50 = .ok (.irem, 1) := by decide +kernel
theorem dX7_slotOf_51 : decode cX7_slotOf 51 = .ok (.istore_n 2, 1) := by decide +kernel
theorem dX7_slotOf_52 : decode cX7_slotOf 52 = .ok (.iinc 3 1, 3) := by decide +kernel
theorem dX7_slotOf_55 : decode cX7_slotOf 55 = .ok (.goto (-45), 3) := by decide +kernel
theorem dX7_slotOf_58 : decode cX7_slotOf 58 = .ok (.iload_n 2, 1) := by decide +kernel
theorem dX7_slotOf_59 : decode cX7_slotOf 59 = .ok (.ireturn, 1) := by decide +kernel
set_option maxHeartbeats 4000000 in
set_option maxRecDepth 100000 in
theorem s_X7_slotOf (l : Launch) (g : GG) (sz : Nat) (h : Nat) (bland : Nat) (bdeathDay : Int32) (bfreeFrom : Nat) (bbarring : Nat) (bkeys : Nat) (Fbkeys : Nat → Int32) (bways : Nat) (bcount : Int32) (bwins : Nat) (bslots : Nat) (Fbslots : Nat → Int32) (bround : Int32) (bworths : Nat) (bpath : Nat) (p0 : Int32) (hh1 : 0 ≤ bcount.toInt ∧ bcount.toInt ≤ 3000) (hh2 : Sl Fbslots) (hh3 : 0 ≤ bround.toInt ∧ bround.toInt ≤ 1048575) : Met l yX7_slotOf (.code yX7_slotOf cX7_slotOf 4 (some .int) :: gT) ({ frames := 1, cells := 0, slots := 0, locals := 21 }) (va_Pc [.ref h, .int p0] (Pst g sz [(h, .inr (7, [.ref bland, .int bdeathDay, .ref bfreeFrom, .ref bbarring, .ref bkeys, .ref bways, .int bcount, .ref bwins, .ref bslots, .int bround, .ref bworths, .ref bpath])), (bkeys, aI g 3000 Fbkeys), (bslots, aI g 8192 Fbslots)] nX)) (va_Qi (fun (r : Int32) => fun (_ : Unit) => 0 ≤ r.toInt ∧ r.toInt ≤ 8191) (Qst g [] sz (fun _ => [])) (va_A [] sz)) 0 0 (va_A [] sz) := by
  refine Met.ofW (cc := cX7_slotOf) (maxL := 4) (ret := (some .int)) (by decide) rfl ?_
  intro p e s m args below meth c s₁ B hml hv
  obtain ⟨rfl, hsz, hP, hK, hD0, hX⟩ := hv
  have hx := B.exec
  have hb := B.bytes
  have hr := B.returns
  have hT : ∀ w ∈ gT, w.before _ s = true := fun w h => atoms_spec (ws := .code yX7_slotOf cX7_slotOf 4 (some .int) :: gT) B.pre w (List.mem_cons_of_mem _ h)
  have hown : s.vm.findClass RX7 = some m.cls := findClass_of_methodNamed B.named
  have hlocks := B.notSynchronized
  subst hsz
  have hD := hD0
  generalize hAe : va_A [] s.heap.size = A at ⊢
  have hA : ∀ q : Nat, s.heap.size ≤ q → A q := fun q h => by rw [← hAe]; exact Or.inr h
  have hS : va_S A s.heap s.heap [] := va_S.rf
  have hl := lv_entry ([.ref h, .int p0]) (n := 4) (Nat.le_of_ble_eq_true rfl)
  rw [lg_entry_eq]
  generalize (lg_sl ([.ref h, .int p0]) ++ List.replicate (4 - (lg_sl ([.ref h, .int p0])).length) Slot.unset).toArray = ls at hl ⊢
  have hl : lv_has ls 4 [(0, .ref h), (1, .int p0)] := hl
  refine p_nH (fun H hH => ?_)
  have hP : va_P g.1 vwCl [(h, .inr (7, [.ref bland, .int bdeathDay, .ref bfreeFrom, .ref bbarring, .ref bkeys, .ref bways, .int bcount, .ref bwins, .ref bslots, .int bround, .ref bworths, .ref bpath])), (bkeys, aI g 3000 Fbkeys), (bslots, aI g 8192 Fbslots)] H := by rw [hH]; exact hP
  have hS : va_S A s.heap H [] := by rw [hH]; exact hS
  refine lv_iload_n hx hb dX7_slotOf_0 rfl (lv_at hl 1 rfl) ?_
  refine lv_ldc (v := (-1640531535)) hx hb hown (hT _ bw_452) dX7_slotOf_1 ?_
  refine lv_imul hx hb dX7_slotOf_3 ?_
  refine lv_topi (fun x_1 ex_1 => ?_)
  refine lv_bipush (v := 19) hx hb dX7_slotOf_4 (by decide) ?_
  obtain ⟨x_2, ex_2⟩ : ∃ v : Int32, ((x_1 : Int32).toUInt32 >>> ((19 : Int32).toUInt32 &&& Int32.toUInt32 31)).toInt32 = v := ⟨_, rfl⟩
  have fx_2 : 0 ≤ x_2.toInt ∧ x_2.toInt < 8192 := I_ushr 19 (by decide) (by decide) (by decide) ex_2
  refine lv_iushr (v := x_2) hx hb dX7_slotOf_6 ex_2 ?_
  refine lv_istore_n (lv' := [(2, .int x_2), (0, .ref h), (1, .int p0)]) hx hb dX7_slotOf_7 rfl hl (by decide) rfl (fun ls hl => ?_)
  refine lv_iconst (v := 0) hx hb dX7_slotOf_8 (by decide) ?_
  refine lv_istore_n (lv' := [(3, .int 0), (2, .int x_2), (0, .ref h), (1, .int p0)]) hx hb dX7_slotOf_9 rfl hl (by decide) rfl (fun ls hl => ?_)
  refine k_floop 10 (fun n H locs ls => ∃ (L_3 : Int32) (L_4 : Int32), (0 ≤ L_3.toInt ∧ L_3.toInt ≤ 8192) ∧ (0 ≤ L_4.toInt ∧ L_4.toInt ≤ 8191) ∧ 8192 - L_3.toInt ≤ (n : Int) ∧ va_P g.1 vwCl [(h, .inr (7, [.ref bland, .int bdeathDay, .ref bfreeFrom, .ref bbarring, .ref bkeys, .ref bways, .int bcount, .ref bwins, .ref bslots, .int bround, .ref bworths, .ref bpath])), (bkeys, aI g 3000 Fbkeys), (bslots, aI g 8192 Fbslots)] H ∧ va_S A s.heap H locs ∧ lv_has ls 4 [(3, .int L_3), (2, .int L_4), (0, .ref h), (1, .int p0)]) (fun n H locs ls hI ih => ?_) ((8192 - 0 : Int)).toNat ⟨0, x_2, by decide, (by first | with_reducible assumption | omega), by have k0 : (0 : Int32).toInt = 0 := (by decide); omega, hP, hS, hl⟩
  refine hI.elim (fun L_3 hI => hI.elim (fun L_4 hI => ?_))
  have g_5 := hI.1
  have g_6 := hI.2.1
  have hm_7 := hI.2.2.1
  have hP := hI.2.2.2.1
  have hS := hI.2.2.2.2.1
  have hl := hI.2.2.2.2.2
  clear hI
  refine lv_iload_n hx hb dX7_slotOf_10 rfl (lv_at hl 0 rfl) ?_
  refine lv_sipush (v := 8192) hx hb dX7_slotOf_11 (by decide) ?_
  refine lv_icmp_ge (tgt := 58) hx hb dX7_slotOf_14 (by decide) (fun c_8 => ?_) (fun c_8 => ?_)
  · have f_9 := E_le (by decide : (8192 : Int32).toInt = 8192) (rfl : L_3.toInt = _) c_8
    refine lv_iload_n hx hb dX7_slotOf_58 rfl (lv_at hl 1 rfl) ?_
    have hP9 : va_P g.1 vwCl [] H := hP.sub [] rfl
    have hD9 : va_D A [] := ⟨fun i j p q h => by simp at h, fun k q h => by simp at h⟩
    exact W.iret (v := L_4) hx hb hr (fun t ht hW => ⟨⟨L_4, (), rfl, (by first | with_reducible assumption | omega), by rw [ht]; exact hP9, by rw [hAe]; exact hD9⟩, hS.F ht⟩) hS.2.2 dX7_slotOf_59
  · have f_10 := E_nle (by decide : (8192 : Int32).toInt = 8192) (rfl : L_3.toInt = _) c_8
    refine lv_aload_n hx hb dX7_slotOf_17 rfl (lv_at hl 2 rfl) ?_
    refine lv_iload_n hx hb dX7_slotOf_18 rfl (lv_at hl 1 rfl) ?_
    refine k_iR (k_V (n := 1) ⟨hx, hb, hml, hown, hT⟩ hK hP hD [0, 2] rfl (by decide +kernel) (s_X7_isTaken l g H.size h bland bdeathDay bfreeFrom bbarring bkeys bways bcount bwins bslots Fbslots bround bworths bpath L_4 (by first | with_reducible assumption | omega) (by first | with_reducible assumption | omega) (by first | with_reducible assumption | omega)) (gV bw_453 bw_454 bw_455 bw_426 bw_422) rfl rfl (by decide +kernel) ⟨by decide, by decide⟩ (ci := 7) (q0 := 0) rfl rfl (fun _ _ _ _ _ => trivial) (fun _ _ _ => trivial) rfl rfl hl.1 (Nat.le_of_ble_eq_true rfl) dX7_slotOf_19 ⟨by decide, by decide⟩) hP hS hA (fun r_11 _ H locs hw0 hP hS => ?_)
    have hw : 0 ≤ r_11.toInt ∧ r_11.toInt ≤ 1 := hw0
    clear hw0
    have w_12 := hw
    refine lv_if_eq (tgt := 58) hx hb dX7_slotOf_22 (by decide) (fun c_13 => ?_) (fun c_13 => ?_)
    · have f_14 := E_eq (rfl : r_11.toInt = _) (by decide : (0 : Int32).toInt = 0) c_13
      refine lv_iload_n hx hb dX7_slotOf_58 rfl (lv_at hl 1 rfl) ?_
      have hP9 : va_P g.1 vwCl [] H := hP.sub [] rfl
      have hD9 : va_D A [] := ⟨fun i j p q h => by simp at h, fun k q h => by simp at h⟩
      exact W.iret (v := L_4) hx hb hr (fun t ht hW => ⟨⟨L_4, (), rfl, (by first | with_reducible assumption | omega), by rw [ht]; exact hP9, by rw [hAe]; exact hD9⟩, hS.F ht⟩) hS.2.2 dX7_slotOf_59
    · have f_15 := E_ne (rfl : r_11.toInt = _) (by decide : (0 : Int32).toInt = 0) c_13
      refine lv_aload_n hx hb dX7_slotOf_25 rfl (lv_at hl 2 rfl) ?_
      refine va_get (D := g.1) (ci := 7) (v := .ref bkeys) (C := RX7) (T := TX7) (N := 12) hx hb hT inF_X7 hown hK.1 hP 0 rfl rfl 4 (by decide) (hT _ bw_417) (fun _ h9 => h9) rfl dX7_slotOf_26 ?_
      refine lv_aload_n hx hb dX7_slotOf_29 rfl (lv_at hl 2 rfl) ?_
      refine va_get (D := g.1) (ci := 7) (v := .ref bslots) (C := RX7) (T := TX7) (N := 12) hx hb hT inF_X7 hown hK.1 hP 0 rfl rfl 8 (by decide) (hT _ bw_420) (fun _ h9 => h9) rfl dX7_slotOf_30 ?_
      refine lv_iload_n hx hb dX7_slotOf_33 rfl (lv_at hl 1 rfl) ?_
      have h_16 : vp_in L_4 8192 := vp_in_iff.mpr (by omega)
      refine va_iald hx hb hK.1 hP 2 1 rfl rfl (i := L_4) h_16 dX7_slotOf_34 ?_
      refine lv_topi (fun x_17 ex_17 => ?_)
      have ux_17 := congrArg Int32.toInt ex_17
      have px_17 := Sl.rd hh2 h_16 ex_17
      refine lv_sipush (v := 4095) hx hb dX7_slotOf_35 (by decide) ?_
      refine lv_iand hx hb dX7_slotOf_38 ?_
      refine lv_topi (fun x_18 ex_18 => ?_)
      have fx_18 : 0 ≤ x_18.toInt ∧ x_18.toInt ≤ 4095 := by rw [ex_18]; exact I_and (by decide) (by decide)
      have ux_18 := congrArg Int32.toInt ex_18
      have h_19 : vp_in x_18 3000 := vp_in_iff.mpr (by omega)
      refine va_iald hx hb hK.1 hP 1 1 rfl rfl (i := x_18) h_19 dX7_slotOf_39 ?_
      refine lv_topi (fun x_20 ex_20 => ?_)
      have ux_20 := congrArg Int32.toInt ex_20
      refine lv_iload_n hx hb dX7_slotOf_40 rfl (lv_at hl 3 rfl) ?_
      refine lv_icmp_eq (tgt := 58) hx hb dX7_slotOf_41 (by decide) (fun c_21 => ?_) (fun c_21 => ?_)
      · have f_22 := E_eq (rfl : x_20.toInt = _) (rfl : p0.toInt = _) c_21
        refine lv_iload_n hx hb dX7_slotOf_58 rfl (lv_at hl 1 rfl) ?_
        have hP9 : va_P g.1 vwCl [] H := hP.sub [] rfl
        have hD9 : va_D A [] := ⟨fun i j p q h => by simp at h, fun k q h => by simp at h⟩
        exact W.iret (v := L_4) hx hb hr (fun t ht hW => ⟨⟨L_4, (), rfl, (by first | with_reducible assumption | omega), by rw [ht]; exact hP9, by rw [hAe]; exact hD9⟩, hS.F ht⟩) hS.2.2 dX7_slotOf_59
      · have f_23 := E_ne (rfl : x_20.toInt = _) (rfl : p0.toInt = _) c_21
        refine lv_iload_n hx hb dX7_slotOf_44 rfl (lv_at hl 1 rfl) ?_
        refine lv_iconst (v := 1) hx hb dX7_slotOf_45 (by decide) ?_
        refine lv_iadd hx hb dX7_slotOf_46 ?_
        refine lv_topi (fun x_24 ex_24 => ?_)
        have fx_24 : x_24.toInt = L_4.toInt + 1 := by rw [ex_24]; exact I_add rfl (by decide : (1 : Int32).toInt = 1) (by omega) (by omega)
        refine lv_sipush (v := 8192) hx hb dX7_slotOf_47 (by decide) ?_
        refine lv_irem hx hb dX7_slotOf_50 (by decide) ?_
        refine lv_topi (fun x_25 ex_25 => ?_)
        have fx_25 : x_25.toInt = x_24.toInt % 8192 := by rw [ex_25]; exact I_rem rfl (by decide : (8192 : Int32).toInt = 8192) (by omega) (by decide)
        refine lv_istore_n (lv' := [(2, .int x_25), (3, .int L_3), (0, .ref h), (1, .int p0)]) hx hb dX7_slotOf_51 rfl hl (by decide) rfl (fun ls hl => ?_)
        obtain ⟨x_26, ex_26⟩ : ∃ y : Int32, y = L_3 + 1 := ⟨_, rfl⟩
        have fx_26 : x_26.toInt = L_3.toInt + 1 := by rw [ex_26]; exact I_add rfl (by decide) (by omega) (by omega)
        refine lv_iinc (v := x_26) (lv' := [(3, .int x_26), (2, .int x_25), (0, .ref h), (1, .int p0)]) hx hb dX7_slotOf_52 hl (k := 1) rfl (by rw [ex_26]; rfl) (by decide) rfl (fun ls hl => ?_)
        refine lv_goto (tgt := 10) hx hb dX7_slotOf_55 (by decide) ?_
        exact ih (n - 1) (by omega) H locs ls ⟨x_26, x_25, (by first | with_reducible assumption | omega), (by first | with_reducible assumption | omega), by omega, hP.sub [0, 1, 2] rfl, hS, lv_sub hl [0, 1, 2, 3] rfl⟩

theorem bw_457 : Cond.methodLink RX7 156 yX7_slotOf ∈ gT := gT_tb 1082 (by decide +kernel) (by decide +kernel)
theorem bw_458 : Cond.instanceMethod yX7_slotOf ∈ gT := gT_tb 1084 (by decide +kernel) (by decide +kernel)
theorem bw_459 : Cond.selects RX7 yX7_slotOf yX7_slotOf ∈ gT := gT_sl 35 (by decide +kernel) (by decide +kernel)
theorem bw_460 : Cond.fieldLink RX7 116 "DuelDelays$Search" "count" "I" ∈ gT := gT_tb 348 (by decide +kernel) (by decide +kernel)
theorem bw_461 : Cond.code yX7_reach cX7_reach 5 (some .boolean) ∈ gT := gT_tb 1081 (by decide +kernel) (by decide +kernel)
theorem dX7_reach_0 : decode cX7_reach 0 = .ok (.aload_n 0, 1) := by decide +kernel
theorem dX7_reach_1 : decode cX7_reach 1 = .ok (.iload_n 1, 1) := by decide +kernel
theorem dX7_reach_2 : decode cX7_reach 2 = .ok (.invokevirtual 156, 3) := by decide +kernel
theorem dX7_reach_5 : decode cX7_reach 5 = .ok (.istore 4, 2) := by decide +kernel
theorem dX7_reach_7 : decode cX7_reach 7 = .ok (.aload_n 0, 1) := by decide +kernel
theorem dX7_reach_8 : decode cX7_reach 8 = .ok (.iload 4, 2) := by decide +kernel
theorem dX7_reach_10 : decode cX7_reach 10 = .ok (.invokevirtual 159, 3) := by decide +kernel
theorem dX7_reach_13 : decode cX7_reach 13 = .ok (.ifCond .eq 5, 3) := by decide +kernel
theorem dX7_reach_16 : decode cX7_reach 16 = .ok (.iconst 1, 1) := by decide +kernel
theorem dX7_reach_17 : decode cX7_reach 17 = .ok (.ireturn, 1) := by decide +kernel
theorem dX7_reach_18 : decode cX7_reach 18 = .ok (.aload_n 0, 1) := by decide +kernel
theorem dX7_reach_19 : decode cX7_reach 19 = .ok (.getfield 116, 3) := by decide +kernel
theorem dX7_reach_22 : decode cX7_reach 22 = .ok (.sipush 3000, 3) := by decide +kernel
theorem dX7_reach_25 : decode cX7_reach 25 = .ok (.if_icmp .lt 5, 3) := by decide +kernel
theorem dX7_reach_28 : decode cX7_reach 28 = .ok (.iconst 0, 1) := by decide +kernel
theorem dX7_reach_29 : decode cX7_reach 29 = .ok (.ireturn, 1) := by decide +kernel
theorem dX7_reach_30 : decode cX7_reach 30 = .ok (.aload_n 0, 1) := by decide +kernel
theorem dX7_reach_31 : decode cX7_reach 31 = .ok (.getfield 28, 3) := by decide +kernel
theorem dX7_reach_34 : decode cX7_reach 34 = .ok (.iload 4, 2) := by decide +kernel
theorem dX7_reach_36 : decode cX7_reach 36 = .ok (.aload_n 0, 1) := by decide +kernel
theorem dX7_reach_37 : decode cX7_reach 37 = .ok (.getfield 106, 3) := by decide +kernel
theorem dX7_reach_40 : decode cX7_reach 40 = .ok (.bipush 12, 2) := by decide +kernel
theorem dX7_reach_42 : decode cX7_reach 42 = .ok (.ishl, 1) := by decide +kernel
theorem dX7_reach_43 : decode cX7_reach 43 = .ok (.aload_n 0, 1) := by decide +kernel
theorem dX7_reach_44 : decode cX7_reach 44 = .ok (.getfield 116, 3) := by decide +kernel
theorem dX7_reach_47 : decode cX7_reach 47 = .ok (.ior, 1) := by decide +kernel
theorem dX7_reach_48 : decode cX7_reach 48 = .ok (.iastore, 1) := by decide +kernel
theorem dX7_reach_49 : decode cX7_reach 49 = .ok (.aload_n 0, 1) := by decide +kernel
theorem dX7_reach_50 : decode cX7_reach 50 = .ok (.getfield 18, 3) := by decide +kernel
theorem dX7_reach_53 : decode cX7_reach 53 = .ok (.aload_n 0, 1) := by decide +kernel
theorem dX7_reach_54 : decode cX7_reach 54 = .ok (.getfield 116, 3) := by decide +kernel
theorem dX7_reach_57 : decode cX7_reach 57 = .ok (.iload_n 1, 1) := by decide +kernel
theorem dX7_reach_58 : decode cX7_reach 58 = .ok (.iastore, 1) := by decide +kernel
theorem dX7_reach_59 : decode cX7_reach 59 = .ok (.aload_n 0, 1) := by decide +kernel
theorem dX7_reach_60 : decode cX7_reach 60 = .ok (.getfield 21, 3) := by decide +kernel
theorem dX7_reach_63 : decode cX7_reach 63 = .ok (.aload_n 0, 1) := by decide +kernel
theorem dX7_reach_64 : decode cX7_reach 64 = .ok (.getfield 116, 3) := by decide +kernel
theorem dX7_reach_67 : decode cX7_reach 67 = .ok (.bipush 16, 2) := by decide +kernel
theorem dX7_reach_69 : decode cX7_reach 69 = .ok (.iload_n 2, 1) := by decide +kernel
theorem dX7_reach_70 : decode cX7_reach 70 = .ok (.imul, 1) := by decide +kernel
theorem dX7_reach_71 : decode cX7_reach 71 = .ok (.iload_n 3, 1) := by decide +kernel
theorem dX7_reach_72 : decode cX7_reach 72 = .ok (.iadd, 1) := by decide +kernel
theorem dX7_reach_73 : decode cX7_reach 73 = .ok (.iastore, 1) := by decide +kernel
theorem dX7_reach_74 : decode cX7_reach 74 = .ok (.aload_n 0, 1) := by decide +kernel
theorem dX7_reach_75 : decode cX7_reach 75 = .ok (.dup, 1) := by decide +kernel
theorem dX7_reach_76 : decode cX7_reach 76 = .ok (.getfield 116, 3) := by decide +kernel
theorem dX7_reach_79 : decode cX7_reach 79 = .ok (.iconst 1, 1) := by decide +kernel
theorem dX7_reach_80 : decode cX7_reach 80 = .ok (.iadd, 1) := by decide +kernel
theorem dX7_reach_81 : decode cX7_reach 81 = .ok (.putfield 116, 3) := by decide +kernel
theorem dX7_reach_84 : decode cX7_reach 84 = .ok (.iconst 1, 1) := by decide +kernel
theorem dX7_reach_85 : decode cX7_reach 85 = .ok (.ireturn, 1) := by decide +kernel
set_option maxHeartbeats 4000000 in
set_option maxRecDepth 100000 in
theorem s_X7_reach (l : Launch) (g : GG) (sz : Nat) (h : Nat) (bland : Nat) (bdeathDay : Int32) (bfreeFrom : Nat) (bbarring : Nat) (bkeys : Nat) (Fbkeys : Nat → Int32) (bways : Nat) (Fbways : Nat → Int32) (bcount : Int32) (bwins : Nat) (bslots : Nat) (Fbslots : Nat → Int32) (bround : Int32) (bworths : Nat) (bpath : Nat) (p0 : Int32) (p1 : Int32) (p2 : Int32) (hh0 : Rg 3000 0 47999 Fbways) (hh1 : 0 ≤ bcount.toInt ∧ bcount.toInt ≤ 3000) (hh2 : Sl Fbslots) (hh3 : 0 ≤ bround.toInt ∧ bround.toInt ≤ 1048575) (hh4 : 0 ≤ p1.toInt ∧ p1.toInt ≤ 2999) (hh5 : 0 ≤ p2.toInt ∧ p2.toInt ≤ 15) : Met l yX7_reach (.code yX7_reach cX7_reach 5 (some .boolean) :: gT) ({ frames := 2, cells := 0, slots := 0, locals := 44 }) (va_Pc [.ref h, .int p0, .int p1, .int p2] (Pst g sz [(h, .inr (7, [.ref bland, .int bdeathDay, .ref bfreeFrom, .ref bbarring, .ref bkeys, .ref bways, .int bcount, .ref bwins, .ref bslots, .int bround, .ref bworths, .ref bpath])), (bkeys, aI g 3000 Fbkeys), (bways, aI g 3000 Fbways), (bslots, aI g 8192 Fbslots)] nX)) (va_Qi (fun (r : Int32) => fun ((o0_count, o1_F, o2_F, o3_F) : Int32 × (Nat → Int32) × (Nat → Int32) × (Nat → Int32)) => (0 ≤ r.toInt ∧ r.toInt ≤ 1) ∧ (0 ≤ o0_count.toInt ∧ o0_count.toInt ≤ 3000) ∧ (Rg 3000 0 47999 o2_F) ∧ (Sl o3_F)) (Qst g [(h, .inr (7, [.ref bland, .int bdeathDay, .ref bfreeFrom, .ref bbarring, .ref bkeys, .ref bways, .int bcount, .ref bwins, .ref bslots, .int bround, .ref bworths, .ref bpath])), (bkeys, aI g 3000 Fbkeys), (bways, aI g 3000 Fbways), (bslots, aI g 8192 Fbslots)] sz (fun ((o0_count, o1_F, o2_F, o3_F) : Int32 × (Nat → Int32) × (Nat → Int32) × (Nat → Int32)) => [(h, .inr (7, [.ref bland, .int bdeathDay, .ref bfreeFrom, .ref bbarring, .ref bkeys, .ref bways, .int o0_count, .ref bwins, .ref bslots, .int bround, .ref bworths, .ref bpath])), (bkeys, aI g 3000 o1_F), (bways, aI g 3000 o2_F), (bslots, aI g 8192 o3_F)])) (va_A [(h, .inr (7, [.ref bland, .int bdeathDay, .ref bfreeFrom, .ref bbarring, .ref bkeys, .ref bways, .int bcount, .ref bwins, .ref bslots, .int bround, .ref bworths, .ref bpath])), (bkeys, aI g 3000 Fbkeys), (bways, aI g 3000 Fbways), (bslots, aI g 8192 Fbslots)] sz)) 0 0 (va_A [(h, .inr (7, [.ref bland, .int bdeathDay, .ref bfreeFrom, .ref bbarring, .ref bkeys, .ref bways, .int bcount, .ref bwins, .ref bslots, .int bround, .ref bworths, .ref bpath])), (bkeys, aI g 3000 Fbkeys), (bways, aI g 3000 Fbways), (bslots, aI g 8192 Fbslots)] sz) := by
  refine Met.ofW (cc := cX7_reach) (maxL := 5) (ret := (some .boolean)) (by decide) rfl ?_
  intro p e s m args below meth c s₁ B hml hv
  obtain ⟨rfl, hsz, hP, hK, hD0, hX⟩ := hv
  have hx := B.exec
  have hb := B.bytes
  have hr := B.returns
  have hT : ∀ w ∈ gT, w.before _ s = true := fun w h => atoms_spec (ws := .code yX7_reach cX7_reach 5 (some .boolean) :: gT) B.pre w (List.mem_cons_of_mem _ h)
  have hown : s.vm.findClass RX7 = some m.cls := findClass_of_methodNamed B.named
  have hlocks := B.notSynchronized
  subst hsz
  have hD := hD0.self (sz := s.heap.size)
  generalize hAe : va_A [(h, .inr (7, [.ref bland, .int bdeathDay, .ref bfreeFrom, .ref bbarring, .ref bkeys, .ref bways, .int bcount, .ref bwins, .ref bslots, .int bround, .ref bworths, .ref bpath])), (bkeys, aI g 3000 Fbkeys), (bways, aI g 3000 Fbways), (bslots, aI g 8192 Fbslots)] s.heap.size = A at hD ⊢
  have hA : ∀ q : Nat, s.heap.size ≤ q → A q := fun q h => by rw [← hAe]; exact Or.inr h
  have hS : va_S A s.heap s.heap [] := va_S.rf
  have hl := lv_entry ([.ref h, .int p0, .int p1, .int p2]) (n := 5) (Nat.le_of_ble_eq_true rfl)
  rw [lg_entry_eq]
  generalize (lg_sl ([.ref h, .int p0, .int p1, .int p2]) ++ List.replicate (5 - (lg_sl ([.ref h, .int p0, .int p1, .int p2])).length) Slot.unset).toArray = ls at hl ⊢
  have hl : lv_has ls 5 [(0, .ref h), (1, .int p0), (2, .int p1), (3, .int p2)] := hl
  refine p_nH (fun H hH => ?_)
  have hP : va_P g.1 vwCl [(h, .inr (7, [.ref bland, .int bdeathDay, .ref bfreeFrom, .ref bbarring, .ref bkeys, .ref bways, .int bcount, .ref bwins, .ref bslots, .int bround, .ref bworths, .ref bpath])), (bkeys, aI g 3000 Fbkeys), (bways, aI g 3000 Fbways), (bslots, aI g 8192 Fbslots)] H := by rw [hH]; exact hP
  have hS : va_S A s.heap H [] := by rw [hH]; exact hS
  refine lv_aload_n hx hb dX7_reach_0 rfl (lv_at hl 0 rfl) ?_
  refine lv_iload_n hx hb dX7_reach_1 rfl (lv_at hl 1 rfl) ?_
  refine k_iR (k_V (n := 1) ⟨hx, hb, hml, hown, hT⟩ hK hP hD [0, 1, 3] rfl (by decide +kernel) (s_X7_slotOf l g H.size h bland bdeathDay bfreeFrom bbarring bkeys Fbkeys bways bcount bwins bslots Fbslots bround bworths bpath p0 (by first | with_reducible assumption | omega) hh2 (by first | with_reducible assumption | omega)) (gV bw_457 bw_458 bw_459 bw_426 bw_456) rfl rfl (by decide +kernel) ⟨by decide, by decide⟩ (ci := 7) (q0 := 0) rfl rfl (fun _ _ _ _ _ => trivial) (fun _ _ _ => trivial) rfl rfl hl.1 (Nat.le_of_ble_eq_true rfl) dX7_reach_2 ⟨by decide, by decide⟩) hP hS hA (fun r_1 _ H locs hw0 hP hS => ?_)
  have hw : 0 ≤ r_1.toInt ∧ r_1.toInt ≤ 8191 := hw0
  clear hw0
  have w_2 := hw
  refine lv_istore (lv' := [(4, .int r_1), (0, .ref h), (1, .int p0), (2, .int p1), (3, .int p2)]) hx hb dX7_reach_5 hl (by decide) rfl (fun ls hl => ?_)
  refine lv_aload_n hx hb dX7_reach_7 rfl (lv_at hl 1 rfl) ?_
  refine lv_iload hx hb dX7_reach_8 (lv_at hl 0 rfl) ?_
  refine k_iR (k_V (n := 1) ⟨hx, hb, hml, hown, hT⟩ hK hP hD [0, 3] rfl (by decide +kernel) (s_X7_isTaken l g H.size h bland bdeathDay bfreeFrom bbarring bkeys bways bcount bwins bslots Fbslots bround bworths bpath r_1 (by first | with_reducible assumption | omega) (by first | with_reducible assumption | omega) (by first | with_reducible assumption | omega)) (gV bw_453 bw_454 bw_455 bw_426 bw_422) rfl rfl (by decide +kernel) ⟨by decide, by decide⟩ (ci := 7) (q0 := 0) rfl rfl (fun _ _ _ _ _ => trivial) (fun _ _ _ => trivial) rfl rfl hl.1 (Nat.le_of_ble_eq_true rfl) dX7_reach_10 ⟨by decide, by decide⟩) hP hS hA (fun r_3 _ H locs hw0 hP hS => ?_)
  have hw : 0 ≤ r_3.toInt ∧ r_3.toInt ≤ 1 := hw0
  clear hw0
  have w_4 := hw
  refine lv_if_eq (tgt := 18) hx hb dX7_reach_13 (by decide) (fun c_5 => ?_) (fun c_5 => ?_)
  · have f_6 := E_eq (rfl : r_3.toInt = _) (by decide : (0 : Int32).toInt = 0) c_5
    refine lv_aload_n hx hb dX7_reach_18 rfl (lv_at hl 1 rfl) ?_
    refine va_get (D := g.1) (ci := 7) (v := .int bcount) (C := RX7) (T := TX7) (N := 12) hx hb hT inF_X7 hown hK.1 hP 0 rfl rfl 6 (by decide) (hT _ bw_460) (fun _ h9 => h9) rfl dX7_reach_19 ?_
    refine lv_sipush (v := 3000) hx hb dX7_reach_22 (by decide) ?_
    refine lv_icmp_lt (tgt := 30) hx hb dX7_reach_25 (by decide) (fun c_7 => ?_) (fun c_7 => ?_)
    · have f_8 := E_lt (rfl : bcount.toInt = _) (by decide : (3000 : Int32).toInt = 3000) c_7
      refine lv_aload_n hx hb dX7_reach_30 rfl (lv_at hl 1 rfl) ?_
      refine va_get (D := g.1) (ci := 7) (v := .ref bslots) (C := RX7) (T := TX7) (N := 12) hx hb hT inF_X7 hown hK.1 hP 0 rfl rfl 8 (by decide) (hT _ bw_420) (fun _ h9 => h9) rfl dX7_reach_31 ?_
      refine lv_iload hx hb dX7_reach_34 (lv_at hl 0 rfl) ?_
      refine lv_aload_n hx hb dX7_reach_36 rfl (lv_at hl 1 rfl) ?_
      refine va_get (D := g.1) (ci := 7) (v := .int bround) (C := RX7) (T := TX7) (N := 12) hx hb hT inF_X7 hown hK.1 hP 0 rfl rfl 9 (by decide) (hT _ bw_421) (fun _ h9 => h9) rfl dX7_reach_37 ?_
      refine lv_bipush (v := 12) hx hb dX7_reach_40 (by decide) ?_
      refine lv_ishl hx hb dX7_reach_42 ?_
      refine lv_topi (fun x_9 ex_9 => ?_)
      refine lv_aload_n hx hb dX7_reach_43 rfl (lv_at hl 1 rfl) ?_
      refine va_get (D := g.1) (ci := 7) (v := .int bcount) (C := RX7) (T := TX7) (N := 12) hx hb hT inF_X7 hown hK.1 hP 0 rfl rfl 6 (by decide) (hT _ bw_460) (fun _ h9 => h9) rfl dX7_reach_44 ?_
      refine lv_ior hx hb dX7_reach_47 ?_
      refine lv_topi (fun x_10 ex_10 => ?_)
      have h_11 : vp_in r_1 8192 := vp_in_iff.mpr (by omega)
      refine va_iast hx hb hK.1 hP hD hS 3 1 rfl rfl (i := r_1) (x := x_10) h_11 dX7_reach_48 (fun H locs hP hD hS => ?_)
      have gf_12 : Sl (upd Fbslots (r_1 : Int32).toNatClampNeg x_10) := Sl.upd hh2 (by rw [ex_10, ex_9, low12 (by omega) (by omega)]; omega)
      generalize upd Fbslots (r_1 : Int32).toNatClampNeg x_10 = f_12 at hP hD gf_12
      have hP : va_P g.1 vwCl [(h, .inr (7, [.ref bland, .int bdeathDay, .ref bfreeFrom, .ref bbarring, .ref bkeys, .ref bways, .int bcount, .ref bwins, .ref bslots, .int bround, .ref bworths, .ref bpath])), (bkeys, aI g 3000 Fbkeys), (bways, aI g 3000 Fbways), (bslots, aI g 8192 f_12)] H := hP
      have hD : va_D A [(h, .inr (7, [.ref bland, .int bdeathDay, .ref bfreeFrom, .ref bbarring, .ref bkeys, .ref bways, .int bcount, .ref bwins, .ref bslots, .int bround, .ref bworths, .ref bpath])), (bkeys, aI g 3000 Fbkeys), (bways, aI g 3000 Fbways), (bslots, aI g 8192 f_12)] := hD
      refine lv_aload_n hx hb dX7_reach_49 rfl (lv_at hl 1 rfl) ?_
      refine va_get (D := g.1) (ci := 7) (v := .ref bkeys) (C := RX7) (T := TX7) (N := 12) hx hb hT inF_X7 hown hK.1 hP 0 rfl rfl 4 (by decide) (hT _ bw_417) (fun _ h9 => h9) rfl dX7_reach_50 ?_
      refine lv_aload_n hx hb dX7_reach_53 rfl (lv_at hl 1 rfl) ?_
      refine va_get (D := g.1) (ci := 7) (v := .int bcount) (C := RX7) (T := TX7) (N := 12) hx hb hT inF_X7 hown hK.1 hP 0 rfl rfl 6 (by decide) (hT _ bw_460) (fun _ h9 => h9) rfl dX7_reach_54 ?_
      refine lv_iload_n hx hb dX7_reach_57 rfl (lv_at hl 2 rfl) ?_
      have h_13 : vp_in bcount 3000 := vp_in_iff.mpr (by omega)
      refine va_iast hx hb hK.1 hP hD hS 1 1 rfl rfl (i := bcount) (x := p0) h_13 dX7_reach_58 (fun H locs hP hD hS => ?_)
      generalize upd Fbkeys (bcount : Int32).toNatClampNeg p0 = f_14 at hP hD
      have hP : va_P g.1 vwCl [(h, .inr (7, [.ref bland, .int bdeathDay, .ref bfreeFrom, .ref bbarring, .ref bkeys, .ref bways, .int bcount, .ref bwins, .ref bslots, .int bround, .ref bworths, .ref bpath])), (bkeys, aI g 3000 f_14), (bways, aI g 3000 Fbways), (bslots, aI g 8192 f_12)] H := hP
      have hD : va_D A [(h, .inr (7, [.ref bland, .int bdeathDay, .ref bfreeFrom, .ref bbarring, .ref bkeys, .ref bways, .int bcount, .ref bwins, .ref bslots, .int bround, .ref bworths, .ref bpath])), (bkeys, aI g 3000 f_14), (bways, aI g 3000 Fbways), (bslots, aI g 8192 f_12)] := hD
      refine lv_aload_n hx hb dX7_reach_59 rfl (lv_at hl 1 rfl) ?_
      refine va_get (D := g.1) (ci := 7) (v := .ref bways) (C := RX7) (T := TX7) (N := 12) hx hb hT inF_X7 hown hK.1 hP 0 rfl rfl 5 (by decide) (hT _ bw_441) (fun _ h9 => h9) rfl dX7_reach_60 ?_
      refine lv_aload_n hx hb dX7_reach_63 rfl (lv_at hl 1 rfl) ?_
      refine va_get (D := g.1) (ci := 7) (v := .int bcount) (C := RX7) (T := TX7) (N := 12) hx hb hT inF_X7 hown hK.1 hP 0 rfl rfl 6 (by decide) (hT _ bw_460) (fun _ h9 => h9) rfl dX7_reach_64 ?_
      refine lv_bipush (v := 16) hx hb dX7_reach_67 (by decide) ?_
      refine lv_iload_n hx hb dX7_reach_69 rfl (lv_at hl 3 rfl) ?_
      refine lv_imul hx hb dX7_reach_70 ?_
      refine lv_topi (fun x_15 ex_15 => ?_)
      have fx_15 : x_15.toInt = 16 * p1.toInt := by rw [ex_15]; exact I_mul (by decide : (16 : Int32).toInt = 16) rfl (by omega) (by omega)
      refine lv_iload_n hx hb dX7_reach_71 rfl (lv_at hl 4 rfl) ?_
      refine lv_iadd hx hb dX7_reach_72 ?_
      refine lv_topi (fun x_16 ex_16 => ?_)
      have fx_16 : x_16.toInt = x_15.toInt + p2.toInt := by rw [ex_16]; exact I_add rfl rfl (by omega) (by omega)
      have h_17 : vp_in bcount 3000 := vp_in_iff.mpr (by omega)
      refine va_iast hx hb hK.1 hP hD hS 2 1 rfl rfl (i := bcount) (x := x_16) h_17 dX7_reach_73 (fun H locs hP hD hS => ?_)
      have gf_18 : Rg 3000 0 47999 (upd Fbways (bcount : Int32).toNatClampNeg x_16) := Rg.upd hh0 (by omega)
      generalize upd Fbways (bcount : Int32).toNatClampNeg x_16 = f_18 at hP hD gf_18
      have hP : va_P g.1 vwCl [(h, .inr (7, [.ref bland, .int bdeathDay, .ref bfreeFrom, .ref bbarring, .ref bkeys, .ref bways, .int bcount, .ref bwins, .ref bslots, .int bround, .ref bworths, .ref bpath])), (bkeys, aI g 3000 f_14), (bways, aI g 3000 f_18), (bslots, aI g 8192 f_12)] H := hP
      have hD : va_D A [(h, .inr (7, [.ref bland, .int bdeathDay, .ref bfreeFrom, .ref bbarring, .ref bkeys, .ref bways, .int bcount, .ref bwins, .ref bslots, .int bround, .ref bworths, .ref bpath])), (bkeys, aI g 3000 f_14), (bways, aI g 3000 f_18), (bslots, aI g 8192 f_12)] := hD
      refine lv_aload_n hx hb dX7_reach_74 rfl (lv_at hl 1 rfl) ?_
      refine lv_dup hx hb dX7_reach_75 rfl ?_
      refine va_get (D := g.1) (ci := 7) (v := .int bcount) (C := RX7) (T := TX7) (N := 12) hx hb hT inF_X7 hown hK.1 hP 0 rfl rfl 6 (by decide) (hT _ bw_460) (fun _ h9 => h9) rfl dX7_reach_76 ?_
      refine lv_iconst (v := 1) hx hb dX7_reach_79 (by decide) ?_
      refine lv_iadd hx hb dX7_reach_80 ?_
      refine lv_topi (fun x_19 ex_19 => ?_)
      have fx_19 : x_19.toInt = bcount.toInt + 1 := by rw [ex_19]; exact I_add rfl (by decide : (1 : Int32).toInt = 1) (by omega) (by omega)
      refine va_put (D := g.1) (ci := 7) (v := .int x_19) (ty := .int) (C := RX7) (T := TX7) (N := 12) hx hb hT inF_X7 tyX7 tyX7_ok nmX7 hown hK.1 hP hD hS 0 rfl rfl 6 (by decide) (hT _ bw_460) (fun _ h9 => h9) rfl (by decide +kernel) rfl rfl (Nat.le_of_ble_eq_true rfl) dX7_reach_81 (fun H locs hP hD hS => ?_)
      have hP : va_P g.1 vwCl [(h, .inr (7, [.ref bland, .int bdeathDay, .ref bfreeFrom, .ref bbarring, .ref bkeys, .ref bways, .int x_19, .ref bwins, .ref bslots, .int bround, .ref bworths, .ref bpath])), (bkeys, aI g 3000 f_14), (bways, aI g 3000 f_18), (bslots, aI g 8192 f_12)] H := hP
      have hD : va_D A [(h, .inr (7, [.ref bland, .int bdeathDay, .ref bfreeFrom, .ref bbarring, .ref bkeys, .ref bways, .int x_19, .ref bwins, .ref bslots, .int bround, .ref bworths, .ref bpath])), (bkeys, aI g 3000 f_14), (bways, aI g 3000 f_18), (bslots, aI g 8192 f_12)] := hD
      refine lv_iconst (v := 1) hx hb dX7_reach_84 (by decide) ?_
      have hP9 : va_P g.1 vwCl [(h, .inr (7, [.ref bland, .int bdeathDay, .ref bfreeFrom, .ref bbarring, .ref bkeys, .ref bways, .int x_19, .ref bwins, .ref bslots, .int bround, .ref bworths, .ref bpath])), (bkeys, aI g 3000 f_14), (bways, aI g 3000 f_18), (bslots, aI g 8192 f_12)] H := hP.sub [0, 1, 2, 3] rfl
      have hD9 : va_D A [(h, .inr (7, [.ref bland, .int bdeathDay, .ref bfreeFrom, .ref bbarring, .ref bkeys, .ref bways, .int x_19, .ref bwins, .ref bslots, .int bround, .ref bworths, .ref bpath])), (bkeys, aI g 3000 f_14), (bways, aI g 3000 f_18), (bslots, aI g 8192 f_12)] := hD.sub [0, 1, 2, 3] (by decide +kernel) rfl
      exact W.zret (v := 1) (ty := .boolean) hx hb hr rfl (fun t ht hW => ⟨⟨1, (x_19, f_14, f_18, f_12), rfl, ⟨⟨by decide, by decide⟩, (by first | with_reducible assumption | omega), gf_18, gf_12⟩, by rw [ht]; exact hP9, by rw [hAe]; exact hD9⟩, hS.F ht⟩) hS.2.2 dX7_reach_85
    · have f_20 := E_nlt (rfl : bcount.toInt = _) (by decide : (3000 : Int32).toInt = 3000) c_7
      refine lv_iconst (v := 0) hx hb dX7_reach_28 (by decide) ?_
      have hP9 : va_P g.1 vwCl [(h, .inr (7, [.ref bland, .int bdeathDay, .ref bfreeFrom, .ref bbarring, .ref bkeys, .ref bways, .int bcount, .ref bwins, .ref bslots, .int bround, .ref bworths, .ref bpath])), (bkeys, aI g 3000 Fbkeys), (bways, aI g 3000 Fbways), (bslots, aI g 8192 Fbslots)] H := hP.sub [0, 1, 2, 3] rfl
      have hD9 : va_D A [(h, .inr (7, [.ref bland, .int bdeathDay, .ref bfreeFrom, .ref bbarring, .ref bkeys, .ref bways, .int bcount, .ref bwins, .ref bslots, .int bround, .ref bworths, .ref bpath])), (bkeys, aI g 3000 Fbkeys), (bways, aI g 3000 Fbways), (bslots, aI g 8192 Fbslots)] := hD.sub [0, 1, 2, 3] (by decide +kernel) rfl
      exact W.zret (v := 0) (ty := .boolean) hx hb hr rfl (fun t ht hW => ⟨⟨0, (bcount, Fbkeys, Fbways, Fbslots), rfl, ⟨⟨by decide, by decide⟩, (by first | with_reducible assumption | omega), hh0, hh2⟩, by rw [ht]; exact hP9, by rw [hAe]; exact hD9⟩, hS.F ht⟩) hS.2.2 dX7_reach_29
  · have f_21 := E_ne (rfl : r_3.toInt = _) (by decide : (0 : Int32).toInt = 0) c_5
    refine lv_iconst (v := 1) hx hb dX7_reach_16 (by decide) ?_
    have hP9 : va_P g.1 vwCl [(h, .inr (7, [.ref bland, .int bdeathDay, .ref bfreeFrom, .ref bbarring, .ref bkeys, .ref bways, .int bcount, .ref bwins, .ref bslots, .int bround, .ref bworths, .ref bpath])), (bkeys, aI g 3000 Fbkeys), (bways, aI g 3000 Fbways), (bslots, aI g 8192 Fbslots)] H := hP.sub [0, 1, 2, 3] rfl
    have hD9 : va_D A [(h, .inr (7, [.ref bland, .int bdeathDay, .ref bfreeFrom, .ref bbarring, .ref bkeys, .ref bways, .int bcount, .ref bwins, .ref bslots, .int bround, .ref bworths, .ref bpath])), (bkeys, aI g 3000 Fbkeys), (bways, aI g 3000 Fbways), (bslots, aI g 8192 Fbslots)] := hD.sub [0, 1, 2, 3] (by decide +kernel) rfl
    exact W.zret (v := 1) (ty := .boolean) hx hb hr rfl (fun t ht hW => ⟨⟨1, (bcount, Fbkeys, Fbways, Fbslots), rfl, ⟨⟨by decide, by decide⟩, (by first | with_reducible assumption | omega), hh0, hh2⟩, by rw [ht]; exact hP9, by rw [hAe]; exact hD9⟩, hS.F ht⟩) hS.2.2 dX7_reach_17
