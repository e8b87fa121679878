theorem bw_1241 : Cond.code yX12_isTold cX12_isTold 4 (some .boolean) ∈ gT := gT_tb 1734 (by decide +kernel) (by decide +kernel)
theorem dX12_isTold_0 : decode cX12_isTold 0 = .ok (.bipush 6, 2) := by decide +kernel
theorem dX12_isTold_2 : decode cX12_isTold 2 = .ok (.aload_n 0, 1) := by decide +kernel
theorem dX12_isTold_3 : decode cX12_isTold 3 = .ok (.getfield 299, 3) := by decide +kernel
theorem dX12_isTold_6 : decode cX12_isTold 6 = .ok (.imul, 1) := by decide +kernel
theorem dX12_isTold_7 : decode cX12_isTold 7 = .ok (.istore_n 3, 1) := by decide +kernel
theorem dX12_isTold_8 : decode cX12_isTold 8 = .ok (.iload_n 3, 1) := by decide +kernel
theorem dX12_isTold_9 : decode cX12_isTold 9 = .ok (.bipush 6, 2) := by decide +kernel
theorem dX12_isTold_11 : decode cX12_isTold 11 = .ok (.aload_n 0, 1) := by decide +kernel
theorem dX12_isTold_12 : decode cX12_isTold 12 = .ok (.getfield 299, 3) := by decide +kernel
theorem dX12_isTold_15 : decode cX12_isTold 15 = .ok (.imul, 1) := by decide +kernel
theorem dX12_isTold_16 : decode cX12_isTold 16 = .ok (.aload_n 0, 1) := by decide +kernel
theorem dX12_isTold_17 : decode cX12_isTold 17 = .ok (.getfield 30, 3) := by decide +kernel
theorem dX12_isTold_20 : decode cX12_isTold 20 = .ok (.aload_n 0, 1) := by decide +kernel
theorem dX12_isTold_21 : decode cX12_isTold 21 = .ok (.getfield 299, 3) := by decide +kernel
theorem dX12_isTold_24 : decode cX12_isTold 24 = .ok (.iaload, 1) := by decide +kernel
theorem dX12_isTold_25 : decode cX12_isTold 25 = .ok (.iadd, 1) := by decide +kernel
theorem dX12_isTold_26 : decode cX12_isTold 26 = .ok (.if_icmp .ge 51, 3) := by decide +kernel
theorem dX12_isTold_29 : decode cX12_isTold 29 = .ok (.aload_n 0, 1) := by decide +kernel
theorem dX12_isTold_30 : decode cX12_isTold 30 = .ok (.getfield 69, 3) := by decide +kernel
theorem dX12_isTold_33 : decode cX12_isTold 33 = .ok (.iload_n 3, 1) := by decide +kernel
theorem dX12_isTold_34 : decode cX12_isTold 34 = .ok (.iaload, 1) := by decide +kernel
theorem dX12_isTold_35 : decode cX12_isTold 35 = .ok (.iload_n 1, 1) := by decide +kernel
theorem dX12_isTold_36 : decode cX12_isTold 36 = .ok (.if_icmp .ne 13, 3) := by decide +kernel
theorem dX12_isTold_39 : decode cX12_isTold 39 = .ok (.aload_n 0, 1) := by decide +kernel
theorem dX12_isTold_40 : decode cX12_isTold 40 = .ok (.getfield 72, 3) := by decide +kernel
theorem dX12_isTold_43 : decode cX12_isTold 43 = .ok (.iload_n 3, 1) := by decide +kernel
theorem dX12_isTold_44 : decode cX12_isTold 44 = .ok (.iaload, 1) := by decide +kernel
theorem dX12_isTold_45 : decode cX12_isTold 45 = .ok (.iload_n 2, 1) := by decide +kernel
theorem dX12_isTold_46 : decode cX12_isTold 46 = .ok (.if_icmp .eq 23, 3) := by decide +kernel
theorem dX12_isTold_49 : decode cX12_isTold 49 = .ok (.aload_n 0, 1) := by decide +kernel
theorem dX12_isTold_50 : decode cX12_isTold 50 = .ok (.getfield 69, 3) := by decide +kernel
theorem dX12_isTold_53 : decode cX12_isTold 53 = .ok (.iload_n 3, 1) := by decide +kernel
theorem dX12_isTold_54 : decode cX12_isTold 54 = .ok (.iaload, 1) := by decide +kernel
theorem dX12_isTold_55 : decode cX12_isTold 55 = .ok (.iload_n 2, 1) := by decide +kernel
theorem dX12_isTold_56 : decode cX12_isTold 56 = .ok (.if_icmp .ne 15, 3) := by decide +kernel
theorem dX12_isTold_59 : decode cX12_isTold 59 = .ok (.aload_n 0, 1) := by decide +kernel
theorem dX12_isTold_60 : decode cX12_isTold 60 = .ok (.getfield 72, 3) := by decide +kernel
theorem dX12_isTold_63 : decode cX12_isTold 63 = .ok (.iload_n 3, 1) := by decide +kernel
theorem dX12_isTold_64 : decode cX12_isTold 64 = .ok (.iaload, 1) := by decide +kernel
theorem dX12_isTold_65 : decode cX12_isTold 65 = .ok (.iload_n 1, 1) := by decide +kernel
theorem dX12_isTold_66 : decode cX12_isTold 66 = .ok (.if_icmp .ne 5, 3) := by decide +kernel
theorem dX12_isTold_69 : decode cX12_isTold 69 = .ok (.iconst 1, 1) := by decide +kernel
theorem dX12_isTold_70 : decode cX12_isTold 70 = .ok (.ireturn, 1) := by decide +kernel
theorem dX12_isTold_71 : decode cX12_isTold 71 = .ok (.iinc 3 1, 3) := by decide +kernel
theorem dX12_isTold_74 : decode cX12_isTold 74 = .ok (.goto (-66), 3) := by decide +kernel
theorem dX12_isTold_77 : decode cX12_isTold 77 = .ok (.iconst 0, 1) := by decide +kernel
theorem dX12_isTold_78 : decode cX12_isTold 78 = .ok (.ireturn, 1) := by decide +kernel
set_option maxHeartbeats 40000000 in
set_option maxRecDepth 100000 in
theorem s_X12_isTold (l : Launch) (g : GG) (sz : Nat) (h : Nat) (mtape : Nat) (mtext : Nat) (mtaped : Int32) (msize : Int32) (mfaultKind : Int32) (mfaultPlace : Int32) (mat : Int32) (mend : Int32) (mtoken : Int32) (mnumber : Int32) (mname : Int64) (mmen : Nat) (mkinds : Nat) (mreasons : Nat) (mtold : Nat) (Fmtold : Nat → Int32) (munits : Nat) (mhonour : Nat) (mdraw : Nat) (mdies : Nat) (mcoin : Nat) (msonOf : Nat) (mkindOf : Nat) (mowner : Nat) (mfirst : Nat) (mlast : Nat) (mrent : Nat) (msort : Nat) (mduelOne : Nat) (FmduelOne : Nat → Int32) (mduelOther : Nat) (FmduelOther : Nat → Int32) (mduelOn : Nat) (mruleFrom : Nat) (mruleTo : Nat) (mhasHonour : Nat) (mhasDraw : Nat) (mmName : Nat) (mkName : Nat) (mrName : Nat) (mdName : Nat) (mcode : Nat) (mcodeNumber : Nat) (meWhat : Nat) (meSign : Nat) (mpile : Nat) (mbank : Int32) (mrb : Int32) (mcodes : Int32) (mwithin : Int32) (mpiled : Int32) (munitsInRule : Int32) (maskDay : Int32) (maskUses : Int32) (maskSpent : Int32) (mall : Nat) (mwas : Nat) (macts : Int32) (mundone : Int32) (musedBy0 : Nat) (musedBy1 : Nat) (mmornings : Nat) (mcameFrom : Nat) (mcameBy : Nat) (mlevelAt : Nat) (mwins : Nat) (mslots : Nat) (mlevelOf : Nat) (mworthOf : Nat) (mstates : Int32) (mlevels : Int32) (mside0 : Int32) (mside1 : Int32) (mdeathDay : Int32) (maway : Int32) (mhires : Int32) (mhirer : Int32) (mslotFound : Int32) (misSpent : Int32) (mfound : Int32) (mlaid : Int32) (mlaidRow : Nat) (mgReason : Nat) (mgDay : Nat) (mgTold : Nat) (mgUntold : Nat) (msights : Int32) (mtime : Int32) (mboxAll : Nat) (misBoxed : Nat) (p0 : Int32) (p1 : Int32) (hh0 : 0 ≤ mtaped.toInt ∧ mtaped.toInt ≤ 1600) (hh1 : 0 ≤ msize.toInt ∧ msize.toInt ≤ 1600) (hh2 : 0 ≤ mfaultKind.toInt ∧ mfaultKind.toInt ≤ 5) (hh3 : 0 ≤ mat.toInt ∧ mat.toInt ≤ 1600) (hh4 : 0 ≤ mend.toInt ∧ mend.toInt ≤ 1600) (hh5 : 0 ≤ mtoken.toInt ∧ mtoken.toInt ≤ 5) (hh9 : Rg 2 0 6 Fmtold) (hh15 : Rg 12 0 5 FmduelOne) (hh16 : Rg 12 0 5 FmduelOther) (hh21 : 0 ≤ mbank.toInt ∧ mbank.toInt ≤ 1) (hh22 : 0 ≤ mrb.toInt ∧ mrb.toInt ≤ 1) (hh23 : 0 ≤ mcodes.toInt ∧ mcodes.toInt ≤ 1120) (hh24 : 0 ≤ mpiled.toInt ∧ mpiled.toInt ≤ 90) (hh25 : 0 ≤ munitsInRule.toInt ∧ munitsInRule.toInt ≤ 30) (hh28 : 0 ≤ macts.toInt ∧ macts.toInt ≤ 40) (hh29 : 0 ≤ mundone.toInt ∧ mundone.toInt ≤ 40) (hh37 : 0 ≤ mstates.toInt ∧ mstates.toInt ≤ 3000) (hh38 : 0 ≤ mlevels.toInt ∧ mlevels.toInt ≤ 18) (hh39 : 0 ≤ mside0.toInt ∧ mside0.toInt ≤ 5) (hh40 : 0 ≤ mside1.toInt ∧ mside1.toInt ≤ 5) (hh41 : 0 ≤ mslotFound.toInt ∧ mslotFound.toInt ≤ 8191) (hh42 : 0 ≤ misSpent.toInt ∧ misSpent.toInt ≤ 1) (hh43 : (-1) ≤ mfound.toInt ∧ mfound.toInt ≤ 2999) (hh44 : 0 ≤ mlaid.toInt ∧ mlaid.toInt ≤ 16) (hh45 : 0 ≤ msights.toInt ∧ msights.toInt ≤ 30) (hh46 : 0 ≤ mtime.toInt ∧ mtime.toInt ≤ 100000) : Met l yX12_isTold (.code yX12_isTold cX12_isTold 4 (some .boolean) :: gT) ({ frames := 0, cells := 0, slots := 0, locals := 0 }) (va_Pc [.ref h, .int p0, .int p1] (Pst g sz [(h, .inr (12, [.ref mtape, .ref mtext, .int mtaped, .int msize, .int mfaultKind, .int mfaultPlace, .int mat, .int mend, .int mtoken, .int mnumber, .long mname, .ref mmen, .ref mkinds, .ref mreasons, .ref mtold, .ref munits, .ref mhonour, .ref mdraw, .ref mdies, .ref mcoin, .ref msonOf, .ref mkindOf, .ref mowner, .ref mfirst, .ref mlast, .ref mrent, .ref msort, .ref mduelOne, .ref mduelOther, .ref mduelOn, .ref mruleFrom, .ref mruleTo, .ref mhasHonour, .ref mhasDraw, .ref mmName, .ref mkName, .ref mrName, .ref mdName, .ref mcode, .ref mcodeNumber, .ref meWhat, .ref meSign, .ref mpile, .int mbank, .int mrb, .int mcodes, .int mwithin, .int mpiled, .int munitsInRule, .int maskDay, .int maskUses, .int maskSpent, .ref mall, .ref mwas, .int macts, .int mundone, .ref musedBy0, .ref musedBy1, .ref mmornings, .ref mcameFrom, .ref mcameBy, .ref mlevelAt, .ref mwins, .ref mslots, .ref mlevelOf, .ref mworthOf, .int mstates, .int mlevels, .int mside0, .int mside1, .int mdeathDay, .int maway, .int mhires, .int mhirer, .int mslotFound, .int misSpent, .int mfound, .int mlaid, .ref mlaidRow, .ref mgReason, .ref mgDay, .ref mgTold, .ref mgUntold, .int msights, .int mtime, .ref mboxAll, .ref misBoxed])), (mtold, aI g 2 Fmtold), (mduelOne, aI g 12 FmduelOne), (mduelOther, aI g 12 FmduelOther)] nX)) (va_Qi (fun (r : Int32) => fun (_ : Unit) => 0 ≤ r.toInt ∧ r.toInt ≤ 1) (Qst g [] sz (fun _ => [])) (va_A [] sz)) 0 0 (va_A [] sz) := by
  refine Met.ofW (cc := cX12_isTold) (maxL := 4) (ret := (some .boolean)) (by decide) rfl ?_
  intro p e s m args below meth c s₁ B hml hv
  obtain ⟨rfl, hsz, hP, hK, hD0, hX⟩ := hv
  have hx := B.exec
  have hb := B.bytes
  have hr := B.returns
  have hT : ∀ w ∈ gT, w.before _ s = true := fun w h => atoms_spec (ws := .code yX12_isTold cX12_isTold 4 (some .boolean) :: gT) B.pre w (List.mem_cons_of_mem _ h)
  have hown : s.vm.findClass RX12 = some m.cls := findClass_of_methodNamed B.named
  have hlocks := B.notSynchronized
  subst hsz
  have hD := hD0
  generalize hAe : va_A [] s.heap.size = A at ⊢
  have hA : ∀ q : Nat, s.heap.size ≤ q → A q := fun q h => by rw [← hAe]; exact Or.inr h
  have hS : va_S A s.heap s.heap [] := va_S.rf
  have hl := lv_entry ([.ref h, .int p0, .int p1]) (n := 4) (Nat.le_of_ble_eq_true rfl)
  rw [lg_entry_eq]
  generalize (lg_sl ([.ref h, .int p0, .int p1]) ++ List.replicate (4 - (lg_sl ([.ref h, .int p0, .int p1])).length) Slot.unset).toArray = ls at hl ⊢
  have hl : lv_has ls 4 [(0, .ref h), (1, .int p0), (2, .int p1)] := hl
  refine p_nH (fun H hH => ?_)
  have hP : va_P g.1 vwCl [(h, .inr (12, [.ref mtape, .ref mtext, .int mtaped, .int msize, .int mfaultKind, .int mfaultPlace, .int mat, .int mend, .int mtoken, .int mnumber, .long mname, .ref mmen, .ref mkinds, .ref mreasons, .ref mtold, .ref munits, .ref mhonour, .ref mdraw, .ref mdies, .ref mcoin, .ref msonOf, .ref mkindOf, .ref mowner, .ref mfirst, .ref mlast, .ref mrent, .ref msort, .ref mduelOne, .ref mduelOther, .ref mduelOn, .ref mruleFrom, .ref mruleTo, .ref mhasHonour, .ref mhasDraw, .ref mmName, .ref mkName, .ref mrName, .ref mdName, .ref mcode, .ref mcodeNumber, .ref meWhat, .ref meSign, .ref mpile, .int mbank, .int mrb, .int mcodes, .int mwithin, .int mpiled, .int munitsInRule, .int maskDay, .int maskUses, .int maskSpent, .ref mall, .ref mwas, .int macts, .int mundone, .ref musedBy0, .ref musedBy1, .ref mmornings, .ref mcameFrom, .ref mcameBy, .ref mlevelAt, .ref mwins, .ref mslots, .ref mlevelOf, .ref mworthOf, .int mstates, .int mlevels, .int mside0, .int mside1, .int mdeathDay, .int maway, .int mhires, .int mhirer, .int mslotFound, .int misSpent, .int mfound, .int mlaid, .ref mlaidRow, .ref mgReason, .ref mgDay, .ref mgTold, .ref mgUntold, .int msights, .int mtime, .ref mboxAll, .ref misBoxed])), (mtold, aI g 2 Fmtold), (mduelOne, aI g 12 FmduelOne), (mduelOther, aI g 12 FmduelOther)] H := by rw [hH]; exact hP
  have hS : va_S A s.heap H [] := by rw [hH]; exact hS
  refine lv_bipush (v := 6) hx hb dX12_isTold_0 (by decide) ?_
  refine lv_aload_n hx hb dX12_isTold_2 rfl (lv_at hl 0 rfl) ?_
  refine va_get (D := g.1) (ci := 12) (v := .int mrb) (C := RX12) (T := TX12) (N := 87) hx hb hT inF_X12 hown hK.1 hP 0 rfl rfl 44 (by decide) (hT _ bw_1214) (fun _ h9 => h9) rfl dX12_isTold_3 ?_
  refine lv_imul hx hb dX12_isTold_6 ?_
  refine lv_topi (fun x_1 ex_1 => ?_)
  have fx_1 : x_1.toInt = 6 * mrb.toInt := by rw [ex_1]; exact I_mul (by decide : (6 : Int32).toInt = 6) rfl (by omega) (by omega)
  refine lv_istore_n (lv' := [(3, .int x_1), (0, .ref h), (1, .int p0), (2, .int p1)]) hx hb dX12_isTold_7 rfl hl (by decide) rfl (fun ls hl => ?_)
  refine k_floop 8 (fun n H locs ls => ∃ (L_2 : Int32), (0 ≤ L_2.toInt ∧ L_2.toInt ≤ 12) ∧ 12 - L_2.toInt ≤ (n : Int) ∧ va_P g.1 vwCl [(h, .inr (12, [.ref mtape, .ref mtext, .int mtaped, .int msize, .int mfaultKind, .int mfaultPlace, .int mat, .int mend, .int mtoken, .int mnumber, .long mname, .ref mmen, .ref mkinds, .ref mreasons, .ref mtold, .ref munits, .ref mhonour, .ref mdraw, .ref mdies, .ref mcoin, .ref msonOf, .ref mkindOf, .ref mowner, .ref mfirst, .ref mlast, .ref mrent, .ref msort, .ref mduelOne, .ref mduelOther, .ref mduelOn, .ref mruleFrom, .ref mruleTo, .ref mhasHonour, .ref mhasDraw, .ref mmName, .ref mkName, .ref mrName, .ref mdName, .ref mcode, .ref mcodeNumber, .ref meWhat, .ref meSign, .ref mpile, .int mbank, .int mrb, .int mcodes, .int mwithin, .int mpiled, .int munitsInRule, .int maskDay, .int maskUses, .int maskSpent, .ref mall, .ref mwas, .int macts, .int mundone, .ref musedBy0, .ref musedBy1, .ref mmornings, .ref mcameFrom, .ref mcameBy, .ref mlevelAt, .ref mwins, .ref mslots, .ref mlevelOf, .ref mworthOf, .int mstates, .int mlevels, .int mside0, .int mside1, .int mdeathDay, .int maway, .int mhires, .int mhirer, .int mslotFound, .int misSpent, .int mfound, .int mlaid, .ref mlaidRow, .ref mgReason, .ref mgDay, .ref mgTold, .ref mgUntold, .int msights, .int mtime, .ref mboxAll, .ref misBoxed])), (mtold, aI g 2 Fmtold), (mduelOne, aI g 12 FmduelOne), (mduelOther, aI g 12 FmduelOther)] H ∧ va_S A s.heap H locs ∧ lv_has ls 4 [(3, .int L_2), (0, .ref h), (1, .int p0), (2, .int p1)]) (fun n H locs ls hI ih => ?_) ((12 - x_1.toInt : Int)).toNat ⟨x_1, (by first | with_reducible assumption | omega), by omega, hP, hS, hl⟩
  obtain ⟨L_2, g_3, hm_4, hP, hS, hl⟩ := hI
  refine lv_iload_n hx hb dX12_isTold_8 rfl (lv_at hl 0 rfl) ?_
  refine lv_bipush (v := 6) hx hb dX12_isTold_9 (by decide) ?_
  refine lv_aload_n hx hb dX12_isTold_11 rfl (lv_at hl 1 rfl) ?_
  refine va_get (D := g.1) (ci := 12) (v := .int mrb) (C := RX12) (T := TX12) (N := 87) hx hb hT inF_X12 hown hK.1 hP 0 rfl rfl 44 (by decide) (hT _ bw_1214) (fun _ h9 => h9) rfl dX12_isTold_12 ?_
  refine lv_imul hx hb dX12_isTold_15 ?_
  refine lv_topi (fun x_5 ex_5 => ?_)
  have fx_5 : x_5.toInt = 6 * mrb.toInt := by rw [ex_5]; exact I_mul (by decide : (6 : Int32).toInt = 6) rfl (by omega) (by omega)
  refine lv_aload_n hx hb dX12_isTold_16 rfl (lv_at hl 1 rfl) ?_
  refine va_get (D := g.1) (ci := 12) (v := .ref mtold) (C := RX12) (T := TX12) (N := 87) hx hb hT inF_X12 hown hK.1 hP 0 rfl rfl 14 (by decide) (hT _ bw_969) (fun _ h9 => h9) rfl dX12_isTold_17 ?_
  refine lv_aload_n hx hb dX12_isTold_20 rfl (lv_at hl 1 rfl) ?_
  refine va_get (D := g.1) (ci := 12) (v := .int mrb) (C := RX12) (T := TX12) (N := 87) hx hb hT inF_X12 hown hK.1 hP 0 rfl rfl 44 (by decide) (hT _ bw_1214) (fun _ h9 => h9) rfl dX12_isTold_21 ?_
  have h_6 : vp_in mrb 2 := vp_in_iff.mpr (by omega)
  refine va_iald hx hb hK.1 hP 1 1 rfl rfl (i := mrb) h_6 dX12_isTold_24 ?_
  refine lv_topi (fun x_7 ex_7 => ?_)
  have fx_7 : 0 ≤ x_7.toInt ∧ x_7.toInt ≤ 6 := Rg.rd hh9 h_6 ex_7
  have ux_7 := congrArg Int32.toInt ex_7
  refine lv_iadd hx hb dX12_isTold_25 ?_
  refine lv_topi (fun x_8 ex_8 => ?_)
  have fx_8 : x_8.toInt = x_5.toInt + x_7.toInt := by rw [ex_8]; exact I_add rfl rfl (by omega) (by omega)
  refine lv_icmp_ge (tgt := 77) hx hb dX12_isTold_26 (by decide) (fun c_9 => ?_) (fun c_9 => ?_)
  · have f_10 := E_le (rfl : x_8.toInt = _) (rfl : L_2.toInt = _) c_9
    refine lv_iconst (v := 0) hx hb dX12_isTold_77 (by decide) ?_
    have hP9 : va_P g.1 vwCl [] H := hP.sub [] rfl
    have hD9 : va_D A [] := ⟨fun i j p q h => by simp at h, fun k q h => by simp at h⟩
    exact W.zret (v := 0) (ty := .boolean) hx hb hr rfl (fun t ht hW => ⟨⟨0, (), rfl, ⟨by decide, by decide⟩, by rw [ht]; exact hP9, by rw [hAe]; exact hD9⟩, hS.F ht⟩) hS.2.2 dX12_isTold_78
  · have f_11 := E_nle (rfl : x_8.toInt = _) (rfl : L_2.toInt = _) c_9
    refine lv_aload_n hx hb dX12_isTold_29 rfl (lv_at hl 1 rfl) ?_
    refine va_get (D := g.1) (ci := 12) (v := .ref mduelOne) (C := RX12) (T := TX12) (N := 87) hx hb hT inF_X12 hown hK.1 hP 0 rfl rfl 27 (by decide) (hT _ bw_972) (fun _ h9 => h9) rfl dX12_isTold_30 ?_
    refine lv_iload_n hx hb dX12_isTold_33 rfl (lv_at hl 0 rfl) ?_
    have h_12 : vp_in L_2 12 := vp_in_iff.mpr (by omega)
    refine va_iald hx hb hK.1 hP 2 1 rfl rfl (i := L_2) h_12 dX12_isTold_34 ?_
    refine lv_topi (fun x_13 ex_13 => ?_)
    have fx_13 : 0 ≤ x_13.toInt ∧ x_13.toInt ≤ 5 := Rg.rd hh15 h_12 ex_13
    have ux_13 := congrArg Int32.toInt ex_13
    refine lv_iload_n hx hb dX12_isTold_35 rfl (lv_at hl 2 rfl) ?_
    refine lv_icmp_ne (tgt := 49) hx hb dX12_isTold_36 (by decide) (fun c_14 => ?_) (fun c_14 => ?_)
    · have f_15 := E_ne (rfl : x_13.toInt = _) (rfl : p0.toInt = _) c_14
      refine lv_aload_n hx hb dX12_isTold_49 rfl (lv_at hl 1 rfl) ?_
      refine va_get (D := g.1) (ci := 12) (v := .ref mduelOne) (C := RX12) (T := TX12) (N := 87) hx hb hT inF_X12 hown hK.1 hP 0 rfl rfl 27 (by decide) (hT _ bw_972) (fun _ h9 => h9) rfl dX12_isTold_50 ?_
      refine lv_iload_n hx hb dX12_isTold_53 rfl (lv_at hl 0 rfl) ?_
      have h_16 : vp_in L_2 12 := vp_in_iff.mpr (by omega)
      refine va_iald hx hb hK.1 hP 2 1 rfl rfl (i := L_2) h_16 dX12_isTold_54 ?_
      refine lv_topi (fun x_17 ex_17 => ?_)
      have fx_17 : 0 ≤ x_17.toInt ∧ x_17.toInt ≤ 5 := Rg.rd hh15 h_16 ex_17
      have ux_17 := congrArg Int32.toInt ex_17
      refine lv_iload_n hx hb dX12_isTold_55 rfl (lv_at hl 3 rfl) ?_
      refine lv_icmp_ne (tgt := 71) hx hb dX12_isTold_56 (by decide) (fun c_18 => ?_) (fun c_18 => ?_)
      · have f_19 := E_ne (rfl : x_17.toInt = _) (rfl : p1.toInt = _) c_18
        obtain ⟨x_20, ex_20⟩ : ∃ y : Int32, y = L_2 + 1 := ⟨_, rfl⟩
        have fx_20 : x_20.toInt = L_2.toInt + 1 := by rw [ex_20]; exact I_add rfl (by decide) (by omega) (by omega)
        refine lv_iinc (v := x_20) (lv' := [(3, .int x_20), (0, .ref h), (1, .int p0), (2, .int p1)]) hx hb dX12_isTold_71 hl (k := 0) rfl (by rw [ex_20]; rfl) (by decide) rfl (fun ls hl => ?_)
        refine lv_goto (tgt := 8) hx hb dX12_isTold_74 (by decide) ?_
        exact ih (n - 1) (by omega) H locs ls ⟨x_20, (by first | with_reducible assumption | omega), by omega, hP.sub [0, 1, 2, 3] rfl, hS, lv_sub hl [0, 1, 2, 3] rfl⟩
      · have f_21 := E_eq (rfl : x_17.toInt = _) (rfl : p1.toInt = _) c_18
        refine lv_aload_n hx hb dX12_isTold_59 rfl (lv_at hl 1 rfl) ?_
        refine va_get (D := g.1) (ci := 12) (v := .ref mduelOther) (C := RX12) (T := TX12) (N := 87) hx hb hT inF_X12 hown hK.1 hP 0 rfl rfl 28 (by decide) (hT _ bw_973) (fun _ h9 => h9) rfl dX12_isTold_60 ?_
        refine lv_iload_n hx hb dX12_isTold_63 rfl (lv_at hl 0 rfl) ?_
        have h_22 : vp_in L_2 12 := vp_in_iff.mpr (by omega)
        refine va_iald hx hb hK.1 hP 3 1 rfl rfl (i := L_2) h_22 dX12_isTold_64 ?_
        refine lv_topi (fun x_23 ex_23 => ?_)
        have fx_23 : 0 ≤ x_23.toInt ∧ x_23.toInt ≤ 5 := Rg.rd hh16 h_22 ex_23
        have ux_23 := congrArg Int32.toInt ex_23
        refine lv_iload_n hx hb dX12_isTold_65 rfl (lv_at hl 2 rfl) ?_
        refine lv_icmp_ne (tgt := 71) hx hb dX12_isTold_66 (by decide) (fun c_24 => ?_) (fun c_24 => ?_)
        · have f_25 := E_ne (rfl : x_23.toInt = _) (rfl : p0.toInt = _) c_24
          obtain ⟨x_26, ex_26⟩ : ∃ y : Int32, y = L_2 + 1 := ⟨_, rfl⟩
          have fx_26 : x_26.toInt = L_2.toInt + 1 := by rw [ex_26]; exact I_add rfl (by decide) (by omega) (by omega)
          refine lv_iinc (v := x_26) (lv' := [(3, .int x_26), (0, .ref h), (1, .int p0), (2, .int p1)]) hx hb dX12_isTold_71 hl (k := 0) rfl (by rw [ex_26]; rfl) (by decide) rfl (fun ls hl => ?_)
          refine lv_goto (tgt := 8) hx hb dX12_isTold_74 (by decide) ?_
          exact ih (n - 1) (by omega) H locs ls ⟨x_26, (by first | with_reducible assumption | omega), by omega, hP.sub [0, 1, 2, 3] rfl, hS, lv_sub hl [0, 1, 2, 3] rfl⟩
        · have f_27 := E_eq (rfl : x_23.toInt = _) (rfl : p0.toInt = _) c_24
          refine lv_iconst (v := 1) hx hb dX12_isTold_69 (by decide) ?_
          have hP9 : va_P g.1 vwCl [] H := hP.sub [] rfl
          have hD9 : va_D A [] := ⟨fun i j p q h => by simp at h, fun k q h => by simp at h⟩
          exact W.zret (v := 1) (ty := .boolean) hx hb hr rfl (fun t ht hW => ⟨⟨1, (), rfl, ⟨by decide, by decide⟩, by rw [ht]; exact hP9, by rw [hAe]; exact hD9⟩, hS.F ht⟩) hS.2.2 dX12_isTold_70
    · have f_28 := E_eq (rfl : x_13.toInt = _) (rfl : p0.toInt = _) c_14
      refine lv_aload_n hx hb dX12_isTold_39 rfl (lv_at hl 1 rfl) ?_
      refine va_get (D := g.1) (ci := 12) (v := .ref mduelOther) (C := RX12) (T := TX12) (N := 87) hx hb hT inF_X12 hown hK.1 hP 0 rfl rfl 28 (by decide) (hT _ bw_973) (fun _ h9 => h9) rfl dX12_isTold_40 ?_
      refine lv_iload_n hx hb dX12_isTold_43 rfl (lv_at hl 0 rfl) ?_
      have h_29 : vp_in L_2 12 := vp_in_iff.mpr (by omega)
      refine va_iald hx hb hK.1 hP 3 1 rfl rfl (i := L_2) h_29 dX12_isTold_44 ?_
      refine lv_topi (fun x_30 ex_30 => ?_)
      have fx_30 : 0 ≤ x_30.toInt ∧ x_30.toInt ≤ 5 := Rg.rd hh16 h_29 ex_30
      have ux_30 := congrArg Int32.toInt ex_30
      refine lv_iload_n hx hb dX12_isTold_45 rfl (lv_at hl 3 rfl) ?_
      refine lv_icmp_eq (tgt := 69) hx hb dX12_isTold_46 (by decide) (fun c_31 => ?_) (fun c_31 => ?_)
      · have f_32 := E_eq (rfl : x_30.toInt = _) (rfl : p1.toInt = _) c_31
        refine lv_iconst (v := 1) hx hb dX12_isTold_69 (by decide) ?_
        have hP9 : va_P g.1 vwCl [] H := hP.sub [] rfl
        have hD9 : va_D A [] := ⟨fun i j p q h => by simp at h, fun k q h => by simp at h⟩
        exact W.zret (v := 1) (ty := .boolean) hx hb hr rfl (fun t ht hW => ⟨⟨1, (), rfl, ⟨by decide, by decide⟩, by rw [ht]; exact hP9, by rw [hAe]; exact hD9⟩, hS.F ht⟩) hS.2.2 dX12_isTold_70
      · have f_33 := E_ne (rfl : x_30.toInt = _) (rfl : p1.toInt = _) c_31
        refine lv_aload_n hx hb dX12_isTold_49 rfl (lv_at hl 1 rfl) ?_
        refine va_get (D := g.1) (ci := 12) (v := .ref mduelOne) (C := RX12) (T := TX12) (N := 87) hx hb hT inF_X12 hown hK.1 hP 0 rfl rfl 27 (by decide) (hT _ bw_972) (fun _ h9 => h9) rfl dX12_isTold_50 ?_
        refine lv_iload_n hx hb dX12_isTold_53 rfl (lv_at hl 0 rfl) ?_
        have h_34 : vp_in L_2 12 := vp_in_iff.mpr (by omega)
        refine va_iald hx hb hK.1 hP 2 1 rfl rfl (i := L_2) h_34 dX12_isTold_54 ?_
        refine lv_topi (fun x_35 ex_35 => ?_)
        have fx_35 : 0 ≤ x_35.toInt ∧ x_35.toInt ≤ 5 := Rg.rd hh15 h_34 ex_35
        have ux_35 := congrArg Int32.toInt ex_35
        refine lv_iload_n hx hb dX12_isTold_55 rfl (lv_at hl 3 rfl) ?_
        refine lv_icmp_ne (tgt := 71) hx hb dX12_isTold_56 (by decide) (fun c_36 => ?_) (fun c_36 => ?_)
        · have f_37 := E_ne (rfl : x_35.toInt = _) (rfl : p1.toInt = _) c_36
          obtain ⟨x_38, ex_38⟩ : ∃ y : Int32, y = L_2 + 1 := ⟨_, rfl⟩
          have fx_38 : x_38.toInt = L_2.toInt + 1 := by rw [ex_38]; exact I_add rfl (by decide) (by omega) (by omega)
          refine lv_iinc (v := x_38) (lv' := [(3, .int x_38), (0, .ref h), (1, .int p0), (2, .int p1)]) hx hb dX12_isTold_71 hl (k := 0) rfl (by rw [ex_38]; rfl) (by decide) rfl (fun ls hl => ?_)
          refine lv_goto (tgt := 8) hx hb dX12_isTold_74 (by decide) ?_
          exact ih (n - 1) (by omega) H locs ls ⟨x_38, (by first | with_reducible assumption | omega), by omega, hP.sub [0, 1, 2, 3] rfl, hS, lv_sub hl [0, 1, 2, 3] rfl⟩
        · have f_39 := E_eq (rfl : x_35.toInt = _) (rfl : p1.toInt = _) c_36
          refine lv_aload_n hx hb dX12_isTold_59 rfl (lv_at hl 1 rfl) ?_
          refine va_get (D := g.1) (ci := 12) (v := .ref mduelOther) (C := RX12) (T := TX12) (N := 87) hx hb hT inF_X12 hown hK.1 hP 0 rfl rfl 28 (by decide) (hT _ bw_973) (fun _ h9 => h9) rfl dX12_isTold_60 ?_
          refine lv_iload_n hx hb dX12_isTold_63 rfl (lv_at hl 0 rfl) ?_
          have h_40 : vp_in L_2 12 := vp_in_iff.mpr (by omega)
          refine va_iald hx hb hK.1 hP 3 1 rfl rfl (i := L_2) h_40 dX12_isTold_64 ?_
          refine lv_topi (fun x_41 ex_41 => ?_)
          have fx_41 : 0 ≤ x_41.toInt ∧ x_41.toInt ≤ 5 := Rg.rd hh16 h_40 ex_41
          have ux_41 := congrArg Int32.toInt ex_41
          refine lv_iload_n hx hb dX12_isTold_65 rfl (lv_at hl 2 rfl) ?_
          refine lv_icmp_ne (tgt := 71) hx hb dX12_isTold_66 (by decide) (fun c_42 => ?_) (fun c_42 => ?_)
          · have f_43 := E_ne (rfl : x_41.toInt = _) (rfl : p0.toInt = _) c_42
            obtain ⟨x_44, ex_44⟩ : ∃ y : Int32, y = L_2 + 1 := ⟨_, rfl⟩
            have fx_44 : x_44.toInt = L_2.toInt + 1 := by rw [ex_44]; exact I_add rfl (by decide) (by omega) (by omega)
            refine lv_iinc (v := x_44) (lv' := [(3, .int x_44), (0, .ref h), (1, .int p0), (2, .int p1)]) hx hb dX12_isTold_71 hl (k := 0) rfl (by rw [ex_44]; rfl) (by decide) rfl (fun ls hl => ?_)
            refine lv_goto (tgt := 8) hx hb dX12_isTold_74 (by decide) ?_
            exact ih (n - 1) (by omega) H locs ls ⟨x_44, (by first | with_reducible assumption | omega), by omega, hP.sub [0, 1, 2, 3] rfl, hS, lv_sub hl [0, 1, 2, 3] rfl⟩
          · have f_45 := E_eq (rfl : x_41.toInt = _) (rfl : p0.toInt = _) c_42
            refine lv_iconst (v := 1) hx hb dX12_isTold_69 (by decide) ?_
            have hP9 : va_P g.1 vwCl [] H := hP.sub [] rfl
            have hD9 : va_D A [] := ⟨fun i j p q h => by simp at h, fun k q h => by simp at h⟩
            exact W.zret (v := 1) (ty := .boolean) hx hb hr rfl (fun t ht hW => ⟨⟨1, (), rfl, ⟨by decide, by decide⟩, by rw [ht]; exact hP9, by rw [hAe]; exact hD9⟩, hS.F ht⟩) hS.2.2 dX12_isTold_70
