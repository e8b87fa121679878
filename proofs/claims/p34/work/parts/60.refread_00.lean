set_option maxHeartbeats 40000000 in
set_option maxRecDepth 100000 in
theorem s_X12_isGood2 (l : Launch) (g : GG) (sz : Nat) (h : Nat) (mtape : Nat) (mtext : Nat) (mtaped : Int32) (msize : Int32) (mfaultKind : Int32) (mfaultPlace : Int32) (mat : Int32) (mend : Int32) (mtoken : Int32) (mnumber : Int32) (mname : Int64) (mmen : Nat) (mkinds : Nat) (mreasons : Nat) (mtold : Nat) (munits : Nat) (mhonour : Nat) (mdraw : Nat) (mdies : Nat) (mcoin : Nat) (msonOf : Nat) (mkindOf : Nat) (mowner : Nat) (mfirst : Nat) (mlast : Nat) (mrent : Nat) (msort : Nat) (mduelOne : Nat) (mduelOther : Nat) (mduelOn : Nat) (mruleFrom : Nat) (mruleTo : Nat) (mhasHonour : Nat) (mhasDraw : Nat) (mmName : Nat) (mkName : Nat) (mrName : Nat) (mdName : Nat) (mcode : Nat) (mcodeNumber : Nat) (meWhat : Nat) (meSign : Nat) (mpile : Nat) (mbank : Int32) (mrb : Int32) (mcodes : Int32) (mwithin : Int32) (mpiled : Int32) (munitsInRule : Int32) (maskDay : Int32) (maskUses : Int32) (maskSpent : Int32) (mall : Nat) (mwas : Nat) (macts : Int32) (mundone : Int32) (musedBy0 : Nat) (musedBy1 : Nat) (mmornings : Nat) (mcameFrom : Nat) (mcameBy : Nat) (mlevelAt : Nat) (mwins : Nat) (mslots : Nat) (mlevelOf : Nat) (mworthOf : Nat) (mstates : Int32) (mlevels : Int32) (mside0 : Int32) (mside1 : Int32) (mdeathDay : Int32) (maway : Int32) (mhires : Int32) (mhirer : Int32) (mslotFound : Int32) (misSpent : Int32) (mfound : Int32) (mlaid : Int32) (mlaidRow : Nat) (mgReason : Nat) (mgDay : Nat) (mgTold : Nat) (mgUntold : Nat) (msights : Int32) (mtime : Int32) (mboxAll : Nat) (misBoxed : Nat) (hh0 : 0 ≤ mtaped.toInt ∧ mtaped.toInt ≤ 1600) (hh1 : 0 ≤ msize.toInt ∧ msize.toInt ≤ 1600) (hh2 : 0 ≤ mfaultKind.toInt ∧ mfaultKind.toInt ≤ 5) (hh3 : 0 ≤ mat.toInt ∧ mat.toInt ≤ 1600) (hh4 : 0 ≤ mend.toInt ∧ mend.toInt ≤ 1600) (hh5 : 0 ≤ mtoken.toInt ∧ mtoken.toInt ≤ 5) (hh21 : 0 ≤ mbank.toInt ∧ mbank.toInt ≤ 1) (hh22 : 0 ≤ mrb.toInt ∧ mrb.toInt ≤ 1) (hh23 : 0 ≤ mcodes.toInt ∧ mcodes.toInt ≤ 1120) (hh24 : 0 ≤ mpiled.toInt ∧ mpiled.toInt ≤ 90) (hh25 : 0 ≤ munitsInRule.toInt ∧ munitsInRule.toInt ≤ 30) (hh28 : 0 ≤ macts.toInt ∧ macts.toInt ≤ 40) (hh29 : 0 ≤ mundone.toInt ∧ mundone.toInt ≤ 40) (hh37 : 0 ≤ mstates.toInt ∧ mstates.toInt ≤ 3000) (hh38 : 0 ≤ mlevels.toInt ∧ mlevels.toInt ≤ 18) (hh39 : 0 ≤ mside0.toInt ∧ mside0.toInt ≤ 5) (hh40 : 0 ≤ mside1.toInt ∧ mside1.toInt ≤ 5) (hh41 : 0 ≤ mslotFound.toInt ∧ mslotFound.toInt ≤ 8191) (hh42 : 0 ≤ misSpent.toInt ∧ misSpent.toInt ≤ 1) (hh43 : (-1) ≤ mfound.toInt ∧ mfound.toInt ≤ 2999) (hh44 : 0 ≤ mlaid.toInt ∧ mlaid.toInt ≤ 16) (hh45 : 0 ≤ msights.toInt ∧ msights.toInt ≤ 30) (hh46 : 0 ≤ mtime.toInt ∧ mtime.toInt ≤ 100000) : Met l yX12_isGood (.code yX12_isGood cX12_isGood 1 (some .boolean) :: gT) ({ frames := 0, cells := 0, slots := 0, locals := 0 }) (va_Pc [.ref h] (Pst g sz [(h, .inr (12, [.ref mtape, .ref mtext, .int mtaped, .int msize, .int mfaultKind, .int mfaultPlace, .int mat, .int mend, .int mtoken, .int mnumber, .long mname, .ref mmen, .ref mkinds, .ref mreasons, .ref mtold, .ref munits, .ref mhonour, .ref mdraw, .ref mdies, .ref mcoin, .ref msonOf, .ref mkindOf, .ref mowner, .ref mfirst, .ref mlast, .ref mrent, .ref msort, .ref mduelOne, .ref mduelOther, .ref mduelOn, .ref mruleFrom, .ref mruleTo, .ref mhasHonour, .ref mhasDraw, .ref mmName, .ref mkName, .ref mrName, .ref mdName, .ref mcode, .ref mcodeNumber, .ref meWhat, .ref meSign, .ref mpile, .int mbank, .int mrb, .int mcodes, .int mwithin, .int mpiled, .int munitsInRule, .int maskDay, .int maskUses, .int maskSpent, .ref mall, .ref mwas, .int macts, .int mundone, .ref musedBy0, .ref musedBy1, .ref mmornings, .ref mcameFrom, .ref mcameBy, .ref mlevelAt, .ref mwins, .ref mslots, .ref mlevelOf, .ref mworthOf, .int mstates, .int mlevels, .int mside0, .int mside1, .int mdeathDay, .int maway, .int mhires, .int mhirer, .int mslotFound, .int misSpent, .int mfound, .int mlaid, .ref mlaidRow, .ref mgReason, .ref mgDay, .ref mgTold, .ref mgUntold, .int msights, .int mtime, .ref mboxAll, .ref misBoxed]))] nX)) (va_Qi (fun (r : Int32) => fun (_ : Unit) => (r = 1 ∧ (mfaultKind.toInt = 0)) ∨ (r = 0 ∧ (1 ≤ mfaultKind.toInt))) (Qst g [] sz (fun _ => [])) (va_A [] sz)) 0 0 (va_A [] sz) := by
  refine Met.ofW (cc := cX12_isGood) (maxL := 1) (ret := (some .boolean)) (by decide) rfl ?_
  intro p e s m args below meth c s₁ B hml hv
  obtain ⟨rfl, hsz, hP, hK, hD0, hX⟩ := hv
  have hx := B.exec
  have hb := B.bytes
  have hr := B.returns
  have hT : ∀ w ∈ gT, w.before _ s = true := fun w h => atoms_spec (ws := .code yX12_isGood cX12_isGood 1 (some .boolean) :: gT) B.pre w (List.mem_cons_of_mem _ h)
  have hown : s.vm.findClass RX12 = some m.cls := findClass_of_methodNamed B.named
  have hlocks := B.notSynchronized
  subst hsz
  have hD := hD0
  generalize hAe : va_A [] s.heap.size = A at ⊢
  have hA : ∀ q : Nat, s.heap.size ≤ q → A q := fun q h => by rw [← hAe]; exact Or.inr h
  have hS : va_S A s.heap s.heap [] := va_S.rf
  have hl := lv_entry ([.ref h]) (n := 1) (Nat.le_of_ble_eq_true rfl)
  rw [lg_entry_eq]
  generalize (lg_sl ([.ref h]) ++ List.replicate (1 - (lg_sl ([.ref h])).length) Slot.unset).toArray = ls at hl ⊢
  have hl : lv_has ls 1 [(0, .ref h)] := hl
  refine p_nH (fun H hH => ?_)
  have hP : va_P g.1 vwCl [(h, .inr (12, [.ref mtape, .ref mtext, .int mtaped, .int msize, .int mfaultKind, .int mfaultPlace, .int mat, .int mend, .int mtoken, .int mnumber, .long mname, .ref mmen, .ref mkinds, .ref mreasons, .ref mtold, .ref munits, .ref mhonour, .ref mdraw, .ref mdies, .ref mcoin, .ref msonOf, .ref mkindOf, .ref mowner, .ref mfirst, .ref mlast, .ref mrent, .ref msort, .ref mduelOne, .ref mduelOther, .ref mduelOn, .ref mruleFrom, .ref mruleTo, .ref mhasHonour, .ref mhasDraw, .ref mmName, .ref mkName, .ref mrName, .ref mdName, .ref mcode, .ref mcodeNumber, .ref meWhat, .ref meSign, .ref mpile, .int mbank, .int mrb, .int mcodes, .int mwithin, .int mpiled, .int munitsInRule, .int maskDay, .int maskUses, .int maskSpent, .ref mall, .ref mwas, .int macts, .int mundone, .ref musedBy0, .ref musedBy1, .ref mmornings, .ref mcameFrom, .ref mcameBy, .ref mlevelAt, .ref mwins, .ref mslots, .ref mlevelOf, .ref mworthOf, .int mstates, .int mlevels, .int mside0, .int mside1, .int mdeathDay, .int maway, .int mhires, .int mhirer, .int mslotFound, .int misSpent, .int mfound, .int mlaid, .ref mlaidRow, .ref mgReason, .ref mgDay, .ref mgTold, .ref mgUntold, .int msights, .int mtime, .ref mboxAll, .ref misBoxed]))] H := by rw [hH]; exact hP
  have hS : va_S A s.heap H [] := by rw [hH]; exact hS
  refine lv_aload_n hx hb dX12_isGood_0 rfl (lv_at hl 0 rfl) ?_
  refine va_get (D := g.1) (ci := 12) (v := .int mfaultKind) (C := RX12) (T := TX12) (N := 87) hx hb hT inF_X12 hown hK.1 hP 0 rfl rfl 4 (by decide) (hT _ bw_821) (fun _ h9 => h9) rfl dX12_isGood_1 ?_
  refine lv_if_ne (tgt := 11) hx hb dX12_isGood_4 (by decide) (fun c_1 => ?_) (fun c_1 => ?_)
  · have f_2 := E_ne (rfl : mfaultKind.toInt = _) (by decide : (0 : Int32).toInt = 0) c_1
    refine lv_iconst (v := 0) hx hb dX12_isGood_11 (by decide) ?_
    have hP9 : va_P g.1 vwCl [] H := hP.sub [] rfl
    have hD9 : va_D A [] := ⟨fun i j p q h => by simp at h, fun k q h => by simp at h⟩
    exact W.zret (v := 0) (ty := .boolean) hx hb hr rfl (fun t ht hW => ⟨⟨0, (), rfl, (Or.inr (⟨rfl, by omega⟩)), by rw [ht]; exact hP9, by rw [hAe]; exact hD9⟩, hS.F ht⟩) hS.2.2 dX12_isGood_12
  · have f_3 := E_eq (rfl : mfaultKind.toInt = _) (by decide : (0 : Int32).toInt = 0) c_1
    refine lv_iconst (v := 1) hx hb dX12_isGood_7 (by decide) ?_
    refine lv_goto (tgt := 12) hx hb dX12_isGood_8 (by decide) ?_
    have hP9 : va_P g.1 vwCl [] H := hP.sub [] rfl
    have hD9 : va_D A [] := ⟨fun i j p q h => by simp at h, fun k q h => by simp at h⟩
    exact W.zret (v := 1) (ty := .boolean) hx hb hr rfl (fun t ht hW => ⟨⟨1, (), rfl, (Or.inl ⟨rfl, by omega⟩), by rw [ht]; exact hP9, by rw [hAe]; exact hD9⟩, hS.F ht⟩) hS.2.2 dX12_isGood_12

set_option maxHeartbeats 40000000 in
set_option maxRecDepth 100000 in
theorem s_X12_isDigit2 (l : Launch) (g : GG) (sz : Nat) (p0 : Int32) : Met l yX12_isDigit (.code yX12_isDigit cX12_isDigit 1 (some .boolean) :: gT) ({ frames := 0, cells := 0, slots := 0, locals := 0 }) (va_Pc [.int p0] (Pst g sz [] nX)) (va_Qi (fun (r : Int32) => fun (_ : Unit) => (r = 1 ∧ (48 ≤ p0.toInt ∧ p0.toInt ≤ 57)) ∨ (r = 0 ∧ (p0.toInt < 48 ∨ 57 < p0.toInt))) (Qst g [] sz (fun _ => [])) (va_A [] sz)) 0 0 (va_A [] sz) := by
  refine Met.ofW (cc := cX12_isDigit) (maxL := 1) (ret := (some .boolean)) (by decide) rfl ?_
  intro p e s m args below meth c s₁ B hml hv
  obtain ⟨rfl, hsz, hP, hK, hD0, hX⟩ := hv
  have hx := B.exec
  have hb := B.bytes
  have hr := B.returns
  have hT : ∀ w ∈ gT, w.before _ s = true := fun w h => atoms_spec (ws := .code yX12_isDigit cX12_isDigit 1 (some .boolean) :: gT) B.pre w (List.mem_cons_of_mem _ h)
  have hown : s.vm.findClass RX12 = some m.cls := findClass_of_methodNamed B.named
  have hlocks := B.notSynchronized
  subst hsz
  have hD := hD0
  generalize hAe : va_A [] s.heap.size = A at ⊢
  have hA : ∀ q : Nat, s.heap.size ≤ q → A q := fun q h => by rw [← hAe]; exact Or.inr h
  have hS : va_S A s.heap s.heap [] := va_S.rf
  have hl := lv_entry ([.int p0]) (n := 1) (Nat.le_of_ble_eq_true rfl)
  rw [lg_entry_eq]
  generalize (lg_sl ([.int p0]) ++ List.replicate (1 - (lg_sl ([.int p0])).length) Slot.unset).toArray = ls at hl ⊢
  have hl : lv_has ls 1 [(0, .int p0)] := hl
  refine p_nH (fun H hH => ?_)
  have hP : va_P g.1 vwCl [] H := by rw [hH]; exact hP
  have hS : va_S A s.heap H [] := by rw [hH]; exact hS
  refine lv_iload_n hx hb dX12_isDigit_0 rfl (lv_at hl 0 rfl) ?_
  refine lv_bipush (v := 48) hx hb dX12_isDigit_1 (by decide) ?_
  refine lv_icmp_lt (tgt := 16) hx hb dX12_isDigit_3 (by decide) (fun c_1 => ?_) (fun c_1 => ?_)
  · have f_2 := E_lt (rfl : p0.toInt = _) (by decide : (48 : Int32).toInt = 48) c_1
    refine lv_iconst (v := 0) hx hb dX12_isDigit_16 (by decide) ?_
    have hP9 : va_P g.1 vwCl [] H := hP.sub [] rfl
    have hD9 : va_D A [] := ⟨fun i j p q h => by simp at h, fun k q h => by simp at h⟩
    exact W.zret (v := 0) (ty := .boolean) hx hb hr rfl (fun t ht hW => ⟨⟨0, (), rfl, (Or.inr (⟨rfl, by omega⟩)), by rw [ht]; exact hP9, by rw [hAe]; exact hD9⟩, hS.F ht⟩) hS.2.2 dX12_isDigit_17
  · have f_3 := E_nlt (rfl : p0.toInt = _) (by decide : (48 : Int32).toInt = 48) c_1
    refine lv_iload_n hx hb dX12_isDigit_6 rfl (lv_at hl 0 rfl) ?_
    refine lv_bipush (v := 57) hx hb dX12_isDigit_7 (by decide) ?_
    refine lv_icmp_gt (tgt := 16) hx hb dX12_isDigit_9 (by decide) (fun c_4 => ?_) (fun c_4 => ?_)
    · have f_5 := E_lt (by decide : (57 : Int32).toInt = 57) (rfl : p0.toInt = _) c_4
      refine lv_iconst (v := 0) hx hb dX12_isDigit_16 (by decide) ?_
      have hP9 : va_P g.1 vwCl [] H := hP.sub [] rfl
      have hD9 : va_D A [] := ⟨fun i j p q h => by simp at h, fun k q h => by simp at h⟩
      exact W.zret (v := 0) (ty := .boolean) hx hb hr rfl (fun t ht hW => ⟨⟨0, (), rfl, (Or.inr (⟨rfl, by omega⟩)), by rw [ht]; exact hP9, by rw [hAe]; exact hD9⟩, hS.F ht⟩) hS.2.2 dX12_isDigit_17
    · have f_6 := E_nlt (by decide : (57 : Int32).toInt = 57) (rfl : p0.toInt = _) c_4
      refine lv_iconst (v := 1) hx hb dX12_isDigit_12 (by decide) ?_
      refine lv_goto (tgt := 17) hx hb dX12_isDigit_13 (by decide) ?_
      have hP9 : va_P g.1 vwCl [] H := hP.sub [] rfl
      have hD9 : va_D A [] := ⟨fun i j p q h => by simp at h, fun k q h => by simp at h⟩
      exact W.zret (v := 1) (ty := .boolean) hx hb hr rfl (fun t ht hW => ⟨⟨1, (), rfl, (Or.inl ⟨rfl, by omega⟩), by rw [ht]; exact hP9, by rw [hAe]; exact hD9⟩, hS.F ht⟩) hS.2.2 dX12_isDigit_17

theorem bw_1133 : Cond.fieldLink RX12 182 "DuelDelaysModel" "size" "I" ∈ gT := gT_tb 1308 (by decide +kernel) (by decide +kernel)
theorem bw_1134 : Cond.fieldLink RX12 13 "DuelDelaysModel" "text" "[B" ∈ gT := gT_tb 1306 (by decide +kernel) (by decide +kernel)
theorem bw_1135 : Cond.code yX12_sign cX12_sign 2 (some .int) ∈ gT := gT_tb 1578 (by decide +kernel) (by decide +kernel)
theorem dX12_sign_0 : decode cX12_sign 0 = .ok (.iload_n 1, 1) := by decide +kernel
theorem dX12_sign_1 : decode cX12_sign 1 = .ok (.aload_n 0, 1) := by decide +kernel
theorem dX12_sign_2 : decode cX12_sign 2 = .ok (.getfield 182, 3) := by decide +kernel
theorem dX12_sign_5 : decode cX12_sign 5 = .ok (.if_icmp .ge 16, 3) := by decide +kernel
theorem dX12_sign_8 : decode cX12_sign 8 = .ok (.aload_n 0, 1) := by decide +kernel
theorem dX12_sign_9 : decode cX12_sign 9 = .ok (.getfield 13, 3) := by decide +kernel
theorem dX12_sign_12 : decode cX12_sign 12 = .ok (.iload_n 1, 1) := by decide +kernel
theorem dX12_sign_13 : decode cX12_sign 13 = .ok (.baload, 1) := by decide +kernel
theorem dX12_sign_14 : decode cX12_sign 14 = .ok (.sipush 255, 3) := by decide +kernel
theorem dX12_sign_17 : decode cX12_sign 17 = .ok (.iand, 1) := by decide +kernel
theorem dX12_sign_18 : decode cX12_sign 18 = .ok (.goto 4, 3) := by decide +kernel
theorem dX12_sign_21 : decode cX12_sign 21 = .ok (.iconst 0, 1) := by decide +kernel
theorem dX12_sign_22 : decode cX12_sign 22 = .ok (.ireturn, 1) := by decide +kernel
set_option maxHeartbeats 40000000 in
set_option maxRecDepth 100000 in
theorem s_X12_sign (l : Launch) (g : GG) (sz : Nat) (h : Nat) (mtape : Nat) (mtext : Nat) (Fmtext : Nat → Int32) (mtaped : Int32) (msize : Int32) (mfaultKind : Int32) (mfaultPlace : Int32) (mat : Int32) (mend : Int32) (mtoken : Int32) (mnumber : Int32) (mname : Int64) (mmen : Nat) (mkinds : Nat) (mreasons : Nat) (mtold : Nat) (munits : Nat) (mhonour : Nat) (mdraw : Nat) (mdies : Nat) (mcoin : Nat) (msonOf : Nat) (mkindOf : Nat) (mowner : Nat) (mfirst : Nat) (mlast : Nat) (mrent : Nat) (msort : Nat) (mduelOne : Nat) (mduelOther : Nat) (mduelOn : Nat) (mruleFrom : Nat) (mruleTo : Nat) (mhasHonour : Nat) (mhasDraw : Nat) (mmName : Nat) (mkName : Nat) (mrName : Nat) (mdName : Nat) (mcode : Nat) (mcodeNumber : Nat) (meWhat : Nat) (meSign : Nat) (mpile : Nat) (mbank : Int32) (mrb : Int32) (mcodes : Int32) (mwithin : Int32) (mpiled : Int32) (munitsInRule : Int32) (maskDay : Int32) (maskUses : Int32) (maskSpent : Int32) (mall : Nat) (mwas : Nat) (macts : Int32) (mundone : Int32) (musedBy0 : Nat) (musedBy1 : Nat) (mmornings : Nat) (mcameFrom : Nat) (mcameBy : Nat) (mlevelAt : Nat) (mwins : Nat) (mslots : Nat) (mlevelOf : Nat) (mworthOf : Nat) (mstates : Int32) (mlevels : Int32) (mside0 : Int32) (mside1 : Int32) (mdeathDay : Int32) (maway : Int32) (mhires : Int32) (mhirer : Int32) (mslotFound : Int32) (misSpent : Int32) (mfound : Int32) (mlaid : Int32) (mlaidRow : Nat) (mgReason : Nat) (mgDay : Nat) (mgTold : Nat) (mgUntold : Nat) (msights : Int32) (mtime : Int32) (mboxAll : Nat) (misBoxed : Nat) (p0 : Int32) (hh0 : 0 ≤ mtaped.toInt ∧ mtaped.toInt ≤ 1600) (hh1 : 0 ≤ msize.toInt ∧ msize.toInt ≤ 1600) (hh2 : 0 ≤ mfaultKind.toInt ∧ mfaultKind.toInt ≤ 5) (hh3 : 0 ≤ mat.toInt ∧ mat.toInt ≤ 1600) (hh4 : 0 ≤ mend.toInt ∧ mend.toInt ≤ 1600) (hh5 : 0 ≤ mtoken.toInt ∧ mtoken.toInt ≤ 5) (hh21 : 0 ≤ mbank.toInt ∧ mbank.toInt ≤ 1) (hh22 : 0 ≤ mrb.toInt ∧ mrb.toInt ≤ 1) (hh23 : 0 ≤ mcodes.toInt ∧ mcodes.toInt ≤ 1120) (hh24 : 0 ≤ mpiled.toInt ∧ mpiled.toInt ≤ 90) (hh25 : 0 ≤ munitsInRule.toInt ∧ munitsInRule.toInt ≤ 30) (hh28 : 0 ≤ macts.toInt ∧ macts.toInt ≤ 40) (hh29 : 0 ≤ mundone.toInt ∧ mundone.toInt ≤ 40) (hh37 : 0 ≤ mstates.toInt ∧ mstates.toInt ≤ 3000) (hh38 : 0 ≤ mlevels.toInt ∧ mlevels.toInt ≤ 18) (hh39 : 0 ≤ mside0.toInt ∧ mside0.toInt ≤ 5) (hh40 : 0 ≤ mside1.toInt ∧ mside1.toInt ≤ 5) (hh41 : 0 ≤ mslotFound.toInt ∧ mslotFound.toInt ≤ 8191) (hh42 : 0 ≤ misSpent.toInt ∧ misSpent.toInt ≤ 1) (hh43 : (-1) ≤ mfound.toInt ∧ mfound.toInt ≤ 2999) (hh44 : 0 ≤ mlaid.toInt ∧ mlaid.toInt ≤ 16) (hh45 : 0 ≤ msights.toInt ∧ msights.toInt ≤ 30) (hh46 : 0 ≤ mtime.toInt ∧ mtime.toInt ≤ 100000) (hh48 : 0 ≤ p0.toInt ∧ p0.toInt ≤ 1601) : Met l yX12_sign (.code yX12_sign cX12_sign 2 (some .int) :: gT) ({ frames := 0, cells := 0, slots := 0, locals := 0 }) (va_Pc [.ref h, .int p0] (Pst g sz [(h, .inr (12, [.ref mtape, .ref mtext, .int mtaped, .int msize, .int mfaultKind, .int mfaultPlace, .int mat, .int mend, .int mtoken, .int mnumber, .long mname, .ref mmen, .ref mkinds, .ref mreasons, .ref mtold, .ref munits, .ref mhonour, .ref mdraw, .ref mdies, .ref mcoin, .ref msonOf, .ref mkindOf, .ref mowner, .ref mfirst, .ref mlast, .ref mrent, .ref msort, .ref mduelOne, .ref mduelOther, .ref mduelOn, .ref mruleFrom, .ref mruleTo, .ref mhasHonour, .ref mhasDraw, .ref mmName, .ref mkName, .ref mrName, .ref mdName, .ref mcode, .ref mcodeNumber, .ref meWhat, .ref meSign, .ref mpile, .int mbank, .int mrb, .int mcodes, .int mwithin, .int mpiled, .int munitsInRule, .int maskDay, .int maskUses, .int maskSpent, .ref mall, .ref mwas, .int macts, .int mundone, .ref musedBy0, .ref musedBy1, .ref mmornings, .ref mcameFrom, .ref mcameBy, .ref mlevelAt, .ref mwins, .ref mslots, .ref mlevelOf, .ref mworthOf, .int mstates, .int mlevels, .int mside0, .int mside1, .int mdeathDay, .int maway, .int mhires, .int mhirer, .int mslotFound, .int misSpent, .int mfound, .int mlaid, .ref mlaidRow, .ref mgReason, .ref mgDay, .ref mgTold, .ref mgUntold, .int msights, .int mtime, .ref mboxAll, .ref misBoxed])), (mtext, aB g 1600 Fmtext)] nX)) (va_Qi (fun (r : Int32) => fun (_ : Unit) => (0 ≤ r.toInt ∧ r.toInt ≤ 255) ∧ (r.toInt = (sg Fmtext msize p0).toInt) ∧ (p0.toInt < msize.toInt ∨ r.toInt = 0)) (Qst g [] sz (fun _ => [])) (va_A [] sz)) 0 0 (va_A [] sz) := by
  refine Met.ofW (cc := cX12_sign) (maxL := 2) (ret := (some .int)) (by decide) rfl ?_
  intro p e s m args below meth c s₁ B hml hv
  obtain ⟨rfl, hsz, hP, hK, hD0, hX⟩ := hv
  have hx := B.exec
  have hb := B.bytes
  have hr := B.returns
  have hT : ∀ w ∈ gT, w.before _ s = true := fun w h => atoms_spec (ws := .code yX12_sign cX12_sign 2 (some .int) :: gT) B.pre w (List.mem_cons_of_mem _ h)
  have hown : s.vm.findClass RX12 = some m.cls := findClass_of_methodNamed B.named
  have hlocks := B.notSynchronized
  subst hsz
  have hD := hD0
  generalize hAe : va_A [] s.heap.size = A at ⊢
  have hA : ∀ q : Nat, s.heap.size ≤ q → A q := fun q h => by rw [← hAe]; exact Or.inr h
  have hS : va_S A s.heap s.heap [] := va_S.rf
  have hl := lv_entry ([.ref h, .int p0]) (n := 2) (Nat.le_of_ble_eq_true rfl)
  rw [lg_entry_eq]
  generalize (lg_sl ([.ref h, .int p0]) ++ List.replicate (2 - (lg_sl ([.ref h, .int p0])).length) Slot.unset).toArray = ls at hl ⊢
  have hl : lv_has ls 2 [(0, .ref h), (1, .int p0)] := hl
  refine p_nH (fun H hH => ?_)
  have hP : va_P g.1 vwCl [(h, .inr (12, [.ref mtape, .ref mtext, .int mtaped, .int msize, .int mfaultKind, .int mfaultPlace, .int mat, .int mend, .int mtoken, .int mnumber, .long mname, .ref mmen, .ref mkinds, .ref mreasons, .ref mtold, .ref munits, .ref mhonour, .ref mdraw, .ref mdies, .ref mcoin, .ref msonOf, .ref mkindOf, .ref mowner, .ref mfirst, .ref mlast, .ref mrent, .ref msort, .ref mduelOne, .ref mduelOther, .ref mduelOn, .ref mruleFrom, .ref mruleTo, .ref mhasHonour, .ref mhasDraw, .ref mmName, .ref mkName, .ref mrName, .ref mdName, .ref mcode, .ref mcodeNumber, .ref meWhat, .ref meSign, .ref mpile, .int mbank, .int mrb, .int mcodes, .int mwithin, .int mpiled, .int munitsInRule, .int maskDay, .int maskUses, .int maskSpent, .ref mall, .ref mwas, .int macts, .int mundone, .ref musedBy0, .ref musedBy1, .ref mmornings, .ref mcameFrom, .ref mcameBy, .ref mlevelAt, .ref mwins, .ref mslots, .ref mlevelOf, .ref mworthOf, .int mstates, .int mlevels, .int mside0, .int mside1, .int mdeathDay, .int maway, .int mhires, .int mhirer, .int mslotFound, .int misSpent, .int mfound, .int mlaid, .ref mlaidRow, .ref mgReason, .ref mgDay, .ref mgTold, .ref mgUntold, .int msights, .int mtime, .ref mboxAll, .ref misBoxed])), (mtext, aB g 1600 Fmtext)] H := by rw [hH]; exact hP
  have hS : va_S A s.heap H [] := by rw [hH]; exact hS
  refine lv_iload_n hx hb dX12_sign_0 rfl (lv_at hl 1 rfl) ?_
  refine lv_aload_n hx hb dX12_sign_1 rfl (lv_at hl 0 rfl) ?_
  refine va_get (D := g.1) (ci := 12) (v := .int msize) (C := RX12) (T := TX12) (N := 87) hx hb hT inF_X12 hown hK.1 hP 0 rfl rfl 3 (by decide) (hT _ bw_1133) (fun _ h9 => h9) rfl dX12_sign_2 ?_
  refine lv_icmp_ge (tgt := 21) hx hb dX12_sign_5 (by decide) (fun c_1 => ?_) (fun c_1 => ?_)
  · have f_2 := E_le (rfl : msize.toInt = _) (rfl : p0.toInt = _) c_1
    refine lv_iconst (v := 0) hx hb dX12_sign_21 (by decide) ?_
    have hP9 : va_P g.1 vwCl [] H := hP.sub [] rfl
    have hD9 : va_D A [] := ⟨fun i j p q h => by simp at h, fun k q h => by simp at h⟩
    exact W.iret (v := 0) hx hb hr (fun t ht hW => ⟨⟨0, (), rfl, ⟨⟨by decide, by decide⟩, (by unfold sg; rw [if_neg (L_nlt rfl rfl (by omega))]), (by right; decide)⟩, by rw [ht]; exact hP9, by rw [hAe]; exact hD9⟩, hS.F ht⟩) hS.2.2 dX12_sign_22
  · have f_3 := E_nle (rfl : msize.toInt = _) (rfl : p0.toInt = _) c_1
    refine lv_aload_n hx hb dX12_sign_8 rfl (lv_at hl 0 rfl) ?_
    refine va_get (D := g.1) (ci := 12) (v := .ref mtext) (C := RX12) (T := TX12) (N := 87) hx hb hT inF_X12 hown hK.1 hP 0 rfl rfl 1 (by decide) (hT _ bw_1134) (fun _ h9 => h9) rfl dX12_sign_9 ?_
    refine lv_iload_n hx hb dX12_sign_12 rfl (lv_at hl 1 rfl) ?_
    have h_4 : vp_in p0 1600 := vp_in_iff.mpr (by omega)
    refine va_bald hx hb hK.1 hP 1 0 rfl rfl (i := p0) h_4 dX12_sign_13 ?_
    refine lv_topi (fun x_5 ex_5 => ?_)
    have ux_5 := congrArg Int32.toInt ex_5
    refine lv_sipush (v := 255) hx hb dX12_sign_14 (by decide) ?_
    refine lv_iand hx hb dX12_sign_17 ?_
    refine lv_topi (fun x_6 ex_6 => ?_)
    have fx_6 : 0 ≤ x_6.toInt ∧ x_6.toInt ≤ 255 := by rw [ex_6]; exact I_and (by decide) (by decide)
    refine lv_goto (tgt := 22) hx hb dX12_sign_18 (by decide) ?_
    have hP9 : va_P g.1 vwCl [] H := hP.sub [] rfl
    have hD9 : va_D A [] := ⟨fun i j p q h => by simp at h, fun k q h => by simp at h⟩
    exact W.iret (v := x_6) hx hb hr (fun t ht hW => ⟨⟨x_6, (), rfl, ⟨(by first | with_reducible assumption | omega), (by unfold sg; rw [if_pos (L_lt rfl rfl (by omega)), ex_6, ex_5]), (by omega)⟩, by rw [ht]; exact hP9, by rw [hAe]; exact hD9⟩, hS.F ht⟩) hS.2.2 dX12_sign_22

theorem bw_1136 : Cond.constantLong RX12 188 (7168366) ∈ gT := gT_tb 1585 (by decide +kernel) (by decide +kernel)
theorem bw_1137 : Cond.constantLong RX12 190 (1684628851) ∈ gT := gT_tb 1586 (by decide +kernel) (by decide +kernel)
theorem bw_1138 : Cond.constantLong RX12 192 (1668245870) ∈ gT := gT_tb 1587 (by decide +kernel) (by decide +kernel)
theorem bw_1139 : Cond.constantLong RX12 194 (7565166) ∈ gT := gT_tb 1588 (by decide +kernel) (by decide +kernel)
theorem bw_1140 : Cond.constantLong RX12 196 (1802071652) ∈ gT := gT_tb 1589 (by decide +kernel) (by decide +kernel)
theorem bw_1141 : Cond.constantLong RX12 198 (125779752218478) ∈ gT := gT_tb 1590 (by decide +kernel) (by decide +kernel)
theorem bw_1142 : Cond.constantLong RX12 200 (28518) ∈ gT := gT_tb 1591 (by decide +kernel) (by decide +kernel)
theorem bw_1143 : Cond.constantLong RX12 202 (25209) ∈ gT := gT_tb 1592 (by decide +kernel) (by decide +kernel)
theorem bw_1144 : Cond.constantLong RX12 204 (1718775661) ∈ gT := gT_tb 1593 (by decide +kernel) (by decide +kernel)
theorem bw_1145 : Cond.constantLong RX12 206 (29807) ∈ gT := gT_tb 1594 (by decide +kernel) (by decide +kernel)
theorem bw_1146 : Cond.constantLong RX12 208 (1919250036) ∈ gT := gT_tb 1595 (by decide +kernel) (by decide +kernel)
theorem bw_1147 : Cond.constantLong RX12 210 (6384748) ∈ gT := gT_tb 1596 (by decide +kernel) (by decide +kernel)
theorem bw_1148 : Cond.constantLong RX12 212 (1700881256) ∈ gT := gT_tb 1597 (by decide +kernel) (by decide +kernel)
theorem bw_1149 : Cond.constantLong RX12 214 (1685415276) ∈ gT := gT_tb 1598 (by decide +kernel) (by decide +kernel)
theorem bw_1150 : Cond.constantLong RX12 216 (2003399784) ∈ gT := gT_tb 1599 (by decide +kernel) (by decide +kernel)
theorem bw_1151 : Cond.constantLong RX12 218 (28526) ∈ gT := gT_tb 1600 (by decide +kernel) (by decide +kernel)
theorem bw_1152 : Cond.constantLong RX12 220 (114827803456882) ∈ gT := gT_tb 1601 (by decide +kernel) (by decide +kernel)
theorem bw_1153 : Cond.constantLong RX12 222 (1685217655) ∈ gT := gT_tb 1602 (by decide +kernel) (by decide +kernel)
theorem bw_1154 : Cond.constantLong RX12 224 (6578553) ∈ gT := gT_tb 1603 (by decide +kernel) (by decide +kernel)
theorem bw_1155 : Cond.constantLong RX12 226 (1970496883) ∈ gT := gT_tb 1604 (by decide +kernel) (by decide +kernel)
theorem bw_1156 : Cond.constantLong RX12 228 (495806934644) ∈ gT := gT_tb 1605 (by decide +kernel) (by decide +kernel)
theorem bw_1157 : Cond.constantLong RX12 230 (28530) ∈ gT := gT_tb 1606 (by decide +kernel) (by decide +kernel)
theorem bw_1158 : Cond.constantLong RX12 232 (6385252) ∈ gT := gT_tb 1607 (by decide +kernel) (by decide +kernel)
theorem bw_1159 : Cond.constantLong RX12 234 (7237492) ∈ gT := gT_tb 1608 (by decide +kernel) (by decide +kernel)
theorem bw_1160 : Cond.code yX12_isKept cX12_isKept 3 (some .boolean) ∈ gT := gT_tb 1584 (by decide +kernel) (by decide +kernel)
theorem dX12_isKept_0 : decode cX12_isKept 0 = .ok (.lload_n 0, 1) := by decide +kernel
theorem dX12_isKept_1 : decode cX12_isKept 1 = .ok (.ldc2_w 188, 3) := by decide +kernel
theorem dX12_isKept_4 : decode cX12_isKept 4 = .ok (.lcmp, 1) := by decide +kernel
theorem dX12_isKept_5 : decode cX12_isKept 5 = .ok (.ifCond .eq 91, 3) := by decide +kernel
theorem dX12_isKept_8 : decode cX12_isKept 8 = .ok (.lload_n 0, 1) := by decide +kernel
theorem dX12_isKept_9 : decode cX12_isKept 9 = .ok (.ldc2_w 190, 3) := by decide +kernel
theorem dX12_isKept_12 : decode cX12_isKept 12 = .ok (.lcmp, 1) := by decide +kernel
theorem dX12_isKept_13 : decode cX12_isKept 13 = .ok (.ifCond .eq 83, 3) := by decide +kernel
theorem dX12_isKept_16 : decode cX12_isKept 16 = .ok (.lload_n 0, 1) := by decide +kernel
theorem dX12_isKept_17 : decode cX12_isKept 17 = .ok (.ldc2_w 192, 3) := by decide +kernel
theorem dX12_isKept_20 : decode cX12_isKept 20 = .ok (.lcmp, 1) := by decide +kernel
theorem dX12_isKept_21 : decode cX12_isKept 21 = .ok (.ifCond .eq 75, 3) := by decide +kernel
theorem dX12_isKept_24 : decode cX12_isKept 24 = .ok (.lload_n 0, 1) := by decide +kernel
theorem dX12_isKept_25 : decode cX12_isKept 25 = .ok (.ldc2_w 194, 3) := by decide +kernel
theorem dX12_isKept_28 : decode cX12_isKept 28 = .ok (.lcmp, 1) := by decide +kernel
theorem dX12_isKept_29 : decode cX12_isKept 29 = .ok (.ifCond .eq 67, 3) := by decide +kernel
theorem dX12_isKept_32 : decode cX12_isKept 32 = .ok (.lload_n 0, 1) := by decide +kernel
theorem dX12_isKept_33 : decode cX12_isKept 33 = .ok (.ldc2_w 196, 3) := by decide +kernel
theorem dX12_isKept_36 : decode cX12_isKept 36 = .ok (.lcmp, 1) := by decide +kernel
theorem dX12_isKept_37 : decode cX12_isKept 37 = .ok (.ifCond .eq 59, 3) := by decide +kernel
theorem dX12_isKept_40 : decode cX12_isKept 40 = .ok (.lload_n 0, 1) := by decide +kernel
theorem dX12_isKept_41 : decode cX12_isKept 41 = .ok (.ldc2_w 198, 3) := by decide +kernel
theorem dX12_isKept_44 : decode cX12_isKept 44 = .ok (.lcmp, 1) := by decide +kernel
theorem dX12_isKept_45 : decode cX12_isKept 45 = .ok (.ifCond .eq 51, 3) := by decide +kernel
theorem dX12_isKept_48 : decode cX12_isKept 48 = .ok (.lload_n 0, 1) := by decide +kernel
theorem dX12_isKept_49 : decode cX12_isKept 49 = .ok (.ldc2_w 200, 3) := by decide +kernel
theorem dX12_isKept_52 : decode cX12_isKept 52 = .ok (.lcmp, 1) := by decide +kernel
theorem dX12_isKept_53 : decode cX12_isKept 53 = .ok (.ifCond .eq 43, 3) := by decide +kernel
theorem dX12_isKept_56 : decode cX12_isKept 56 = .ok (.lload_n 0, 1) := by decide +kernel
theorem dX12_isKept_57 : decode cX12_isKept 57 = .ok (.ldc2_w 202, 3) := by decide +kernel
theorem dX12_isKept_60 : decode cX12_isKept 60 = .ok (.lcmp, 1) := by decide +kernel
theorem dX12_isKept_61 : decode cX12_isKept 61 = .ok (.ifCond .eq 35, 3) := by decide +kernel
theorem dX12_isKept_64 : decode cX12_isKept 64 = .ok (.lload_n 0, 1) := by decide +kernel
theorem dX12_isKept_65 : decode cX12_isKept 65 = .ok (.ldc2_w 204, 3) := by decide +kernel
theorem dX12_isKept_68 : decode cX12_isKept 68 = .ok (.lcmp, 1) := by decide +kernel
theorem dX12_isKept_69 : decode cX12_isKept 69 = .ok (.ifCond .eq 27, 3) := by decide +kernel
theorem dX12_isKept_72 : decode cX12_isKept 72 = .ok (.lload_n 0, 1) := by decide +kernel
theorem dX12_isKept_73 : decode cX12_isKept 73 = .ok (.ldc2_w 206, 3) := by decide +kernel
theorem dX12_isKept_76 : decode cX12_isKept 76 = .ok (.lcmp, 1) := by decide +kernel
theorem dX12_isKept_77 : decode cX12_isKept 77 = .ok (.ifCond .eq 19, 3) := by decide +kernel
theorem dX12_isKept_80 : decode cX12_isKept 80 = .ok (.lload_n 0, 1) := by decide +kernel
theorem dX12_isKept_81 : decode cX12_isKept 81 = .ok (.ldc2_w 208, 3) := by decide +kernel
theorem dX12_isKept_84 : decode cX12_isKept 84 = .ok (.lcmp, 1) := by decide +kernel
theorem dX12_isKept_85 : decode cX12_isKept 85 = .ok (.ifCond .eq 11, 3) := by decide +kernel
theorem dX12_isKept_88 : decode cX12_isKept 88 = .ok (.lload_n 0, 1) := by decide +kernel
theorem dX12_isKept_89 : decode cX12_isKept 89 = .ok (.ldc2_w 210, 3) := by decide +kernel
theorem dX12_isKept_92 : decode cX12_isKept 92 = .ok (.lcmp, 1) := by decide +kernel
theorem dX12_isKept_93 : decode cX12_isKept 93 = .ok (.ifCond .ne 7, 3) := by decide +kernel
theorem dX12_isKept_96 : decode cX12_isKept 96 = .ok (.iconst 1, 1) := by decide +kernel
theorem dX12_isKept_97 : decode cX12_isKept 97 = .ok (.goto 4, 3) := by decide +kernel
theorem dX12_isKept_100 : decode cX12_isKept 100 = .ok (.iconst 0, 1) := by decide +kernel
theorem dX12_isKept_101 : decode cX12_isKept 101 = .ok (.istore_n 2, 1) := by decide +kernel
theorem dX12_isKept_102 : decode cX12_isKept 102 = .ok (.iload_n 2, 1) := by decide +kernel
theorem dX12_isKept_103 : decode cX12_isKept 103 = .ok (.ifCond .ne 99, 3) := by decide +kernel
theorem dX12_isKept_106 : decode cX12_isKept 106 = .ok (.lload_n 0, 1) := by decide +kernel
theorem dX12_isKept_107 : decode cX12_isKept 107 = .ok (.ldc2_w 212, 3) := by decide +kernel
theorem dX12_isKept_110 : decode cX12_isKept 110 = .ok (.lcmp, 1) := by decide +kernel
theorem dX12_isKept_111 : decode cX12_isKept 111 = .ok (.ifCond .eq 91, 3) := by decide +kernel
theorem dX12_isKept_114 : decode cX12_isKept 114 = .ok (.lload_n 0, 1) := by decide +kernel
theorem dX12_isKept_115 : decode cX12_isKept 115 = .ok (.ldc2_w 214, 3) := by decide +kernel
theorem dX12_isKept_118 : decode cX12_isKept 118 = .ok (.lcmp, 1) := by decide +kernel
theorem dX12_isKept_119 : decode cX12_isKept 119 = .ok (.ifCond .eq 83, 3) := by decide +kernel
theorem dX12_isKept_122 : decode cX12_isKept 122 = .ok (.lload_n 0, 1) := by decide +kernel
theorem dX12_isKept_123 : decode cX12_isKept 123 = .ok (.ldc2_w 216, 3) := by decide +kernel
theorem dX12_isKept_126 : decode cX12_isKept 126 = .ok (.lcmp, 1) := by decide +kernel
theorem dX12_isKept_127 : decode cX12_isKept 127 = .ok (.ifCond .eq 75, 3) := by decide +kernel
theorem dX12_isKept_130 : decode cX12_isKept 130 = .ok (.lload_n 0, 1) := by decide +kernel
theorem dX12_isKept_131 : decode cX12_isKept 131 = .ok (.ldc2_w 218, 3) := by decide +kernel
theorem dX12_isKept_134 : decode cX12_isKept 134 = .ok (.lcmp, 1) := by decide +kernel
theorem dX12_isKept_135 : decode cX12_isKept 135 = .ok (.ifCond .eq 67, 3) := by decide +kernel
theorem dX12_isKept_138 : decode cX12_isKept 138 = .ok (.lload_n 0, 1) := by decide +kernel
theorem dX12_isKept_139 : decode cX12_isKept 139 = .ok (.ldc2_w 220, 3) := by decide +kernel
theorem dX12_isKept_142 : decode cX12_isKept 142 = .ok (.lcmp, 1) := by decide +kernel
theorem dX12_isKept_143 : decode cX12_isKept 143 = .ok (.ifCond .eq 59, 3) := by decide +kernel
theorem dX12_isKept_146 : decode cX12_isKept 146 = .ok (.lload_n 0, 1) := by decide +kernel
theorem dX12_isKept_147 : decode cX12_isKept 147 = .ok (.ldc2_w 222, 3) := by decide +kernel
theorem dX12_isKept_150 : decode cX12_isKept 150 = .ok (.lcmp, 1) := by decide +kernel
theorem dX12_isKept_151 : decode cX12_isKept 151 = .ok (.ifCond .eq 51, 3) := by decide +kernel
theorem dX12_isKept_154 : decode cX12_isKept 154 = .ok (.lload_n 0, 1) := by decide +kernel
theorem dX12_isKept_155 : decode cX12_isKept 155 = .ok (.ldc2_w 224, 3) := by decide +kernel
theorem dX12_isKept_158 : decode cX12_isKept 158 = .ok (.lcmp, 1) := by decide +kernel
theorem dX12_isKept_159 : decode cX12_isKept 159 = .ok (.ifCond .eq 43, 3) := by decide +kernel
theorem dX12_isKept_162 : decode cX12_isKept 162 = .ok (.lload_n 0, 1) := by decide +kernel
theorem dX12_isKept_163 : decode cX12_isKept 163 = .ok (.ldc2_w 226, 3) := by decide +kernel
theorem dX12_isKept_166 : decode cX12_isKept 166 = .ok (.lcmp, 1) := by decide +kernel
theorem dX12_isKept_167 : decode cX12_isKept 167 = .ok (.ifCond .eq 35, 3) := by decide +kernel
theorem dX12_isKept_170 : decode cX12_isKept 170 = .ok (.lload_n 0, 1) := by decide +kernel
theorem dX12_isKept_171 : decode cX12_isKept 171 = .ok (.ldc2_w 228, 3) := by decide +kernel
theorem dX12_isKept_174 : decode cX12_isKept 174 = .ok (.lcmp, 1) := by decide +kernel
theorem dX12_isKept_175 : decode cX12_isKept 175 = .ok (.ifCond .eq 27, 3) := by decide +kernel
theorem dX12_isKept_178 : decode cX12_isKept 178 = .ok (.lload_n 0, 1) := by decide +kernel
theorem dX12_isKept_179 : decode cX12_isKept 179 = .ok (.ldc2_w 230, 3) := by decide +kernel
theorem dX12_isKept_182 : decode cX12_isKept 182 = .ok (.lcmp, 1) := by decide +kernel
theorem dX12_isKept_183 : decode cX12_isKept 183 = .ok (.ifCond .eq 19, 3) := by decide +kernel
theorem dX12_isKept_186 : decode cX12_isKept 186 = .ok (.lload_n 0, 1) := by decide +kernel
theorem dX12_isKept_187 : decode cX12_isKept 187 = .ok (.ldc2_w 232, 3) := by decide +kernel
theorem dX12_isKept_190 : decode cX12_isKept 190 = .ok (.lcmp, 1) := by decide +kernel
theorem dX12_isKept_191 : decode cX12_isKept 191 = .ok (.ifCond .eq 11, 3) := by decide +kernel
theorem dX12_isKept_194 : decode cX12_isKept 194 = .ok (.lload_n 0, 1) := by decide +kernel
theorem dX12_isKept_195 : decode cX12_isKept 195 = .ok (.ldc2_w 234, 3) := by decide +kernel
theorem dX12_isKept_198 : decode cX12_isKept 198 = .ok (.lcmp, 1) := by decide +kernel
theorem dX12_isKept_199 : decode cX12_isKept 199 = .ok (.ifCond .ne 7, 3) := by decide +kernel
theorem dX12_isKept_202 : decode cX12_isKept 202 = .ok (.iconst 1, 1) := by decide +kernel
theorem dX12_isKept_203 : decode cX12_isKept 203 = .ok (.goto 4, 3) := by decide +kernel
theorem dX12_isKept_206 : decode cX12_isKept 206 = .ok (.iconst 0, 1) := by decide +kernel
theorem dX12_isKept_207 : decode cX12_isKept 207 = .ok (.ireturn, 1) := by decide +kernel
set_option maxHeartbeats 40000000 in
set_option maxRecDepth 100000 in
theorem s_X12_isKept (l : Launch) (g : GG) (sz : Nat) (z9 : Int64) : Met l yX12_isKept (.code yX12_isKept cX12_isKept 3 (some .boolean) :: gT) ({ frames := 0, cells := 0, slots := 0, locals := 0 }) (va_Pc [.long z9] (Pst g sz [] nX)) (va_Qi (fun (r : Int32) => fun (_ : Unit) => 0 ≤ r.toInt ∧ r.toInt ≤ 1) (Qst g [] sz (fun _ => [])) (va_A [] sz)) 0 0 (va_A [] sz) := by
  refine Met.ofW (cc := cX12_isKept) (maxL := 3) (ret := (some .boolean)) (by decide) rfl ?_
  intro p e s m args below meth c s₁ B hml hv
  obtain ⟨rfl, hsz, hP, hK, hD0, hX⟩ := hv
  have hx := B.exec
  have hb := B.bytes
  have hr := B.returns
  have hT : ∀ w ∈ gT, w.before _ s = true := fun w h => atoms_spec (ws := .code yX12_isKept cX12_isKept 3 (some .boolean) :: gT) B.pre w (List.mem_cons_of_mem _ h)
  have hown : s.vm.findClass RX12 = some m.cls := findClass_of_methodNamed B.named
  have hlocks := B.notSynchronized
  subst hsz
  have hD := hD0
  generalize hAe : va_A [] s.heap.size = A at ⊢
  have hA : ∀ q : Nat, s.heap.size ≤ q → A q := fun q h => by rw [← hAe]; exact Or.inr h
  have hS : va_S A s.heap s.heap [] := va_S.rf
  have hl := lv_entry ([.long z9]) (n := 3) (Nat.le_of_ble_eq_true rfl)
  rw [lg_entry_eq]
  generalize (lg_sl ([.long z9]) ++ List.replicate (3 - (lg_sl ([.long z9])).length) Slot.unset).toArray = ls at hl ⊢
  have hl : lv_has ls 3 [(0, .long z9)] := hl
  refine p_nH (fun H hH => ?_)
  have hP : va_P g.1 vwCl [] H := by rw [hH]; exact hP
  have hS : va_S A s.heap H [] := by rw [hH]; exact hS
  refine lv_lload_n hx hb dX12_isKept_0 rfl (lv_at hl 0 rfl) ?_
  refine lv_ldc2 (v := 7168366) hx hb hown (hT _ bw_1136) dX12_isKept_1 ?_
  refine W.lcmp hx hb dX12_isKept_4 ?_
  refine lv_topi (fun x_1 ex_1 => ?_)
  refine lv_if_eq (tgt := 96) hx hb dX12_isKept_5 (by decide) (fun c_2 => ?_) (fun c_2 => ?_)
  · have f_3 := E_eq (rfl : x_1.toInt = _) (by decide : (0 : Int32).toInt = 0) c_2
    refine lv_iconst (v := 1) hx hb dX12_isKept_96 (by decide) ?_
    refine lv_goto (tgt := 101) hx hb dX12_isKept_97 (by decide) ?_
    refine lv_istore_n (lv' := [(2, .int 1), (0, .long z9)]) hx hb dX12_isKept_101 rfl hl (by decide) rfl (fun ls hl => ?_)
    refine lv_iload_n hx hb dX12_isKept_102 rfl (lv_at hl 0 rfl) ?_
    refine lv_if_ne (tgt := 202) hx hb dX12_isKept_103 (by decide) (fun _ => ?_) (fun c9 => absurd c9 (by decide))
    refine lv_iconst (v := 1) hx hb dX12_isKept_202 (by decide) ?_
    refine lv_goto (tgt := 207) hx hb dX12_isKept_203 (by decide) ?_
    have hP9 : va_P g.1 vwCl [] H := hP.sub [] rfl
    have hD9 : va_D A [] := ⟨fun i j p q h => by simp at h, fun k q h => by simp at h⟩
    exact W.zret (v := 1) (ty := .boolean) hx hb hr rfl (fun t ht hW => ⟨⟨1, (), rfl, ⟨by decide, by decide⟩, by rw [ht]; exact hP9, by rw [hAe]; exact hD9⟩, hS.F ht⟩) hS.2.2 dX12_isKept_207
  · have f_4 := E_ne (rfl : x_1.toInt = _) (by decide : (0 : Int32).toInt = 0) c_2
    refine lv_lload_n hx hb dX12_isKept_8 rfl (lv_at hl 0 rfl) ?_
    refine lv_ldc2 (v := 1684628851) hx hb hown (hT _ bw_1137) dX12_isKept_9 ?_
    refine W.lcmp hx hb dX12_isKept_12 ?_
    refine lv_topi (fun x_5 ex_5 => ?_)
    refine lv_if_eq (tgt := 96) hx hb dX12_isKept_13 (by decide) (fun c_6 => ?_) (fun c_6 => ?_)
    · have f_7 := E_eq (rfl : x_5.toInt = _) (by decide : (0 : Int32).toInt = 0) c_6
      refine lv_iconst (v := 1) hx hb dX12_isKept_96 (by decide) ?_
      refine lv_goto (tgt := 101) hx hb dX12_isKept_97 (by decide) ?_
      refine lv_istore_n (lv' := [(2, .int 1), (0, .long z9)]) hx hb dX12_isKept_101 rfl hl (by decide) rfl (fun ls hl => ?_)
      refine lv_iload_n hx hb dX12_isKept_102 rfl (lv_at hl 0 rfl) ?_
      refine lv_if_ne (tgt := 202) hx hb dX12_isKept_103 (by decide) (fun _ => ?_) (fun c9 => absurd c9 (by decide))
      refine lv_iconst (v := 1) hx hb dX12_isKept_202 (by decide) ?_
      refine lv_goto (tgt := 207) hx hb dX12_isKept_203 (by decide) ?_
      have hP9 : va_P g.1 vwCl [] H := hP.sub [] rfl
      have hD9 : va_D A [] := ⟨fun i j p q h => by simp at h, fun k q h => by simp at h⟩
      exact W.zret (v := 1) (ty := .boolean) hx hb hr rfl (fun t ht hW => ⟨⟨1, (), rfl, ⟨by decide, by decide⟩, by rw [ht]; exact hP9, by rw [hAe]; exact hD9⟩, hS.F ht⟩) hS.2.2 dX12_isKept_207
    · have f_8 := E_ne (rfl : x_5.toInt = _) (by decide : (0 : Int32).toInt = 0) c_6
      refine lv_lload_n hx hb dX12_isKept_16 rfl (lv_at hl 0 rfl) ?_
      refine lv_ldc2 (v := 1668245870) hx hb hown (hT _ bw_1138) dX12_isKept_17 ?_
      refine W.lcmp hx hb dX12_isKept_20 ?_
      refine lv_topi (fun x_9 ex_9 => ?_)
      refine lv_if_eq (tgt := 96) hx hb dX12_isKept_21 (by decide) (fun c_10 => ?_) (fun c_10 => ?_)
      · have f_11 := E_eq (rfl : x_9.toInt = _) (by decide : (0 : Int32).toInt = 0) c_10
        refine lv_iconst (v := 1) hx hb dX12_isKept_96 (by decide) ?_
        refine lv_goto (tgt := 101) hx hb dX12_isKept_97 (by decide) ?_
        refine lv_istore_n (lv' := [(2, .int 1), (0, .long z9)]) hx hb dX12_isKept_101 rfl hl (by decide) rfl (fun ls hl => ?_)
        refine lv_iload_n hx hb dX12_isKept_102 rfl (lv_at hl 0 rfl) ?_
        refine lv_if_ne (tgt := 202) hx hb dX12_isKept_103 (by decide) (fun _ => ?_) (fun c9 => absurd c9 (by decide))
        refine lv_iconst (v := 1) hx hb dX12_isKept_202 (by decide) ?_
        refine lv_goto (tgt := 207) hx hb dX12_isKept_203 (by decide) ?_
        have hP9 : va_P g.1 vwCl [] H := hP.sub [] rfl
        have hD9 : va_D A [] := ⟨fun i j p q h => by simp at h, fun k q h => by simp at h⟩
        exact W.zret (v := 1) (ty := .boolean) hx hb hr rfl (fun t ht hW => ⟨⟨1, (), rfl, ⟨by decide, by decide⟩, by rw [ht]; exact hP9, by rw [hAe]; exact hD9⟩, hS.F ht⟩) hS.2.2 dX12_isKept_207
      · have f_12 := E_ne (rfl : x_9.toInt = _) (by decide : (0 : Int32).toInt = 0) c_10
        refine lv_lload_n hx hb dX12_isKept_24 rfl (lv_at hl 0 rfl) ?_
        refine lv_ldc2 (v := 7565166) hx hb hown (hT _ bw_1139) dX12_isKept_25 ?_
        refine W.lcmp hx hb dX12_isKept_28 ?_
        refine lv_topi (fun x_13 ex_13 => ?_)
        refine lv_if_eq (tgt := 96) hx hb dX12_isKept_29 (by decide) (fun c_14 => ?_) (fun c_14 => ?_)
        · have f_15 := E_eq (rfl : x_13.toInt = _) (by decide : (0 : Int32).toInt = 0) c_14
          refine lv_iconst (v := 1) hx hb dX12_isKept_96 (by decide) ?_
          refine lv_goto (tgt := 101) hx hb dX12_isKept_97 (by decide) ?_
          refine lv_istore_n (lv' := [(2, .int 1), (0, .long z9)]) hx hb dX12_isKept_101 rfl hl (by decide) rfl (fun ls hl => ?_)
          refine lv_iload_n hx hb dX12_isKept_102 rfl (lv_at hl 0 rfl) ?_
          refine lv_if_ne (tgt := 202) hx hb dX12_isKept_103 (by decide) (fun _ => ?_) (fun c9 => absurd c9 (by decide))
          refine lv_iconst (v := 1) hx hb dX12_isKept_202 (by decide) ?_
          refine lv_goto (tgt := 207) hx hb dX12_isKept_203 (by decide) ?_
          have hP9 : va_P g.1 vwCl [] H := hP.sub [] rfl
          have hD9 : va_D A [] := ⟨fun i j p q h => by simp at h, fun k q h => by simp at h⟩
          exact W.zret (v := 1) (ty := .boolean) hx hb hr rfl (fun t ht hW => ⟨⟨1, (), rfl, ⟨by decide, by decide⟩, by rw [ht]; exact hP9, by rw [hAe]; exact hD9⟩, hS.F ht⟩) hS.2.2 dX12_isKept_207
        · have f_16 := E_ne (rfl : x_13.toInt = _) (by decide : (0 : Int32).toInt = 0) c_14
          refine lv_lload_n hx hb dX12_isKept_32 rfl (lv_at hl 0 rfl) ?_
          refine lv_ldc2 (v := 1802071652) hx hb hown (hT _ bw_1140) dX12_isKept_33 ?_
          refine W.lcmp hx hb dX12_isKept_36 ?_
          refine lv_topi (fun x_17 ex_17 => ?_)
          refine lv_if_eq (tgt := 96) hx hb dX12_isKept_37 (by decide) (fun c_18 => ?_) (fun c_18 => ?_)
          · have f_19 := E_eq (rfl : x_17.toInt = _) (by decide : (0 : Int32).toInt = 0) c_18
            refine lv_iconst (v := 1) hx hb dX12_isKept_96 (by decide) ?_
            refine lv_goto (tgt := 101) hx hb dX12_isKept_97 (by decide) ?_
            refine lv_istore_n (lv' := [(2, .int 1), (0, .long z9)]) hx hb dX12_isKept_101 rfl hl (by decide) rfl (fun ls hl => ?_)
            refine lv_iload_n hx hb dX12_isKept_102 rfl (lv_at hl 0 rfl) ?_
            refine lv_if_ne (tgt := 202) hx hb dX12_isKept_103 (by decide) (fun _ => ?_) (fun c9 => absurd c9 (by decide))
            refine lv_iconst (v := 1) hx hb dX12_isKept_202 (by decide) ?_
            refine lv_goto (tgt := 207) hx hb dX12_isKept_203 (by decide) ?_
            have hP9 : va_P g.1 vwCl [] H := hP.sub [] rfl
            have hD9 : va_D A [] := ⟨fun i j p q h => by simp at h, fun k q h => by simp at h⟩
            exact W.zret (v := 1) (ty := .boolean) hx hb hr rfl (fun t ht hW => ⟨⟨1, (), rfl, ⟨by decide, by decide⟩, by rw [ht]; exact hP9, by rw [hAe]; exact hD9⟩, hS.F ht⟩) hS.2.2 dX12_isKept_207
          · have f_20 := E_ne (rfl : x_17.toInt = _) (by decide : (0 : Int32).toInt = 0) c_18
            refine lv_lload_n hx hb dX12_isKept_40 rfl (lv_at hl 0 rfl) ?_
            refine lv_ldc2 (v := 125779752218478) hx hb hown (hT _ bw_1141) dX12_isKept_41 ?_
            refine W.lcmp hx hb dX12_isKept_44 ?_
            refine lv_topi (fun x_21 ex_21 => ?_)
            refine lv_if_eq (tgt := 96) hx hb dX12_isKept_45 (by decide) (fun c_22 => ?_) (fun c_22 => ?_)
            · have f_23 := E_eq (rfl : x_21.toInt = _) (by decide : (0 : Int32).toInt = 0) c_22
              refine lv_iconst (v := 1) hx hb dX12_isKept_96 (by decide) ?_
              refine lv_goto (tgt := 101) hx hb dX12_isKept_97 (by decide) ?_
              refine lv_istore_n (lv' := [(2, .int 1), (0, .long z9)]) hx hb dX12_isKept_101 rfl hl (by decide) rfl (fun ls hl => ?_)
              refine lv_iload_n hx hb dX12_isKept_102 rfl (lv_at hl 0 rfl) ?_
              refine lv_if_ne (tgt := 202) hx hb dX12_isKept_103 (by decide) (fun _ => ?_) (fun c9 => absurd c9 (by decide))
              refine lv_iconst (v := 1) hx hb dX12_isKept_202 (by decide) ?_
              refine lv_goto (tgt := 207) hx hb dX12_isKept_203 (by decide) ?_
              have hP9 : va_P g.1 vwCl [] H := hP.sub [] rfl
              have hD9 : va_D A [] := ⟨fun i j p q h => by simp at h, fun k q h => by simp at h⟩
              exact W.zret (v := 1) (ty := .boolean) hx hb hr rfl (fun t ht hW => ⟨⟨1, (), rfl, ⟨by decide, by decide⟩, by rw [ht]; exact hP9, by rw [hAe]; exact hD9⟩, hS.F ht⟩) hS.2.2 dX12_isKept_207
            · have f_24 := E_ne (rfl : x_21.toInt = _) (by decide : (0 : Int32).toInt = 0) c_22
              refine lv_lload_n hx hb dX12_isKept_48 rfl (lv_at hl 0 rfl) ?_
              refine lv_ldc2 (v := 28518) hx hb hown (hT _ bw_1142) dX12_isKept_49 ?_
              refine W.lcmp hx hb dX12_isKept_52 ?_
              refine lv_topi (fun x_25 ex_25 => ?_)
              refine lv_if_eq (tgt := 96) hx hb dX12_isKept_53 (by decide) (fun c_26 => ?_) (fun c_26 => ?_)
              · have f_27 := E_eq (rfl : x_25.toInt = _) (by decide : (0 : Int32).toInt = 0) c_26
                refine lv_iconst (v := 1) hx hb dX12_isKept_96 (by decide) ?_
                refine lv_goto (tgt := 101) hx hb dX12_isKept_97 (by decide) ?_
                refine lv_istore_n (lv' := [(2, .int 1), (0, .long z9)]) hx hb dX12_isKept_101 rfl hl (by decide) rfl (fun ls hl => ?_)
                refine lv_iload_n hx hb dX12_isKept_102 rfl (lv_at hl 0 rfl) ?_
                refine lv_if_ne (tgt := 202) hx hb dX12_isKept_103 (by decide) (fun _ => ?_) (fun c9 => absurd c9 (by decide))
                refine lv_iconst (v := 1) hx hb dX12_isKept_202 (by decide) ?_
                refine lv_goto (tgt := 207) hx hb dX12_isKept_203 (by decide) ?_
                have hP9 : va_P g.1 vwCl [] H := hP.sub [] rfl
                have hD9 : va_D A [] := ⟨fun i j p q h => by simp at h, fun k q h => by simp at h⟩
                exact W.zret (v := 1) (ty := .boolean) hx hb hr rfl (fun t ht hW => ⟨⟨1, (), rfl, ⟨by decide, by decide⟩, by rw [ht]; exact hP9, by rw [hAe]; exact hD9⟩, hS.F ht⟩) hS.2.2 dX12_isKept_207
              · have f_28 := E_ne (rfl : x_25.toInt = _) (by decide : (0 : Int32).toInt = 0) c_26
                refine lv_lload_n hx hb dX12_isKept_56 rfl (lv_at hl 0 rfl) ?_
                refine lv_ldc2 (v := 25209) hx hb hown (hT _ bw_1143) dX12_isKept_57 ?_
                refine W.lcmp hx hb dX12_isKept_60 ?_
                refine lv_topi (fun x_29 ex_29 => ?_)
                refine lv_if_eq (tgt := 96) hx hb dX12_isKept_61 (by decide) (fun c_30 => ?_) (fun c_30 => ?_)
                · have f_31 := E_eq (rfl : x_29.toInt = _) (by decide : (0 : Int32).toInt = 0) c_30
                  refine lv_iconst (v := 1) hx hb dX12_isKept_96 (by decide) ?_
                  refine lv_goto (tgt := 101) hx hb dX12_isKept_97 (by decide) ?_
                  refine lv_istore_n (lv' := [(2, .int 1), (0, .long z9)]) hx hb dX12_isKept_101 rfl hl (by decide) rfl (fun ls hl => ?_)
                  refine lv_iload_n hx hb dX12_isKept_102 rfl (lv_at hl 0 rfl) ?_
                  refine lv_if_ne (tgt := 202) hx hb dX12_isKept_103 (by decide) (fun _ => ?_) (fun c9 => absurd c9 (by decide))
                  refine lv_iconst (v := 1) hx hb dX12_isKept_202 (by decide) ?_
                  refine lv_goto (tgt := 207) hx hb dX12_isKept_203 (by decide) ?_
                  have hP9 : va_P g.1 vwCl [] H := hP.sub [] rfl
                  have hD9 : va_D A [] := ⟨fun i j p q h => by simp at h, fun k q h => by simp at h⟩
                  exact W.zret (v := 1) (ty := .boolean) hx hb hr rfl (fun t ht hW => ⟨⟨1, (), rfl, ⟨by decide, by decide⟩, by rw [ht]; exact hP9, by rw [hAe]; exact hD9⟩, hS.F ht⟩) hS.2.2 dX12_isKept_207
                · have f_32 := E_ne (rfl : x_29.toInt = _) (by decide : (0 : Int32).toInt = 0) c_30
                  refine lv_lload_n hx hb dX12_isKept_64 rfl (lv_at hl 0 rfl) ?_
                  refine lv_ldc2 (v := 1718775661) hx hb hown (hT _ bw_1144) dX12_isKept_65 ?_
                  refine W.lcmp hx hb dX12_isKept_68 ?_
                  refine lv_topi (fun x_33 ex_33 => ?_)
                  refine lv_if_eq (tgt := 96) hx hb dX12_isKept_69 (by decide) (fun c_34 => ?_) (fun c_34 => ?_)
                  · have f_35 := E_eq (rfl : x_33.toInt = _) (by decide : (0 : Int32).toInt = 0) c_34
                    refine lv_iconst (v := 1) hx hb dX12_isKept_96 (by decide) ?_
                    refine lv_goto (tgt := 101) hx hb dX12_isKept_97 (by decide) ?_
                    refine lv_istore_n (lv' := [(2, .int 1), (0, .long z9)]) hx hb dX12_isKept_101 rfl hl (by decide) rfl (fun ls hl => ?_)
                    refine lv_iload_n hx hb dX12_isKept_102 rfl (lv_at hl 0 rfl) ?_
                    refine lv_if_ne (tgt := 202) hx hb dX12_isKept_103 (by decide) (fun _ => ?_) (fun c9 => absurd c9 (by decide))
                    refine lv_iconst (v := 1) hx hb dX12_isKept_202 (by decide) ?_
                    refine lv_goto (tgt := 207) hx hb dX12_isKept_203 (by decide) ?_
                    have hP9 : va_P g.1 vwCl [] H := hP.sub [] rfl
                    have hD9 : va_D A [] := ⟨fun i j p q h => by simp at h, fun k q h => by simp at h⟩
                    exact W.zret (v := 1) (ty := .boolean) hx hb hr rfl (fun t ht hW => ⟨⟨1, (), rfl, ⟨by decide, by decide⟩, by rw [ht]; exact hP9, by rw [hAe]; exact hD9⟩, hS.F ht⟩) hS.2.2 dX12_isKept_207
                  · have f_36 := E_ne (rfl : x_33.toInt = _) (by decide : (0 : Int32).toInt = 0) c_34
                    refine lv_lload_n hx hb dX12_isKept_72 rfl (lv_at hl 0 rfl) ?_
                    refine lv_ldc2 (v := 29807) hx hb hown (hT _ bw_1145) dX12_isKept_73 ?_
                    refine W.lcmp hx hb dX12_isKept_76 ?_
                    refine lv_topi (fun x_37 ex_37 => ?_)
                    refine lv_if_eq (tgt := 96) hx hb dX12_isKept_77 (by decide) (fun c_38 => ?_) (fun c_38 => ?_)
                    · have f_39 := E_eq (rfl : x_37.toInt = _) (by decide : (0 : Int32).toInt = 0) c_38
                      refine lv_iconst (v := 1) hx hb dX12_isKept_96 (by decide) ?_
                      refine lv_goto (tgt := 101) hx hb dX12_isKept_97 (by decide) ?_
                      refine lv_istore_n (lv' := [(2, .int 1), (0, .long z9)]) hx hb dX12_isKept_101 rfl hl (by decide) rfl (fun ls hl => ?_)
                      refine lv_iload_n hx hb dX12_isKept_102 rfl (lv_at hl 0 rfl) ?_
                      refine lv_if_ne (tgt := 202) hx hb dX12_isKept_103 (by decide) (fun _ => ?_) (fun c9 => absurd c9 (by decide))
                      refine lv_iconst (v := 1) hx hb dX12_isKept_202 (by decide) ?_
                      refine lv_goto (tgt := 207) hx hb dX12_isKept_203 (by decide) ?_
                      have hP9 : va_P g.1 vwCl [] H := hP.sub [] rfl
                      have hD9 : va_D A [] := ⟨fun i j p q h => by simp at h, fun k q h => by simp at h⟩
                      exact W.zret (v := 1) (ty := .boolean) hx hb hr rfl (fun t ht hW => ⟨⟨1, (), rfl, ⟨by decide, by decide⟩, by rw [ht]; exact hP9, by rw [hAe]; exact hD9⟩, hS.F ht⟩) hS.2.2 dX12_isKept_207
                    · have f_40 := E_ne (rfl : x_37.toInt = _) (by decide : (0 : Int32).toInt = 0) c_38
                      refine lv_lload_n hx hb dX12_isKept_80 rfl (lv_at hl 0 rfl) ?_
                      refine lv_ldc2 (v := 1919250036) hx hb hown (hT _ bw_1146) dX12_isKept_81 ?_
                      refine W.lcmp hx hb dX12_isKept_84 ?_
                      refine lv_topi (fun x_41 ex_41 => ?_)
                      refine lv_if_eq (tgt := 96) hx hb dX12_isKept_85 (by decide) (fun c_42 => ?_) (fun c_42 => ?_)
                      · have f_43 := E_eq (rfl : x_41.toInt = _) (by decide : (0 : Int32).toInt = 0) c_42
                        refine lv_iconst (v := 1) hx hb dX12_isKept_96 (by decide) ?_
                        refine lv_goto (tgt := 101) hx hb dX12_isKept_97 (by decide) ?_
                        refine lv_istore_n (lv' := [(2, .int 1), (0, .long z9)]) hx hb dX12_isKept_101 rfl hl (by decide) rfl (fun ls hl => ?_)
                        refine lv_iload_n hx hb dX12_isKept_102 rfl (lv_at hl 0 rfl) ?_
                        refine lv_if_ne (tgt := 202) hx hb dX12_isKept_103 (by decide) (fun _ => ?_) (fun c9 => absurd c9 (by decide))
                        refine lv_iconst (v := 1) hx hb dX12_isKept_202 (by decide) ?_
                        refine lv_goto (tgt := 207) hx hb dX12_isKept_203 (by decide) ?_
                        have hP9 : va_P g.1 vwCl [] H := hP.sub [] rfl
                        have hD9 : va_D A [] := ⟨fun i j p q h => by simp at h, fun k q h => by simp at h⟩
                        exact W.zret (v := 1) (ty := .boolean) hx hb hr rfl (fun t ht hW => ⟨⟨1, (), rfl, ⟨by decide, by decide⟩, by rw [ht]; exact hP9, by rw [hAe]; exact hD9⟩, hS.F ht⟩) hS.2.2 dX12_isKept_207
                      · have f_44 := E_ne (rfl : x_41.toInt = _) (by decide : (0 : Int32).toInt = 0) c_42
                        refine lv_lload_n hx hb dX12_isKept_88 rfl (lv_at hl 0 rfl) ?_
                        refine lv_ldc2 (v := 6384748) hx hb hown (hT _ bw_1147) dX12_isKept_89 ?_
                        refine W.lcmp hx hb dX12_isKept_92 ?_
                        refine lv_topi (fun x_45 ex_45 => ?_)
                        refine lv_if_ne (tgt := 100) hx hb dX12_isKept_93 (by decide) (fun c_46 => ?_) (fun c_46 => ?_)
                        · have f_47 := E_ne (rfl : x_45.toInt = _) (by decide : (0 : Int32).toInt = 0) c_46
                          refine lv_iconst (v := 0) hx hb dX12_isKept_100 (by decide) ?_
                          refine lv_istore_n (lv' := [(2, .int 0), (0, .long z9)]) hx hb dX12_isKept_101 rfl hl (by decide) rfl (fun ls hl => ?_)
                          refine lv_iload_n hx hb dX12_isKept_102 rfl (lv_at hl 0 rfl) ?_
                          refine lv_if_ne (tgt := 202) hx hb dX12_isKept_103 (by decide) (fun c9 => absurd (by decide) c9) (fun _ => ?_)
                          refine lv_lload_n hx hb dX12_isKept_106 rfl (lv_at hl 1 rfl) ?_
                          refine lv_ldc2 (v := 1700881256) hx hb hown (hT _ bw_1148) dX12_isKept_107 ?_
                          refine W.lcmp hx hb dX12_isKept_110 ?_
                          refine lv_topi (fun x_48 ex_48 => ?_)
                          refine lv_if_eq (tgt := 202) hx hb dX12_isKept_111 (by decide) (fun c_49 => ?_) (fun c_49 => ?_)
                          · have f_50 := E_eq (rfl : x_48.toInt = _) (by decide : (0 : Int32).toInt = 0) c_49
                            refine lv_iconst (v := 1) hx hb dX12_isKept_202 (by decide) ?_
                            refine lv_goto (tgt := 207) hx hb dX12_isKept_203 (by decide) ?_
                            have hP9 : va_P g.1 vwCl [] H := hP.sub [] rfl
                            have hD9 : va_D A [] := ⟨fun i j p q h => by simp at h, fun k q h => by simp at h⟩
                            exact W.zret (v := 1) (ty := .boolean) hx hb hr rfl (fun t ht hW => ⟨⟨1, (), rfl, ⟨by decide, by decide⟩, by rw [ht]; exact hP9, by rw [hAe]; exact hD9⟩, hS.F ht⟩) hS.2.2 dX12_isKept_207
                          · have f_51 := E_ne (rfl : x_48.toInt = _) (by decide : (0 : Int32).toInt = 0) c_49
                            refine lv_lload_n hx hb dX12_isKept_114 rfl (lv_at hl 1 rfl) ?_
                            refine lv_ldc2 (v := 1685415276) hx hb hown (hT _ bw_1149) dX12_isKept_115 ?_
                            refine W.lcmp hx hb dX12_isKept_118 ?_
                            refine lv_topi (fun x_52 ex_52 => ?_)
                            refine lv_if_eq (tgt := 202) hx hb dX12_isKept_119 (by decide) (fun c_53 => ?_) (fun c_53 => ?_)
                            · have f_54 := E_eq (rfl : x_52.toInt = _) (by decide : (0 : Int32).toInt = 0) c_53
                              refine lv_iconst (v := 1) hx hb dX12_isKept_202 (by decide) ?_
                              refine lv_goto (tgt := 207) hx hb dX12_isKept_203 (by decide) ?_
                              have hP9 : va_P g.1 vwCl [] H := hP.sub [] rfl
                              have hD9 : va_D A [] := ⟨fun i j p q h => by simp at h, fun k q h => by simp at h⟩
                              exact W.zret (v := 1) (ty := .boolean) hx hb hr rfl (fun t ht hW => ⟨⟨1, (), rfl, ⟨by decide, by decide⟩, by rw [ht]; exact hP9, by rw [hAe]; exact hD9⟩, hS.F ht⟩) hS.2.2 dX12_isKept_207
                            · have f_55 := E_ne (rfl : x_52.toInt = _) (by decide : (0 : Int32).toInt = 0) c_53
                              refine lv_lload_n hx hb dX12_isKept_122 rfl (lv_at hl 1 rfl) ?_
                              refine lv_ldc2 (v := 2003399784) hx hb hown (hT _ bw_1150) dX12_isKept_123 ?_
                              refine W.lcmp hx hb dX12_isKept_126 ?_
                              refine lv_topi (fun x_56 ex_56 => ?_)
                              refine lv_if_eq (tgt := 202) hx hb dX12_isKept_127 (by decide) (fun c_57 => ?_) (fun c_57 => ?_)
                              · have f_58 := E_eq (rfl : x_56.toInt = _) (by decide : (0 : Int32).toInt = 0) c_57
                                refine lv_iconst (v := 1) hx hb dX12_isKept_202 (by decide) ?_
                                refine lv_goto (tgt := 207) hx hb dX12_isKept_203 (by decide) ?_
                                have hP9 : va_P g.1 vwCl [] H := hP.sub [] rfl
                                have hD9 : va_D A [] := ⟨fun i j p q h => by simp at h, fun k q h => by simp at h⟩
                                exact W.zret (v := 1) (ty := .boolean) hx hb hr rfl (fun t ht hW => ⟨⟨1, (), rfl, ⟨by decide, by decide⟩, by rw [ht]; exact hP9, by rw [hAe]; exact hD9⟩, hS.F ht⟩) hS.2.2 dX12_isKept_207
                              · have f_59 := E_ne (rfl : x_56.toInt = _) (by decide : (0 : Int32).toInt = 0) c_57
                                refine lv_lload_n hx hb dX12_isKept_130 rfl (lv_at hl 1 rfl) ?_
                                refine lv_ldc2 (v := 28526) hx hb hown (hT _ bw_1151) dX12_isKept_131 ?_
                                refine W.lcmp hx hb dX12_isKept_134 ?_
                                refine lv_topi (fun x_60 ex_60 => ?_)
                                refine lv_if_eq (tgt := 202) hx hb dX12_isKept_135 (by decide) (fun c_61 => ?_) (fun c_61 => ?_)
                                · have f_62 := E_eq (rfl : x_60.toInt = _) (by decide : (0 : Int32).toInt = 0) c_61
                                  refine lv_iconst (v := 1) hx hb dX12_isKept_202 (by decide) ?_
                                  refine lv_goto (tgt := 207) hx hb dX12_isKept_203 (by decide) ?_
                                  have hP9 : va_P g.1 vwCl [] H := hP.sub [] rfl
                                  have hD9 : va_D A [] := ⟨fun i j p q h => by simp at h, fun k q h => by simp at h⟩
                                  exact W.zret (v := 1) (ty := .boolean) hx hb hr rfl (fun t ht hW => ⟨⟨1, (), rfl, ⟨by decide, by decide⟩, by rw [ht]; exact hP9, by rw [hAe]; exact hD9⟩, hS.F ht⟩) hS.2.2 dX12_isKept_207
                                · have f_63 := E_ne (rfl : x_60.toInt = _) (by decide : (0 : Int32).toInt = 0) c_61
                                  refine lv_lload_n hx hb dX12_isKept_138 rfl (lv_at hl 1 rfl) ?_
                                  refine lv_ldc2 (v := 114827803456882) hx hb hown (hT _ bw_1152) dX12_isKept_139 ?_
                                  refine W.lcmp hx hb dX12_isKept_142 ?_
                                  refine lv_topi (fun x_64 ex_64 => ?_)
                                  refine lv_if_eq (tgt := 202) hx hb dX12_isKept_143 (by decide) (fun c_65 => ?_) (fun c_65 => ?_)
                                  · have f_66 := E_eq (rfl : x_64.toInt = _) (by decide : (0 : Int32).toInt = 0) c_65
                                    refine lv_iconst (v := 1) hx hb dX12_isKept_202 (by decide) ?_
                                    refine lv_goto (tgt := 207) hx hb dX12_isKept_203 (by decide) ?_
                                    have hP9 : va_P g.1 vwCl [] H := hP.sub [] rfl
                                    have hD9 : va_D A [] := ⟨fun i j p q h => by simp at h, fun k q h => by simp at h⟩
                                    exact W.zret (v := 1) (ty := .boolean) hx hb hr rfl (fun t ht hW => ⟨⟨1, (), rfl, ⟨by decide, by decide⟩, by rw [ht]; exact hP9, by rw [hAe]; exact hD9⟩, hS.F ht⟩) hS.2.2 dX12_isKept_207
                                  · have f_67 := E_ne (rfl : x_64.toInt = _) (by decide : (0 : Int32).toInt = 0) c_65
                                    refine lv_lload_n hx hb dX12_isKept_146 rfl (lv_at hl 1 rfl) ?_
                                    refine lv_ldc2 (v := 1685217655) hx hb hown (hT _ bw_1153) dX12_isKept_147 ?_
                                    refine W.lcmp hx hb dX12_isKept_150 ?_
                                    refine lv_topi (fun x_68 ex_68 => ?_)
                                    refine lv_if_eq (tgt := 202) hx hb dX12_isKept_151 (by decide) (fun c_69 => ?_) (fun c_69 => ?_)
                                    · have f_70 := E_eq (rfl : x_68.toInt = _) (by decide : (0 : Int32).toInt = 0) c_69
                                      refine lv_iconst (v := 1) hx hb dX12_isKept_202 (by decide) ?_
                                      refine lv_goto (tgt := 207) hx hb dX12_isKept_203 (by decide) ?_
                                      have hP9 : va_P g.1 vwCl [] H := hP.sub [] rfl
                                      have hD9 : va_D A [] := ⟨fun i j p q h => by simp at h, fun k q h => by simp at h⟩
                                      exact W.zret (v := 1) (ty := .boolean) hx hb hr rfl (fun t ht hW => ⟨⟨1, (), rfl, ⟨by decide, by decide⟩, by rw [ht]; exact hP9, by rw [hAe]; exact hD9⟩, hS.F ht⟩) hS.2.2 dX12_isKept_207
                                    · have f_71 := E_ne (rfl : x_68.toInt = _) (by decide : (0 : Int32).toInt = 0) c_69
                                      refine lv_lload_n hx hb dX12_isKept_154 rfl (lv_at hl 1 rfl) ?_
                                      refine lv_ldc2 (v := 6578553) hx hb hown (hT _ bw_1154) dX12_isKept_155 ?_
                                      refine W.lcmp hx hb dX12_isKept_158 ?_
                                      refine lv_topi (fun x_72 ex_72 => ?_)
                                      refine lv_if_eq (tgt := 202) hx hb dX12_isKept_159 (by decide) (fun c_73 => ?_) (fun c_73 => ?_)
                                      · have f_74 := E_eq (rfl : x_72.toInt = _) (by decide : (0 : Int32).toInt = 0) c_73
                                        refine lv_iconst (v := 1) hx hb dX12_isKept_202 (by decide) ?_
                                        refine lv_goto (tgt := 207) hx hb dX12_isKept_203 (by decide) ?_
                                        have hP9 : va_P g.1 vwCl [] H := hP.sub [] rfl
                                        have hD9 : va_D A [] := ⟨fun i j p q h => by simp at h, fun k q h => by simp at h⟩
                                        exact W.zret (v := 1) (ty := .boolean) hx hb hr rfl (fun t ht hW => ⟨⟨1, (), rfl, ⟨by decide, by decide⟩, by rw [ht]; exact hP9, by rw [hAe]; exact hD9⟩, hS.F ht⟩) hS.2.2 dX12_isKept_207
                                      · have f_75 := E_ne (rfl : x_72.toInt = _) (by decide : (0 : Int32).toInt = 0) c_73
                                        refine lv_lload_n hx hb dX12_isKept_162 rfl (lv_at hl 1 rfl) ?_
                                        refine lv_ldc2 (v := 1970496883) hx hb hown (hT _ bw_1155) dX12_isKept_163 ?_
                                        refine W.lcmp hx hb dX12_isKept_166 ?_
                                        refine lv_topi (fun x_76 ex_76 => ?_)
                                        refine lv_if_eq (tgt := 202) hx hb dX12_isKept_167 (by decide) (fun c_77 => ?_) (fun c_77 => ?_)
                                        · have f_78 := E_eq (rfl : x_76.toInt = _) (by decide : (0 : Int32).toInt = 0) c_77
                                          refine lv_iconst (v := 1) hx hb dX12_isKept_202 (by decide) ?_
                                          refine lv_goto (tgt := 207) hx hb dX12_isKept_203 (by decide) ?_
                                          have hP9 : va_P g.1 vwCl [] H := hP.sub [] rfl
                                          have hD9 : va_D A [] := ⟨fun i j p q h => by simp at h, fun k q h => by simp at h⟩
                                          exact W.zret (v := 1) (ty := .boolean) hx hb hr rfl (fun t ht hW => ⟨⟨1, (), rfl, ⟨by decide, by decide⟩, by rw [ht]; exact hP9, by rw [hAe]; exact hD9⟩, hS.F ht⟩) hS.2.2 dX12_isKept_207
                                        · have f_79 := E_ne (rfl : x_76.toInt = _) (by decide : (0 : Int32).toInt = 0) c_77
                                          refine lv_lload_n hx hb dX12_isKept_170 rfl (lv_at hl 1 rfl) ?_
                                          refine lv_ldc2 (v := 495806934644) hx hb hown (hT _ bw_1156) dX12_isKept_171 ?_
                                          refine W.lcmp hx hb dX12_isKept_174 ?_
                                          refine lv_topi (fun x_80 ex_80 => ?_)
                                          refine lv_if_eq (tgt := 202) hx hb dX12_isKept_175 (by decide) (fun c_81 => ?_) (fun c_81 => ?_)
                                          · have f_82 := E_eq (rfl : x_80.toInt = _) (by decide : (0 : Int32).toInt = 0) c_81
                                            refine lv_iconst (v := 1) hx hb dX12_isKept_202 (by decide) ?_
                                            refine lv_goto (tgt := 207) hx hb dX12_isKept_203 (by decide) ?_
                                            have hP9 : va_P g.1 vwCl [] H := hP.sub [] rfl
                                            have hD9 : va_D A [] := ⟨fun i j p q h => by simp at h, fun k q h => by simp at h⟩
                                            exact W.zret (v := 1) (ty := .boolean) hx hb hr rfl (fun t ht hW => ⟨⟨1, (), rfl, ⟨by decide, by decide⟩, by rw [ht]; exact hP9, by rw [hAe]; exact hD9⟩, hS.F ht⟩) hS.2.2 dX12_isKept_207
                                          · have f_83 := E_ne (rfl : x_80.toInt = _) (by decide : (0 : Int32).toInt = 0) c_81
                                            refine lv_lload_n hx hb dX12_isKept_178 rfl (lv_at hl 1 rfl) ?_
                                            refine lv_ldc2 (v := 28530) hx hb hown (hT _ bw_1157) dX12_isKept_179 ?_
                                            refine W.lcmp hx hb dX12_isKept_182 ?_
                                            refine lv_topi (fun x_84 ex_84 => ?_)
                                            refine lv_if_eq (tgt := 202) hx hb dX12_isKept_183 (by decide) (fun c_85 => ?_) (fun c_85 => ?_)
                                            · have f_86 := E_eq (rfl : x_84.toInt = _) (by decide : (0 : Int32).toInt = 0) c_85
                                              refine lv_iconst (v := 1) hx hb dX12_isKept_202 (by decide) ?_
                                              refine lv_goto (tgt := 207) hx hb dX12_isKept_203 (by decide) ?_
                                              have hP9 : va_P g.1 vwCl [] H := hP.sub [] rfl
                                              have hD9 : va_D A [] := ⟨fun i j p q h => by simp at h, fun k q h => by simp at h⟩
                                              exact W.zret (v := 1) (ty := .boolean) hx hb hr rfl (fun t ht hW => ⟨⟨1, (), rfl, ⟨by decide, by decide⟩, by rw [ht]; exact hP9, by rw [hAe]; exact hD9⟩, hS.F ht⟩) hS.2.2 dX12_isKept_207
                                            · have f_87 := E_ne (rfl : x_84.toInt = _) (by decide : (0 : Int32).toInt = 0) c_85
                                              refine lv_lload_n hx hb dX12_isKept_186 rfl (lv_at hl 1 rfl) ?_
                                              refine lv_ldc2 (v := 6385252) hx hb hown (hT _ bw_1158) dX12_isKept_187 ?_
                                              refine W.lcmp hx hb dX12_isKept_190 ?_
                                              refine lv_topi (fun x_88 ex_88 => ?_)
                                              refine lv_if_eq (tgt := 202) hx hb dX12_isKept_191 (by decide) (fun c_89 => ?_) (fun c_89 => ?_)
                                              · have f_90 := E_eq (rfl : x_88.toInt = _) (by decide : (0 : Int32).toInt = 0) c_89
                                                refine lv_iconst (v := 1) hx hb dX12_isKept_202 (by decide) ?_
                                                refine lv_goto (tgt := 207) hx hb dX12_isKept_203 (by decide) ?_
                                                have hP9 : va_P g.1 vwCl [] H := hP.sub [] rfl
                                                have hD9 : va_D A [] := ⟨fun i j p q h => by simp at h, fun k q h => by simp at h⟩
                                                exact W.zret (v := 1) (ty := .boolean) hx hb hr rfl (fun t ht hW => ⟨⟨1, (), rfl, ⟨by decide, by decide⟩, by rw [ht]; exact hP9, by rw [hAe]; exact hD9⟩, hS.F ht⟩) hS.2.2 dX12_isKept_207
                                              · have f_91 := E_ne (rfl : x_88.toInt = _) (by decide : (0 : Int32).toInt = 0) c_89
                                                refine lv_lload_n hx hb dX12_isKept_194 rfl (lv_at hl 1 rfl) ?_
                                                refine lv_ldc2 (v := 7237492) hx hb hown (hT _ bw_1159) dX12_isKept_195 ?_
                                                refine W.lcmp hx hb dX12_isKept_198 ?_
                                                refine lv_topi (fun x_92 ex_92 => ?_)
                                                refine lv_if_ne (tgt := 206) hx hb dX12_isKept_199 (by decide) (fun c_93 => ?_) (fun c_93 => ?_)
                                                · have f_94 := E_ne (rfl : x_92.toInt = _) (by decide : (0 : Int32).toInt = 0) c_93
                                                  refine lv_iconst (v := 0) hx hb dX12_isKept_206 (by decide) ?_
                                                  have hP9 : va_P g.1 vwCl [] H := hP.sub [] rfl
                                                  have hD9 : va_D A [] := ⟨fun i j p q h => by simp at h, fun k q h => by simp at h⟩
                                                  exact W.zret (v := 0) (ty := .boolean) hx hb hr rfl (fun t ht hW => ⟨⟨0, (), rfl, ⟨by decide, by decide⟩, by rw [ht]; exact hP9, by rw [hAe]; exact hD9⟩, hS.F ht⟩) hS.2.2 dX12_isKept_207
                                                · have f_95 := E_eq (rfl : x_92.toInt = _) (by decide : (0 : Int32).toInt = 0) c_93
                                                  refine lv_iconst (v := 1) hx hb dX12_isKept_202 (by decide) ?_
                                                  refine lv_goto (tgt := 207) hx hb dX12_isKept_203 (by decide) ?_
                                                  have hP9 : va_P g.1 vwCl [] H := hP.sub [] rfl
                                                  have hD9 : va_D A [] := ⟨fun i j p q h => by simp at h, fun k q h => by simp at h⟩
                                                  exact W.zret (v := 1) (ty := .boolean) hx hb hr rfl (fun t ht hW => ⟨⟨1, (), rfl, ⟨by decide, by decide⟩, by rw [ht]; exact hP9, by rw [hAe]; exact hD9⟩, hS.F ht⟩) hS.2.2 dX12_isKept_207
                        · have f_96 := E_eq (rfl : x_45.toInt = _) (by decide : (0 : Int32).toInt = 0) c_46
                          refine lv_iconst (v := 1) hx hb dX12_isKept_96 (by decide) ?_
                          refine lv_goto (tgt := 101) hx hb dX12_isKept_97 (by decide) ?_
                          refine lv_istore_n (lv' := [(2, .int 1), (0, .long z9)]) hx hb dX12_isKept_101 rfl hl (by decide) rfl (fun ls hl => ?_)
                          refine lv_iload_n hx hb dX12_isKept_102 rfl (lv_at hl 0 rfl) ?_
                          refine lv_if_ne (tgt := 202) hx hb dX12_isKept_103 (by decide) (fun _ => ?_) (fun c9 => absurd c9 (by decide))
                          refine lv_iconst (v := 1) hx hb dX12_isKept_202 (by decide) ?_
                          refine lv_goto (tgt := 207) hx hb dX12_isKept_203 (by decide) ?_
                          have hP9 : va_P g.1 vwCl [] H := hP.sub [] rfl
                          have hD9 : va_D A [] := ⟨fun i j p q h => by simp at h, fun k q h => by simp at h⟩
                          exact W.zret (v := 1) (ty := .boolean) hx hb hr rfl (fun t ht hW => ⟨⟨1, (), rfl, ⟨by decide, by decide⟩, by rw [ht]; exact hP9, by rw [hAe]; exact hD9⟩, hS.F ht⟩) hS.2.2 dX12_isKept_207

theorem bw_1161 : Cond.code yX12_isSign cX12_isSign 1 (some .boolean) ∈ gT := gT_tb 1614 (by decide +kernel) (by decide +kernel)
theorem dX12_isSign_0 : decode cX12_isSign 0 = .ok (.iload_n 0, 1) := by decide +kernel
theorem dX12_isSign_1 : decode cX12_isSign 1 = .ok (.bipush 59, 2) := by decide +kernel
theorem dX12_isSign_3 : decode cX12_isSign 3 = .ok (.if_icmp .eq 63, 3) := by decide +kernel
theorem dX12_isSign_6 : decode cX12_isSign 6 = .ok (.iload_n 0, 1) := by decide +kernel
theorem dX12_isSign_7 : decode cX12_isSign 7 = .ok (.bipush 40, 2) := by decide +kernel
theorem dX12_isSign_9 : decode cX12_isSign 9 = .ok (.if_icmp .eq 57, 3) := by decide +kernel
theorem dX12_isSign_12 : decode cX12_isSign 12 = .ok (.iload_n 0, 1) := by decide +kernel
theorem dX12_isSign_13 : decode cX12_isSign 13 = .ok (.bipush 41, 2) := by decide +kernel
theorem dX12_isSign_15 : decode cX12_isSign 15 = .ok (.if_icmp .eq 51, 3) := by decide +kernel
theorem dX12_isSign_18 : decode cX12_isSign 18 = .ok (.iload_n 0, 1) := by decide +kernel
theorem dX12_isSign_19 : decode cX12_isSign 19 = .ok (.bipush 60, 2) := by decide +kernel
theorem dX12_isSign_21 : decode cX12_isSign 21 = .ok (.if_icmp .eq 45, 3) := by decide +kernel
theorem dX12_isSign_24 : decode cX12_isSign 24 = .ok (.iload_n 0, 1) := by decide +kernel
theorem dX12_isSign_25 : decode cX12_isSign 25 = .ok (.bipush 62, 2) := by decide +kernel
theorem dX12_isSign_27 : decode cX12_isSign 27 = .ok (.if_icmp .eq 39, 3) := by decide +kernel
theorem dX12_isSign_30 : decode cX12_isSign 30 = .ok (.iload_n 0, 1) := by decide +kernel
theorem dX12_isSign_31 : decode cX12_isSign 31 = .ok (.bipush 61, 2) := by decide +kernel
theorem dX12_isSign_33 : decode cX12_isSign 33 = .ok (.if_icmp .eq 33, 3) := by decide +kernel
theorem dX12_isSign_36 : decode cX12_isSign 36 = .ok (.iload_n 0, 1) := by decide +kernel
theorem dX12_isSign_37 : decode cX12_isSign 37 = .ok (.bipush 43, 2) := by decide +kernel
theorem dX12_isSign_39 : decode cX12_isSign 39 = .ok (.if_icmp .eq 27, 3) := by decide +kernel
theorem dX12_isSign_42 : decode cX12_isSign 42 = .ok (.iload_n 0, 1) := by decide +kernel
theorem dX12_isSign_43 : decode cX12_isSign 43 = .ok (.bipush 45, 2) := by decide +kernel
theorem dX12_isSign_45 : decode cX12_isSign 45 = .ok (.if_icmp .eq 21, 3) := by decide +kernel
theorem dX12_isSign_48 : decode cX12_isSign 48 = .ok (.iload_n 0, 1) := by decide +kernel
theorem dX12_isSign_49 : decode cX12_isSign 49 = .ok (.bipush 42, 2) := by decide +kernel
theorem dX12_isSign_51 : decode cX12_isSign 51 = .ok (.if_icmp .eq 15, 3) := by decide +kernel
theorem dX12_isSign_54 : decode cX12_isSign 54 = .ok (.iload_n 0, 1) := by decide +kernel
theorem dX12_isSign_55 : decode cX12_isSign 55 = .ok (.bipush 47, 2) := by decide +kernel
theorem dX12_isSign_57 : decode cX12_isSign 57 = .ok (.if_icmp .eq 9, 3) := by decide +kernel
theorem dX12_isSign_60 : decode cX12_isSign 60 = .ok (.iload_n 0, 1) := by decide +kernel
theorem dX12_isSign_61 : decode cX12_isSign 61 = .ok (.bipush 37, 2) := by decide +kernel
theorem dX12_isSign_63 : decode cX12_isSign 63 = .ok (.if_icmp .ne 7, 3) := by decide +kernel
theorem dX12_isSign_66 : decode cX12_isSign 66 = .ok (.iconst 1, 1) := by decide +kernel
theorem dX12_isSign_67 : decode cX12_isSign 67 = .ok (.goto 4, 3) := by decide +kernel
theorem dX12_isSign_70 : decode cX12_isSign 70 = .ok (.iconst 0, 1) := by decide +kernel
theorem dX12_isSign_71 : decode cX12_isSign 71 = .ok (.ireturn, 1) := by decide +kernel
set_option maxHeartbeats 40000000 in
set_option maxRecDepth 100000 in
theorem s_X12_isSign (l : Launch) (g : GG) (sz : Nat) (p0 : Int32) : Met l yX12_isSign (.code yX12_isSign cX12_isSign 1 (some .boolean) :: gT) ({ frames := 0, cells := 0, slots := 0, locals := 0 }) (va_Pc [.int p0] (Pst g sz [] nX)) (va_Qi (fun (r : Int32) => fun (_ : Unit) => 0 ≤ r.toInt ∧ r.toInt ≤ 1) (Qst g [] sz (fun _ => [])) (va_A [] sz)) 0 0 (va_A [] sz) := by
  refine Met.ofW (cc := cX12_isSign) (maxL := 1) (ret := (some .boolean)) (by decide) rfl ?_
  intro p e s m args below meth c s₁ B hml hv
  obtain ⟨rfl, hsz, hP, hK, hD0, hX⟩ := hv
  have hx := B.exec
  have hb := B.bytes
  have hr := B.returns
  have hT : ∀ w ∈ gT, w.before _ s = true := fun w h => atoms_spec (ws := .code yX12_isSign cX12_isSign 1 (some .boolean) :: gT) B.pre w (List.mem_cons_of_mem _ h)
  have hown : s.vm.findClass RX12 = some m.cls := findClass_of_methodNamed B.named
  have hlocks := B.notSynchronized
  subst hsz
  have hD := hD0
  generalize hAe : va_A [] s.heap.size = A at ⊢
  have hA : ∀ q : Nat, s.heap.size ≤ q → A q := fun q h => by rw [← hAe]; exact Or.inr h
  have hS : va_S A s.heap s.heap [] := va_S.rf
  have hl := lv_entry ([.int p0]) (n := 1) (Nat.le_of_ble_eq_true rfl)
  rw [lg_entry_eq]
  generalize (lg_sl ([.int p0]) ++ List.replicate (1 - (lg_sl ([.int p0])).length) Slot.unset).toArray = ls at hl ⊢
  have hl : lv_has ls 1 [(0, .int p0)] := hl
  refine p_nH (fun H hH => ?_)
  have hP : va_P g.1 vwCl [] H := by rw [hH]; exact hP
  have hS : va_S A s.heap H [] := by rw [hH]; exact hS
  refine lv_iload_n hx hb dX12_isSign_0 rfl (lv_at hl 0 rfl) ?_
  refine lv_bipush (v := 59) hx hb dX12_isSign_1 (by decide) ?_
  refine lv_icmp_eq (tgt := 66) hx hb dX12_isSign_3 (by decide) (fun c_1 => ?_) (fun c_1 => ?_)
  · have f_2 := E_eq (rfl : p0.toInt = _) (by decide : (59 : Int32).toInt = 59) c_1
    refine lv_iconst (v := 1) hx hb dX12_isSign_66 (by decide) ?_
    refine lv_goto (tgt := 71) hx hb dX12_isSign_67 (by decide) ?_
    have hP9 : va_P g.1 vwCl [] H := hP.sub [] rfl
    have hD9 : va_D A [] := ⟨fun i j p q h => by simp at h, fun k q h => by simp at h⟩
    exact W.zret (v := 1) (ty := .boolean) hx hb hr rfl (fun t ht hW => ⟨⟨1, (), rfl, ⟨by decide, by decide⟩, by rw [ht]; exact hP9, by rw [hAe]; exact hD9⟩, hS.F ht⟩) hS.2.2 dX12_isSign_71
  · have f_3 := E_ne (rfl : p0.toInt = _) (by decide : (59 : Int32).toInt = 59) c_1
    refine lv_iload_n hx hb dX12_isSign_6 rfl (lv_at hl 0 rfl) ?_
    refine lv_bipush (v := 40) hx hb dX12_isSign_7 (by decide) ?_
    refine lv_icmp_eq (tgt := 66) hx hb dX12_isSign_9 (by decide) (fun c_4 => ?_) (fun c_4 => ?_)
    · have f_5 := E_eq (rfl : p0.toInt = _) (by decide : (40 : Int32).toInt = 40) c_4
      refine lv_iconst (v := 1) hx hb dX12_isSign_66 (by decide) ?_
      refine lv_goto (tgt := 71) hx hb dX12_isSign_67 (by decide) ?_
      have hP9 : va_P g.1 vwCl [] H := hP.sub [] rfl
      have hD9 : va_D A [] := ⟨fun i j p q h => by simp at h, fun k q h => by simp at h⟩
      exact W.zret (v := 1) (ty := .boolean) hx hb hr rfl (fun t ht hW => ⟨⟨1, (), rfl, ⟨by decide, by decide⟩, by rw [ht]; exact hP9, by rw [hAe]; exact hD9⟩, hS.F ht⟩) hS.2.2 dX12_isSign_71
    · have f_6 := E_ne (rfl : p0.toInt = _) (by decide : (40 : Int32).toInt = 40) c_4
      refine lv_iload_n hx hb dX12_isSign_12 rfl (lv_at hl 0 rfl) ?_
      refine lv_bipush (v := 41) hx hb dX12_isSign_13 (by decide) ?_
      refine lv_icmp_eq (tgt := 66) hx hb dX12_isSign_15 (by decide) (fun c_7 => ?_) (fun c_7 => ?_)
      · have f_8 := E_eq (rfl : p0.toInt = _) (by decide : (41 : Int32).toInt = 41) c_7
        refine lv_iconst (v := 1) hx hb dX12_isSign_66 (by decide) ?_
        refine lv_goto (tgt := 71) hx hb dX12_isSign_67 (by decide) ?_
        have hP9 : va_P g.1 vwCl [] H := hP.sub [] rfl
        have hD9 : va_D A [] := ⟨fun i j p q h => by simp at h, fun k q h => by simp at h⟩
        exact W.zret (v := 1) (ty := .boolean) hx hb hr rfl (fun t ht hW => ⟨⟨1, (), rfl, ⟨by decide, by decide⟩, by rw [ht]; exact hP9, by rw [hAe]; exact hD9⟩, hS.F ht⟩) hS.2.2 dX12_isSign_71
      · have f_9 := E_ne (rfl : p0.toInt = _) (by decide : (41 : Int32).toInt = 41) c_7
        refine lv_iload_n hx hb dX12_isSign_18 rfl (lv_at hl 0 rfl) ?_
        refine lv_bipush (v := 60) hx hb dX12_isSign_19 (by decide) ?_
        refine lv_icmp_eq (tgt := 66) hx hb dX12_isSign_21 (by decide) (fun c_10 => ?_) (fun c_10 => ?_)
        · have f_11 := E_eq (rfl : p0.toInt = _) (by decide : (60 : Int32).toInt = 60) c_10
          refine lv_iconst (v := 1) hx hb dX12_isSign_66 (by decide) ?_
          refine lv_goto (tgt := 71) hx hb dX12_isSign_67 (by decide) ?_
          have hP9 : va_P g.1 vwCl [] H := hP.sub [] rfl
          have hD9 : va_D A [] := ⟨fun i j p q h => by simp at h, fun k q h => by simp at h⟩
          exact W.zret (v := 1) (ty := .boolean) hx hb hr rfl (fun t ht hW => ⟨⟨1, (), rfl, ⟨by decide, by decide⟩, by rw [ht]; exact hP9, by rw [hAe]; exact hD9⟩, hS.F ht⟩) hS.2.2 dX12_isSign_71
        · have f_12 := E_ne (rfl : p0.toInt = _) (by decide : (60 : Int32).toInt = 60) c_10
          refine lv_iload_n hx hb dX12_isSign_24 rfl (lv_at hl 0 rfl) ?_
          refine lv_bipush (v := 62) hx hb dX12_isSign_25 (by decide) ?_
          refine lv_icmp_eq (tgt := 66) hx hb dX12_isSign_27 (by decide) (fun c_13 => ?_) (fun c_13 => ?_)
          · have f_14 := E_eq (rfl : p0.toInt = _) (by decide : (62 : Int32).toInt = 62) c_13
            refine lv_iconst (v := 1) hx hb dX12_isSign_66 (by decide) ?_
            refine lv_goto (tgt := 71) hx hb dX12_isSign_67 (by decide) ?_
            have hP9 : va_P g.1 vwCl [] H := hP.sub [] rfl
            have hD9 : va_D A [] := ⟨fun i j p q h => by simp at h, fun k q h => by simp at h⟩
            exact W.zret (v := 1) (ty := .boolean) hx hb hr rfl (fun t ht hW => ⟨⟨1, (), rfl, ⟨by decide, by decide⟩, by rw [ht]; exact hP9, by rw [hAe]; exact hD9⟩, hS.F ht⟩) hS.2.2 dX12_isSign_71
          · have f_15 := E_ne (rfl : p0.toInt = _) (by decide : (62 : Int32).toInt = 62) c_13
            refine lv_iload_n hx hb dX12_isSign_30 rfl (lv_at hl 0 rfl) ?_
            refine lv_bipush (v := 61) hx hb dX12_isSign_31 (by decide) ?_
            refine lv_icmp_eq (tgt := 66) hx hb dX12_isSign_33 (by decide) (fun c_16 => ?_) (fun c_16 => ?_)
            · have f_17 := E_eq (rfl : p0.toInt = _) (by decide : (61 : Int32).toInt = 61) c_16
              refine lv_iconst (v := 1) hx hb dX12_isSign_66 (by decide) ?_
              refine lv_goto (tgt := 71) hx hb dX12_isSign_67 (by decide) ?_
              have hP9 : va_P g.1 vwCl [] H := hP.sub [] rfl
              have hD9 : va_D A [] := ⟨fun i j p q h => by simp at h, fun k q h => by simp at h⟩
              exact W.zret (v := 1) (ty := .boolean) hx hb hr rfl (fun t ht hW => ⟨⟨1, (), rfl, ⟨by decide, by decide⟩, by rw [ht]; exact hP9, by rw [hAe]; exact hD9⟩, hS.F ht⟩) hS.2.2 dX12_isSign_71
            · have f_18 := E_ne (rfl : p0.toInt = _) (by decide : (61 : Int32).toInt = 61) c_16
              refine lv_iload_n hx hb dX12_isSign_36 rfl (lv_at hl 0 rfl) ?_
              refine lv_bipush (v := 43) hx hb dX12_isSign_37 (by decide) ?_
              refine lv_icmp_eq (tgt := 66) hx hb dX12_isSign_39 (by decide) (fun c_19 => ?_) (fun c_19 => ?_)
              · have f_20 := E_eq (rfl : p0.toInt = _) (by decide : (43 : Int32).toInt = 43) c_19
                refine lv_iconst (v := 1) hx hb dX12_isSign_66 (by decide) ?_
                refine lv_goto (tgt := 71) hx hb dX12_isSign_67 (by decide) ?_
                have hP9 : va_P g.1 vwCl [] H := hP.sub [] rfl
                have hD9 : va_D A [] := ⟨fun i j p q h => by simp at h, fun k q h => by simp at h⟩
                exact W.zret (v := 1) (ty := .boolean) hx hb hr rfl (fun t ht hW => ⟨⟨1, (), rfl, ⟨by decide, by decide⟩, by rw [ht]; exact hP9, by rw [hAe]; exact hD9⟩, hS.F ht⟩) hS.2.2 dX12_isSign_71
              · have f_21 := E_ne (rfl : p0.toInt = _) (by decide : (43 : Int32).toInt = 43) c_19
                refine lv_iload_n hx hb dX12_isSign_42 rfl (lv_at hl 0 rfl) ?_
                refine lv_bipush (v := 45) hx hb dX12_isSign_43 (by decide) ?_
                refine lv_icmp_eq (tgt := 66) hx hb dX12_isSign_45 (by decide) (fun c_22 => ?_) (fun c_22 => ?_)
                · have f_23 := E_eq (rfl : p0.toInt = _) (by decide : (45 : Int32).toInt = 45) c_22
                  refine lv_iconst (v := 1) hx hb dX12_isSign_66 (by decide) ?_
                  refine lv_goto (tgt := 71) hx hb dX12_isSign_67 (by decide) ?_
                  have hP9 : va_P g.1 vwCl [] H := hP.sub [] rfl
                  have hD9 : va_D A [] := ⟨fun i j p q h => by simp at h, fun k q h => by simp at h⟩
                  exact W.zret (v := 1) (ty := .boolean) hx hb hr rfl (fun t ht hW => ⟨⟨1, (), rfl, ⟨by decide, by decide⟩, by rw [ht]; exact hP9, by rw [hAe]; exact hD9⟩, hS.F ht⟩) hS.2.2 dX12_isSign_71
                · have f_24 := E_ne (rfl : p0.toInt = _) (by decide : (45 : Int32).toInt = 45) c_22
                  refine lv_iload_n hx hb dX12_isSign_48 rfl (lv_at hl 0 rfl) ?_
                  refine lv_bipush (v := 42) hx hb dX12_isSign_49 (by decide) ?_
                  refine lv_icmp_eq (tgt := 66) hx hb dX12_isSign_51 (by decide) (fun c_25 => ?_) (fun c_25 => ?_)
                  · have f_26 := E_eq (rfl : p0.toInt = _) (by decide : (42 : Int32).toInt = 42) c_25
                    refine lv_iconst (v := 1) hx hb dX12_isSign_66 (by decide) ?_
                    refine lv_goto (tgt := 71) hx hb dX12_isSign_67 (by decide) ?_
                    have hP9 : va_P g.1 vwCl [] H := hP.sub [] rfl
                    have hD9 : va_D A [] := ⟨fun i j p q h => by simp at h, fun k q h => by simp at h⟩
                    exact W.zret (v := 1) (ty := .boolean) hx hb hr rfl (fun t ht hW => ⟨⟨1, (), rfl, ⟨by decide, by decide⟩, by rw [ht]; exact hP9, by rw [hAe]; exact hD9⟩, hS.F ht⟩) hS.2.2 dX12_isSign_71
                  · have f_27 := E_ne (rfl : p0.toInt = _) (by decide : (42 : Int32).toInt = 42) c_25
                    refine lv_iload_n hx hb dX12_isSign_54 rfl (lv_at hl 0 rfl) ?_
                    refine lv_bipush (v := 47) hx hb dX12_isSign_55 (by decide) ?_
                    refine lv_icmp_eq (tgt := 66) hx hb dX12_isSign_57 (by decide) (fun c_28 => ?_) (fun c_28 => ?_)
                    · have f_29 := E_eq (rfl : p0.toInt = _) (by decide : (47 : Int32).toInt = 47) c_28
                      refine lv_iconst (v := 1) hx hb dX12_isSign_66 (by decide) ?_
                      refine lv_goto (tgt := 71) hx hb dX12_isSign_67 (by decide) ?_
                      have hP9 : va_P g.1 vwCl [] H := hP.sub [] rfl
                      have hD9 : va_D A [] := ⟨fun i j p q h => by simp at h, fun k q h => by simp at h⟩
                      exact W.zret (v := 1) (ty := .boolean) hx hb hr rfl (fun t ht hW => ⟨⟨1, (), rfl, ⟨by decide, by decide⟩, by rw [ht]; exact hP9, by rw [hAe]; exact hD9⟩, hS.F ht⟩) hS.2.2 dX12_isSign_71
                    · have f_30 := E_ne (rfl : p0.toInt = _) (by decide : (47 : Int32).toInt = 47) c_28
                      refine lv_iload_n hx hb dX12_isSign_60 rfl (lv_at hl 0 rfl) ?_
                      refine lv_bipush (v := 37) hx hb dX12_isSign_61 (by decide) ?_
                      refine lv_icmp_ne (tgt := 70) hx hb dX12_isSign_63 (by decide) (fun c_31 => ?_) (fun c_31 => ?_)
                      · have f_32 := E_ne (rfl : p0.toInt = _) (by decide : (37 : Int32).toInt = 37) c_31
                        refine lv_iconst (v := 0) hx hb dX12_isSign_70 (by decide) ?_
                        have hP9 : va_P g.1 vwCl [] H := hP.sub [] rfl
                        have hD9 : va_D A [] := ⟨fun i j p q h => by simp at h, fun k q h => by simp at h⟩
                        exact W.zret (v := 0) (ty := .boolean) hx hb hr rfl (fun t ht hW => ⟨⟨0, (), rfl, ⟨by decide, by decide⟩, by rw [ht]; exact hP9, by rw [hAe]; exact hD9⟩, hS.F ht⟩) hS.2.2 dX12_isSign_71
                      · have f_33 := E_eq (rfl : p0.toInt = _) (by decide : (37 : Int32).toInt = 37) c_31
                        refine lv_iconst (v := 1) hx hb dX12_isSign_66 (by decide) ?_
                        refine lv_goto (tgt := 71) hx hb dX12_isSign_67 (by decide) ?_
                        have hP9 : va_P g.1 vwCl [] H := hP.sub [] rfl
                        have hD9 : va_D A [] := ⟨fun i j p q h => by simp at h, fun k q h => by simp at h⟩
                        exact W.zret (v := 1) (ty := .boolean) hx hb hr rfl (fun t ht hW => ⟨⟨1, (), rfl, ⟨by decide, by decide⟩, by rw [ht]; exact hP9, by rw [hAe]; exact hD9⟩, hS.F ht⟩) hS.2.2 dX12_isSign_71
