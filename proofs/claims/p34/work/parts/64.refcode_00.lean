theorem bw_1296 : Cond.code yX12_isFull cX12_isFull 1 (some .boolean) ∈ gT := gT_tb 1626 (by decide +kernel) (by decide +kernel)
theorem dX12_isFull_0 : decode cX12_isFull 0 = .ok (.aload_n 0, 1) := by decide +kernel
theorem dX12_isFull_1 : decode cX12_isFull 1 = .ok (.ldc2_w 188, 3) := by decide +kernel
theorem dX12_isFull_4 : decode cX12_isFull 4 = .ok (.invokevirtual 284, 3) := by decide +kernel
theorem dX12_isFull_7 : decode cX12_isFull 7 = .ok (.ifCond .eq 23, 3) := by decide +kernel
theorem dX12_isFull_10 : decode cX12_isFull 10 = .ok (.aload_n 0, 1) := by decide +kernel
theorem dX12_isFull_11 : decode cX12_isFull 11 = .ok (.getfield 20, 3) := by decide +kernel
theorem dX12_isFull_14 : decode cX12_isFull 14 = .ok (.aload_n 0, 1) := by decide +kernel
theorem dX12_isFull_15 : decode cX12_isFull 15 = .ok (.getfield 299, 3) := by decide +kernel
theorem dX12_isFull_18 : decode cX12_isFull 18 = .ok (.iaload, 1) := by decide +kernel
theorem dX12_isFull_19 : decode cX12_isFull 19 = .ok (.bipush 6, 2) := by decide +kernel
theorem dX12_isFull_21 : decode cX12_isFull 21 = .ok (.if_icmp .ne 7, 3) := by decide +kernel
theorem dX12_isFull_24 : decode cX12_isFull 24 = .ok (.iconst 1, 1) := by decide +kernel
theorem dX12_isFull_25 : decode cX12_isFull 25 = .ok (.goto 4, 3) := by decide +kernel
theorem dX12_isFull_28 : decode cX12_isFull 28 = .ok (.iconst 0, 1) := by decide +kernel
theorem dX12_isFull_29 : decode cX12_isFull 29 = .ok (.ireturn, 1) := by decide +kernel
theorem dX12_isFull_30 : decode cX12_isFull 30 = .ok (.aload_n 0, 1) := by decide +kernel
theorem dX12_isFull_31 : decode cX12_isFull 31 = .ok (.ldc2_w 196, 3) := by decide +kernel
theorem dX12_isFull_34 : decode cX12_isFull 34 = .ok (.invokevirtual 284, 3) := by decide +kernel
theorem dX12_isFull_37 : decode cX12_isFull 37 = .ok (.ifCond .eq 22, 3) := by decide +kernel
theorem dX12_isFull_40 : decode cX12_isFull 40 = .ok (.aload_n 0, 1) := by decide +kernel
theorem dX12_isFull_41 : decode cX12_isFull 41 = .ok (.getfield 24, 3) := by decide +kernel
theorem dX12_isFull_44 : decode cX12_isFull 44 = .ok (.aload_n 0, 1) := by decide +kernel
theorem dX12_isFull_45 : decode cX12_isFull 45 = .ok (.getfield 299, 3) := by decide +kernel
theorem dX12_isFull_48 : decode cX12_isFull 48 = .ok (.iaload, 1) := by decide +kernel
theorem dX12_isFull_49 : decode cX12_isFull 49 = .ok (.iconst 4, 1) := by decide +kernel
theorem dX12_isFull_50 : decode cX12_isFull 50 = .ok (.if_icmp .ne 7, 3) := by decide +kernel
theorem dX12_isFull_53 : decode cX12_isFull 53 = .ok (.iconst 1, 1) := by decide +kernel
theorem dX12_isFull_54 : decode cX12_isFull 54 = .ok (.goto 4, 3) := by decide +kernel
theorem dX12_isFull_57 : decode cX12_isFull 57 = .ok (.iconst 0, 1) := by decide +kernel
theorem dX12_isFull_58 : decode cX12_isFull 58 = .ok (.ireturn, 1) := by decide +kernel
theorem dX12_isFull_59 : decode cX12_isFull 59 = .ok (.aload_n 0, 1) := by decide +kernel
theorem dX12_isFull_60 : decode cX12_isFull 60 = .ok (.ldc2_w 198, 3) := by decide +kernel
theorem dX12_isFull_63 : decode cX12_isFull 63 = .ok (.invokevirtual 284, 3) := by decide +kernel
theorem dX12_isFull_66 : decode cX12_isFull 66 = .ok (.ifCond .eq 23, 3) := by decide +kernel
theorem dX12_isFull_69 : decode cX12_isFull 69 = .ok (.aload_n 0, 1) := by decide +kernel
theorem dX12_isFull_70 : decode cX12_isFull 70 = .ok (.getfield 27, 3) := by decide +kernel
theorem dX12_isFull_73 : decode cX12_isFull 73 = .ok (.aload_n 0, 1) := by decide +kernel
theorem dX12_isFull_74 : decode cX12_isFull 74 = .ok (.getfield 299, 3) := by decide +kernel
theorem dX12_isFull_77 : decode cX12_isFull 77 = .ok (.iaload, 1) := by decide +kernel
theorem dX12_isFull_78 : decode cX12_isFull 78 = .ok (.bipush 8, 2) := by decide +kernel
theorem dX12_isFull_80 : decode cX12_isFull 80 = .ok (.if_icmp .ne 7, 3) := by decide +kernel
theorem dX12_isFull_83 : decode cX12_isFull 83 = .ok (.iconst 1, 1) := by decide +kernel
theorem dX12_isFull_84 : decode cX12_isFull 84 = .ok (.goto 4, 3) := by decide +kernel
theorem dX12_isFull_87 : decode cX12_isFull 87 = .ok (.iconst 0, 1) := by decide +kernel
theorem dX12_isFull_88 : decode cX12_isFull 88 = .ok (.ireturn, 1) := by decide +kernel
theorem dX12_isFull_89 : decode cX12_isFull 89 = .ok (.aload_n 0, 1) := by decide +kernel
theorem dX12_isFull_90 : decode cX12_isFull 90 = .ok (.ldc2_w 214, 3) := by decide +kernel
theorem dX12_isFull_93 : decode cX12_isFull 93 = .ok (.invokevirtual 284, 3) := by decide +kernel
theorem dX12_isFull_96 : decode cX12_isFull 96 = .ok (.ifCond .eq 23, 3) := by decide +kernel
theorem dX12_isFull_99 : decode cX12_isFull 99 = .ok (.aload_n 0, 1) := by decide +kernel
theorem dX12_isFull_100 : decode cX12_isFull 100 = .ok (.getfield 30, 3) := by decide +kernel
theorem dX12_isFull_103 : decode cX12_isFull 103 = .ok (.aload_n 0, 1) := by decide +kernel
theorem dX12_isFull_104 : decode cX12_isFull 104 = .ok (.getfield 299, 3) := by decide +kernel
theorem dX12_isFull_107 : decode cX12_isFull 107 = .ok (.iaload, 1) := by decide +kernel
theorem dX12_isFull_108 : decode cX12_isFull 108 = .ok (.bipush 6, 2) := by decide +kernel
theorem dX12_isFull_110 : decode cX12_isFull 110 = .ok (.if_icmp .ne 7, 3) := by decide +kernel
theorem dX12_isFull_113 : decode cX12_isFull 113 = .ok (.iconst 1, 1) := by decide +kernel
theorem dX12_isFull_114 : decode cX12_isFull 114 = .ok (.goto 4, 3) := by decide +kernel
theorem dX12_isFull_117 : decode cX12_isFull 117 = .ok (.iconst 0, 1) := by decide +kernel
theorem dX12_isFull_118 : decode cX12_isFull 118 = .ok (.ireturn, 1) := by decide +kernel
theorem dX12_isFull_119 : decode cX12_isFull 119 = .ok (.aload_n 0, 1) := by decide +kernel
theorem dX12_isFull_120 : decode cX12_isFull 120 = .ok (.ldc2_w 220, 3) := by decide +kernel
theorem dX12_isFull_123 : decode cX12_isFull 123 = .ok (.invokevirtual 284, 3) := by decide +kernel
theorem dX12_isFull_126 : decode cX12_isFull 126 = .ok (.ifCond .eq 13, 3) := by decide +kernel
theorem dX12_isFull_129 : decode cX12_isFull 129 = .ok (.aload_n 0, 1) := by decide +kernel
theorem dX12_isFull_130 : decode cX12_isFull 130 = .ok (.getfield 84, 3) := by decide +kernel
theorem dX12_isFull_133 : decode cX12_isFull 133 = .ok (.aload_n 0, 1) := by decide +kernel
theorem dX12_isFull_134 : decode cX12_isFull 134 = .ok (.getfield 299, 3) := by decide +kernel
theorem dX12_isFull_137 : decode cX12_isFull 137 = .ok (.baload, 1) := by decide +kernel
theorem dX12_isFull_138 : decode cX12_isFull 138 = .ok (.ireturn, 1) := by decide +kernel
theorem dX12_isFull_139 : decode cX12_isFull 139 = .ok (.aload_n 0, 1) := by decide +kernel
theorem dX12_isFull_140 : decode cX12_isFull 140 = .ok (.ldc2_w 222, 3) := by decide +kernel
theorem dX12_isFull_143 : decode cX12_isFull 143 = .ok (.invokevirtual 284, 3) := by decide +kernel
theorem dX12_isFull_146 : decode cX12_isFull 146 = .ok (.ifCond .eq 15, 3) := by decide +kernel
theorem dX12_isFull_149 : decode cX12_isFull 149 = .ok (.aload_n 0, 1) := by decide +kernel
theorem dX12_isFull_150 : decode cX12_isFull 150 = .ok (.getfield 88, 3) := by decide +kernel
theorem dX12_isFull_153 : decode cX12_isFull 153 = .ok (.aload_n 0, 1) := by decide +kernel
theorem dX12_isFull_154 : decode cX12_isFull 154 = .ok (.getfield 299, 3) := by decide +kernel
theorem dX12_isFull_157 : decode cX12_isFull 157 = .ok (.baload, 1) := by decide +kernel
theorem dX12_isFull_158 : decode cX12_isFull 158 = .ok (.ifCond .eq 7, 3) := by decide +kernel
theorem dX12_isFull_161 : decode cX12_isFull 161 = .ok (.iconst 1, 1) := by decide +kernel
theorem dX12_isFull_162 : decode cX12_isFull 162 = .ok (.goto 4, 3) := by decide +kernel
theorem dX12_isFull_165 : decode cX12_isFull 165 = .ok (.iconst 0, 1) := by decide +kernel
theorem dX12_isFull_166 : decode cX12_isFull 166 = .ok (.ireturn, 1) := by decide +kernel
set_option maxHeartbeats 40000000 in
set_option maxRecDepth 100000 in
theorem s_X12_isFull (l : Launch) (g : GG) (sz : Nat) (h : Nat) (mtape : Nat) (mtext : Nat) (mtaped : Int32) (msize : Int32) (mfaultKind : Int32) (mfaultPlace : Int32) (mat : Int32) (mend : Int32) (mtoken : Int32) (mnumber : Int32) (mname : Int64) (mmen : Nat) (Fmmen : Nat → Int32) (mkinds : Nat) (Fmkinds : Nat → Int32) (mreasons : Nat) (Fmreasons : Nat → Int32) (mtold : Nat) (Fmtold : Nat → Int32) (munits : Nat) (mhonour : Nat) (mdraw : Nat) (mdies : Nat) (mcoin : Nat) (msonOf : Nat) (mkindOf : Nat) (mowner : Nat) (mfirst : Nat) (mlast : Nat) (mrent : Nat) (msort : Nat) (mduelOne : Nat) (mduelOther : Nat) (mduelOn : Nat) (mruleFrom : Nat) (mruleTo : Nat) (mhasHonour : Nat) (FmhasHonour : Nat → Int32) (mhasDraw : Nat) (FmhasDraw : Nat → Int32) (mmName : Nat) (mkName : Nat) (mrName : Nat) (mdName : Nat) (mcode : Nat) (mcodeNumber : Nat) (meWhat : Nat) (meSign : Nat) (mpile : Nat) (mbank : Int32) (mrb : Int32) (mcodes : Int32) (mwithin : Int32) (mpiled : Int32) (munitsInRule : Int32) (maskDay : Int32) (maskUses : Int32) (maskSpent : Int32) (mall : Nat) (mwas : Nat) (macts : Int32) (mundone : Int32) (musedBy0 : Nat) (musedBy1 : Nat) (mmornings : Nat) (mcameFrom : Nat) (mcameBy : Nat) (mlevelAt : Nat) (mwins : Nat) (mslots : Nat) (mlevelOf : Nat) (mworthOf : Nat) (mstates : Int32) (mlevels : Int32) (mside0 : Int32) (mside1 : Int32) (mdeathDay : Int32) (maway : Int32) (mhires : Int32) (mhirer : Int32) (mslotFound : Int32) (misSpent : Int32) (mfound : Int32) (mlaid : Int32) (mlaidRow : Nat) (mgReason : Nat) (mgDay : Nat) (mgTold : Nat) (mgUntold : Nat) (msights : Int32) (mtime : Int32) (mboxAll : Nat) (misBoxed : Nat) (hh0 : 0 ≤ mtaped.toInt ∧ mtaped.toInt ≤ 1600) (hh1 : 0 ≤ msize.toInt ∧ msize.toInt ≤ 1600) (hh2 : 0 ≤ mfaultKind.toInt ∧ mfaultKind.toInt ≤ 5) (hh3 : 0 ≤ mat.toInt ∧ mat.toInt ≤ 1600) (hh4 : 0 ≤ mend.toInt ∧ mend.toInt ≤ 1600) (hh5 : 0 ≤ mtoken.toInt ∧ mtoken.toInt ≤ 5) (hh6 : Rg 2 0 6 Fmmen) (hh7 : Rg 2 0 4 Fmkinds) (hh8 : Rg 2 0 8 Fmreasons) (hh9 : Rg 2 0 6 Fmtold) (hh19 : Rg 2 0 1 FmhasHonour) (hh20 : Rg 2 0 1 FmhasDraw) (hh21 : 0 ≤ mbank.toInt ∧ mbank.toInt ≤ 1) (hh22 : 0 ≤ mrb.toInt ∧ mrb.toInt ≤ 1) (hh23 : 0 ≤ mcodes.toInt ∧ mcodes.toInt ≤ 1120) (hh24 : 0 ≤ mwithin.toInt ∧ mwithin.toInt ≤ 7) (hh25 : 0 ≤ mpiled.toInt ∧ mpiled.toInt ≤ 90) (hh26 : 0 ≤ munitsInRule.toInt ∧ munitsInRule.toInt ≤ 30) (hh29 : 0 ≤ macts.toInt ∧ macts.toInt ≤ 40) (hh30 : 0 ≤ mundone.toInt ∧ mundone.toInt ≤ 40) (hh38 : 0 ≤ mstates.toInt ∧ mstates.toInt ≤ 3000) (hh39 : 0 ≤ mlevels.toInt ∧ mlevels.toInt ≤ 18) (hh40 : 0 ≤ mside0.toInt ∧ mside0.toInt ≤ 5) (hh41 : 0 ≤ mside1.toInt ∧ mside1.toInt ≤ 5) (hh42 : 0 ≤ mslotFound.toInt ∧ mslotFound.toInt ≤ 8191) (hh43 : 0 ≤ misSpent.toInt ∧ misSpent.toInt ≤ 1) (hh44 : (-1) ≤ mfound.toInt ∧ mfound.toInt ≤ 2999) (hh45 : 0 ≤ mlaid.toInt ∧ mlaid.toInt ≤ 16) (hh46 : 0 ≤ msights.toInt ∧ msights.toInt ≤ 30) (hh47 : 0 ≤ mtime.toInt ∧ mtime.toInt ≤ 100000) : Met l yX12_isFull (.code yX12_isFull cX12_isFull 1 (some .boolean) :: gT) ({ frames := 1, cells := 0, slots := 0, locals := 22 }) (va_Pc [.ref h] (Pst g sz [(h, .inr (12, [.ref mtape, .ref mtext, .int mtaped, .int msize, .int mfaultKind, .int mfaultPlace, .int mat, .int mend, .int mtoken, .int mnumber, .long mname, .ref mmen, .ref mkinds, .ref mreasons, .ref mtold, .ref munits, .ref mhonour, .ref mdraw, .ref mdies, .ref mcoin, .ref msonOf, .ref mkindOf, .ref mowner, .ref mfirst, .ref mlast, .ref mrent, .ref msort, .ref mduelOne, .ref mduelOther, .ref mduelOn, .ref mruleFrom, .ref mruleTo, .ref mhasHonour, .ref mhasDraw, .ref mmName, .ref mkName, .ref mrName, .ref mdName, .ref mcode, .ref mcodeNumber, .ref meWhat, .ref meSign, .ref mpile, .int mbank, .int mrb, .int mcodes, .int mwithin, .int mpiled, .int munitsInRule, .int maskDay, .int maskUses, .int maskSpent, .ref mall, .ref mwas, .int macts, .int mundone, .ref musedBy0, .ref musedBy1, .ref mmornings, .ref mcameFrom, .ref mcameBy, .ref mlevelAt, .ref mwins, .ref mslots, .ref mlevelOf, .ref mworthOf, .int mstates, .int mlevels, .int mside0, .int mside1, .int mdeathDay, .int maway, .int mhires, .int mhirer, .int mslotFound, .int misSpent, .int mfound, .int mlaid, .ref mlaidRow, .ref mgReason, .ref mgDay, .ref mgTold, .ref mgUntold, .int msights, .int mtime, .ref mboxAll, .ref misBoxed])), (mmen, aI g 2 Fmmen), (mkinds, aI g 2 Fmkinds), (mreasons, aI g 2 Fmreasons), (mtold, aI g 2 Fmtold), (mhasHonour, aZ g 2 FmhasHonour), (mhasDraw, aZ g 2 FmhasDraw)] nX)) (va_Qi (fun (r : Int32) => fun (_ : Unit) => (0 ≤ r.toInt ∧ r.toInt ≤ 1) ∧ (r.toInt = 0 → mtoken.toInt = 3 → mname = (7168366 : Int64) → (Fmmen mrb.toNatClampNeg).toInt ≤ 5) ∧ (r.toInt = 0 → mtoken.toInt = 3 → mname = (1802071652 : Int64) → (Fmkinds mrb.toNatClampNeg).toInt ≤ 3) ∧ (r.toInt = 0 → mtoken.toInt = 3 → mname = (125779752218478 : Int64) → (Fmreasons mrb.toNatClampNeg).toInt ≤ 7) ∧ (r.toInt = 0 → mtoken.toInt = 3 → mname = (1685415276 : Int64) → (Fmtold mrb.toNatClampNeg).toInt ≤ 5)) (Qst g [] sz (fun _ => [])) (va_A [] sz)) 0 0 (va_A [] sz) := by
  refine Met.ofW (cc := cX12_isFull) (maxL := 1) (ret := (some .boolean)) (by decide) rfl ?_
  intro p e s m args below meth c s₁ B hml hv
  obtain ⟨rfl, hsz, hP, hK, hD0, hX⟩ := hv
  have hx := B.exec
  have hb := B.bytes
  have hr := B.returns
  have hT : ∀ w ∈ gT, w.before _ s = true := fun w h => atoms_spec (ws := .code yX12_isFull cX12_isFull 1 (some .boolean) :: gT) B.pre w (List.mem_cons_of_mem _ h)
  have hown : s.vm.findClass RX12 = some m.cls := findClass_of_methodNamed B.named
  have hlocks := B.notSynchronized
  subst hsz
  have hD := hD0
  generalize hAe : va_A [] s.heap.size = A at ⊢
  have hA : ∀ q : Nat, s.heap.size ≤ q → A q := fun q h => by rw [← hAe]; exact Or.inr h
  have hS : va_S A s.heap s.heap [] := va_S.rf
  have hl := lv_entry ([.ref h]) (n := 1) (Nat.le_of_ble_eq_true rfl)
  rw [lg_entry_eq]
  generalize (lg_sl ([.ref h]) ++ List.replicate (1 - (lg_sl ([.ref h])).length) Slot.unset).toArray = ls at hl ⊢
  have hl : lv_has ls 1 [(0, .ref h)] := hl
  refine p_nH (fun H hH => ?_)
  have hP : va_P g.1 vwCl [(h, .inr (12, [.ref mtape, .ref mtext, .int mtaped, .int msize, .int mfaultKind, .int mfaultPlace, .int mat, .int mend, .int mtoken, .int mnumber, .long mname, .ref mmen, .ref mkinds, .ref mreasons, .ref mtold, .ref munits, .ref mhonour, .ref mdraw, .ref mdies, .ref mcoin, .ref msonOf, .ref mkindOf, .ref mowner, .ref mfirst, .ref mlast, .ref mrent, .ref msort, .ref mduelOne, .ref mduelOther, .ref mduelOn, .ref mruleFrom, .ref mruleTo, .ref mhasHonour, .ref mhasDraw, .ref mmName, .ref mkName, .ref mrName, .ref mdName, .ref mcode, .ref mcodeNumber, .ref meWhat, .ref meSign, .ref mpile, .int mbank, .int mrb, .int mcodes, .int mwithin, .int mpiled, .int munitsInRule, .int maskDay, .int maskUses, .int maskSpent, .ref mall, .ref mwas, .int macts, .int mundone, .ref musedBy0, .ref musedBy1, .ref mmornings, .ref mcameFrom, .ref mcameBy, .ref mlevelAt, .ref mwins, .ref mslots, .ref mlevelOf, .ref mworthOf, .int mstates, .int mlevels, .int mside0, .int mside1, .int mdeathDay, .int maway, .int mhires, .int mhirer, .int mslotFound, .int misSpent, .int mfound, .int mlaid, .ref mlaidRow, .ref mgReason, .ref mgDay, .ref mgTold, .ref mgUntold, .int msights, .int mtime, .ref mboxAll, .ref misBoxed])), (mmen, aI g 2 Fmmen), (mkinds, aI g 2 Fmkinds), (mreasons, aI g 2 Fmreasons), (mtold, aI g 2 Fmtold), (mhasHonour, aZ g 2 FmhasHonour), (mhasDraw, aZ g 2 FmhasDraw)] H := by rw [hH]; exact hP
  have hS : va_S A s.heap H [] := by rw [hH]; exact hS
  refine lv_aload_n hx hb dX12_isFull_0 rfl (lv_at hl 0 rfl) ?_
  refine lv_ldc2 (v := 7168366) hx hb hown (hT _ bw_1136) dX12_isFull_1 ?_
  refine k_iR (k_V (n := 1) ⟨hx, hb, hml, hown, hT⟩ hK hP hD [0] rfl (by decide +kernel) (s_X12_isWord l g H.size h mtape mtext mtaped msize mfaultKind mfaultPlace mat mend mtoken mnumber mname mmen mkinds mreasons mtold munits mhonour mdraw mdies mcoin msonOf mkindOf mowner mfirst mlast mrent msort mduelOne mduelOther mduelOn mruleFrom mruleTo mhasHonour mhasDraw mmName mkName mrName mdName mcode mcodeNumber meWhat meSign mpile mbank mrb mcodes mwithin mpiled munitsInRule maskDay maskUses maskSpent mall mwas macts mundone musedBy0 musedBy1 mmornings mcameFrom mcameBy mlevelAt mwins mslots mlevelOf mworthOf mstates mlevels mside0 mside1 mdeathDay maway mhires mhirer mslotFound misSpent mfound mlaid mlaidRow mgReason mgDay mgTold mgUntold msights mtime mboxAll misBoxed ((7168366 : Int64)) (by first | with_reducible assumption | omega) (by first | with_reducible assumption | omega) (by first | with_reducible assumption | omega) (by first | with_reducible assumption | omega) (by first | with_reducible assumption | omega) (by first | with_reducible assumption | omega) (by first | with_reducible assumption | omega) (by first | with_reducible assumption | omega) (by first | with_reducible assumption | omega) (by first | with_reducible assumption | omega) (by first | with_reducible assumption | omega) (by first | with_reducible assumption | omega) (by first | with_reducible assumption | omega) (by first | with_reducible assumption | omega) (by first | with_reducible assumption | omega) (by first | with_reducible assumption | omega) (by first | with_reducible assumption | omega) (by first | with_reducible assumption | omega) (by first | with_reducible assumption | omega) (by first | with_reducible assumption | omega) (by first | with_reducible assumption | omega) (by first | with_reducible assumption | omega) (by first | with_reducible assumption | omega)) (gV bw_1198 bw_1199 bw_1200 bw_840 bw_1185) rfl rfl (by decide +kernel) ⟨by decide, by decide⟩ (ci := 12) (q0 := 0) rfl rfl (fun _ _ _ _ _ => trivial) (fun _ _ _ => trivial) rfl rfl hl.1 (Nat.le_of_ble_eq_true rfl) dX12_isFull_4 ⟨by decide, by decide⟩) hP hS hA (fun r_1 _ H locs hw hP hS => ?_)
  have hw : (r_1 = 1 ∧ (mtoken.toInt = 3) ∧ (mname = (7168366 : Int64))) ∨ (r_1 = 0 ∧ (mtoken.toInt = 3 → mname ≠ (7168366 : Int64))) := hw
  rcases hw with ⟨e_4, w_2, w_3⟩ | ⟨e_6, w_5⟩
  · subst e_4
    refine lv_if_eq (tgt := 30) hx hb dX12_isFull_7 (by decide) (fun c9 => absurd c9 (by decide)) (fun _ => ?_)
    refine lv_aload_n hx hb dX12_isFull_10 rfl (lv_at hl 0 rfl) ?_
    refine va_get (D := g.1) (ci := 12) (v := .ref mmen) (C := RX12) (T := TX12) (N := 87) hx hb hT inF_X12 hown hK.1 hP 0 rfl rfl 11 (by decide) (hT _ bw_824) (fun _ h9 => h9) rfl dX12_isFull_11 ?_
    refine lv_aload_n hx hb dX12_isFull_14 rfl (lv_at hl 0 rfl) ?_
    refine va_get (D := g.1) (ci := 12) (v := .int mrb) (C := RX12) (T := TX12) (N := 87) hx hb hT inF_X12 hown hK.1 hP 0 rfl rfl 44 (by decide) (hT _ bw_1214) (fun _ h9 => h9) rfl dX12_isFull_15 ?_
    have h_7 : vp_in mrb 2 := vp_in_iff.mpr (by omega)
    refine va_iald hx hb hK.1 hP 1 1 rfl rfl (i := mrb) h_7 dX12_isFull_18 ?_
    refine lv_topi (fun x_8 ex_8 => ?_)
    have fx_8 : 0 ≤ x_8.toInt ∧ x_8.toInt ≤ 6 := Rg.rd hh6 h_7 ex_8
    have ux_8 := congrArg Int32.toInt ex_8
    refine lv_bipush (v := 6) hx hb dX12_isFull_19 (by decide) ?_
    refine lv_icmp_ne (tgt := 28) hx hb dX12_isFull_21 (by decide) (fun c_9 => ?_) (fun c_9 => ?_)
    · have f_10 := E_ne (rfl : x_8.toInt = _) (by decide : (6 : Int32).toInt = 6) c_9
      refine lv_iconst (v := 0) hx hb dX12_isFull_28 (by decide) ?_
      have hP9 : va_P g.1 vwCl [] H := hP.sub [] rfl
      have hD9 : va_D A [] := ⟨fun i j p q h => by simp at h, fun k q h => by simp at h⟩
      exact W.zret (v := 0) (ty := .boolean) hx hb hr rfl (fun t ht hW => ⟨⟨0, (), rfl, ⟨⟨by decide, by decide⟩, (fun _ _ _ => by omega), (fun _ _ q2 => absurd (w_3.symm.trans q2) (by decide)), (fun _ _ q2 => absurd (w_3.symm.trans q2) (by decide)), (fun _ _ q2 => absurd (w_3.symm.trans q2) (by decide))⟩, by rw [ht]; exact hP9, by rw [hAe]; exact hD9⟩, hS.F ht⟩) hS.2.2 dX12_isFull_29
    · have f_11 := E_eq (rfl : x_8.toInt = _) (by decide : (6 : Int32).toInt = 6) c_9
      refine lv_iconst (v := 1) hx hb dX12_isFull_24 (by decide) ?_
      refine lv_goto (tgt := 29) hx hb dX12_isFull_25 (by decide) ?_
      have hP9 : va_P g.1 vwCl [] H := hP.sub [] rfl
      have hD9 : va_D A [] := ⟨fun i j p q h => by simp at h, fun k q h => by simp at h⟩
      exact W.zret (v := 1) (ty := .boolean) hx hb hr rfl (fun t ht hW => ⟨⟨1, (), rfl, ⟨⟨by decide, by decide⟩, (fun q9 => absurd q9 (by decide)), (fun q9 => absurd q9 (by decide)), (fun q9 => absurd q9 (by decide)), (fun q9 => absurd q9 (by decide))⟩, by rw [ht]; exact hP9, by rw [hAe]; exact hD9⟩, hS.F ht⟩) hS.2.2 dX12_isFull_29
  · subst e_6
    refine lv_if_eq (tgt := 30) hx hb dX12_isFull_7 (by decide) (fun _ => ?_) (fun c9 => absurd (by decide) c9)
    refine lv_aload_n hx hb dX12_isFull_30 rfl (lv_at hl 0 rfl) ?_
    refine lv_ldc2 (v := 1802071652) hx hb hown (hT _ bw_1140) dX12_isFull_31 ?_
    refine k_iR (k_V (n := 1) ⟨hx, hb, hml, hown, hT⟩ hK hP hD [0] rfl (by decide +kernel) (s_X12_isWord l g H.size h mtape mtext mtaped msize mfaultKind mfaultPlace mat mend mtoken mnumber mname mmen mkinds mreasons mtold munits mhonour mdraw mdies mcoin msonOf mkindOf mowner mfirst mlast mrent msort mduelOne mduelOther mduelOn mruleFrom mruleTo mhasHonour mhasDraw mmName mkName mrName mdName mcode mcodeNumber meWhat meSign mpile mbank mrb mcodes mwithin mpiled munitsInRule maskDay maskUses maskSpent mall mwas macts mundone musedBy0 musedBy1 mmornings mcameFrom mcameBy mlevelAt mwins mslots mlevelOf mworthOf mstates mlevels mside0 mside1 mdeathDay maway mhires mhirer mslotFound misSpent mfound mlaid mlaidRow mgReason mgDay mgTold mgUntold msights mtime mboxAll misBoxed ((1802071652 : Int64)) (by first | with_reducible assumption | omega) (by first | with_reducible assumption | omega) (by first | with_reducible assumption | omega) (by first | with_reducible assumption | omega) (by first | with_reducible assumption | omega) (by first | with_reducible assumption | omega) (by first | with_reducible assumption | omega) (by first | with_reducible assumption | omega) (by first | with_reducible assumption | omega) (by first | with_reducible assumption | omega) (by first | with_reducible assumption | omega) (by first | with_reducible assumption | omega) (by first | with_reducible assumption | omega) (by first | with_reducible assumption | omega) (by first | with_reducible assumption | omega) (by first | with_reducible assumption | omega) (by first | with_reducible assumption | omega) (by first | with_reducible assumption | omega) (by first | with_reducible assumption | omega) (by first | with_reducible assumption | omega) (by first | with_reducible assumption | omega) (by first | with_reducible assumption | omega) (by first | with_reducible assumption | omega)) (gV bw_1198 bw_1199 bw_1200 bw_840 bw_1185) rfl rfl (by decide +kernel) ⟨by decide, by decide⟩ (ci := 12) (q0 := 0) rfl rfl (fun _ _ _ _ _ => trivial) (fun _ _ _ => trivial) rfl rfl hl.1 (Nat.le_of_ble_eq_true rfl) dX12_isFull_34 ⟨by decide, by decide⟩) hP hS hA (fun r_12 _ H locs hw hP hS => ?_)
    have hw : (r_12 = 1 ∧ (mtoken.toInt = 3) ∧ (mname = (1802071652 : Int64))) ∨ (r_12 = 0 ∧ (mtoken.toInt = 3 → mname ≠ (1802071652 : Int64))) := hw
    rcases hw with ⟨e_15, w_13, w_14⟩ | ⟨e_17, w_16⟩
    · subst e_15
      refine lv_if_eq (tgt := 59) hx hb dX12_isFull_37 (by decide) (fun c9 => absurd c9 (by decide)) (fun _ => ?_)
      refine lv_aload_n hx hb dX12_isFull_40 rfl (lv_at hl 0 rfl) ?_
      refine va_get (D := g.1) (ci := 12) (v := .ref mkinds) (C := RX12) (T := TX12) (N := 87) hx hb hT inF_X12 hown hK.1 hP 0 rfl rfl 12 (by decide) (hT _ bw_956) (fun _ h9 => h9) rfl dX12_isFull_41 ?_
      refine lv_aload_n hx hb dX12_isFull_44 rfl (lv_at hl 0 rfl) ?_
      refine va_get (D := g.1) (ci := 12) (v := .int mrb) (C := RX12) (T := TX12) (N := 87) hx hb hT inF_X12 hown hK.1 hP 0 rfl rfl 44 (by decide) (hT _ bw_1214) (fun _ h9 => h9) rfl dX12_isFull_45 ?_
      have h_18 : vp_in mrb 2 := vp_in_iff.mpr (by omega)
      refine va_iald hx hb hK.1 hP 2 1 rfl rfl (i := mrb) h_18 dX12_isFull_48 ?_
      refine lv_topi (fun x_19 ex_19 => ?_)
      have fx_19 : 0 ≤ x_19.toInt ∧ x_19.toInt ≤ 4 := Rg.rd hh7 h_18 ex_19
      have ux_19 := congrArg Int32.toInt ex_19
      refine lv_iconst (v := 4) hx hb dX12_isFull_49 (by decide) ?_
      refine lv_icmp_ne (tgt := 57) hx hb dX12_isFull_50 (by decide) (fun c_20 => ?_) (fun c_20 => ?_)
      · have f_21 := E_ne (rfl : x_19.toInt = _) (by decide : (4 : Int32).toInt = 4) c_20
        refine lv_iconst (v := 0) hx hb dX12_isFull_57 (by decide) ?_
        have hP9 : va_P g.1 vwCl [] H := hP.sub [] rfl
        have hD9 : va_D A [] := ⟨fun i j p q h => by simp at h, fun k q h => by simp at h⟩
        exact W.zret (v := 0) (ty := .boolean) hx hb hr rfl (fun t ht hW => ⟨⟨0, (), rfl, ⟨⟨by decide, by decide⟩, (fun _ q1 q2 => absurd q2 (w_5 q1)), (fun _ _ _ => by omega), (fun _ _ q2 => absurd (w_14.symm.trans q2) (by decide)), (fun _ _ q2 => absurd (w_14.symm.trans q2) (by decide))⟩, by rw [ht]; exact hP9, by rw [hAe]; exact hD9⟩, hS.F ht⟩) hS.2.2 dX12_isFull_58
      · have f_22 := E_eq (rfl : x_19.toInt = _) (by decide : (4 : Int32).toInt = 4) c_20
        refine lv_iconst (v := 1) hx hb dX12_isFull_53 (by decide) ?_
        refine lv_goto (tgt := 58) hx hb dX12_isFull_54 (by decide) ?_
        have hP9 : va_P g.1 vwCl [] H := hP.sub [] rfl
        have hD9 : va_D A [] := ⟨fun i j p q h => by simp at h, fun k q h => by simp at h⟩
        exact W.zret (v := 1) (ty := .boolean) hx hb hr rfl (fun t ht hW => ⟨⟨1, (), rfl, ⟨⟨by decide, by decide⟩, (fun q9 => absurd q9 (by decide)), (fun q9 => absurd q9 (by decide)), (fun q9 => absurd q9 (by decide)), (fun q9 => absurd q9 (by decide))⟩, by rw [ht]; exact hP9, by rw [hAe]; exact hD9⟩, hS.F ht⟩) hS.2.2 dX12_isFull_58
    · subst e_17
      refine lv_if_eq (tgt := 59) hx hb dX12_isFull_37 (by decide) (fun _ => ?_) (fun c9 => absurd (by decide) c9)
      refine lv_aload_n hx hb dX12_isFull_59 rfl (lv_at hl 0 rfl) ?_
      refine lv_ldc2 (v := 125779752218478) hx hb hown (hT _ bw_1141) dX12_isFull_60 ?_
      refine k_iR (k_V (n := 1) ⟨hx, hb, hml, hown, hT⟩ hK hP hD [0] rfl (by decide +kernel) (s_X12_isWord l g H.size h mtape mtext mtaped msize mfaultKind mfaultPlace mat mend mtoken mnumber mname mmen mkinds mreasons mtold munits mhonour mdraw mdies mcoin msonOf mkindOf mowner mfirst mlast mrent msort mduelOne mduelOther mduelOn mruleFrom mruleTo mhasHonour mhasDraw mmName mkName mrName mdName mcode mcodeNumber meWhat meSign mpile mbank mrb mcodes mwithin mpiled munitsInRule maskDay maskUses maskSpent mall mwas macts mundone musedBy0 musedBy1 mmornings mcameFrom mcameBy mlevelAt mwins mslots mlevelOf mworthOf mstates mlevels mside0 mside1 mdeathDay maway mhires mhirer mslotFound misSpent mfound mlaid mlaidRow mgReason mgDay mgTold mgUntold msights mtime mboxAll misBoxed ((125779752218478 : Int64)) (by first | with_reducible assumption | omega) (by first | with_reducible assumption | omega) (by first | with_reducible assumption | omega) (by first | with_reducible assumption | omega) (by first | with_reducible assumption | omega) (by first | with_reducible assumption | omega) (by first | with_reducible assumption | omega) (by first | with_reducible assumption | omega) (by first | with_reducible assumption | omega) (by first | with_reducible assumption | omega) (by first | with_reducible assumption | omega) (by first | with_reducible assumption | omega) (by first | with_reducible assumption | omega) (by first | with_reducible assumption | omega) (by first | with_reducible assumption | omega) (by first | with_reducible assumption | omega) (by first | with_reducible assumption | omega) (by first | with_reducible assumption | omega) (by first | with_reducible assumption | omega) (by first | with_reducible assumption | omega) (by first | with_reducible assumption | omega) (by first | with_reducible assumption | omega) (by first | with_reducible assumption | omega)) (gV bw_1198 bw_1199 bw_1200 bw_840 bw_1185) rfl rfl (by decide +kernel) ⟨by decide, by decide⟩ (ci := 12) (q0 := 0) rfl rfl (fun _ _ _ _ _ => trivial) (fun _ _ _ => trivial) rfl rfl hl.1 (Nat.le_of_ble_eq_true rfl) dX12_isFull_63 ⟨by decide, by decide⟩) hP hS hA (fun r_23 _ H locs hw hP hS => ?_)
      have hw : (r_23 = 1 ∧ (mtoken.toInt = 3) ∧ (mname = (125779752218478 : Int64))) ∨ (r_23 = 0 ∧ (mtoken.toInt = 3 → mname ≠ (125779752218478 : Int64))) := hw
      rcases hw with ⟨e_26, w_24, w_25⟩ | ⟨e_28, w_27⟩
      · subst e_26
        refine lv_if_eq (tgt := 89) hx hb dX12_isFull_66 (by decide) (fun c9 => absurd c9 (by decide)) (fun _ => ?_)
        refine lv_aload_n hx hb dX12_isFull_69 rfl (lv_at hl 0 rfl) ?_
        refine va_get (D := g.1) (ci := 12) (v := .ref mreasons) (C := RX12) (T := TX12) (N := 87) hx hb hT inF_X12 hown hK.1 hP 0 rfl rfl 13 (by decide) (hT _ bw_830) (fun _ h9 => h9) rfl dX12_isFull_70 ?_
        refine lv_aload_n hx hb dX12_isFull_73 rfl (lv_at hl 0 rfl) ?_
        refine va_get (D := g.1) (ci := 12) (v := .int mrb) (C := RX12) (T := TX12) (N := 87) hx hb hT inF_X12 hown hK.1 hP 0 rfl rfl 44 (by decide) (hT _ bw_1214) (fun _ h9 => h9) rfl dX12_isFull_74 ?_
        have h_29 : vp_in mrb 2 := vp_in_iff.mpr (by omega)
        refine va_iald hx hb hK.1 hP 3 1 rfl rfl (i := mrb) h_29 dX12_isFull_77 ?_
        refine lv_topi (fun x_30 ex_30 => ?_)
        have fx_30 : 0 ≤ x_30.toInt ∧ x_30.toInt ≤ 8 := Rg.rd hh8 h_29 ex_30
        have ux_30 := congrArg Int32.toInt ex_30
        refine lv_bipush (v := 8) hx hb dX12_isFull_78 (by decide) ?_
        refine lv_icmp_ne (tgt := 87) hx hb dX12_isFull_80 (by decide) (fun c_31 => ?_) (fun c_31 => ?_)
        · have f_32 := E_ne (rfl : x_30.toInt = _) (by decide : (8 : Int32).toInt = 8) c_31
          refine lv_iconst (v := 0) hx hb dX12_isFull_87 (by decide) ?_
          have hP9 : va_P g.1 vwCl [] H := hP.sub [] rfl
          have hD9 : va_D A [] := ⟨fun i j p q h => by simp at h, fun k q h => by simp at h⟩
          exact W.zret (v := 0) (ty := .boolean) hx hb hr rfl (fun t ht hW => ⟨⟨0, (), rfl, ⟨⟨by decide, by decide⟩, (fun _ q1 q2 => absurd q2 (w_5 q1)), (fun _ q1 q2 => absurd q2 (w_16 q1)), (fun _ _ _ => by omega), (fun _ _ q2 => absurd (w_25.symm.trans q2) (by decide))⟩, by rw [ht]; exact hP9, by rw [hAe]; exact hD9⟩, hS.F ht⟩) hS.2.2 dX12_isFull_88
        · have f_33 := E_eq (rfl : x_30.toInt = _) (by decide : (8 : Int32).toInt = 8) c_31
          refine lv_iconst (v := 1) hx hb dX12_isFull_83 (by decide) ?_
          refine lv_goto (tgt := 88) hx hb dX12_isFull_84 (by decide) ?_
          have hP9 : va_P g.1 vwCl [] H := hP.sub [] rfl
          have hD9 : va_D A [] := ⟨fun i j p q h => by simp at h, fun k q h => by simp at h⟩
          exact W.zret (v := 1) (ty := .boolean) hx hb hr rfl (fun t ht hW => ⟨⟨1, (), rfl, ⟨⟨by decide, by decide⟩, (fun q9 => absurd q9 (by decide)), (fun q9 => absurd q9 (by decide)), (fun q9 => absurd q9 (by decide)), (fun q9 => absurd q9 (by decide))⟩, by rw [ht]; exact hP9, by rw [hAe]; exact hD9⟩, hS.F ht⟩) hS.2.2 dX12_isFull_88
      · subst e_28
        refine lv_if_eq (tgt := 89) hx hb dX12_isFull_66 (by decide) (fun _ => ?_) (fun c9 => absurd (by decide) c9)
        refine lv_aload_n hx hb dX12_isFull_89 rfl (lv_at hl 0 rfl) ?_
        refine lv_ldc2 (v := 1685415276) hx hb hown (hT _ bw_1149) dX12_isFull_90 ?_
        refine k_iR (k_V (n := 1) ⟨hx, hb, hml, hown, hT⟩ hK hP hD [0] rfl (by decide +kernel) (s_X12_isWord l g H.size h mtape mtext mtaped msize mfaultKind mfaultPlace mat mend mtoken mnumber mname mmen mkinds mreasons mtold munits mhonour mdraw mdies mcoin msonOf mkindOf mowner mfirst mlast mrent msort mduelOne mduelOther mduelOn mruleFrom mruleTo mhasHonour mhasDraw mmName mkName mrName mdName mcode mcodeNumber meWhat meSign mpile mbank mrb mcodes mwithin mpiled munitsInRule maskDay maskUses maskSpent mall mwas macts mundone musedBy0 musedBy1 mmornings mcameFrom mcameBy mlevelAt mwins mslots mlevelOf mworthOf mstates mlevels mside0 mside1 mdeathDay maway mhires mhirer mslotFound misSpent mfound mlaid mlaidRow mgReason mgDay mgTold mgUntold msights mtime mboxAll misBoxed ((1685415276 : Int64)) (by first | with_reducible assumption | omega) (by first | with_reducible assumption | omega) (by first | with_reducible assumption | omega) (by first | with_reducible assumption | omega) (by first | with_reducible assumption | omega) (by first | with_reducible assumption | omega) (by first | with_reducible assumption | omega) (by first | with_reducible assumption | omega) (by first | with_reducible assumption | omega) (by first | with_reducible assumption | omega) (by first | with_reducible assumption | omega) (by first | with_reducible assumption | omega) (by first | with_reducible assumption | omega) (by first | with_reducible assumption | omega) (by first | with_reducible assumption | omega) (by first | with_reducible assumption | omega) (by first | with_reducible assumption | omega) (by first | with_reducible assumption | omega) (by first | with_reducible assumption | omega) (by first | with_reducible assumption | omega) (by first | with_reducible assumption | omega) (by first | with_reducible assumption | omega) (by first | with_reducible assumption | omega)) (gV bw_1198 bw_1199 bw_1200 bw_840 bw_1185) rfl rfl (by decide +kernel) ⟨by decide, by decide⟩ (ci := 12) (q0 := 0) rfl rfl (fun _ _ _ _ _ => trivial) (fun _ _ _ => trivial) rfl rfl hl.1 (Nat.le_of_ble_eq_true rfl) dX12_isFull_93 ⟨by decide, by decide⟩) hP hS hA (fun r_34 _ H locs hw hP hS => ?_)
        have hw : (r_34 = 1 ∧ (mtoken.toInt = 3) ∧ (mname = (1685415276 : Int64))) ∨ (r_34 = 0 ∧ (mtoken.toInt = 3 → mname ≠ (1685415276 : Int64))) := hw
        rcases hw with ⟨e_37, w_35, w_36⟩ | ⟨e_39, w_38⟩
        · subst e_37
          refine lv_if_eq (tgt := 119) hx hb dX12_isFull_96 (by decide) (fun c9 => absurd c9 (by decide)) (fun _ => ?_)
          refine lv_aload_n hx hb dX12_isFull_99 rfl (lv_at hl 0 rfl) ?_
          refine va_get (D := g.1) (ci := 12) (v := .ref mtold) (C := RX12) (T := TX12) (N := 87) hx hb hT inF_X12 hown hK.1 hP 0 rfl rfl 14 (by decide) (hT _ bw_969) (fun _ h9 => h9) rfl dX12_isFull_100 ?_
          refine lv_aload_n hx hb dX12_isFull_103 rfl (lv_at hl 0 rfl) ?_
          refine va_get (D := g.1) (ci := 12) (v := .int mrb) (C := RX12) (T := TX12) (N := 87) hx hb hT inF_X12 hown hK.1 hP 0 rfl rfl 44 (by decide) (hT _ bw_1214) (fun _ h9 => h9) rfl dX12_isFull_104 ?_
          have h_40 : vp_in mrb 2 := vp_in_iff.mpr (by omega)
          refine va_iald hx hb hK.1 hP 4 1 rfl rfl (i := mrb) h_40 dX12_isFull_107 ?_
          refine lv_topi (fun x_41 ex_41 => ?_)
          have fx_41 : 0 ≤ x_41.toInt ∧ x_41.toInt ≤ 6 := Rg.rd hh9 h_40 ex_41
          have ux_41 := congrArg Int32.toInt ex_41
          refine lv_bipush (v := 6) hx hb dX12_isFull_108 (by decide) ?_
          refine lv_icmp_ne (tgt := 117) hx hb dX12_isFull_110 (by decide) (fun c_42 => ?_) (fun c_42 => ?_)
          · have f_43 := E_ne (rfl : x_41.toInt = _) (by decide : (6 : Int32).toInt = 6) c_42
            refine lv_iconst (v := 0) hx hb dX12_isFull_117 (by decide) ?_
            have hP9 : va_P g.1 vwCl [] H := hP.sub [] rfl
            have hD9 : va_D A [] := ⟨fun i j p q h => by simp at h, fun k q h => by simp at h⟩
            exact W.zret (v := 0) (ty := .boolean) hx hb hr rfl (fun t ht hW => ⟨⟨0, (), rfl, ⟨⟨by decide, by decide⟩, (fun _ q1 q2 => absurd q2 (w_5 q1)), (fun _ q1 q2 => absurd q2 (w_16 q1)), (fun _ q1 q2 => absurd q2 (w_27 q1)), (fun _ _ _ => by omega)⟩, by rw [ht]; exact hP9, by rw [hAe]; exact hD9⟩, hS.F ht⟩) hS.2.2 dX12_isFull_118
          · have f_44 := E_eq (rfl : x_41.toInt = _) (by decide : (6 : Int32).toInt = 6) c_42
            refine lv_iconst (v := 1) hx hb dX12_isFull_113 (by decide) ?_
            refine lv_goto (tgt := 118) hx hb dX12_isFull_114 (by decide) ?_
            have hP9 : va_P g.1 vwCl [] H := hP.sub [] rfl
            have hD9 : va_D A [] := ⟨fun i j p q h => by simp at h, fun k q h => by simp at h⟩
            exact W.zret (v := 1) (ty := .boolean) hx hb hr rfl (fun t ht hW => ⟨⟨1, (), rfl, ⟨⟨by decide, by decide⟩, (fun q9 => absurd q9 (by decide)), (fun q9 => absurd q9 (by decide)), (fun q9 => absurd q9 (by decide)), (fun q9 => absurd q9 (by decide))⟩, by rw [ht]; exact hP9, by rw [hAe]; exact hD9⟩, hS.F ht⟩) hS.2.2 dX12_isFull_118
        · subst e_39
          refine lv_if_eq (tgt := 119) hx hb dX12_isFull_96 (by decide) (fun _ => ?_) (fun c9 => absurd (by decide) c9)
          refine lv_aload_n hx hb dX12_isFull_119 rfl (lv_at hl 0 rfl) ?_
          refine lv_ldc2 (v := 114827803456882) hx hb hown (hT _ bw_1152) dX12_isFull_120 ?_
          refine k_iR (k_V (n := 1) ⟨hx, hb, hml, hown, hT⟩ hK hP hD [0] rfl (by decide +kernel) (s_X12_isWord l g H.size h mtape mtext mtaped msize mfaultKind mfaultPlace mat mend mtoken mnumber mname mmen mkinds mreasons mtold munits mhonour mdraw mdies mcoin msonOf mkindOf mowner mfirst mlast mrent msort mduelOne mduelOther mduelOn mruleFrom mruleTo mhasHonour mhasDraw mmName mkName mrName mdName mcode mcodeNumber meWhat meSign mpile mbank mrb mcodes mwithin mpiled munitsInRule maskDay maskUses maskSpent mall mwas macts mundone musedBy0 musedBy1 mmornings mcameFrom mcameBy mlevelAt mwins mslots mlevelOf mworthOf mstates mlevels mside0 mside1 mdeathDay maway mhires mhirer mslotFound misSpent mfound mlaid mlaidRow mgReason mgDay mgTold mgUntold msights mtime mboxAll misBoxed ((114827803456882 : Int64)) (by first | with_reducible assumption | omega) (by first | with_reducible assumption | omega) (by first | with_reducible assumption | omega) (by first | with_reducible assumption | omega) (by first | with_reducible assumption | omega) (by first | with_reducible assumption | omega) (by first | with_reducible assumption | omega) (by first | with_reducible assumption | omega) (by first | with_reducible assumption | omega) (by first | with_reducible assumption | omega) (by first | with_reducible assumption | omega) (by first | with_reducible assumption | omega) (by first | with_reducible assumption | omega) (by first | with_reducible assumption | omega) (by first | with_reducible assumption | omega) (by first | with_reducible assumption | omega) (by first | with_reducible assumption | omega) (by first | with_reducible assumption | omega) (by first | with_reducible assumption | omega) (by first | with_reducible assumption | omega) (by first | with_reducible assumption | omega) (by first | with_reducible assumption | omega) (by first | with_reducible assumption | omega)) (gV bw_1198 bw_1199 bw_1200 bw_840 bw_1185) rfl rfl (by decide +kernel) ⟨by decide, by decide⟩ (ci := 12) (q0 := 0) rfl rfl (fun _ _ _ _ _ => trivial) (fun _ _ _ => trivial) rfl rfl hl.1 (Nat.le_of_ble_eq_true rfl) dX12_isFull_123 ⟨by decide, by decide⟩) hP hS hA (fun r_45 _ H locs hw hP hS => ?_)
          have hw : (r_45 = 1 ∧ (mtoken.toInt = 3) ∧ (mname = (114827803456882 : Int64))) ∨ (r_45 = 0 ∧ (mtoken.toInt = 3 → mname ≠ (114827803456882 : Int64))) := hw
          rcases hw with ⟨e_48, w_46, w_47⟩ | ⟨e_50, w_49⟩
          · subst e_48
            refine lv_if_eq (tgt := 139) hx hb dX12_isFull_126 (by decide) (fun c9 => absurd c9 (by decide)) (fun _ => ?_)
            refine lv_aload_n hx hb dX12_isFull_129 rfl (lv_at hl 0 rfl) ?_
            refine va_get (D := g.1) (ci := 12) (v := .ref mhasHonour) (C := RX12) (T := TX12) (N := 87) hx hb hT inF_X12 hown hK.1 hP 0 rfl rfl 32 (by decide) (hT _ bw_1247) (fun _ h9 => h9) rfl dX12_isFull_130 ?_
            refine lv_aload_n hx hb dX12_isFull_133 rfl (lv_at hl 0 rfl) ?_
            refine va_get (D := g.1) (ci := 12) (v := .int mrb) (C := RX12) (T := TX12) (N := 87) hx hb hT inF_X12 hown hK.1 hP 0 rfl rfl 44 (by decide) (hT _ bw_1214) (fun _ h9 => h9) rfl dX12_isFull_134 ?_
            have h_51 : vp_in mrb 2 := vp_in_iff.mpr (by omega)
            refine va_zald hx hb hK.1 hP 5 3 rfl rfl (i := mrb) h_51 dX12_isFull_137 ?_
            refine lv_topi (fun x_52 ex_52 => ?_)
            have fx_52 : 0 ≤ x_52.toInt ∧ x_52.toInt ≤ 1 := Rg.rd hh19 h_51 ex_52
            have ux_52 := congrArg Int32.toInt ex_52
            have hP9 : va_P g.1 vwCl [] H := hP.sub [] rfl
            have hD9 : va_D A [] := ⟨fun i j p q h => by simp at h, fun k q h => by simp at h⟩
            exact W.zret (v := x_52) (ty := .boolean) hx hb hr (nar01 (by omega)) (fun t ht hW => ⟨⟨x_52, (), rfl, ⟨(by first | with_reducible assumption | omega), (fun _ q1 q2 => absurd q2 (w_5 q1)), (fun _ q1 q2 => absurd q2 (w_16 q1)), (fun _ q1 q2 => absurd q2 (w_27 q1)), (fun _ q1 q2 => absurd q2 (w_38 q1))⟩, by rw [ht]; exact hP9, by rw [hAe]; exact hD9⟩, hS.F ht⟩) hS.2.2 dX12_isFull_138
          · subst e_50
            refine lv_if_eq (tgt := 139) hx hb dX12_isFull_126 (by decide) (fun _ => ?_) (fun c9 => absurd (by decide) c9)
            refine lv_aload_n hx hb dX12_isFull_139 rfl (lv_at hl 0 rfl) ?_
            refine lv_ldc2 (v := 1685217655) hx hb hown (hT _ bw_1153) dX12_isFull_140 ?_
            refine k_iR (k_V (n := 1) ⟨hx, hb, hml, hown, hT⟩ hK hP hD [0] rfl (by decide +kernel) (s_X12_isWord l g H.size h mtape mtext mtaped msize mfaultKind mfaultPlace mat mend mtoken mnumber mname mmen mkinds mreasons mtold munits mhonour mdraw mdies mcoin msonOf mkindOf mowner mfirst mlast mrent msort mduelOne mduelOther mduelOn mruleFrom mruleTo mhasHonour mhasDraw mmName mkName mrName mdName mcode mcodeNumber meWhat meSign mpile mbank mrb mcodes mwithin mpiled munitsInRule maskDay maskUses maskSpent mall mwas macts mundone musedBy0 musedBy1 mmornings mcameFrom mcameBy mlevelAt mwins mslots mlevelOf mworthOf mstates mlevels mside0 mside1 mdeathDay maway mhires mhirer mslotFound misSpent mfound mlaid mlaidRow mgReason mgDay mgTold mgUntold msights mtime mboxAll misBoxed ((1685217655 : Int64)) (by first | with_reducible assumption | omega) (by first | with_reducible assumption | omega) (by first | with_reducible assumption | omega) (by first | with_reducible assumption | omega) (by first | with_reducible assumption | omega) (by first | with_reducible assumption | omega) (by first | with_reducible assumption | omega) (by first | with_reducible assumption | omega) (by first | with_reducible assumption | omega) (by first | with_reducible assumption | omega) (by first | with_reducible assumption | omega) (by first | with_reducible assumption | omega) (by first | with_reducible assumption | omega) (by first | with_reducible assumption | omega) (by first | with_reducible assumption | omega) (by first | with_reducible assumption | omega) (by first | with_reducible assumption | omega) (by first | with_reducible assumption | omega) (by first | with_reducible assumption | omega) (by first | with_reducible assumption | omega) (by first | with_reducible assumption | omega) (by first | with_reducible assumption | omega) (by first | with_reducible assumption | omega)) (gV bw_1198 bw_1199 bw_1200 bw_840 bw_1185) rfl rfl (by decide +kernel) ⟨by decide, by decide⟩ (ci := 12) (q0 := 0) rfl rfl (fun _ _ _ _ _ => trivial) (fun _ _ _ => trivial) rfl rfl hl.1 (Nat.le_of_ble_eq_true rfl) dX12_isFull_143 ⟨by decide, by decide⟩) hP hS hA (fun r_53 _ H locs hw hP hS => ?_)
            have hw : (r_53 = 1 ∧ (mtoken.toInt = 3) ∧ (mname = (1685217655 : Int64))) ∨ (r_53 = 0 ∧ (mtoken.toInt = 3 → mname ≠ (1685217655 : Int64))) := hw
            rcases hw with ⟨e_56, w_54, w_55⟩ | ⟨e_58, w_57⟩
            · subst e_56
              refine lv_if_eq (tgt := 161) hx hb dX12_isFull_146 (by decide) (fun c9 => absurd c9 (by decide)) (fun _ => ?_)
              refine lv_aload_n hx hb dX12_isFull_149 rfl (lv_at hl 0 rfl) ?_
              refine va_get (D := g.1) (ci := 12) (v := .ref mhasDraw) (C := RX12) (T := TX12) (N := 87) hx hb hT inF_X12 hown hK.1 hP 0 rfl rfl 33 (by decide) (hT _ bw_1248) (fun _ h9 => h9) rfl dX12_isFull_150 ?_
              refine lv_aload_n hx hb dX12_isFull_153 rfl (lv_at hl 0 rfl) ?_
              refine va_get (D := g.1) (ci := 12) (v := .int mrb) (C := RX12) (T := TX12) (N := 87) hx hb hT inF_X12 hown hK.1 hP 0 rfl rfl 44 (by decide) (hT _ bw_1214) (fun _ h9 => h9) rfl dX12_isFull_154 ?_
              have h_59 : vp_in mrb 2 := vp_in_iff.mpr (by omega)
              refine va_zald hx hb hK.1 hP 6 3 rfl rfl (i := mrb) h_59 dX12_isFull_157 ?_
              refine lv_topi (fun x_60 ex_60 => ?_)
              have fx_60 : 0 ≤ x_60.toInt ∧ x_60.toInt ≤ 1 := Rg.rd hh20 h_59 ex_60
              have ux_60 := congrArg Int32.toInt ex_60
              refine lv_if_eq (tgt := 165) hx hb dX12_isFull_158 (by decide) (fun c_61 => ?_) (fun c_61 => ?_)
              · have f_62 := E_eq (rfl : x_60.toInt = _) (by decide : (0 : Int32).toInt = 0) c_61
                refine lv_iconst (v := 0) hx hb dX12_isFull_165 (by decide) ?_
                have hP9 : va_P g.1 vwCl [] H := hP.sub [] rfl
                have hD9 : va_D A [] := ⟨fun i j p q h => by simp at h, fun k q h => by simp at h⟩
                exact W.zret (v := 0) (ty := .boolean) hx hb hr rfl (fun t ht hW => ⟨⟨0, (), rfl, ⟨⟨by decide, by decide⟩, (fun _ q1 q2 => absurd q2 (w_5 q1)), (fun _ q1 q2 => absurd q2 (w_16 q1)), (fun _ q1 q2 => absurd q2 (w_27 q1)), (fun _ q1 q2 => absurd q2 (w_38 q1))⟩, by rw [ht]; exact hP9, by rw [hAe]; exact hD9⟩, hS.F ht⟩) hS.2.2 dX12_isFull_166
              · have f_63 := E_ne (rfl : x_60.toInt = _) (by decide : (0 : Int32).toInt = 0) c_61
                refine lv_iconst (v := 1) hx hb dX12_isFull_161 (by decide) ?_
                refine lv_goto (tgt := 166) hx hb dX12_isFull_162 (by decide) ?_
                have hP9 : va_P g.1 vwCl [] H := hP.sub [] rfl
                have hD9 : va_D A [] := ⟨fun i j p q h => by simp at h, fun k q h => by simp at h⟩
                exact W.zret (v := 1) (ty := .boolean) hx hb hr rfl (fun t ht hW => ⟨⟨1, (), rfl, ⟨⟨by decide, by decide⟩, (fun q9 => absurd q9 (by decide)), (fun q9 => absurd q9 (by decide)), (fun q9 => absurd q9 (by decide)), (fun q9 => absurd q9 (by decide))⟩, by rw [ht]; exact hP9, by rw [hAe]; exact hD9⟩, hS.F ht⟩) hS.2.2 dX12_isFull_166
            · subst e_58
              refine lv_if_eq (tgt := 161) hx hb dX12_isFull_146 (by decide) (fun _ => ?_) (fun c9 => absurd (by decide) c9)
              refine lv_iconst (v := 1) hx hb dX12_isFull_161 (by decide) ?_
              refine lv_goto (tgt := 166) hx hb dX12_isFull_162 (by decide) ?_
              have hP9 : va_P g.1 vwCl [] H := hP.sub [] rfl
              have hD9 : va_D A [] := ⟨fun i j p q h => by simp at h, fun k q h => by simp at h⟩
              exact W.zret (v := 1) (ty := .boolean) hx hb hr rfl (fun t ht hW => ⟨⟨1, (), rfl, ⟨⟨by decide, by decide⟩, (fun q9 => absurd q9 (by decide)), (fun q9 => absurd q9 (by decide)), (fun q9 => absurd q9 (by decide)), (fun q9 => absurd q9 (by decide))⟩, by rw [ht]; exact hP9, by rw [hAe]; exact hD9⟩, hS.F ht⟩) hS.2.2 dX12_isFull_166
