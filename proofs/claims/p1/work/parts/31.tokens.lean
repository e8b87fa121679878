theorem bw_369 : Cond.methodLink RX10 3 objectInit ∈ gT := gT_tb 42 (by decide +kernel) (by decide +kernel)
theorem bw_370 : Cond.instanceMethod objectInit ∈ gT := gT_tb 29 (by decide +kernel) (by decide +kernel)
theorem bw_371 : Cond.code objectInit ⟨#[0xb1]⟩ 1 none ∈ gT := gT_tb 30 (by decide +kernel) (by decide +kernel)
theorem bw_372 : Cond.arrayClass .long ∈ gT := gT_tb 126 (by decide +kernel) (by decide +kernel)
theorem bw_373 : Cond.fieldLink RX10 9 "DuelDelays$Tokens" "words" "[J" ∈ gT := gT_tb 107 (by decide +kernel) (by decide +kernel)
theorem bw_374 : Cond.methodLink RX10 17 yJ0_length_8abf5 ∈ gT := gT_tb 44 (by decide +kernel) (by decide +kernel)
theorem bw_375 : Cond.instanceMethod yJ0_length_8abf5 ∈ gT := gT_tb 45 (by decide +kernel) (by decide +kernel)
theorem bw_376 : Cond.selects RJ0 yJ0_length_8abf5 yJ0_length_8abf5 ∈ gT := gT_tb 46 (by decide +kernel) (by decide +kernel)
theorem bw_377 : Cond.methodLink RX10 23 yJ0_charAt_5068e ∈ gT := gT_tb 54 (by decide +kernel) (by decide +kernel)
theorem bw_378 : Cond.instanceMethod yJ0_charAt_5068e ∈ gT := gT_tb 55 (by decide +kernel) (by decide +kernel)
theorem bw_379 : Cond.selects RJ0 yJ0_charAt_5068e yJ0_charAt_5068e ∈ gT := gT_tb 56 (by decide +kernel) (by decide +kernel)
theorem bw_380 : Cond.methodLink RX10 27 yX10_withLetter ∈ gT := gT_tb 92 (by decide +kernel) (by decide +kernel)
theorem bw_381 : Cond.static yX10_withLetter ∈ gT := gT_tb 93 (by decide +kernel) (by decide +kernel)
theorem bw_382 : Cond.initialized yX10_withLetter.cls ∈ gT := gT_tb 3 (by decide +kernel) (by decide +kernel)
theorem bw_383 : Cond.code yX10_init cX10_init 5 none ∈ gT := gT_tb 41 (by decide +kernel) (by decide +kernel)
theorem dX10_init_0 : decode cX10_init 0 = .ok (.aload_n 0, 1) := by decide +kernel
theorem dX10_init_1 : decode cX10_init 1 = .ok (.invokespecial 3, 3) := by decide +kernel
theorem dX10_init_4 : decode cX10_init 4 = .ok (.aload_n 0, 1) := by decide +kernel
theorem dX10_init_5 : decode cX10_init 5 = .ok (.bipush 24, 2) := by decide +kernel
theorem dX10_init_7 : decode cX10_init 7 = .ok (.newarray .long, 2) := by decide +kernel
theorem dX10_init_9 : decode cX10_init 9 = .ok (.putfield 9, 3) := by decide +kernel
theorem dX10_init_12 : decode cX10_init 12 = .ok (.iconst 0, 1) := by decide +kernel
theorem dX10_init_13 : decode cX10_init 13 = .ok (.istore_n 1, 1) := by decide +kernel
theorem dX10_init_14 : decode cX10_init 14 = .ok (.iconst 0, 1) := by decide +kernel
theorem dX10_init_15 : decode cX10_init 15 = .ok (.istore_n 2, 1) := by decide +kernel
theorem dX10_init_16 : decode cX10_init 16 = .ok (.iload_n 2, 1) := by decide +kernel
theorem dX10_init_17 : decode cX10_init 17 = .ok (.bipush 24, 2) := by decide +kernel
theorem dX10_init_19 : decode cX10_init 19 = .ok (.if_icmp .ge 58, 3) := by decide +kernel
theorem dX10_init_22 : decode cX10_init 22 = .ok (.lconst 0, 1) := by decide +kernel
theorem dX10_init_23 : decode cX10_init 23 = .ok (.lstore_n 3, 1) := by decide +kernel
theorem dX10_init_24 : decode cX10_init 24 = .ok (.iload_n 1, 1) := by decide +kernel
theorem dX10_init_25 : decode cX10_init 25 = .ok (.ldc 15, 2) := by decide +kernel
theorem dX10_init_27 : decode cX10_init 27 = .ok (.invokevirtual 17, 3) := by decide +kernel
theorem dX10_init_30 : decode cX10_init 30 = .ok (.if_icmp .ge 31, 3) := by decide +kernel
theorem dX10_init_33 : decode cX10_init 33 = .ok (.ldc 15, 2) := by decide +kernel
theorem dX10_init_35 : decode cX10_init 35 = .ok (.iload_n 1, 1) := by decide +kernel
theorem dX10_init_36 : decode cX10_init 36 = .ok (.invokevirtual 23, 3) := by decide +kernel
theorem dX10_init_39 : decode cX10_init 39 = .ok (.bipush 32, 2) := by decide +kernel
theorem dX10_init_41 : decode cX10_init 41 = .ok (.if_icmp .eq 20, 3) := by decide +kernel
theorem dX10_init_44 : decode cX10_init 44 = .ok (.lload_n 3, 1) := by decide +kernel
theorem dX10_init_45 : decode cX10_init 45 = .ok (.ldc 15, 2) := by decide +kernel
theorem dX10_init_47 : decode cX10_init 47 = .ok (.iload_n 1, 1) := by decide +kernel
theorem dX10_init_48 : decode cX10_init 48 = .ok (.invokevirtual 23, 3) := by decide +kernel
theorem dX10_init_51 : decode cX10_init 51 = .ok (.invokestatic 27, 3) := by decide +kernel
theorem dX10_init_54 : decode cX10_init 54 = .ok (.lstore_n 3, 1) := by decide +kernel
theorem dX10_init_55 : decode cX10_init 55 = .ok (.iinc 1 1, 3) := by decide +kernel
theorem dX10_init_58 : decode cX10_init 58 = .ok (.goto (-34), 3) := by decide +kernel
theorem dX10_init_61 : decode cX10_init 61 = .ok (.aload_n 0, 1) := by decide +kernel
theorem dX10_init_62 : decode cX10_init 62 = .ok (.getfield 9, 3) := by decide +kernel
theorem dX10_init_65 : decode cX10_init 65 = .ok (.iload_n 2, 1) := by decide +kernel
theorem dX10_init_66 : decode cX10_init 66 = .ok (.lload_n 3, 1) := by decide +kernel
theorem dX10_init_67 : decode cX10_init 67 = .ok (.lastore, 1) := by decide +kernel
theorem dX10_init_68 : decode cX10_init 68 = .ok (.iinc 1 1, 3) := by decide +kernel
theorem dX10_init_71 : decode cX10_init 71 = .ok (.iinc 2 1, 3) := by decide +kernel
theorem dX10_init_74 : decode cX10_init 74 = .ok (.goto (-58), 3) := by decide +kernel
theorem dX10_init_77 : decode cX10_init 77 = .ok (.return_, 1) := by decide +kernel
set_option maxHeartbeats 4000000 in
set_option maxRecDepth 100000 in
theorem c_X10_init (l : Launch) (g : GG) (sz : Nat) (h : Nat) (aV : Nat) (fb : Nat → Int32) : Met l yX10_init (.code yX10_init cX10_init 5 none :: gT) ({ frames := 4, cells := 1, slots := 24, locals := 85 }) (va_Pc [.ref h] (Pst g sz [(h, .inr (10, [.int 0, .int 0, .int 0, .long 0, .null, .int 0, .int 0, .null]))] (sX g aV fb (va_A [(h, .inr (10, [.int 0, .int 0, .int 0, .long 0, .null, .int 0, .int 0, .null]))] sz)))) (va_Qv (fun (_ : Nat × (Nat → Int64)) => True) (Qst g [(h, .inr (10, [.int 0, .int 0, .int 0, .long 0, .null, .int 0, .int 0, .null]))] sz (fun ((q_1, f) : Nat × (Nat → Int64)) => [(h, .inr (10, [.int 0, .int 0, .int 0, .long 0, .null, .int 0, .int 0, .ref q_1])), (q_1, aJ g 24 f)])) (va_A [(h, .inr (10, [.int 0, .int 0, .int 0, .long 0, .null, .int 0, .int 0, .null]))] sz)) 1 24 (va_A [(h, .inr (10, [.int 0, .int 0, .int 0, .long 0, .null, .int 0, .int 0, .null]))] sz) := by
  refine Met.ofW (cc := cX10_init) (maxL := 5) (ret := none) (by decide) rfl ?_
  intro p e s m args below meth c s₁ B hml hv
  obtain ⟨rfl, hsz, hP, hK, hD0, hX⟩ := hv
  have hx := B.exec
  have hb := B.bytes
  have hr := B.returns
  have hT : ∀ w ∈ gT, w.before _ s = true := fun w h => atoms_spec (ws := .code yX10_init cX10_init 5 none :: gT) B.pre w (List.mem_cons_of_mem _ h)
  have hown : s.vm.findClass RX10 = some m.cls := findClass_of_methodNamed B.named
  have hlocks := B.notSynchronized
  have hin : meth.name = "<init>" := (name_of_methodNamed B.named B.method).1
  subst hsz
  have hD := hD0.self (sz := s.heap.size)
  generalize hAe : va_A [(h, .inr (10, [.int 0, .int 0, .int 0, .long 0, .null, .int 0, .int 0, .null]))] s.heap.size = A at hD hX ⊢
  have hA : ∀ q : Nat, s.heap.size ≤ q → A q := fun q h => by rw [← hAe]; exact Or.inr h
  have hS : va_S A s.heap s.heap [] := va_S.rf
  have hl := lv_entry ([.ref h]) (n := 5) (Nat.le_of_ble_eq_true rfl)
  rw [lg_entry_eq]
  generalize (lg_sl ([.ref h]) ++ List.replicate (5 - (lg_sl ([.ref h])).length) Slot.unset).toArray = ls at hl ⊢
  have hl : lv_has ls 5 [(0, .ref h)] := hl
  refine p_nH (fun H hH => ?_)
  have hP : va_P g.1 vwCl [(h, .inr (10, [.int 0, .int 0, .int 0, .long 0, .null, .int 0, .int 0, .null]))] H := by rw [hH]; exact hP
  have hS : va_S A s.heap H [] := by rw [hH]; exact hS
  refine lv_aload_n hx hb dX10_init_0 rfl (lv_at hl 0 rfl) ?_
  refine W.objInit hx hb hown (hT _ bw_369) (hT _ bw_370) (hT _ bw_371) rfl (by rw [hml]; exact hl.1) rfl dX10_init_1 (Nat.le_of_ble_eq_true rfl) (Nat.le_of_ble_eq_true rfl) ?_
  refine W.eq (g2 := F0 m 4 ls []) rfl ?_
  refine lv_aload_n hx hb dX10_init_4 rfl (lv_at hl 0 rfl) ?_
  refine lv_bipush (v := 24) hx hb dX10_init_5 (by decide) ?_
  refine p_newa (atype := .long) (ty := .long) hx hb (hT _ bw_372) rfl hK.1 hP hD hS hA 2 rfl (fun _ h9 => h9) (a0 := (24, .inr (.inl zL))) (fun _ => rfl) (by decide) (N' := 24) rfl (by decide) (by decide) (by decide) dX10_init_7 (fun q_1 H hP hD hS => ?_)
  have hP : va_P g.1 vwCl [(h, .inr (10, [.int 0, .int 0, .int 0, .long 0, .null, .int 0, .int 0, .null])), (q_1, aJ g 24 zL)] H := hP
  have hD : va_D A [(h, .inr (10, [.int 0, .int 0, .int 0, .long 0, .null, .int 0, .int 0, .null])), (q_1, aJ g 24 zL)] := hD
  refine W.widen (k := 1) (n := 24) (by decide) (by decide) ?_
  refine va_putF (D := g.1) (ci := 10) (v := .ref q_1) (ty := .array .long) (C := RX10) (T := TX10) (N := 8) hx hb hT inF_X10 tyX10 tyX10_ok nmX10 hown hK.1 hP hD hS 0 rfl rfl 7 (by decide) (hT _ bw_373) (fun _ h9 => h9) rfl hin rfl (by decide +kernel) rfl rfl (Nat.le_of_ble_eq_true rfl) dX10_init_9 (fun H locs hP hD hS => ?_)
  have hP : va_P g.1 vwCl [(h, .inr (10, [.int 0, .int 0, .int 0, .long 0, .null, .int 0, .int 0, .ref q_1])), (q_1, aJ g 24 zL)] H := hP
  have hD : va_D A [(h, .inr (10, [.int 0, .int 0, .int 0, .long 0, .null, .int 0, .int 0, .ref q_1])), (q_1, aJ g 24 zL)] := hD
  refine lv_iconst (v := 0) hx hb dX10_init_12 (by decide) ?_
  refine lv_istore_n (lv' := [(1, .int 0), (0, .ref h)]) hx hb dX10_init_13 rfl hl (by decide) rfl (fun ls hl => ?_)
  refine lv_iconst (v := 0) hx hb dX10_init_14 (by decide) ?_
  refine lv_istore_n (lv' := [(2, .int 0), (1, .int 0), (0, .ref h)]) hx hb dX10_init_15 rfl hl (by decide) rfl (fun ls hl => ?_)
  refine k_loop 24 16 (fun i H locs ls => ∃ (a : Nat) (f : Nat → Int64), a ≤ 109 + i ∧ va_P g.1 vwCl [(h, .inr (10, [.int 0, .int 0, .int 0, .long 0, .null, .int 0, .int 0, .ref q_1])), (q_1, aJ g 24 f)] H ∧ va_D A [(h, .inr (10, [.int 0, .int 0, .int 0, .long 0, .null, .int 0, .int 0, .ref q_1])), (q_1, aJ g 24 f)] ∧ va_S A s.heap H locs ∧ lv_has ls 5 [(2, .int (nI i)), (1, .int (nI a)), (0, .ref h)]) (fun _ => 1) (fun _ => 24) (fun i hi H locs ls hI ih => ?_) (fun H locs ls hI => ?_) 0 (by decide) ⟨0, zL, by omega, hP, hD, hS, hl⟩
  · obtain ⟨a, f, ha, hP, hD, hS, hl⟩ := hI
    refine lv_iload_n hx hb dX10_init_16 rfl (lv_at hl 0 rfl) ?_
    refine lv_bipush (v := 24) hx hb dX10_init_17 (by decide) ?_
    refine lv_icmp_ge (tgt := 77) hx hb dX10_init_19 (by decide) (fun c9 => absurd c9 (nI_ge (b := 24) hi (by decide))) (fun _ => ?_)
    refine lv_lconst (v := 0) hx hb dX10_init_22 (by decide) ?_
    refine lv_lstore_n (lv' := [(3, .long 0), (2, .int (nI i)), (1, .int (nI a)), (0, .ref h)]) hx hb dX10_init_23 rfl hl (by decide) rfl (fun ls hl => ?_)
    refine k_floop 24 (fun n H locs ls => ∃ (a : Nat) (z : Int64), a ≤ 109 + i ∧ a + n = 300 ∧ va_P g.1 vwCl [(h, .inr (10, [.int 0, .int 0, .int 0, .long 0, .null, .int 0, .int 0, .ref q_1])), (q_1, aJ g 24 f)] H ∧ va_D A [(h, .inr (10, [.int 0, .int 0, .int 0, .long 0, .null, .int 0, .int 0, .ref q_1])), (q_1, aJ g 24 f)] ∧ va_S A s.heap H locs ∧ lv_has ls 5 [(3, .long z), (2, .int (nI i)), (1, .int (nI a)), (0, .ref h)]) (fun n H locs ls hI ih2 => ?_) (300 - a) ⟨a, 0, ha, by omega, hP, hD, hS, hl⟩
    obtain ⟨a, z, ha, hn, hP, hD, hS, hl⟩ := hI
    refine lv_iload_n hx hb dX10_init_24 rfl (lv_at hl 2 rfl) ?_
    refine va_ldcS hx hb hown (eW_tx hK.2) dX10_init_25 ?_
    refine k_iR (k_Vs (n := 0) ⟨hx, hb, hml, hown, hT⟩ hK hP hD [] rfl (by decide) (c_J0_length_8abf5 l g H.size aV fb) (gV bw_374 bw_375 bw_376 bw_348 bw_349) rfl rfl (by decide +kernel) ⟨by decide, by decide⟩ (s_recv hX hS) sX.calling (hX.go hS (va_A0 hS hA)) rfl rfl hl.1 (Nat.le_of_ble_eq_true rfl) dX10_init_27 ⟨by decide, by decide⟩) hP hS hA (fun r_2 _ H locs hw hP hS => ?_)
    have hw : r_2 = 109 := hw
    subst hw
    refine lv_icmp_ge (tgt := 61) hx hb dX10_init_30 (by decide) (fun c_3 => ?_) (fun c_3 => ?_)
    · refine lv_aload_n hx hb dX10_init_61 rfl (lv_at hl 3 rfl) ?_
      refine va_get (D := g.1) (ci := 10) (v := .ref q_1) (C := RX10) (T := TX10) (N := 8) hx hb hT inF_X10 hown hK.1 hP 0 rfl rfl 7 (by decide) (hT _ bw_373) (fun _ h9 => h9) rfl dX10_init_62 ?_
      refine lv_iload_n hx hb dX10_init_65 rfl (lv_at hl 1 rfl) ?_
      refine lv_lload_n hx hb dX10_init_66 rfl (lv_at hl 0 rfl) ?_
      refine va_last hx hb hK.1 hP hD hS 1 2 rfl rfl (i := (nI i)) (x := z) (vp_in_nI hi (by decide)) dX10_init_67 (fun H locs hP hD hS => ?_)
      generalize vp_updL f ((nI i) : Int32).toNatClampNeg z = f_4 at hP hD
      have hP : va_P g.1 vwCl [(h, .inr (10, [.int 0, .int 0, .int 0, .long 0, .null, .int 0, .int 0, .ref q_1])), (q_1, aJ g 24 f_4)] H := hP
      have hD : va_D A [(h, .inr (10, [.int 0, .int 0, .int 0, .long 0, .null, .int 0, .int 0, .ref q_1])), (q_1, aJ g 24 f_4)] := hD
      refine lv_iinc (v := nI (a + 1)) (lv' := [(1, .int (nI (a + 1))), (3, .long z), (2, .int (nI i)), (0, .ref h)]) hx hb dX10_init_68 hl (k := 2) rfl (nI_1 a) (by decide) rfl (fun ls hl => ?_)
      refine lv_iinc (v := nI (i + 1)) (lv' := [(2, .int (nI (i + 1))), (1, .int (nI (a + 1))), (3, .long z), (0, .ref h)]) hx hb dX10_init_71 hl (k := 2) rfl (nI_1 i) (by decide) rfl (fun ls hl => ?_)
      refine lv_goto (tgt := 16) hx hb dX10_init_74 (by decide) ?_
      exact ih H locs ls ⟨_, f_4, (by omega : a + 1 ≤ 109 + (i + 1)), hP.sub [0, 1] rfl, hD.sub [0, 1] (by decide) rfl, hS, lv_sub hl [0, 1, 3] rfl⟩
    · refine va_ldcS hx hb hown (eW_tx hK.2) dX10_init_33 ?_
      refine lv_iload_n hx hb dX10_init_35 rfl (lv_at hl 2 rfl) ?_
      refine k_iR (k_Vs (n := 1) ⟨hx, hb, hml, hown, hT⟩ hK hP hD [] rfl (by decide) (c_J0_charAt_5068e l g H.size (nI a) aV fb (nI_pos (by omega)) (Int32.not_le.mp c_3)) (gV bw_377 bw_378 bw_379 bw_348 bw_366) rfl rfl (by decide +kernel) ⟨by decide, by decide⟩ (s_recv hX hS) sX.calling (hX.go hS (va_A0 hS hA)) rfl rfl hl.1 (Nat.le_of_ble_eq_true rfl) dX10_init_36 ⟨by decide, by decide⟩) hP hS hA (fun r_5 _ H locs hw hP hS => ?_)
      refine lv_bipush (v := 32) hx hb dX10_init_39 (by decide) ?_
      refine lv_icmp_eq (tgt := 61) hx hb dX10_init_41 (by decide) (fun c_6 => ?_) (fun c_6 => ?_)
      · refine lv_aload_n hx hb dX10_init_61 rfl (lv_at hl 3 rfl) ?_
        refine va_get (D := g.1) (ci := 10) (v := .ref q_1) (C := RX10) (T := TX10) (N := 8) hx hb hT inF_X10 hown hK.1 hP 0 rfl rfl 7 (by decide) (hT _ bw_373) (fun _ h9 => h9) rfl dX10_init_62 ?_
        refine lv_iload_n hx hb dX10_init_65 rfl (lv_at hl 1 rfl) ?_
        refine lv_lload_n hx hb dX10_init_66 rfl (lv_at hl 0 rfl) ?_
        refine va_last hx hb hK.1 hP hD hS 1 2 rfl rfl (i := (nI i)) (x := z) (vp_in_nI hi (by decide)) dX10_init_67 (fun H locs hP hD hS => ?_)
        generalize vp_updL f ((nI i) : Int32).toNatClampNeg z = f_7 at hP hD
        have hP : va_P g.1 vwCl [(h, .inr (10, [.int 0, .int 0, .int 0, .long 0, .null, .int 0, .int 0, .ref q_1])), (q_1, aJ g 24 f_7)] H := hP
        have hD : va_D A [(h, .inr (10, [.int 0, .int 0, .int 0, .long 0, .null, .int 0, .int 0, .ref q_1])), (q_1, aJ g 24 f_7)] := hD
        refine lv_iinc (v := nI (a + 1)) (lv' := [(1, .int (nI (a + 1))), (3, .long z), (2, .int (nI i)), (0, .ref h)]) hx hb dX10_init_68 hl (k := 2) rfl (nI_1 a) (by decide) rfl (fun ls hl => ?_)
        refine lv_iinc (v := nI (i + 1)) (lv' := [(2, .int (nI (i + 1))), (1, .int (nI (a + 1))), (3, .long z), (0, .ref h)]) hx hb dX10_init_71 hl (k := 2) rfl (nI_1 i) (by decide) rfl (fun ls hl => ?_)
        refine lv_goto (tgt := 16) hx hb dX10_init_74 (by decide) ?_
        exact ih H locs ls ⟨_, f_7, (by omega : a + 1 ≤ 109 + (i + 1)), hP.sub [0, 1] rfl, hD.sub [0, 1] (by decide) rfl, hS, lv_sub hl [0, 1, 3] rfl⟩
      · refine lv_lload_n hx hb dX10_init_44 rfl (lv_at hl 0 rfl) ?_
        refine va_ldcS hx hb hown (eW_tx hK.2) dX10_init_45 ?_
        refine lv_iload_n hx hb dX10_init_47 rfl (lv_at hl 2 rfl) ?_
        refine k_iR (k_Vs (n := 1) ⟨hx, hb, hml, hown, hT⟩ hK hP hD [] rfl (by decide) (c_J0_charAt_5068e l g H.size (nI a) aV fb (nI_pos (by omega)) (Int32.not_le.mp c_3)) (gV bw_377 bw_378 bw_379 bw_348 bw_366) rfl rfl (by decide +kernel) ⟨by decide, by decide⟩ (s_recv hX hS) sX.calling (hX.go hS (va_A0 hS hA)) rfl rfl hl.1 (Nat.le_of_ble_eq_true rfl) dX10_init_48 ⟨by decide, by decide⟩) hP hS hA (fun r_8 _ H locs hw hP hS => ?_)
        refine k_lR (k_S (n := 2) ⟨hx, hb, hml, hown, hT⟩ hK hP hD [] rfl (by decide) (c_X10_withLetter l g H.size z r_8) (gS bw_380 bw_381 bw_382 bw_368) rfl rfl (by decide +kernel) ⟨by decide, by decide⟩ (fun _ _ _ _ _ => trivial) (fun _ _ _ => trivial) rfl rfl hl.1 (Nat.le_of_ble_eq_true rfl) dX10_init_51 ⟨by decide, by decide⟩) hP hS hA (fun r_9 _ H locs hw hP hS => ?_)
        refine lv_lstore_n (lv' := [(3, .long r_9), (2, .int (nI i)), (1, .int (nI a)), (0, .ref h)]) hx hb dX10_init_54 rfl hl (by decide) rfl (fun ls hl => ?_)
        refine lv_iinc (v := nI (a + 1)) (lv' := [(1, .int (nI (a + 1))), (3, .long r_9), (2, .int (nI i)), (0, .ref h)]) hx hb dX10_init_55 hl (k := 2) rfl (nI_1 a) (by decide) rfl (fun ls hl => ?_)
        refine lv_goto (tgt := 24) hx hb dX10_init_58 (by decide) ?_
        have ha9 : a < 109 := Nat.lt_of_not_le (fun h => c_3 (nI_le (a := 109) h (by omega)))
        exact ih2 (n - 1) (by omega) H locs ls ⟨a + 1, r_9, by omega, by omega, hP.sub [0, 1] rfl, hD.sub [0, 1] (by decide) rfl, hS, lv_sub hl [1, 2, 0, 3] rfl⟩
  · obtain ⟨a, f, ha, hP, hD, hS, hl⟩ := hI
    have hl : lv_has ls 5 [(2, .int 24), (1, .int (nI a)), (0, .ref h)] := hl
    have hP : va_P g.1 vwCl [(h, .inr (10, [.int 0, .int 0, .int 0, .long 0, .null, .int 0, .int 0, .ref q_1])), (q_1, aJ g 24 f)] H := hP
    have hD : va_D A [(h, .inr (10, [.int 0, .int 0, .int 0, .long 0, .null, .int 0, .int 0, .ref q_1])), (q_1, aJ g 24 f)] := hD
    refine lv_iload_n hx hb dX10_init_16 rfl (lv_at hl 0 rfl) ?_
    refine lv_bipush (v := 24) hx hb dX10_init_17 (by decide) ?_
    refine lv_icmp_ge (tgt := 77) hx hb dX10_init_19 (by decide) (fun _ => ?_) (fun c9 => absurd (by decide) c9)
    have hP9 : va_P g.1 vwCl [(h, .inr (10, [.int 0, .int 0, .int 0, .long 0, .null, .int 0, .int 0, .ref q_1])), (q_1, aJ g 24 f)] H := hP.sub [0, 1] rfl
    have hD9 : va_D A [(h, .inr (10, [.int 0, .int 0, .int 0, .long 0, .null, .int 0, .int 0, .ref q_1])), (q_1, aJ g 24 f)] := hD.sub [0, 1] (by decide) rfl
    exact W.vret hx hb hr (fun t ht hW => ⟨⟨(q_1, f), rfl, trivial, by rw [ht]; exact hP9, by rw [hAe]; exact hD9⟩, hS.F ht⟩) hS.2.2 dX10_init_77
