set_option maxHeartbeats 40000000 in
set_option maxRecDepth 100000 in
theorem law_c14 {p : Program} {e : Env} {s : State} {m : MethodId} {below : List Frame} {meth : Method} {c : Code} (l : Launch) {b L : Nat} {xs : Nat → Int32} (hL : L ≤ 3072) (C0 : lw_At p s m meth c b L xs) {g : GG} {aW : Nat} {fw : Nat → Int32} {A : Nat → Prop} (hK : kE g s) (hX2 : sE g.2.2.2.2.2.2.2 11 aW fw A s s.heap) (hAe : A = fun q : Nat => s.heap.size ≤ q) {u : XRec} {v : MRec} {H : Heap} {locs : List Loc} {ls : Array Slot} (hu : XOk u) (hv : MOk v) (htt : (u.2.1 35) = (v.2.1 32)) {i : Int32} {n : Nat} (hi0 : 0 ≤ i.toInt ∧ i.toInt ≤ 3072) (hm : 3072 - i.toInt ≤ (n : Int)) (hil : i.toInt + 6 ≤ (L : Int)) (hP : va_P g.1 vwCl (wX g u ++ wM g v) H) (hD : va_D A (wX g u ++ wM g v)) (hS : va_S A s.heap H locs) (hl : lv_has ls 4 [(3, .int i), (2, .ref (v.1 0)), (1, .ref (u.1 0)), (0, .ref b)]) (ih : ∀ n', n' < n → ∀ (H : Heap) (locs : List Loc) (ls : Array Slot), LI g A s b n' H locs ls → W p l e room_1 s m #[Value.ref b] below meth c H locs 476 78636 (lw_Z below #[Value.ref b] s) (F0 m 18 ls [])) : W p l e room_1 s m #[Value.ref b] below meth c H locs 476 78636 (lw_Z below #[Value.ref b] s) (F0 m 638 ls []) := by
  obtain ⟨hx, hb, hr, hml, hown, hts, hXs, hbl, hlocks, hgv⟩ := id C0
  have hT : ∀ w ∈ gT, w.before #[Value.ref b] s = true := fun w h => hts w (List.mem_filter.mp h).1
  have hown : s.vm.findClass RL = some m.cls := hown
  have hA : ∀ q : Nat, s.heap.size ≤ q → A q := by rw [hAe]; exact fun _ h => h
  have hbA : ¬ A b := by rw [hAe]; exact Nat.not_le.mpr hbl
  refine lv_aload_n hx hb dL_law_638 rfl (lv_at hl 2 rfl) ?_
  refine lv_aload_n hx hb dL_law_639 rfl (lv_at hl 3 rfl) ?_
  refine lv_iload_n hx hb dL_law_640 rfl (lv_at hl 0 rfl) ?_
  refine lv_iconst (v := 1) hx hb dL_law_641 (by decide) ?_
  refine lv_iadd hx hb dL_law_642 ?_
  refine lv_topi (fun x_1 ex_1 => ?_)
  have fx_1 : x_1.toInt = i.toInt + 1 := by rw [ex_1]; exact I_add rfl (by decide : (1 : Int32).toInt = 1) (by omega) (by omega)
  refine va_sld hx hb hXs hbl hbA hS (i := x_1) (vp_in_iff.mpr (by omega)) dL_law_643 ?_
  refine lv_topi (fun x_2 ex_2 => ?_)
  refine lv_aload_n hx hb dL_law_644 rfl (lv_at hl 3 rfl) ?_
  refine lv_iload_n hx hb dL_law_645 rfl (lv_at hl 0 rfl) ?_
  refine lv_iconst (v := 2) hx hb dL_law_646 (by decide) ?_
  refine lv_iadd hx hb dL_law_647 ?_
  refine lv_topi (fun x_3 ex_3 => ?_)
  have fx_3 : x_3.toInt = i.toInt + 2 := by rw [ex_3]; exact I_add rfl (by decide : (2 : Int32).toInt = 2) (by omega) (by omega)
  refine va_sld hx hb hXs hbl hbA hS (i := x_3) (vp_in_iff.mpr (by omega)) dL_law_648 ?_
  refine lv_topi (fun x_4 ex_4 => ?_)
  rcases (show (u.2.1 1).toInt ≤ 39 ∨ (u.2.1 1).toInt = 40 by have q9 := hu.2.1; omega) with hcc | hcc
  · refine k_iW (k_VW (n := 2) ⟨hx, hb, hml, hown, hT⟩ hK hP hD (lift_l (X' := nX) (wr := wM g v) (xL_rent_l l g H.size u hu x_2 x_4 hcc) (fun _ _ _ _ _ _ => trivial)) (gV bw_1521 bw_1522 bw_1523 bw_395 bw_513) rfl rfl (by decide +kernel) ⟨by decide, by decide⟩ (ci := 11) rfl (List.mem_append_left _ (List.mem_append_left _ List.mem_cons_self)) (fun _ _ _ _ _ => trivial) (fun _ _ _ => trivial) rfl rfl hl.1 (Nat.le_of_ble_eq_true rfl) dL_law_649 ⟨by decide, by decide⟩) hD hS hA (fun r_5 u_6 H locs hw hP hD hS => ?_)
    obtain ⟨hu_6, heu_6, htu_6⟩ := hw
    have hl : lv_has ls 4 [(3, .int i), (2, .ref (v.1 0)), (1, .ref (u_6.1 0)), (0, .ref b)] := by rw [heu_6]; exact hl
    refine lv_pop hx hb dL_law_652 rfl ?_
    refine lv_aload_n hx hb dL_law_653 rfl (lv_at hl 1 rfl) ?_
    refine lv_aload_n hx hb dL_law_654 rfl (lv_at hl 3 rfl) ?_
    refine lv_iload_n hx hb dL_law_655 rfl (lv_at hl 0 rfl) ?_
    refine lv_iconst (v := 1) hx hb dL_law_656 (by decide) ?_
    refine lv_iadd hx hb dL_law_657 ?_
    refine lv_topi (fun x_7 ex_7 => ?_)
    have fx_7 : x_7.toInt = i.toInt + 1 := by rw [ex_7]; exact I_add rfl (by decide : (1 : Int32).toInt = 1) (by omega) (by omega)
    refine va_sld hx hb hXs hbl hbA hS (i := x_7) (vp_in_iff.mpr (by omega)) dL_law_658 ?_
    refine lv_topi (fun x_8 ex_8 => ?_)
    refine lv_aload_n hx hb dL_law_659 rfl (lv_at hl 3 rfl) ?_
    refine lv_iload_n hx hb dL_law_660 rfl (lv_at hl 0 rfl) ?_
    refine lv_iconst (v := 2) hx hb dL_law_661 (by decide) ?_
    refine lv_iadd hx hb dL_law_662 ?_
    refine lv_topi (fun x_9 ex_9 => ?_)
    have fx_9 : x_9.toInt = i.toInt + 2 := by rw [ex_9]; exact I_add rfl (by decide : (2 : Int32).toInt = 2) (by omega) (by omega)
    refine va_sld hx hb hXs hbl hbA hS (i := x_9) (vp_in_iff.mpr (by omega)) dL_law_663 ?_
    refine lv_topi (fun x_10 ex_10 => ?_)
    refine k_iW (k_VW (n := 2) ⟨hx, hb, hml, hown, hT⟩ hK hP hD (lift_r (X' := nX) (wr := wX g u_6) (mL_rent l g H.size v hv x_8 x_10) (fun _ _ _ _ _ _ => trivial)) (gV bw_1524 bw_1525 bw_1526 bw_840 bw_990) rfl rfl (by decide +kernel) ⟨by decide, by decide⟩ (ci := 12) rfl (List.mem_append_right _ List.mem_cons_self) (fun _ _ _ _ _ => trivial) (fun _ _ _ => trivial) rfl rfl hl.1 (Nat.le_of_ble_eq_true rfl) dL_law_664 ⟨by decide, by decide⟩) hD hS hA (fun r_11 v_12 H locs hw hP hD hS => ?_)
    obtain ⟨hv_12, hev_12, htv_12⟩ := hw
    have hl : lv_has ls 4 [(3, .int i), (2, .ref (v_12.1 0)), (1, .ref (u_6.1 0)), (0, .ref b)] := by rw [hev_12]; exact hl
    refine lv_pop hx hb dL_law_667 rfl ?_
    refine lv_goto (tgt := 1217) hx hb dL_law_668 (by decide) ?_
    obtain ⟨x_13, ex_13⟩ : ∃ y : Int32, y = i + 6 := ⟨_, rfl⟩
    have fx_13 : x_13.toInt = i.toInt + 6 := by rw [ex_13]; exact I_add rfl (by decide) (by omega) (by omega)
    refine lv_iinc (v := x_13) (lv' := [(3, .int x_13), (2, .ref (v_12.1 0)), (1, .ref (u_6.1 0)), (0, .ref b)]) hx hb dL_law_1217 hl (k := 0) rfl (by rw [ex_13]; rfl) (by decide) rfl (fun ls hl => ?_)
    refine lv_goto (tgt := 18) hx hb dL_law_1220 (by decide) ?_
    exact ih (n - 1) (by omega) H locs ls ⟨u_6, v_12, x_13, hu_6, hv_12, (htu_6.trans (htt.trans htv_12.symm)), by omega, by omega, hP, hD, hS, lv_sub hl [0, 1, 2, 3] rfl⟩
  · refine k_iW (k_VW (n := 2) ⟨hx, hb, hml, hown, hT⟩ hK hP hD (lift_l (X' := nX) (wr := wM g v) (xL_rent_h l g H.size u hu x_2 x_4 hcc) (fun _ _ _ _ _ _ => trivial)) (gV bw_1521 bw_1522 bw_1523 bw_395 bw_513) rfl rfl (by decide +kernel) ⟨by decide, by decide⟩ (ci := 11) rfl (List.mem_append_left _ (List.mem_append_left _ List.mem_cons_self)) (fun _ _ _ _ _ => trivial) (fun _ _ _ => trivial) rfl rfl hl.1 (Nat.le_of_ble_eq_true rfl) dL_law_649 ⟨by decide, by decide⟩) hD hS hA (fun r_14 u_15 H locs hw hP hD hS => ?_)
    obtain ⟨hu_15, heu_15, htu_15⟩ := hw
    have hl : lv_has ls 4 [(3, .int i), (2, .ref (v.1 0)), (1, .ref (u_15.1 0)), (0, .ref b)] := by rw [heu_15]; exact hl
    refine lv_pop hx hb dL_law_652 rfl ?_
    refine lv_aload_n hx hb dL_law_653 rfl (lv_at hl 1 rfl) ?_
    refine lv_aload_n hx hb dL_law_654 rfl (lv_at hl 3 rfl) ?_
    refine lv_iload_n hx hb dL_law_655 rfl (lv_at hl 0 rfl) ?_
    refine lv_iconst (v := 1) hx hb dL_law_656 (by decide) ?_
    refine lv_iadd hx hb dL_law_657 ?_
    refine lv_topi (fun x_16 ex_16 => ?_)
    have fx_16 : x_16.toInt = i.toInt + 1 := by rw [ex_16]; exact I_add rfl (by decide : (1 : Int32).toInt = 1) (by omega) (by omega)
    refine va_sld hx hb hXs hbl hbA hS (i := x_16) (vp_in_iff.mpr (by omega)) dL_law_658 ?_
    refine lv_topi (fun x_17 ex_17 => ?_)
    refine lv_aload_n hx hb dL_law_659 rfl (lv_at hl 3 rfl) ?_
    refine lv_iload_n hx hb dL_law_660 rfl (lv_at hl 0 rfl) ?_
    refine lv_iconst (v := 2) hx hb dL_law_661 (by decide) ?_
    refine lv_iadd hx hb dL_law_662 ?_
    refine lv_topi (fun x_18 ex_18 => ?_)
    have fx_18 : x_18.toInt = i.toInt + 2 := by rw [ex_18]; exact I_add rfl (by decide : (2 : Int32).toInt = 2) (by omega) (by omega)
    refine va_sld hx hb hXs hbl hbA hS (i := x_18) (vp_in_iff.mpr (by omega)) dL_law_663 ?_
    refine lv_topi (fun x_19 ex_19 => ?_)
    refine k_iW (k_VW (n := 2) ⟨hx, hb, hml, hown, hT⟩ hK hP hD (lift_r (X' := nX) (wr := wX g u_15) (mL_rent l g H.size v hv x_17 x_19) (fun _ _ _ _ _ _ => trivial)) (gV bw_1524 bw_1525 bw_1526 bw_840 bw_990) rfl rfl (by decide +kernel) ⟨by decide, by decide⟩ (ci := 12) rfl (List.mem_append_right _ List.mem_cons_self) (fun _ _ _ _ _ => trivial) (fun _ _ _ => trivial) rfl rfl hl.1 (Nat.le_of_ble_eq_true rfl) dL_law_664 ⟨by decide, by decide⟩) hD hS hA (fun r_20 v_21 H locs hw hP hD hS => ?_)
    obtain ⟨hv_21, hev_21, htv_21⟩ := hw
    have hl : lv_has ls 4 [(3, .int i), (2, .ref (v_21.1 0)), (1, .ref (u_15.1 0)), (0, .ref b)] := by rw [hev_21]; exact hl
    refine lv_pop hx hb dL_law_667 rfl ?_
    refine lv_goto (tgt := 1217) hx hb dL_law_668 (by decide) ?_
    obtain ⟨x_22, ex_22⟩ : ∃ y : Int32, y = i + 6 := ⟨_, rfl⟩
    have fx_22 : x_22.toInt = i.toInt + 6 := by rw [ex_22]; exact I_add rfl (by decide) (by omega) (by omega)
    refine lv_iinc (v := x_22) (lv' := [(3, .int x_22), (2, .ref (v_21.1 0)), (1, .ref (u_15.1 0)), (0, .ref b)]) hx hb dL_law_1217 hl (k := 0) rfl (by rw [ex_22]; rfl) (by decide) rfl (fun ls hl => ?_)
    refine lv_goto (tgt := 18) hx hb dL_law_1220 (by decide) ?_
    exact ih (n - 1) (by omega) H locs ls ⟨u_15, v_21, x_22, hu_15, hv_21, (htu_15.trans (htt.trans htv_21.symm)), by omega, by omega, hP, hD, hS, lv_sub hl [0, 1, 2, 3] rfl⟩

set_option maxHeartbeats 40000000 in
set_option maxRecDepth 100000 in
theorem law_c15 {p : Program} {e : Env} {s : State} {m : MethodId} {below : List Frame} {meth : Method} {c : Code} (l : Launch) {b L : Nat} {xs : Nat → Int32} (hL : L ≤ 3072) (C0 : lw_At p s m meth c b L xs) {g : GG} {aW : Nat} {fw : Nat → Int32} {A : Nat → Prop} (hK : kE g s) (hX2 : sE g.2.2.2.2.2.2.2 11 aW fw A s s.heap) (hAe : A = fun q : Nat => s.heap.size ≤ q) {u : XRec} {v : MRec} {H : Heap} {locs : List Loc} {ls : Array Slot} (hu : XOk u) (hv : MOk v) (htt : (u.2.1 35) = (v.2.1 32)) {i : Int32} {n : Nat} (hi0 : 0 ≤ i.toInt ∧ i.toInt ≤ 3072) (hm : 3072 - i.toInt ≤ (n : Int)) (hil : i.toInt + 6 ≤ (L : Int)) (hP : va_P g.1 vwCl (wX g u ++ wM g v) H) (hD : va_D A (wX g u ++ wM g v)) (hS : va_S A s.heap H locs) (hl : lv_has ls 4 [(3, .int i), (2, .ref (v.1 0)), (1, .ref (u.1 0)), (0, .ref b)]) (ih : ∀ n', n' < n → ∀ (H : Heap) (locs : List Loc) (ls : Array Slot), LI g A s b n' H locs ls → W p l e room_1 s m #[Value.ref b] below meth c H locs 476 78636 (lw_Z below #[Value.ref b] s) (F0 m 18 ls [])) : W p l e room_1 s m #[Value.ref b] below meth c H locs 476 78636 (lw_Z below #[Value.ref b] s) (F0 m 671 ls []) := by
  obtain ⟨hx, hb, hr, hml, hown, hts, hXs, hbl, hlocks, hgv⟩ := id C0
  have hT : ∀ w ∈ gT, w.before #[Value.ref b] s = true := fun w h => hts w (List.mem_filter.mp h).1
  have hown : s.vm.findClass RL = some m.cls := hown
  have hA : ∀ q : Nat, s.heap.size ≤ q → A q := by rw [hAe]; exact fun _ h => h
  have hbA : ¬ A b := by rw [hAe]; exact Nat.not_le.mpr hbl
  refine lv_aload_n hx hb dL_law_671 rfl (lv_at hl 2 rfl) ?_
  refine lv_aload_n hx hb dL_law_672 rfl (lv_at hl 3 rfl) ?_
  refine lv_iload_n hx hb dL_law_673 rfl (lv_at hl 0 rfl) ?_
  refine lv_iconst (v := 1) hx hb dL_law_674 (by decide) ?_
  refine lv_iadd hx hb dL_law_675 ?_
  refine lv_topi (fun x_1 ex_1 => ?_)
  have fx_1 : x_1.toInt = i.toInt + 1 := by rw [ex_1]; exact I_add rfl (by decide : (1 : Int32).toInt = 1) (by omega) (by omega)
  refine va_sld hx hb hXs hbl hbA hS (i := x_1) (vp_in_iff.mpr (by omega)) dL_law_676 ?_
  refine lv_topi (fun x_2 ex_2 => ?_)
  rcases (show (u.2.1 1).toInt ≤ 39 ∨ (u.2.1 1).toInt = 40 by have q9 := hu.2.1; omega) with hcc | hcc
  · refine k_iW (k_VW (n := 1) ⟨hx, hb, hml, hown, hT⟩ hK hP hD (lift_l (X' := nX) (wr := wM g v) (xL_strike_l l g H.size u hu x_2 hcc) (fun _ _ _ _ _ _ => trivial)) (gV bw_1527 bw_1528 bw_1529 bw_395 bw_515) rfl rfl (by decide +kernel) ⟨by decide, by decide⟩ (ci := 11) rfl (List.mem_append_left _ (List.mem_append_left _ List.mem_cons_self)) (fun _ _ _ _ _ => trivial) (fun _ _ _ => trivial) rfl rfl hl.1 (Nat.le_of_ble_eq_true rfl) dL_law_677 ⟨by decide, by decide⟩) hD hS hA (fun r_3 u_4 H locs hw hP hD hS => ?_)
    obtain ⟨hu_4, heu_4, htu_4⟩ := hw
    have hl : lv_has ls 4 [(3, .int i), (2, .ref (v.1 0)), (1, .ref (u_4.1 0)), (0, .ref b)] := by rw [heu_4]; exact hl
    refine lv_pop hx hb dL_law_680 rfl ?_
    refine lv_aload_n hx hb dL_law_681 rfl (lv_at hl 1 rfl) ?_
    refine lv_aload_n hx hb dL_law_682 rfl (lv_at hl 3 rfl) ?_
    refine lv_iload_n hx hb dL_law_683 rfl (lv_at hl 0 rfl) ?_
    refine lv_iconst (v := 1) hx hb dL_law_684 (by decide) ?_
    refine lv_iadd hx hb dL_law_685 ?_
    refine lv_topi (fun x_5 ex_5 => ?_)
    have fx_5 : x_5.toInt = i.toInt + 1 := by rw [ex_5]; exact I_add rfl (by decide : (1 : Int32).toInt = 1) (by omega) (by omega)
    refine va_sld hx hb hXs hbl hbA hS (i := x_5) (vp_in_iff.mpr (by omega)) dL_law_686 ?_
    refine lv_topi (fun x_6 ex_6 => ?_)
    refine k_iW (k_VW (n := 1) ⟨hx, hb, hml, hown, hT⟩ hK hP hD (lift_r (X' := nX) (wr := wX g u_4) (mL_strike l g H.size v hv x_6) (fun _ _ _ _ _ _ => trivial)) (gV bw_1530 bw_1531 bw_1532 bw_840 bw_991) rfl rfl (by decide +kernel) ⟨by decide, by decide⟩ (ci := 12) rfl (List.mem_append_right _ List.mem_cons_self) (fun _ _ _ _ _ => trivial) (fun _ _ _ => trivial) rfl rfl hl.1 (Nat.le_of_ble_eq_true rfl) dL_law_687 ⟨by decide, by decide⟩) hD hS hA (fun r_7 v_8 H locs hw hP hD hS => ?_)
    obtain ⟨hv_8, hev_8, htv_8⟩ := hw
    have hl : lv_has ls 4 [(3, .int i), (2, .ref (v_8.1 0)), (1, .ref (u_4.1 0)), (0, .ref b)] := by rw [hev_8]; exact hl
    refine lv_pop hx hb dL_law_690 rfl ?_
    refine lv_goto (tgt := 1217) hx hb dL_law_691 (by decide) ?_
    obtain ⟨x_9, ex_9⟩ : ∃ y : Int32, y = i + 6 := ⟨_, rfl⟩
    have fx_9 : x_9.toInt = i.toInt + 6 := by rw [ex_9]; exact I_add rfl (by decide) (by omega) (by omega)
    refine lv_iinc (v := x_9) (lv' := [(3, .int x_9), (2, .ref (v_8.1 0)), (1, .ref (u_4.1 0)), (0, .ref b)]) hx hb dL_law_1217 hl (k := 0) rfl (by rw [ex_9]; rfl) (by decide) rfl (fun ls hl => ?_)
    refine lv_goto (tgt := 18) hx hb dL_law_1220 (by decide) ?_
    exact ih (n - 1) (by omega) H locs ls ⟨u_4, v_8, x_9, hu_4, hv_8, (htu_4.trans (htt.trans htv_8.symm)), by omega, by omega, hP, hD, hS, lv_sub hl [0, 1, 2, 3] rfl⟩
  · refine k_iW (k_VW (n := 1) ⟨hx, hb, hml, hown, hT⟩ hK hP hD (lift_l (X' := nX) (wr := wM g v) (xL_strike_h l g H.size u hu x_2 hcc) (fun _ _ _ _ _ _ => trivial)) (gV bw_1527 bw_1528 bw_1529 bw_395 bw_515) rfl rfl (by decide +kernel) ⟨by decide, by decide⟩ (ci := 11) rfl (List.mem_append_left _ (List.mem_append_left _ List.mem_cons_self)) (fun _ _ _ _ _ => trivial) (fun _ _ _ => trivial) rfl rfl hl.1 (Nat.le_of_ble_eq_true rfl) dL_law_677 ⟨by decide, by decide⟩) hD hS hA (fun r_10 u_11 H locs hw hP hD hS => ?_)
    obtain ⟨hu_11, heu_11, htu_11⟩ := hw
    have hl : lv_has ls 4 [(3, .int i), (2, .ref (v.1 0)), (1, .ref (u_11.1 0)), (0, .ref b)] := by rw [heu_11]; exact hl
    refine lv_pop hx hb dL_law_680 rfl ?_
    refine lv_aload_n hx hb dL_law_681 rfl (lv_at hl 1 rfl) ?_
    refine lv_aload_n hx hb dL_law_682 rfl (lv_at hl 3 rfl) ?_
    refine lv_iload_n hx hb dL_law_683 rfl (lv_at hl 0 rfl) ?_
    refine lv_iconst (v := 1) hx hb dL_law_684 (by decide) ?_
    refine lv_iadd hx hb dL_law_685 ?_
    refine lv_topi (fun x_12 ex_12 => ?_)
    have fx_12 : x_12.toInt = i.toInt + 1 := by rw [ex_12]; exact I_add rfl (by decide : (1 : Int32).toInt = 1) (by omega) (by omega)
    refine va_sld hx hb hXs hbl hbA hS (i := x_12) (vp_in_iff.mpr (by omega)) dL_law_686 ?_
    refine lv_topi (fun x_13 ex_13 => ?_)
    refine k_iW (k_VW (n := 1) ⟨hx, hb, hml, hown, hT⟩ hK hP hD (lift_r (X' := nX) (wr := wX g u_11) (mL_strike l g H.size v hv x_13) (fun _ _ _ _ _ _ => trivial)) (gV bw_1530 bw_1531 bw_1532 bw_840 bw_991) rfl rfl (by decide +kernel) ⟨by decide, by decide⟩ (ci := 12) rfl (List.mem_append_right _ List.mem_cons_self) (fun _ _ _ _ _ => trivial) (fun _ _ _ => trivial) rfl rfl hl.1 (Nat.le_of_ble_eq_true rfl) dL_law_687 ⟨by decide, by decide⟩) hD hS hA (fun r_14 v_15 H locs hw hP hD hS => ?_)
    obtain ⟨hv_15, hev_15, htv_15⟩ := hw
    have hl : lv_has ls 4 [(3, .int i), (2, .ref (v_15.1 0)), (1, .ref (u_11.1 0)), (0, .ref b)] := by rw [hev_15]; exact hl
    refine lv_pop hx hb dL_law_690 rfl ?_
    refine lv_goto (tgt := 1217) hx hb dL_law_691 (by decide) ?_
    obtain ⟨x_16, ex_16⟩ : ∃ y : Int32, y = i + 6 := ⟨_, rfl⟩
    have fx_16 : x_16.toInt = i.toInt + 6 := by rw [ex_16]; exact I_add rfl (by decide) (by omega) (by omega)
    refine lv_iinc (v := x_16) (lv' := [(3, .int x_16), (2, .ref (v_15.1 0)), (1, .ref (u_11.1 0)), (0, .ref b)]) hx hb dL_law_1217 hl (k := 0) rfl (by rw [ex_16]; rfl) (by decide) rfl (fun ls hl => ?_)
    refine lv_goto (tgt := 18) hx hb dL_law_1220 (by decide) ?_
    exact ih (n - 1) (by omega) H locs ls ⟨u_11, v_15, x_16, hu_11, hv_15, (htu_11.trans (htt.trans htv_15.symm)), by omega, by omega, hP, hD, hS, lv_sub hl [0, 1, 2, 3] rfl⟩

set_option maxHeartbeats 40000000 in
set_option maxRecDepth 100000 in
theorem law_c16 {p : Program} {e : Env} {s : State} {m : MethodId} {below : List Frame} {meth : Method} {c : Code} (l : Launch) {b L : Nat} {xs : Nat → Int32} (hL : L ≤ 3072) (C0 : lw_At p s m meth c b L xs) {g : GG} {aW : Nat} {fw : Nat → Int32} {A : Nat → Prop} (hK : kE g s) (hX2 : sE g.2.2.2.2.2.2.2 11 aW fw A s s.heap) (hAe : A = fun q : Nat => s.heap.size ≤ q) {u : XRec} {v : MRec} {H : Heap} {locs : List Loc} {ls : Array Slot} (hu : XOk u) (hv : MOk v) (htt : (u.2.1 35) = (v.2.1 32)) {i : Int32} {n : Nat} (hi0 : 0 ≤ i.toInt ∧ i.toInt ≤ 3072) (hm : 3072 - i.toInt ≤ (n : Int)) (hil : i.toInt + 6 ≤ (L : Int)) (hP : va_P g.1 vwCl (wX g u ++ wM g v) H) (hD : va_D A (wX g u ++ wM g v)) (hS : va_S A s.heap H locs) (hl : lv_has ls 4 [(3, .int i), (2, .ref (v.1 0)), (1, .ref (u.1 0)), (0, .ref b)]) (ih : ∀ n', n' < n → ∀ (H : Heap) (locs : List Loc) (ls : Array Slot), LI g A s b n' H locs ls → W p l e room_1 s m #[Value.ref b] below meth c H locs 476 78636 (lw_Z below #[Value.ref b] s) (F0 m 18 ls [])) : W p l e room_1 s m #[Value.ref b] below meth c H locs 476 78636 (lw_Z below #[Value.ref b] s) (F0 m 694 ls []) := by
  obtain ⟨hx, hb, hr, hml, hown, hts, hXs, hbl, hlocks, hgv⟩ := id C0
  have hT : ∀ w ∈ gT, w.before #[Value.ref b] s = true := fun w h => hts w (List.mem_filter.mp h).1
  have hown : s.vm.findClass RL = some m.cls := hown
  have hA : ∀ q : Nat, s.heap.size ≤ q → A q := by rw [hAe]; exact fun _ h => h
  have hbA : ¬ A b := by rw [hAe]; exact Nat.not_le.mpr hbl
  refine lv_aload_n hx hb dL_law_694 rfl (lv_at hl 2 rfl) ?_
  refine lv_aload_n hx hb dL_law_695 rfl (lv_at hl 3 rfl) ?_
  refine lv_iload_n hx hb dL_law_696 rfl (lv_at hl 0 rfl) ?_
  refine lv_iconst (v := 1) hx hb dL_law_697 (by decide) ?_
  refine lv_iadd hx hb dL_law_698 ?_
  refine lv_topi (fun x_1 ex_1 => ?_)
  have fx_1 : x_1.toInt = i.toInt + 1 := by rw [ex_1]; exact I_add rfl (by decide : (1 : Int32).toInt = 1) (by omega) (by omega)
  refine va_sld hx hb hXs hbl hbA hS (i := x_1) (vp_in_iff.mpr (by omega)) dL_law_699 ?_
  refine lv_topi (fun x_2 ex_2 => ?_)
  refine lv_aload_n hx hb dL_law_700 rfl (lv_at hl 3 rfl) ?_
  refine lv_iload_n hx hb dL_law_701 rfl (lv_at hl 0 rfl) ?_
  refine lv_iconst (v := 2) hx hb dL_law_702 (by decide) ?_
  refine lv_iadd hx hb dL_law_703 ?_
  refine lv_topi (fun x_3 ex_3 => ?_)
  have fx_3 : x_3.toInt = i.toInt + 2 := by rw [ex_3]; exact I_add rfl (by decide : (2 : Int32).toInt = 2) (by omega) (by omega)
  refine va_sld hx hb hXs hbl hbA hS (i := x_3) (vp_in_iff.mpr (by omega)) dL_law_704 ?_
  refine lv_topi (fun x_4 ex_4 => ?_)
  rcases (show (u.2.1 1).toInt ≤ 39 ∨ (u.2.1 1).toInt = 40 by have q9 := hu.2.1; omega) with hcc | hcc
  · refine k_iW (k_VW (n := 2) ⟨hx, hb, hml, hown, hT⟩ hK hP hD (lift_l (X' := nX) (wr := wM g v) (xL_insult_l l g H.size u hu x_2 x_4 hcc) (fun _ _ _ _ _ _ => trivial)) (gV bw_1533 bw_1534 bw_1535 bw_395 bw_519) rfl rfl (by decide +kernel) ⟨by decide, by decide⟩ (ci := 11) rfl (List.mem_append_left _ (List.mem_append_left _ List.mem_cons_self)) (fun _ _ _ _ _ => trivial) (fun _ _ _ => trivial) rfl rfl hl.1 (Nat.le_of_ble_eq_true rfl) dL_law_705 ⟨by decide, by decide⟩) hD hS hA (fun r_5 u_6 H locs hw hP hD hS => ?_)
    obtain ⟨hu_6, heu_6, htu_6⟩ := hw
    have hl : lv_has ls 4 [(3, .int i), (2, .ref (v.1 0)), (1, .ref (u_6.1 0)), (0, .ref b)] := by rw [heu_6]; exact hl
    refine lv_pop hx hb dL_law_708 rfl ?_
    refine lv_aload_n hx hb dL_law_709 rfl (lv_at hl 1 rfl) ?_
    refine lv_aload_n hx hb dL_law_710 rfl (lv_at hl 3 rfl) ?_
    refine lv_iload_n hx hb dL_law_711 rfl (lv_at hl 0 rfl) ?_
    refine lv_iconst (v := 1) hx hb dL_law_712 (by decide) ?_
    refine lv_iadd hx hb dL_law_713 ?_
    refine lv_topi (fun x_7 ex_7 => ?_)
    have fx_7 : x_7.toInt = i.toInt + 1 := by rw [ex_7]; exact I_add rfl (by decide : (1 : Int32).toInt = 1) (by omega) (by omega)
    refine va_sld hx hb hXs hbl hbA hS (i := x_7) (vp_in_iff.mpr (by omega)) dL_law_714 ?_
    refine lv_topi (fun x_8 ex_8 => ?_)
    refine lv_aload_n hx hb dL_law_715 rfl (lv_at hl 3 rfl) ?_
    refine lv_iload_n hx hb dL_law_716 rfl (lv_at hl 0 rfl) ?_
    refine lv_iconst (v := 2) hx hb dL_law_717 (by decide) ?_
    refine lv_iadd hx hb dL_law_718 ?_
    refine lv_topi (fun x_9 ex_9 => ?_)
    have fx_9 : x_9.toInt = i.toInt + 2 := by rw [ex_9]; exact I_add rfl (by decide : (2 : Int32).toInt = 2) (by omega) (by omega)
    refine va_sld hx hb hXs hbl hbA hS (i := x_9) (vp_in_iff.mpr (by omega)) dL_law_719 ?_
    refine lv_topi (fun x_10 ex_10 => ?_)
    refine k_iW (k_VW (n := 2) ⟨hx, hb, hml, hown, hT⟩ hK hP hD (lift_r (X' := nX) (wr := wX g u_6) (mL_insult l g H.size v hv x_8 x_10) (fun _ _ _ _ _ _ => trivial)) (gV bw_1536 bw_1537 bw_1538 bw_840 bw_996) rfl rfl (by decide +kernel) ⟨by decide, by decide⟩ (ci := 12) rfl (List.mem_append_right _ List.mem_cons_self) (fun _ _ _ _ _ => trivial) (fun _ _ _ => trivial) rfl rfl hl.1 (Nat.le_of_ble_eq_true rfl) dL_law_720 ⟨by decide, by decide⟩) hD hS hA (fun r_11 v_12 H locs hw hP hD hS => ?_)
    obtain ⟨hv_12, hev_12, htv_12⟩ := hw
    have hl : lv_has ls 4 [(3, .int i), (2, .ref (v_12.1 0)), (1, .ref (u_6.1 0)), (0, .ref b)] := by rw [hev_12]; exact hl
    refine lv_pop hx hb dL_law_723 rfl ?_
    refine lv_goto (tgt := 1217) hx hb dL_law_724 (by decide) ?_
    obtain ⟨x_13, ex_13⟩ : ∃ y : Int32, y = i + 6 := ⟨_, rfl⟩
    have fx_13 : x_13.toInt = i.toInt + 6 := by rw [ex_13]; exact I_add rfl (by decide) (by omega) (by omega)
    refine lv_iinc (v := x_13) (lv' := [(3, .int x_13), (2, .ref (v_12.1 0)), (1, .ref (u_6.1 0)), (0, .ref b)]) hx hb dL_law_1217 hl (k := 0) rfl (by rw [ex_13]; rfl) (by decide) rfl (fun ls hl => ?_)
    refine lv_goto (tgt := 18) hx hb dL_law_1220 (by decide) ?_
    exact ih (n - 1) (by omega) H locs ls ⟨u_6, v_12, x_13, hu_6, hv_12, (htu_6.trans (htt.trans htv_12.symm)), by omega, by omega, hP, hD, hS, lv_sub hl [0, 1, 2, 3] rfl⟩
  · refine k_iW (k_VW (n := 2) ⟨hx, hb, hml, hown, hT⟩ hK hP hD (lift_l (X' := nX) (wr := wM g v) (xL_insult_h l g H.size u hu x_2 x_4 hcc) (fun _ _ _ _ _ _ => trivial)) (gV bw_1533 bw_1534 bw_1535 bw_395 bw_519) rfl rfl (by decide +kernel) ⟨by decide, by decide⟩ (ci := 11) rfl (List.mem_append_left _ (List.mem_append_left _ List.mem_cons_self)) (fun _ _ _ _ _ => trivial) (fun _ _ _ => trivial) rfl rfl hl.1 (Nat.le_of_ble_eq_true rfl) dL_law_705 ⟨by decide, by decide⟩) hD hS hA (fun r_14 u_15 H locs hw hP hD hS => ?_)
    obtain ⟨hu_15, heu_15, htu_15⟩ := hw
    have hl : lv_has ls 4 [(3, .int i), (2, .ref (v.1 0)), (1, .ref (u_15.1 0)), (0, .ref b)] := by rw [heu_15]; exact hl
    refine lv_pop hx hb dL_law_708 rfl ?_
    refine lv_aload_n hx hb dL_law_709 rfl (lv_at hl 1 rfl) ?_
    refine lv_aload_n hx hb dL_law_710 rfl (lv_at hl 3 rfl) ?_
    refine lv_iload_n hx hb dL_law_711 rfl (lv_at hl 0 rfl) ?_
    refine lv_iconst (v := 1) hx hb dL_law_712 (by decide) ?_
    refine lv_iadd hx hb dL_law_713 ?_
    refine lv_topi (fun x_16 ex_16 => ?_)
    have fx_16 : x_16.toInt = i.toInt + 1 := by rw [ex_16]; exact I_add rfl (by decide : (1 : Int32).toInt = 1) (by omega) (by omega)
    refine va_sld hx hb hXs hbl hbA hS (i := x_16) (vp_in_iff.mpr (by omega)) dL_law_714 ?_
    refine lv_topi (fun x_17 ex_17 => ?_)
    refine lv_aload_n hx hb dL_law_715 rfl (lv_at hl 3 rfl) ?_
    refine lv_iload_n hx hb dL_law_716 rfl (lv_at hl 0 rfl) ?_
    refine lv_iconst (v := 2) hx hb dL_law_717 (by decide) ?_
    refine lv_iadd hx hb dL_law_718 ?_
    refine lv_topi (fun x_18 ex_18 => ?_)
    have fx_18 : x_18.toInt = i.toInt + 2 := by rw [ex_18]; exact I_add rfl (by decide : (2 : Int32).toInt = 2) (by omega) (by omega)
    refine va_sld hx hb hXs hbl hbA hS (i := x_18) (vp_in_iff.mpr (by omega)) dL_law_719 ?_
    refine lv_topi (fun x_19 ex_19 => ?_)
    refine k_iW (k_VW (n := 2) ⟨hx, hb, hml, hown, hT⟩ hK hP hD (lift_r (X' := nX) (wr := wX g u_15) (mL_insult l g H.size v hv x_17 x_19) (fun _ _ _ _ _ _ => trivial)) (gV bw_1536 bw_1537 bw_1538 bw_840 bw_996) rfl rfl (by decide +kernel) ⟨by decide, by decide⟩ (ci := 12) rfl (List.mem_append_right _ List.mem_cons_self) (fun _ _ _ _ _ => trivial) (fun _ _ _ => trivial) rfl rfl hl.1 (Nat.le_of_ble_eq_true rfl) dL_law_720 ⟨by decide, by decide⟩) hD hS hA (fun r_20 v_21 H locs hw hP hD hS => ?_)
    obtain ⟨hv_21, hev_21, htv_21⟩ := hw
    have hl : lv_has ls 4 [(3, .int i), (2, .ref (v_21.1 0)), (1, .ref (u_15.1 0)), (0, .ref b)] := by rw [hev_21]; exact hl
    refine lv_pop hx hb dL_law_723 rfl ?_
    refine lv_goto (tgt := 1217) hx hb dL_law_724 (by decide) ?_
    obtain ⟨x_22, ex_22⟩ : ∃ y : Int32, y = i + 6 := ⟨_, rfl⟩
    have fx_22 : x_22.toInt = i.toInt + 6 := by rw [ex_22]; exact I_add rfl (by decide) (by omega) (by omega)
    refine lv_iinc (v := x_22) (lv' := [(3, .int x_22), (2, .ref (v_21.1 0)), (1, .ref (u_15.1 0)), (0, .ref b)]) hx hb dL_law_1217 hl (k := 0) rfl (by rw [ex_22]; rfl) (by decide) rfl (fun ls hl => ?_)
    refine lv_goto (tgt := 18) hx hb dL_law_1220 (by decide) ?_
    exact ih (n - 1) (by omega) H locs ls ⟨u_15, v_21, x_22, hu_15, hv_21, (htu_15.trans (htt.trans htv_21.symm)), by omega, by omega, hP, hD, hS, lv_sub hl [0, 1, 2, 3] rfl⟩

set_option maxHeartbeats 40000000 in
set_option maxRecDepth 100000 in
theorem law_c17 {p : Program} {e : Env} {s : State} {m : MethodId} {below : List Frame} {meth : Method} {c : Code} (l : Launch) {b L : Nat} {xs : Nat → Int32} (hL : L ≤ 3072) (C0 : lw_At p s m meth c b L xs) {g : GG} {aW : Nat} {fw : Nat → Int32} {A : Nat → Prop} (hK : kE g s) (hX2 : sE g.2.2.2.2.2.2.2 11 aW fw A s s.heap) (hAe : A = fun q : Nat => s.heap.size ≤ q) {u : XRec} {v : MRec} {H : Heap} {locs : List Loc} {ls : Array Slot} (hu : XOk u) (hv : MOk v) (htt : (u.2.1 35) = (v.2.1 32)) {i : Int32} {n : Nat} (hi0 : 0 ≤ i.toInt ∧ i.toInt ≤ 3072) (hm : 3072 - i.toInt ≤ (n : Int)) (hil : i.toInt + 6 ≤ (L : Int)) (hP : va_P g.1 vwCl (wX g u ++ wM g v) H) (hD : va_D A (wX g u ++ wM g v)) (hS : va_S A s.heap H locs) (hl : lv_has ls 4 [(3, .int i), (2, .ref (v.1 0)), (1, .ref (u.1 0)), (0, .ref b)]) (ih : ∀ n', n' < n → ∀ (H : Heap) (locs : List Loc) (ls : Array Slot), LI g A s b n' H locs ls → W p l e room_1 s m #[Value.ref b] below meth c H locs 476 78636 (lw_Z below #[Value.ref b] s) (F0 m 18 ls [])) : W p l e room_1 s m #[Value.ref b] below meth c H locs 476 78636 (lw_Z below #[Value.ref b] s) (F0 m 727 ls []) := by
  obtain ⟨hx, hb, hr, hml, hown, hts, hXs, hbl, hlocks, hgv⟩ := id C0
  have hT : ∀ w ∈ gT, w.before #[Value.ref b] s = true := fun w h => hts w (List.mem_filter.mp h).1
  have hown : s.vm.findClass RL = some m.cls := hown
  have hA : ∀ q : Nat, s.heap.size ≤ q → A q := by rw [hAe]; exact fun _ h => h
  have hbA : ¬ A b := by rw [hAe]; exact Nat.not_le.mpr hbl
  refine lv_aload_n hx hb dL_law_727 rfl (lv_at hl 2 rfl) ?_
  refine lv_aload_n hx hb dL_law_728 rfl (lv_at hl 3 rfl) ?_
  refine lv_iload_n hx hb dL_law_729 rfl (lv_at hl 0 rfl) ?_
  refine lv_iconst (v := 1) hx hb dL_law_730 (by decide) ?_
  refine lv_iadd hx hb dL_law_731 ?_
  refine lv_topi (fun x_1 ex_1 => ?_)
  have fx_1 : x_1.toInt = i.toInt + 1 := by rw [ex_1]; exact I_add rfl (by decide : (1 : Int32).toInt = 1) (by omega) (by omega)
  refine va_sld hx hb hXs hbl hbA hS (i := x_1) (vp_in_iff.mpr (by omega)) dL_law_732 ?_
  refine lv_topi (fun x_2 ex_2 => ?_)
  rcases (show (u.2.1 1).toInt ≤ 39 ∨ (u.2.1 1).toInt = 40 by have q9 := hu.2.1; omega) with hcc | hcc
  · refine k_iW (k_VW (n := 1) ⟨hx, hb, hml, hown, hT⟩ hK hP hD (lift_l (X' := nX) (wr := wM g v) (xL_days_l l g H.size u hu x_2 hcc) (fun _ _ _ _ _ _ => trivial)) (gV bw_1539 bw_1540 bw_1541 bw_395 bw_523) rfl rfl (by decide +kernel) ⟨by decide, by decide⟩ (ci := 11) rfl (List.mem_append_left _ (List.mem_append_left _ List.mem_cons_self)) (fun _ _ _ _ _ => trivial) (fun _ _ _ => trivial) rfl rfl hl.1 (Nat.le_of_ble_eq_true rfl) dL_law_733 ⟨by decide, by decide⟩) hD hS hA (fun r_3 u_4 H locs hw hP hD hS => ?_)
    obtain ⟨hu_4, heu_4, htu_4⟩ := hw
    have hl : lv_has ls 4 [(3, .int i), (2, .ref (v.1 0)), (1, .ref (u_4.1 0)), (0, .ref b)] := by rw [heu_4]; exact hl
    refine lv_pop hx hb dL_law_736 rfl ?_
    refine lv_aload_n hx hb dL_law_737 rfl (lv_at hl 1 rfl) ?_
    refine lv_aload_n hx hb dL_law_738 rfl (lv_at hl 3 rfl) ?_
    refine lv_iload_n hx hb dL_law_739 rfl (lv_at hl 0 rfl) ?_
    refine lv_iconst (v := 1) hx hb dL_law_740 (by decide) ?_
    refine lv_iadd hx hb dL_law_741 ?_
    refine lv_topi (fun x_5 ex_5 => ?_)
    have fx_5 : x_5.toInt = i.toInt + 1 := by rw [ex_5]; exact I_add rfl (by decide : (1 : Int32).toInt = 1) (by omega) (by omega)
    refine va_sld hx hb hXs hbl hbA hS (i := x_5) (vp_in_iff.mpr (by omega)) dL_law_742 ?_
    refine lv_topi (fun x_6 ex_6 => ?_)
    refine k_iW (k_VW (n := 1) ⟨hx, hb, hml, hown, hT⟩ hK hP hD (lift_r (X' := nX) (wr := wX g u_4) (mL_days l g H.size v hv x_6) (fun _ _ _ _ _ _ => trivial)) (gV bw_1542 bw_1543 bw_1544 bw_840 bw_1009) rfl rfl (by decide +kernel) ⟨by decide, by decide⟩ (ci := 12) rfl (List.mem_append_right _ List.mem_cons_self) (fun _ _ _ _ _ => trivial) (fun _ _ _ => trivial) rfl rfl hl.1 (Nat.le_of_ble_eq_true rfl) dL_law_743 ⟨by decide, by decide⟩) hD hS hA (fun r_7 v_8 H locs hw hP hD hS => ?_)
    obtain ⟨hv_8, hev_8, htv_8⟩ := hw
    have hl : lv_has ls 4 [(3, .int i), (2, .ref (v_8.1 0)), (1, .ref (u_4.1 0)), (0, .ref b)] := by rw [hev_8]; exact hl
    refine lv_pop hx hb dL_law_746 rfl ?_
    refine lv_goto (tgt := 1217) hx hb dL_law_747 (by decide) ?_
    obtain ⟨x_9, ex_9⟩ : ∃ y : Int32, y = i + 6 := ⟨_, rfl⟩
    have fx_9 : x_9.toInt = i.toInt + 6 := by rw [ex_9]; exact I_add rfl (by decide) (by omega) (by omega)
    refine lv_iinc (v := x_9) (lv' := [(3, .int x_9), (2, .ref (v_8.1 0)), (1, .ref (u_4.1 0)), (0, .ref b)]) hx hb dL_law_1217 hl (k := 0) rfl (by rw [ex_9]; rfl) (by decide) rfl (fun ls hl => ?_)
    refine lv_goto (tgt := 18) hx hb dL_law_1220 (by decide) ?_
    exact ih (n - 1) (by omega) H locs ls ⟨u_4, v_8, x_9, hu_4, hv_8, (htu_4.trans (htt.trans htv_8.symm)), by omega, by omega, hP, hD, hS, lv_sub hl [0, 1, 2, 3] rfl⟩
  · refine k_iW (k_VW (n := 1) ⟨hx, hb, hml, hown, hT⟩ hK hP hD (lift_l (X' := nX) (wr := wM g v) (xL_days_h l g H.size u hu x_2 hcc) (fun _ _ _ _ _ _ => trivial)) (gV bw_1539 bw_1540 bw_1541 bw_395 bw_523) rfl rfl (by decide +kernel) ⟨by decide, by decide⟩ (ci := 11) rfl (List.mem_append_left _ (List.mem_append_left _ List.mem_cons_self)) (fun _ _ _ _ _ => trivial) (fun _ _ _ => trivial) rfl rfl hl.1 (Nat.le_of_ble_eq_true rfl) dL_law_733 ⟨by decide, by decide⟩) hD hS hA (fun r_10 u_11 H locs hw hP hD hS => ?_)
    obtain ⟨hu_11, heu_11, htu_11⟩ := hw
    have hl : lv_has ls 4 [(3, .int i), (2, .ref (v.1 0)), (1, .ref (u_11.1 0)), (0, .ref b)] := by rw [heu_11]; exact hl
    refine lv_pop hx hb dL_law_736 rfl ?_
    refine lv_aload_n hx hb dL_law_737 rfl (lv_at hl 1 rfl) ?_
    refine lv_aload_n hx hb dL_law_738 rfl (lv_at hl 3 rfl) ?_
    refine lv_iload_n hx hb dL_law_739 rfl (lv_at hl 0 rfl) ?_
    refine lv_iconst (v := 1) hx hb dL_law_740 (by decide) ?_
    refine lv_iadd hx hb dL_law_741 ?_
    refine lv_topi (fun x_12 ex_12 => ?_)
    have fx_12 : x_12.toInt = i.toInt + 1 := by rw [ex_12]; exact I_add rfl (by decide : (1 : Int32).toInt = 1) (by omega) (by omega)
    refine va_sld hx hb hXs hbl hbA hS (i := x_12) (vp_in_iff.mpr (by omega)) dL_law_742 ?_
    refine lv_topi (fun x_13 ex_13 => ?_)
    refine k_iW (k_VW (n := 1) ⟨hx, hb, hml, hown, hT⟩ hK hP hD (lift_r (X' := nX) (wr := wX g u_11) (mL_days l g H.size v hv x_13) (fun _ _ _ _ _ _ => trivial)) (gV bw_1542 bw_1543 bw_1544 bw_840 bw_1009) rfl rfl (by decide +kernel) ⟨by decide, by decide⟩ (ci := 12) rfl (List.mem_append_right _ List.mem_cons_self) (fun _ _ _ _ _ => trivial) (fun _ _ _ => trivial) rfl rfl hl.1 (Nat.le_of_ble_eq_true rfl) dL_law_743 ⟨by decide, by decide⟩) hD hS hA (fun r_14 v_15 H locs hw hP hD hS => ?_)
    obtain ⟨hv_15, hev_15, htv_15⟩ := hw
    have hl : lv_has ls 4 [(3, .int i), (2, .ref (v_15.1 0)), (1, .ref (u_11.1 0)), (0, .ref b)] := by rw [hev_15]; exact hl
    refine lv_pop hx hb dL_law_746 rfl ?_
    refine lv_goto (tgt := 1217) hx hb dL_law_747 (by decide) ?_
    obtain ⟨x_16, ex_16⟩ : ∃ y : Int32, y = i + 6 := ⟨_, rfl⟩
    have fx_16 : x_16.toInt = i.toInt + 6 := by rw [ex_16]; exact I_add rfl (by decide) (by omega) (by omega)
    refine lv_iinc (v := x_16) (lv' := [(3, .int x_16), (2, .ref (v_15.1 0)), (1, .ref (u_11.1 0)), (0, .ref b)]) hx hb dL_law_1217 hl (k := 0) rfl (by rw [ex_16]; rfl) (by decide) rfl (fun ls hl => ?_)
    refine lv_goto (tgt := 18) hx hb dL_law_1220 (by decide) ?_
    exact ih (n - 1) (by omega) H locs ls ⟨u_11, v_15, x_16, hu_11, hv_15, (htu_11.trans (htt.trans htv_15.symm)), by omega, by omega, hP, hD, hS, lv_sub hl [0, 1, 2, 3] rfl⟩

set_option maxHeartbeats 40000000 in
set_option maxRecDepth 100000 in
theorem law_c18 {p : Program} {e : Env} {s : State} {m : MethodId} {below : List Frame} {meth : Method} {c : Code} (l : Launch) {b L : Nat} {xs : Nat → Int32} (hL : L ≤ 3072) (C0 : lw_At p s m meth c b L xs) {g : GG} {aW : Nat} {fw : Nat → Int32} {A : Nat → Prop} (hK : kE g s) (hX2 : sE g.2.2.2.2.2.2.2 11 aW fw A s s.heap) (hAe : A = fun q : Nat => s.heap.size ≤ q) {u : XRec} {v : MRec} {H : Heap} {locs : List Loc} {ls : Array Slot} (hu : XOk u) (hv : MOk v) (htt : (u.2.1 35) = (v.2.1 32)) {i : Int32} {n : Nat} (hi0 : 0 ≤ i.toInt ∧ i.toInt ≤ 3072) (hm : 3072 - i.toInt ≤ (n : Int)) (hil : i.toInt + 6 ≤ (L : Int)) (hP : va_P g.1 vwCl (wX g u ++ wM g v) H) (hD : va_D A (wX g u ++ wM g v)) (hS : va_S A s.heap H locs) (hl : lv_has ls 4 [(3, .int i), (2, .ref (v.1 0)), (1, .ref (u.1 0)), (0, .ref b)]) (ih : ∀ n', n' < n → ∀ (H : Heap) (locs : List Loc) (ls : Array Slot), LI g A s b n' H locs ls → W p l e room_1 s m #[Value.ref b] below meth c H locs 476 78636 (lw_Z below #[Value.ref b] s) (F0 m 18 ls [])) : W p l e room_1 s m #[Value.ref b] below meth c H locs 476 78636 (lw_Z below #[Value.ref b] s) (F0 m 750 ls []) := by
  obtain ⟨hx, hb, hr, hml, hown, hts, hXs, hbl, hlocks, hgv⟩ := id C0
  have hT : ∀ w ∈ gT, w.before #[Value.ref b] s = true := fun w h => hts w (List.mem_filter.mp h).1
  have hown : s.vm.findClass RL = some m.cls := hown
  have hA : ∀ q : Nat, s.heap.size ≤ q → A q := by rw [hAe]; exact fun _ h => h
  have hbA : ¬ A b := by rw [hAe]; exact Nat.not_le.mpr hbl
  refine lv_aload_n hx hb dL_law_750 rfl (lv_at hl 2 rfl) ?_
  refine k_iW (k_VW (n := 0) ⟨hx, hb, hml, hown, hT⟩ hK hP hD (lift_l (X' := nX) (wr := wM g v) (xL_undo l g H.size u hu) (fun _ _ _ _ _ _ => trivial)) (gV bw_1545 bw_1546 bw_1547 bw_395 bw_362) rfl rfl (by decide +kernel) ⟨by decide, by decide⟩ (ci := 11) rfl (List.mem_append_left _ (List.mem_append_left _ List.mem_cons_self)) (fun _ _ _ _ _ => trivial) (fun _ _ _ => trivial) rfl rfl hl.1 (Nat.le_of_ble_eq_true rfl) dL_law_751 ⟨by decide, by decide⟩) hD hS hA (fun r_1 u_2 H locs hw hP hD hS => ?_)
  obtain ⟨hu_2, heu_2, htu_2⟩ := hw
  have hl : lv_has ls 4 [(3, .int i), (2, .ref (v.1 0)), (1, .ref (u_2.1 0)), (0, .ref b)] := by rw [heu_2]; exact hl
  refine lv_pop hx hb dL_law_754 rfl ?_
  refine lv_aload_n hx hb dL_law_755 rfl (lv_at hl 1 rfl) ?_
  refine k_iW (k_VW (n := 0) ⟨hx, hb, hml, hown, hT⟩ hK hP hD (lift_r (X' := nX) (wr := wX g u_2) (mL_undo l g H.size v hv) (fun _ _ _ _ _ _ => trivial)) (gV bw_1548 bw_1549 bw_1550 bw_840 bw_1013) rfl rfl (by decide +kernel) ⟨by decide, by decide⟩ (ci := 12) rfl (List.mem_append_right _ List.mem_cons_self) (fun _ _ _ _ _ => trivial) (fun _ _ _ => trivial) rfl rfl hl.1 (Nat.le_of_ble_eq_true rfl) dL_law_756 ⟨by decide, by decide⟩) hD hS hA (fun r_3 v_4 H locs hw hP hD hS => ?_)
  obtain ⟨hv_4, hev_4, htv_4⟩ := hw
  have hl : lv_has ls 4 [(3, .int i), (2, .ref (v_4.1 0)), (1, .ref (u_2.1 0)), (0, .ref b)] := by rw [hev_4]; exact hl
  refine lv_pop hx hb dL_law_759 rfl ?_
  refine lv_goto (tgt := 1217) hx hb dL_law_760 (by decide) ?_
  obtain ⟨x_5, ex_5⟩ : ∃ y : Int32, y = i + 6 := ⟨_, rfl⟩
  have fx_5 : x_5.toInt = i.toInt + 6 := by rw [ex_5]; exact I_add rfl (by decide) (by omega) (by omega)
  refine lv_iinc (v := x_5) (lv' := [(3, .int x_5), (2, .ref (v_4.1 0)), (1, .ref (u_2.1 0)), (0, .ref b)]) hx hb dL_law_1217 hl (k := 0) rfl (by rw [ex_5]; rfl) (by decide) rfl (fun ls hl => ?_)
  refine lv_goto (tgt := 18) hx hb dL_law_1220 (by decide) ?_
  exact ih (n - 1) (by omega) H locs ls ⟨u_2, v_4, x_5, hu_2, hv_4, (htu_2.trans (htt.trans htv_4.symm)), by omega, by omega, hP, hD, hS, lv_sub hl [0, 1, 2, 3] rfl⟩

set_option maxHeartbeats 40000000 in
set_option maxRecDepth 100000 in
theorem law_c19 {p : Program} {e : Env} {s : State} {m : MethodId} {below : List Frame} {meth : Method} {c : Code} (l : Launch) {b L : Nat} {xs : Nat → Int32} (hL : L ≤ 3072) (C0 : lw_At p s m meth c b L xs) {g : GG} {aW : Nat} {fw : Nat → Int32} {A : Nat → Prop} (hK : kE g s) (hX2 : sE g.2.2.2.2.2.2.2 11 aW fw A s s.heap) (hAe : A = fun q : Nat => s.heap.size ≤ q) {u : XRec} {v : MRec} {H : Heap} {locs : List Loc} {ls : Array Slot} (hu : XOk u) (hv : MOk v) (htt : (u.2.1 35) = (v.2.1 32)) {i : Int32} {n : Nat} (hi0 : 0 ≤ i.toInt ∧ i.toInt ≤ 3072) (hm : 3072 - i.toInt ≤ (n : Int)) (hil : i.toInt + 6 ≤ (L : Int)) (hP : va_P g.1 vwCl (wX g u ++ wM g v) H) (hD : va_D A (wX g u ++ wM g v)) (hS : va_S A s.heap H locs) (hl : lv_has ls 4 [(3, .int i), (2, .ref (v.1 0)), (1, .ref (u.1 0)), (0, .ref b)]) (ih : ∀ n', n' < n → ∀ (H : Heap) (locs : List Loc) (ls : Array Slot), LI g A s b n' H locs ls → W p l e room_1 s m #[Value.ref b] below meth c H locs 476 78636 (lw_Z below #[Value.ref b] s) (F0 m 18 ls [])) : W p l e room_1 s m #[Value.ref b] below meth c H locs 476 78636 (lw_Z below #[Value.ref b] s) (F0 m 763 ls []) := by
  obtain ⟨hx, hb, hr, hml, hown, hts, hXs, hbl, hlocks, hgv⟩ := id C0
  have hT : ∀ w ∈ gT, w.before #[Value.ref b] s = true := fun w h => hts w (List.mem_filter.mp h).1
  have hown : s.vm.findClass RL = some m.cls := hown
  have hA : ∀ q : Nat, s.heap.size ≤ q → A q := by rw [hAe]; exact fun _ h => h
  have hbA : ¬ A b := by rw [hAe]; exact Nat.not_le.mpr hbl
  refine lv_aload_n hx hb dL_law_763 rfl (lv_at hl 2 rfl) ?_
  refine k_iW (k_VW (n := 0) ⟨hx, hb, hml, hown, hT⟩ hK hP hD (lift_l (X' := nX) (wr := wM g v) (xL_redo l g H.size u hu) (fun _ _ _ _ _ _ => trivial)) (gV bw_1551 bw_1552 bw_1553 bw_395 bw_363) rfl rfl (by decide +kernel) ⟨by decide, by decide⟩ (ci := 11) rfl (List.mem_append_left _ (List.mem_append_left _ List.mem_cons_self)) (fun _ _ _ _ _ => trivial) (fun _ _ _ => trivial) rfl rfl hl.1 (Nat.le_of_ble_eq_true rfl) dL_law_764 ⟨by decide, by decide⟩) hD hS hA (fun r_1 u_2 H locs hw hP hD hS => ?_)
  obtain ⟨hu_2, heu_2, htu_2⟩ := hw
  have hl : lv_has ls 4 [(3, .int i), (2, .ref (v.1 0)), (1, .ref (u_2.1 0)), (0, .ref b)] := by rw [heu_2]; exact hl
  refine lv_pop hx hb dL_law_767 rfl ?_
  refine lv_aload_n hx hb dL_law_768 rfl (lv_at hl 1 rfl) ?_
  refine k_iW (k_VW (n := 0) ⟨hx, hb, hml, hown, hT⟩ hK hP hD (lift_r (X' := nX) (wr := wX g u_2) (mL_redo l g H.size v hv) (fun _ _ _ _ _ _ => trivial)) (gV bw_1554 bw_1555 bw_1556 bw_840 bw_1014) rfl rfl (by decide +kernel) ⟨by decide, by decide⟩ (ci := 12) rfl (List.mem_append_right _ List.mem_cons_self) (fun _ _ _ _ _ => trivial) (fun _ _ _ => trivial) rfl rfl hl.1 (Nat.le_of_ble_eq_true rfl) dL_law_769 ⟨by decide, by decide⟩) hD hS hA (fun r_3 v_4 H locs hw hP hD hS => ?_)
  obtain ⟨hv_4, hev_4, htv_4⟩ := hw
  have hl : lv_has ls 4 [(3, .int i), (2, .ref (v_4.1 0)), (1, .ref (u_2.1 0)), (0, .ref b)] := by rw [hev_4]; exact hl
  refine lv_pop hx hb dL_law_772 rfl ?_
  refine lv_goto (tgt := 1217) hx hb dL_law_773 (by decide) ?_
  obtain ⟨x_5, ex_5⟩ : ∃ y : Int32, y = i + 6 := ⟨_, rfl⟩
  have fx_5 : x_5.toInt = i.toInt + 6 := by rw [ex_5]; exact I_add rfl (by decide) (by omega) (by omega)
  refine lv_iinc (v := x_5) (lv' := [(3, .int x_5), (2, .ref (v_4.1 0)), (1, .ref (u_2.1 0)), (0, .ref b)]) hx hb dL_law_1217 hl (k := 0) rfl (by rw [ex_5]; rfl) (by decide) rfl (fun ls hl => ?_)
  refine lv_goto (tgt := 18) hx hb dL_law_1220 (by decide) ?_
  exact ih (n - 1) (by omega) H locs ls ⟨u_2, v_4, x_5, hu_2, hv_4, (htu_2.trans (htt.trans htv_4.symm)), by omega, by omega, hP, hD, hS, lv_sub hl [0, 1, 2, 3] rfl⟩

set_option maxHeartbeats 40000000 in
set_option maxRecDepth 100000 in
theorem law_c20 {p : Program} {e : Env} {s : State} {m : MethodId} {below : List Frame} {meth : Method} {c : Code} (l : Launch) {b L : Nat} {xs : Nat → Int32} (hL : L ≤ 3072) (C0 : lw_At p s m meth c b L xs) {g : GG} {aW : Nat} {fw : Nat → Int32} {A : Nat → Prop} (hK : kE g s) (hX2 : sE g.2.2.2.2.2.2.2 11 aW fw A s s.heap) (hAe : A = fun q : Nat => s.heap.size ≤ q) {u : XRec} {v : MRec} {H : Heap} {locs : List Loc} {ls : Array Slot} (hu : XOk u) (hv : MOk v) (htt : (u.2.1 35) = (v.2.1 32)) {i : Int32} {n : Nat} (hi0 : 0 ≤ i.toInt ∧ i.toInt ≤ 3072) (hm : 3072 - i.toInt ≤ (n : Int)) (hil : i.toInt + 6 ≤ (L : Int)) (hP : va_P g.1 vwCl (wX g u ++ wM g v) H) (hD : va_D A (wX g u ++ wM g v)) (hS : va_S A s.heap H locs) (hl : lv_has ls 4 [(3, .int i), (2, .ref (v.1 0)), (1, .ref (u.1 0)), (0, .ref b)]) (ih : ∀ n', n' < n → ∀ (H : Heap) (locs : List Loc) (ls : Array Slot), LI g A s b n' H locs ls → W p l e room_1 s m #[Value.ref b] below meth c H locs 476 78636 (lw_Z below #[Value.ref b] s) (F0 m 18 ls [])) : W p l e room_1 s m #[Value.ref b] below meth c H locs 476 78636 (lw_Z below #[Value.ref b] s) (F0 m 776 ls []) := by
  obtain ⟨hx, hb, hr, hml, hown, hts, hXs, hbl, hlocks, hgv⟩ := id C0
  have hT : ∀ w ∈ gT, w.before #[Value.ref b] s = true := fun w h => hts w (List.mem_filter.mp h).1
  have hown : s.vm.findClass RL = some m.cls := hown
  have hA : ∀ q : Nat, s.heap.size ≤ q → A q := by rw [hAe]; exact fun _ h => h
  have hbA : ¬ A b := by rw [hAe]; exact Nat.not_le.mpr hbl
  refine lv_aload_n hx hb dL_law_776 rfl (lv_at hl 2 rfl) ?_
  refine lv_aload_n hx hb dL_law_777 rfl (lv_at hl 3 rfl) ?_
  refine lv_iload_n hx hb dL_law_778 rfl (lv_at hl 0 rfl) ?_
  refine lv_iconst (v := 1) hx hb dL_law_779 (by decide) ?_
  refine lv_iadd hx hb dL_law_780 ?_
  refine lv_topi (fun x_1 ex_1 => ?_)
  have fx_1 : x_1.toInt = i.toInt + 1 := by rw [ex_1]; exact I_add rfl (by decide : (1 : Int32).toInt = 1) (by omega) (by omega)
  refine va_sld hx hb hXs hbl hbA hS (i := x_1) (vp_in_iff.mpr (by omega)) dL_law_781 ?_
  refine lv_topi (fun x_2 ex_2 => ?_)
  refine k_iW (k_VW (n := 1) ⟨hx, hb, hml, hown, hT⟩ hK hP hD (lift_l (X' := nX) (wr := wM g v) (xL_life l g H.size u hu x_2) (fun _ _ _ _ _ _ => trivial)) (gV bw_1557 bw_1558 bw_1559 bw_395 bw_534) rfl rfl (by decide +kernel) ⟨by decide, by decide⟩ (ci := 11) rfl (List.mem_append_left _ (List.mem_append_left _ List.mem_cons_self)) (fun _ _ _ _ _ => trivial) (fun _ _ _ => trivial) rfl rfl hl.1 (Nat.le_of_ble_eq_true rfl) dL_law_782 ⟨by decide, by decide⟩) hD hS hA (fun r_3 u_4 H locs hw hP hD hS => ?_)
  obtain ⟨hu_4, heu_4, htu_4⟩ := hw
  have hl : lv_has ls 4 [(3, .int i), (2, .ref (v.1 0)), (1, .ref (u_4.1 0)), (0, .ref b)] := by rw [heu_4]; exact hl
  refine lv_pop hx hb dL_law_785 rfl ?_
  refine lv_aload_n hx hb dL_law_786 rfl (lv_at hl 1 rfl) ?_
  refine lv_aload_n hx hb dL_law_787 rfl (lv_at hl 3 rfl) ?_
  refine lv_iload_n hx hb dL_law_788 rfl (lv_at hl 0 rfl) ?_
  refine lv_iconst (v := 1) hx hb dL_law_789 (by decide) ?_
  refine lv_iadd hx hb dL_law_790 ?_
  refine lv_topi (fun x_5 ex_5 => ?_)
  have fx_5 : x_5.toInt = i.toInt + 1 := by rw [ex_5]; exact I_add rfl (by decide : (1 : Int32).toInt = 1) (by omega) (by omega)
  refine va_sld hx hb hXs hbl hbA hS (i := x_5) (vp_in_iff.mpr (by omega)) dL_law_791 ?_
  refine lv_topi (fun x_6 ex_6 => ?_)
  refine k_iW (k_VW (n := 1) ⟨hx, hb, hml, hown, hT⟩ hK hP hD (lift_r (X' := nX) (wr := wX g u_4) (mL_life l g H.size v hv x_6) (fun _ _ _ _ _ _ => trivial)) (gV bw_1560 bw_1561 bw_1562 bw_840 bw_1117) rfl rfl (by decide +kernel) ⟨by decide, by decide⟩ (ci := 12) rfl (List.mem_append_right _ List.mem_cons_self) (fun _ _ _ _ _ => trivial) (fun _ _ _ => trivial) rfl rfl hl.1 (Nat.le_of_ble_eq_true rfl) dL_law_792 ⟨by decide, by decide⟩) hD hS hA (fun r_7 v_8 H locs hw hP hD hS => ?_)
  obtain ⟨hv_8, hev_8, htv_8⟩ := hw
  have hl : lv_has ls 4 [(3, .int i), (2, .ref (v_8.1 0)), (1, .ref (u_4.1 0)), (0, .ref b)] := by rw [hev_8]; exact hl
  refine lv_pop hx hb dL_law_795 rfl ?_
  refine lv_goto (tgt := 1217) hx hb dL_law_796 (by decide) ?_
  obtain ⟨x_9, ex_9⟩ : ∃ y : Int32, y = i + 6 := ⟨_, rfl⟩
  have fx_9 : x_9.toInt = i.toInt + 6 := by rw [ex_9]; exact I_add rfl (by decide) (by omega) (by omega)
  refine lv_iinc (v := x_9) (lv' := [(3, .int x_9), (2, .ref (v_8.1 0)), (1, .ref (u_4.1 0)), (0, .ref b)]) hx hb dL_law_1217 hl (k := 0) rfl (by rw [ex_9]; rfl) (by decide) rfl (fun ls hl => ?_)
  refine lv_goto (tgt := 18) hx hb dL_law_1220 (by decide) ?_
  exact ih (n - 1) (by omega) H locs ls ⟨u_4, v_8, x_9, hu_4, hv_8, (htu_4.trans (htt.trans htv_8.symm)), by omega, by omega, hP, hD, hS, lv_sub hl [0, 1, 2, 3] rfl⟩
