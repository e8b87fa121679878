set_option maxHeartbeats 40000000 in
set_option maxRecDepth 100000 in
theorem law_c21 {p : Program} {e : Env} {s : State} {m : MethodId} {below : List Frame} {meth : Method} {c : Code} (l : Launch) {b L : Nat} {xs : Nat → Int32} (hL : L ≤ 3072) (C0 : lw_At p s m meth c b L xs) {g : GG} {aW : Nat} {fw : Nat → Int32} {A : Nat → Prop} (hK : kE g s) (hX2 : sE g.2.2.2.2.2.2.2 11 aW fw A s s.heap) (hAe : A = fun q : Nat => s.heap.size ≤ q) {u : XRec} {v : MRec} {H : Heap} {locs : List Loc} {ls : Array Slot} (hu : XOk u) (hv : MOk v) (htt : (u.2.1 35) = (v.2.1 32)) {i : Int32} {n : Nat} (hi0 : 0 ≤ i.toInt ∧ i.toInt ≤ 3072) (hm : 3072 - i.toInt ≤ (n : Int)) (hil : i.toInt + 6 ≤ (L : Int)) (hP : va_P g.1 vwCl (wX g u ++ wM g v) H) (hD : va_D A (wX g u ++ wM g v)) (hS : va_S A s.heap H locs) (hl : lv_has ls 4 [(3, .int i), (2, .ref (v.1 0)), (1, .ref (u.1 0)), (0, .ref b)]) (ih : ∀ n', n' < n → ∀ (H : Heap) (locs : List Loc) (ls : Array Slot), LI g A s b n' H locs ls → W p l e room_1 s m #[Value.ref b] below meth c H locs 476 78636 (lw_Z below #[Value.ref b] s) (F0 m 18 ls [])) : W p l e room_1 s m #[Value.ref b] below meth c H locs 476 78636 (lw_Z below #[Value.ref b] s) (F0 m 799 ls []) := by
  obtain ⟨hx, hb, hr, hml, hown, hts, hXs, hbl, hlocks, hgv⟩ := id C0
  have hT : ∀ w ∈ gT, w.before #[Value.ref b] s = true := fun w h => hts w (List.mem_filter.mp h).1
  have hown : s.vm.findClass RL = some m.cls := hown
  have hA : ∀ q : Nat, s.heap.size ≤ q → A q := by rw [hAe]; exact fun _ h => h
  have hbA : ¬ A b := by rw [hAe]; exact Nat.not_le.mpr hbl
  refine lv_aload_n hx hb dL_law_799 rfl (lv_at hl 2 rfl) ?_
  refine lv_aload_n hx hb dL_law_800 rfl (lv_at hl 3 rfl) ?_
  refine lv_iload_n hx hb dL_law_801 rfl (lv_at hl 0 rfl) ?_
  refine lv_iconst (v := 1) hx hb dL_law_802 (by decide) ?_
  refine lv_iadd hx hb dL_law_803 ?_
  refine lv_topi (fun x_1 ex_1 => ?_)
  have fx_1 : x_1.toInt = i.toInt + 1 := by rw [ex_1]; exact I_add rfl (by decide : (1 : Int32).toInt = 1) (by omega) (by omega)
  refine va_sld hx hb hXs hbl hbA hS (i := x_1) (vp_in_iff.mpr (by omega)) dL_law_804 ?_
  refine lv_topi (fun x_2 ex_2 => ?_)
  refine lv_aload_n hx hb dL_law_805 rfl (lv_at hl 3 rfl) ?_
  refine lv_iload_n hx hb dL_law_806 rfl (lv_at hl 0 rfl) ?_
  refine lv_iconst (v := 2) hx hb dL_law_807 (by decide) ?_
  refine lv_iadd hx hb dL_law_808 ?_
  refine lv_topi (fun x_3 ex_3 => ?_)
  have fx_3 : x_3.toInt = i.toInt + 2 := by rw [ex_3]; exact I_add rfl (by decide : (2 : Int32).toInt = 2) (by omega) (by omega)
  refine va_sld hx hb hXs hbl hbA hS (i := x_3) (vp_in_iff.mpr (by omega)) dL_law_809 ?_
  refine lv_topi (fun x_4 ex_4 => ?_)
  refine k_iW (k_VW (n := 2) ⟨hx, hb, hml, hown, hT⟩ hK hP hD (lift_l (X' := nX) (wr := wM g v) (xL_late l g H.size u hu x_2 x_4) (fun _ _ _ _ _ _ => trivial)) (gV bw_1563 bw_1564 bw_1565 bw_395 bw_538) rfl rfl (by decide +kernel) ⟨by decide, by decide⟩ (ci := 11) rfl (List.mem_append_left _ (List.mem_append_left _ List.mem_cons_self)) (fun _ _ _ _ _ => trivial) (fun _ _ _ => trivial) rfl rfl hl.1 (Nat.le_of_ble_eq_true rfl) dL_law_810 ⟨by decide, by decide⟩) hD hS hA (fun r_5 u_6 H locs hw hP hD hS => ?_)
  obtain ⟨hu_6, heu_6, htu_6⟩ := hw
  have hl : lv_has ls 4 [(3, .int i), (2, .ref (v.1 0)), (1, .ref (u_6.1 0)), (0, .ref b)] := by rw [heu_6]; exact hl
  refine lv_pop hx hb dL_law_813 rfl ?_
  refine lv_aload_n hx hb dL_law_814 rfl (lv_at hl 1 rfl) ?_
  refine lv_aload_n hx hb dL_law_815 rfl (lv_at hl 3 rfl) ?_
  refine lv_iload_n hx hb dL_law_816 rfl (lv_at hl 0 rfl) ?_
  refine lv_iconst (v := 1) hx hb dL_law_817 (by decide) ?_
  refine lv_iadd hx hb dL_law_818 ?_
  refine lv_topi (fun x_7 ex_7 => ?_)
  have fx_7 : x_7.toInt = i.toInt + 1 := by rw [ex_7]; exact I_add rfl (by decide : (1 : Int32).toInt = 1) (by omega) (by omega)
  refine va_sld hx hb hXs hbl hbA hS (i := x_7) (vp_in_iff.mpr (by omega)) dL_law_819 ?_
  refine lv_topi (fun x_8 ex_8 => ?_)
  refine lv_aload_n hx hb dL_law_820 rfl (lv_at hl 3 rfl) ?_
  refine lv_iload_n hx hb dL_law_821 rfl (lv_at hl 0 rfl) ?_
  refine lv_iconst (v := 2) hx hb dL_law_822 (by decide) ?_
  refine lv_iadd hx hb dL_law_823 ?_
  refine lv_topi (fun x_9 ex_9 => ?_)
  have fx_9 : x_9.toInt = i.toInt + 2 := by rw [ex_9]; exact I_add rfl (by decide : (2 : Int32).toInt = 2) (by omega) (by omega)
  refine va_sld hx hb hXs hbl hbA hS (i := x_9) (vp_in_iff.mpr (by omega)) dL_law_824 ?_
  refine lv_topi (fun x_10 ex_10 => ?_)
  refine k_iW (k_VW (n := 2) ⟨hx, hb, hml, hown, hT⟩ hK hP hD (lift_r (X' := nX) (wr := wX g u_6) (mL_late l g H.size v hv x_8 x_10) (fun _ _ _ _ _ _ => trivial)) (gV bw_1566 bw_1567 bw_1568 bw_840 bw_1118) rfl rfl (by decide +kernel) ⟨by decide, by decide⟩ (ci := 12) rfl (List.mem_append_right _ List.mem_cons_self) (fun _ _ _ _ _ => trivial) (fun _ _ _ => trivial) rfl rfl hl.1 (Nat.le_of_ble_eq_true rfl) dL_law_825 ⟨by decide, by decide⟩) hD hS hA (fun r_11 v_12 H locs hw hP hD hS => ?_)
  obtain ⟨hv_12, hev_12, htv_12⟩ := hw
  have hl : lv_has ls 4 [(3, .int i), (2, .ref (v_12.1 0)), (1, .ref (u_6.1 0)), (0, .ref b)] := by rw [hev_12]; exact hl
  refine lv_pop hx hb dL_law_828 rfl ?_
  refine lv_goto (tgt := 1217) hx hb dL_law_829 (by decide) ?_
  obtain ⟨x_13, ex_13⟩ : ∃ y : Int32, y = i + 6 := ⟨_, rfl⟩
  have fx_13 : x_13.toInt = i.toInt + 6 := by rw [ex_13]; exact I_add rfl (by decide) (by omega) (by omega)
  refine lv_iinc (v := x_13) (lv' := [(3, .int x_13), (2, .ref (v_12.1 0)), (1, .ref (u_6.1 0)), (0, .ref b)]) hx hb dL_law_1217 hl (k := 0) rfl (by rw [ex_13]; rfl) (by decide) rfl (fun ls hl => ?_)
  refine lv_goto (tgt := 18) hx hb dL_law_1220 (by decide) ?_
  exact ih (n - 1) (by omega) H locs ls ⟨u_6, v_12, x_13, hu_6, hv_12, (htu_6.trans (htt.trans htv_12.symm)), by omega, by omega, hP, hD, hS, lv_sub hl [0, 1, 2, 3] rfl⟩

set_option maxHeartbeats 40000000 in
set_option maxRecDepth 100000 in
theorem law_c22 {p : Program} {e : Env} {s : State} {m : MethodId} {below : List Frame} {meth : Method} {c : Code} (l : Launch) {b L : Nat} {xs : Nat → Int32} (hL : L ≤ 3072) (C0 : lw_At p s m meth c b L xs) {g : GG} {aW : Nat} {fw : Nat → Int32} {A : Nat → Prop} (hK : kE g s) (hX2 : sE g.2.2.2.2.2.2.2 11 aW fw A s s.heap) (hAe : A = fun q : Nat => s.heap.size ≤ q) {u : XRec} {v : MRec} {H : Heap} {locs : List Loc} {ls : Array Slot} (hu : XOk u) (hv : MOk v) (htt : (u.2.1 35) = (v.2.1 32)) {i : Int32} {n : Nat} (hi0 : 0 ≤ i.toInt ∧ i.toInt ≤ 3072) (hm : 3072 - i.toInt ≤ (n : Int)) (hil : i.toInt + 6 ≤ (L : Int)) (hP : va_P g.1 vwCl (wX g u ++ wM g v) H) (hD : va_D A (wX g u ++ wM g v)) (hS : va_S A s.heap H locs) (hl : lv_has ls 4 [(3, .int i), (2, .ref (v.1 0)), (1, .ref (u.1 0)), (0, .ref b)]) (ih : ∀ n', n' < n → ∀ (H : Heap) (locs : List Loc) (ls : Array Slot), LI g A s b n' H locs ls → W p l e room_1 s m #[Value.ref b] below meth c H locs 476 78636 (lw_Z below #[Value.ref b] s) (F0 m 18 ls [])) : W p l e room_1 s m #[Value.ref b] below meth c H locs 476 78636 (lw_Z below #[Value.ref b] s) (F0 m 832 ls []) := by
  obtain ⟨hx, hb, hr, hml, hown, hts, hXs, hbl, hlocks, hgv⟩ := id C0
  have hT : ∀ w ∈ gT, w.before #[Value.ref b] s = true := fun w h => hts w (List.mem_filter.mp h).1
  have hown : s.vm.findClass RL = some m.cls := hown
  have hA : ∀ q : Nat, s.heap.size ≤ q → A q := by rw [hAe]; exact fun _ h => h
  have hbA : ¬ A b := by rw [hAe]; exact Nat.not_le.mpr hbl
  refine lv_aload_n hx hb dL_law_832 rfl (lv_at hl 2 rfl) ?_
  refine lv_aload_n hx hb dL_law_833 rfl (lv_at hl 3 rfl) ?_
  refine lv_iload_n hx hb dL_law_834 rfl (lv_at hl 0 rfl) ?_
  refine lv_iconst (v := 1) hx hb dL_law_835 (by decide) ?_
  refine lv_iadd hx hb dL_law_836 ?_
  refine lv_topi (fun x_1 ex_1 => ?_)
  have fx_1 : x_1.toInt = i.toInt + 1 := by rw [ex_1]; exact I_add rfl (by decide : (1 : Int32).toInt = 1) (by omega) (by omega)
  refine va_sld hx hb hXs hbl hbA hS (i := x_1) (vp_in_iff.mpr (by omega)) dL_law_837 ?_
  refine lv_topi (fun x_2 ex_2 => ?_)
  refine lv_aload_n hx hb dL_law_838 rfl (lv_at hl 3 rfl) ?_
  refine lv_iload_n hx hb dL_law_839 rfl (lv_at hl 0 rfl) ?_
  refine lv_iconst (v := 2) hx hb dL_law_840 (by decide) ?_
  refine lv_iadd hx hb dL_law_841 ?_
  refine lv_topi (fun x_3 ex_3 => ?_)
  have fx_3 : x_3.toInt = i.toInt + 2 := by rw [ex_3]; exact I_add rfl (by decide : (2 : Int32).toInt = 2) (by omega) (by omega)
  refine va_sld hx hb hXs hbl hbA hS (i := x_3) (vp_in_iff.mpr (by omega)) dL_law_842 ?_
  refine lv_topi (fun x_4 ex_4 => ?_)
  refine k_iW (k_VW (n := 2) ⟨hx, hb, hml, hown, hT⟩ hK hP hD (lift_l (X' := nX) (wr := wM g v) (xL_last l g H.size u hu x_2 x_4) (fun _ _ _ _ _ _ => trivial)) (gV bw_1569 bw_1570 bw_1571 bw_395 bw_542) rfl rfl (by decide +kernel) ⟨by decide, by decide⟩ (ci := 11) rfl (List.mem_append_left _ (List.mem_append_left _ List.mem_cons_self)) (fun _ _ _ _ _ => trivial) (fun _ _ _ => trivial) rfl rfl hl.1 (Nat.le_of_ble_eq_true rfl) dL_law_843 ⟨by decide, by decide⟩) hD hS hA (fun r_5 u_6 H locs hw hP hD hS => ?_)
  obtain ⟨hu_6, heu_6, htu_6⟩ := hw
  have hl : lv_has ls 4 [(3, .int i), (2, .ref (v.1 0)), (1, .ref (u_6.1 0)), (0, .ref b)] := by rw [heu_6]; exact hl
  refine lv_pop hx hb dL_law_846 rfl ?_
  refine lv_aload_n hx hb dL_law_847 rfl (lv_at hl 1 rfl) ?_
  refine lv_aload_n hx hb dL_law_848 rfl (lv_at hl 3 rfl) ?_
  refine lv_iload_n hx hb dL_law_849 rfl (lv_at hl 0 rfl) ?_
  refine lv_iconst (v := 1) hx hb dL_law_850 (by decide) ?_
  refine lv_iadd hx hb dL_law_851 ?_
  refine lv_topi (fun x_7 ex_7 => ?_)
  have fx_7 : x_7.toInt = i.toInt + 1 := by rw [ex_7]; exact I_add rfl (by decide : (1 : Int32).toInt = 1) (by omega) (by omega)
  refine va_sld hx hb hXs hbl hbA hS (i := x_7) (vp_in_iff.mpr (by omega)) dL_law_852 ?_
  refine lv_topi (fun x_8 ex_8 => ?_)
  refine lv_aload_n hx hb dL_law_853 rfl (lv_at hl 3 rfl) ?_
  refine lv_iload_n hx hb dL_law_854 rfl (lv_at hl 0 rfl) ?_
  refine lv_iconst (v := 2) hx hb dL_law_855 (by decide) ?_
  refine lv_iadd hx hb dL_law_856 ?_
  refine lv_topi (fun x_9 ex_9 => ?_)
  have fx_9 : x_9.toInt = i.toInt + 2 := by rw [ex_9]; exact I_add rfl (by decide : (2 : Int32).toInt = 2) (by omega) (by omega)
  refine va_sld hx hb hXs hbl hbA hS (i := x_9) (vp_in_iff.mpr (by omega)) dL_law_857 ?_
  refine lv_topi (fun x_10 ex_10 => ?_)
  refine k_iW (k_VW (n := 2) ⟨hx, hb, hml, hown, hT⟩ hK hP hD (lift_r (X' := nX) (wr := wX g u_6) (mL_last l g H.size v hv x_8 x_10) (fun _ _ _ _ _ _ => trivial)) (gV bw_1572 bw_1573 bw_1574 bw_840 bw_1124) rfl rfl (by decide +kernel) ⟨by decide, by decide⟩ (ci := 12) rfl (List.mem_append_right _ List.mem_cons_self) (fun _ _ _ _ _ => trivial) (fun _ _ _ => trivial) rfl rfl hl.1 (Nat.le_of_ble_eq_true rfl) dL_law_858 ⟨by decide, by decide⟩) hD hS hA (fun r_11 v_12 H locs hw hP hD hS => ?_)
  obtain ⟨hv_12, hev_12, htv_12⟩ := hw
  have hl : lv_has ls 4 [(3, .int i), (2, .ref (v_12.1 0)), (1, .ref (u_6.1 0)), (0, .ref b)] := by rw [hev_12]; exact hl
  refine lv_pop hx hb dL_law_861 rfl ?_
  refine lv_goto (tgt := 1217) hx hb dL_law_862 (by decide) ?_
  obtain ⟨x_13, ex_13⟩ : ∃ y : Int32, y = i + 6 := ⟨_, rfl⟩
  have fx_13 : x_13.toInt = i.toInt + 6 := by rw [ex_13]; exact I_add rfl (by decide) (by omega) (by omega)
  refine lv_iinc (v := x_13) (lv' := [(3, .int x_13), (2, .ref (v_12.1 0)), (1, .ref (u_6.1 0)), (0, .ref b)]) hx hb dL_law_1217 hl (k := 0) rfl (by rw [ex_13]; rfl) (by decide) rfl (fun ls hl => ?_)
  refine lv_goto (tgt := 18) hx hb dL_law_1220 (by decide) ?_
  exact ih (n - 1) (by omega) H locs ls ⟨u_6, v_12, x_13, hu_6, hv_12, (htu_6.trans (htt.trans htv_12.symm)), by omega, by omega, hP, hD, hS, lv_sub hl [0, 1, 2, 3] rfl⟩

set_option maxHeartbeats 40000000 in
set_option maxRecDepth 100000 in
theorem law_c23 {p : Program} {e : Env} {s : State} {m : MethodId} {below : List Frame} {meth : Method} {c : Code} (l : Launch) {b L : Nat} {xs : Nat → Int32} (hL : L ≤ 3072) (C0 : lw_At p s m meth c b L xs) {g : GG} {aW : Nat} {fw : Nat → Int32} {A : Nat → Prop} (hK : kE g s) (hX2 : sE g.2.2.2.2.2.2.2 11 aW fw A s s.heap) (hAe : A = fun q : Nat => s.heap.size ≤ q) {u : XRec} {v : MRec} {H : Heap} {locs : List Loc} {ls : Array Slot} (hu : XOk u) (hv : MOk v) (htt : (u.2.1 35) = (v.2.1 32)) {i : Int32} {n : Nat} (hi0 : 0 ≤ i.toInt ∧ i.toInt ≤ 3072) (hm : 3072 - i.toInt ≤ (n : Int)) (hil : i.toInt + 6 ≤ (L : Int)) (hP : va_P g.1 vwCl (wX g u ++ wM g v) H) (hD : va_D A (wX g u ++ wM g v)) (hS : va_S A s.heap H locs) (hl : lv_has ls 4 [(3, .int i), (2, .ref (v.1 0)), (1, .ref (u.1 0)), (0, .ref b)]) (ih : ∀ n', n' < n → ∀ (H : Heap) (locs : List Loc) (ls : Array Slot), LI g A s b n' H locs ls → W p l e room_1 s m #[Value.ref b] below meth c H locs 476 78636 (lw_Z below #[Value.ref b] s) (F0 m 18 ls [])) : W p l e room_1 s m #[Value.ref b] below meth c H locs 476 78636 (lw_Z below #[Value.ref b] s) (F0 m 865 ls []) := by
  obtain ⟨hx, hb, hr, hml, hown, hts, hXs, hbl, hlocks, hgv⟩ := id C0
  have hT : ∀ w ∈ gT, w.before #[Value.ref b] s = true := fun w h => hts w (List.mem_filter.mp h).1
  have hown : s.vm.findClass RL = some m.cls := hown
  have hA : ∀ q : Nat, s.heap.size ≤ q → A q := by rw [hAe]; exact fun _ h => h
  have hbA : ¬ A b := by rw [hAe]; exact Nat.not_le.mpr hbl
  refine lv_aload_n hx hb dL_law_865 rfl (lv_at hl 2 rfl) ?_
  refine lv_aload_n hx hb dL_law_866 rfl (lv_at hl 3 rfl) ?_
  refine lv_iload_n hx hb dL_law_867 rfl (lv_at hl 0 rfl) ?_
  refine lv_iconst (v := 1) hx hb dL_law_868 (by decide) ?_
  refine lv_iadd hx hb dL_law_869 ?_
  refine lv_topi (fun x_1 ex_1 => ?_)
  have fx_1 : x_1.toInt = i.toInt + 1 := by rw [ex_1]; exact I_add rfl (by decide : (1 : Int32).toInt = 1) (by omega) (by omega)
  refine va_sld hx hb hXs hbl hbA hS (i := x_1) (vp_in_iff.mpr (by omega)) dL_law_870 ?_
  refine lv_topi (fun x_2 ex_2 => ?_)
  refine k_iW (k_VW (n := 1) ⟨hx, hb, hml, hown, hT⟩ hK hP hD (lift_l (X' := nX) (wr := wM g v) (xL_shun l g H.size u hu x_2) (fun _ _ _ _ _ _ => trivial)) (gV bw_1575 bw_1576 bw_1577 bw_395 bw_545) rfl rfl (by decide +kernel) ⟨by decide, by decide⟩ (ci := 11) rfl (List.mem_append_left _ (List.mem_append_left _ List.mem_cons_self)) (fun _ _ _ _ _ => trivial) (fun _ _ _ => trivial) rfl rfl hl.1 (Nat.le_of_ble_eq_true rfl) dL_law_871 ⟨by decide, by decide⟩) hD hS hA (fun r_3 u_4 H locs hw hP hD hS => ?_)
  obtain ⟨hu_4, heu_4, htu_4⟩ := hw
  have hl : lv_has ls 4 [(3, .int i), (2, .ref (v.1 0)), (1, .ref (u_4.1 0)), (0, .ref b)] := by rw [heu_4]; exact hl
  refine lv_pop hx hb dL_law_874 rfl ?_
  refine lv_aload_n hx hb dL_law_875 rfl (lv_at hl 1 rfl) ?_
  refine lv_aload_n hx hb dL_law_876 rfl (lv_at hl 3 rfl) ?_
  refine lv_iload_n hx hb dL_law_877 rfl (lv_at hl 0 rfl) ?_
  refine lv_iconst (v := 1) hx hb dL_law_878 (by decide) ?_
  refine lv_iadd hx hb dL_law_879 ?_
  refine lv_topi (fun x_5 ex_5 => ?_)
  have fx_5 : x_5.toInt = i.toInt + 1 := by rw [ex_5]; exact I_add rfl (by decide : (1 : Int32).toInt = 1) (by omega) (by omega)
  refine va_sld hx hb hXs hbl hbA hS (i := x_5) (vp_in_iff.mpr (by omega)) dL_law_880 ?_
  refine lv_topi (fun x_6 ex_6 => ?_)
  refine k_iW (k_VW (n := 1) ⟨hx, hb, hml, hown, hT⟩ hK hP hD (lift_r (X' := nX) (wr := wX g u_4) (mL_shun l g H.size v hv x_6) (fun _ _ _ _ _ _ => trivial)) (gV bw_1578 bw_1579 bw_1580 bw_840 bw_1125) rfl rfl (by decide +kernel) ⟨by decide, by decide⟩ (ci := 12) rfl (List.mem_append_right _ List.mem_cons_self) (fun _ _ _ _ _ => trivial) (fun _ _ _ => trivial) rfl rfl hl.1 (Nat.le_of_ble_eq_true rfl) dL_law_881 ⟨by decide, by decide⟩) hD hS hA (fun r_7 v_8 H locs hw hP hD hS => ?_)
  obtain ⟨hv_8, hev_8, htv_8⟩ := hw
  have hl : lv_has ls 4 [(3, .int i), (2, .ref (v_8.1 0)), (1, .ref (u_4.1 0)), (0, .ref b)] := by rw [hev_8]; exact hl
  refine lv_pop hx hb dL_law_884 rfl ?_
  refine lv_goto (tgt := 1217) hx hb dL_law_885 (by decide) ?_
  obtain ⟨x_9, ex_9⟩ : ∃ y : Int32, y = i + 6 := ⟨_, rfl⟩
  have fx_9 : x_9.toInt = i.toInt + 6 := by rw [ex_9]; exact I_add rfl (by decide) (by omega) (by omega)
  refine lv_iinc (v := x_9) (lv' := [(3, .int x_9), (2, .ref (v_8.1 0)), (1, .ref (u_4.1 0)), (0, .ref b)]) hx hb dL_law_1217 hl (k := 0) rfl (by rw [ex_9]; rfl) (by decide) rfl (fun ls hl => ?_)
  refine lv_goto (tgt := 18) hx hb dL_law_1220 (by decide) ?_
  exact ih (n - 1) (by omega) H locs ls ⟨u_4, v_8, x_9, hu_4, hv_8, (htu_4.trans (htt.trans htv_8.symm)), by omega, by omega, hP, hD, hS, lv_sub hl [0, 1, 2, 3] rfl⟩

set_option maxHeartbeats 40000000 in
set_option maxRecDepth 100000 in
theorem law_c24 {p : Program} {e : Env} {s : State} {m : MethodId} {below : List Frame} {meth : Method} {c : Code} (l : Launch) {b L : Nat} {xs : Nat → Int32} (hL : L ≤ 3072) (C0 : lw_At p s m meth c b L xs) {g : GG} {aW : Nat} {fw : Nat → Int32} {A : Nat → Prop} (hK : kE g s) (hX2 : sE g.2.2.2.2.2.2.2 11 aW fw A s s.heap) (hAe : A = fun q : Nat => s.heap.size ≤ q) {u : XRec} {v : MRec} {H : Heap} {locs : List Loc} {ls : Array Slot} (hu : XOk u) (hv : MOk v) (htt : (u.2.1 35) = (v.2.1 32)) {i : Int32} {n : Nat} (hi0 : 0 ≤ i.toInt ∧ i.toInt ≤ 3072) (hm : 3072 - i.toInt ≤ (n : Int)) (hil : i.toInt + 6 ≤ (L : Int)) (hP : va_P g.1 vwCl (wX g u ++ wM g v) H) (hD : va_D A (wX g u ++ wM g v)) (hS : va_S A s.heap H locs) (hl : lv_has ls 4 [(3, .int i), (2, .ref (v.1 0)), (1, .ref (u.1 0)), (0, .ref b)]) (ih : ∀ n', n' < n → ∀ (H : Heap) (locs : List Loc) (ls : Array Slot), LI g A s b n' H locs ls → W p l e room_1 s m #[Value.ref b] below meth c H locs 476 78636 (lw_Z below #[Value.ref b] s) (F0 m 18 ls [])) : W p l e room_1 s m #[Value.ref b] below meth c H locs 476 78636 (lw_Z below #[Value.ref b] s) (F0 m 888 ls []) := by
  obtain ⟨hx, hb, hr, hml, hown, hts, hXs, hbl, hlocks, hgv⟩ := id C0
  have hT : ∀ w ∈ gT, w.before #[Value.ref b] s = true := fun w h => hts w (List.mem_filter.mp h).1
  have hown : s.vm.findClass RL = some m.cls := hown
  have hA : ∀ q : Nat, s.heap.size ≤ q → A q := by rw [hAe]; exact fun _ h => h
  have hbA : ¬ A b := by rw [hAe]; exact Nat.not_le.mpr hbl
  refine lv_aload_n hx hb dL_law_888 rfl (lv_at hl 2 rfl) ?_
  refine lv_aload_n hx hb dL_law_889 rfl (lv_at hl 3 rfl) ?_
  refine lv_iload_n hx hb dL_law_890 rfl (lv_at hl 0 rfl) ?_
  refine lv_iconst (v := 1) hx hb dL_law_891 (by decide) ?_
  refine lv_iadd hx hb dL_law_892 ?_
  refine lv_topi (fun x_1 ex_1 => ?_)
  have fx_1 : x_1.toInt = i.toInt + 1 := by rw [ex_1]; exact I_add rfl (by decide : (1 : Int32).toInt = 1) (by omega) (by omega)
  refine va_sld hx hb hXs hbl hbA hS (i := x_1) (vp_in_iff.mpr (by omega)) dL_law_893 ?_
  refine lv_topi (fun x_2 ex_2 => ?_)
  refine lv_aload_n hx hb dL_law_894 rfl (lv_at hl 3 rfl) ?_
  refine lv_iload_n hx hb dL_law_895 rfl (lv_at hl 0 rfl) ?_
  refine lv_iconst (v := 2) hx hb dL_law_896 (by decide) ?_
  refine lv_iadd hx hb dL_law_897 ?_
  refine lv_topi (fun x_3 ex_3 => ?_)
  have fx_3 : x_3.toInt = i.toInt + 2 := by rw [ex_3]; exact I_add rfl (by decide : (2 : Int32).toInt = 2) (by omega) (by omega)
  refine va_sld hx hb hXs hbl hbA hS (i := x_3) (vp_in_iff.mpr (by omega)) dL_law_898 ?_
  refine lv_topi (fun x_4 ex_4 => ?_)
  refine k_iW (k_VW (n := 2) ⟨hx, hb, hml, hown, hT⟩ hK hP hD (lift_l (X' := nX) (wr := wM g v) (xL_hire l g H.size u hu x_2 x_4) (fun _ _ _ _ _ _ => trivial)) (gV bw_1581 bw_1582 bw_1583 bw_395 bw_553) rfl rfl (by decide +kernel) ⟨by decide, by decide⟩ (ci := 11) rfl (List.mem_append_left _ (List.mem_append_left _ List.mem_cons_self)) (fun _ _ _ _ _ => trivial) (fun _ _ _ => trivial) rfl rfl hl.1 (Nat.le_of_ble_eq_true rfl) dL_law_899 ⟨by decide, by decide⟩) hD hS hA (fun r_5 u_6 H locs hw hP hD hS => ?_)
  obtain ⟨hu_6, heu_6, htu_6⟩ := hw
  have hl : lv_has ls 4 [(3, .int i), (2, .ref (v.1 0)), (1, .ref (u_6.1 0)), (0, .ref b)] := by rw [heu_6]; exact hl
  refine lv_pop hx hb dL_law_902 rfl ?_
  refine lv_aload_n hx hb dL_law_903 rfl (lv_at hl 1 rfl) ?_
  refine lv_aload_n hx hb dL_law_904 rfl (lv_at hl 3 rfl) ?_
  refine lv_iload_n hx hb dL_law_905 rfl (lv_at hl 0 rfl) ?_
  refine lv_iconst (v := 1) hx hb dL_law_906 (by decide) ?_
  refine lv_iadd hx hb dL_law_907 ?_
  refine lv_topi (fun x_7 ex_7 => ?_)
  have fx_7 : x_7.toInt = i.toInt + 1 := by rw [ex_7]; exact I_add rfl (by decide : (1 : Int32).toInt = 1) (by omega) (by omega)
  refine va_sld hx hb hXs hbl hbA hS (i := x_7) (vp_in_iff.mpr (by omega)) dL_law_908 ?_
  refine lv_topi (fun x_8 ex_8 => ?_)
  refine lv_aload_n hx hb dL_law_909 rfl (lv_at hl 3 rfl) ?_
  refine lv_iload_n hx hb dL_law_910 rfl (lv_at hl 0 rfl) ?_
  refine lv_iconst (v := 2) hx hb dL_law_911 (by decide) ?_
  refine lv_iadd hx hb dL_law_912 ?_
  refine lv_topi (fun x_9 ex_9 => ?_)
  have fx_9 : x_9.toInt = i.toInt + 2 := by rw [ex_9]; exact I_add rfl (by decide : (2 : Int32).toInt = 2) (by omega) (by omega)
  refine va_sld hx hb hXs hbl hbA hS (i := x_9) (vp_in_iff.mpr (by omega)) dL_law_913 ?_
  refine lv_topi (fun x_10 ex_10 => ?_)
  refine k_iW (k_VW (n := 2) ⟨hx, hb, hml, hown, hT⟩ hK hP hD (lift_r (X' := nX) (wr := wX g u_6) (mL_hire l g H.size v hv x_8 x_10) (fun _ _ _ _ _ _ => trivial)) (gV bw_1584 bw_1585 bw_1586 bw_840 bw_1132) rfl rfl (by decide +kernel) ⟨by decide, by decide⟩ (ci := 12) rfl (List.mem_append_right _ List.mem_cons_self) (fun _ _ _ _ _ => trivial) (fun _ _ _ => trivial) rfl rfl hl.1 (Nat.le_of_ble_eq_true rfl) dL_law_914 ⟨by decide, by decide⟩) hD hS hA (fun r_11 v_12 H locs hw hP hD hS => ?_)
  obtain ⟨hv_12, hev_12, htv_12⟩ := hw
  have hl : lv_has ls 4 [(3, .int i), (2, .ref (v_12.1 0)), (1, .ref (u_6.1 0)), (0, .ref b)] := by rw [hev_12]; exact hl
  refine lv_pop hx hb dL_law_917 rfl ?_
  refine lv_goto (tgt := 1217) hx hb dL_law_918 (by decide) ?_
  obtain ⟨x_13, ex_13⟩ : ∃ y : Int32, y = i + 6 := ⟨_, rfl⟩
  have fx_13 : x_13.toInt = i.toInt + 6 := by rw [ex_13]; exact I_add rfl (by decide) (by omega) (by omega)
  refine lv_iinc (v := x_13) (lv' := [(3, .int x_13), (2, .ref (v_12.1 0)), (1, .ref (u_6.1 0)), (0, .ref b)]) hx hb dL_law_1217 hl (k := 0) rfl (by rw [ex_13]; rfl) (by decide) rfl (fun ls hl => ?_)
  refine lv_goto (tgt := 18) hx hb dL_law_1220 (by decide) ?_
  exact ih (n - 1) (by omega) H locs ls ⟨u_6, v_12, x_13, hu_6, hv_12, (htu_6.trans (htt.trans htv_12.symm)), by omega, by omega, hP, hD, hS, lv_sub hl [0, 1, 2, 3] rfl⟩

set_option maxHeartbeats 40000000 in
set_option maxRecDepth 100000 in
theorem law_c25 {p : Program} {e : Env} {s : State} {m : MethodId} {below : List Frame} {meth : Method} {c : Code} (l : Launch) {b L : Nat} {xs : Nat → Int32} (hL : L ≤ 3072) (C0 : lw_At p s m meth c b L xs) {g : GG} {aW : Nat} {fw : Nat → Int32} {A : Nat → Prop} (hK : kE g s) (hX2 : sE g.2.2.2.2.2.2.2 11 aW fw A s s.heap) (hAe : A = fun q : Nat => s.heap.size ≤ q) {u : XRec} {v : MRec} {H : Heap} {locs : List Loc} {ls : Array Slot} (hu : XOk u) (hv : MOk v) (htt : (u.2.1 35) = (v.2.1 32)) {i : Int32} {n : Nat} (hi0 : 0 ≤ i.toInt ∧ i.toInt ≤ 3072) (hm : 3072 - i.toInt ≤ (n : Int)) (hil : i.toInt + 6 ≤ (L : Int)) (hP : va_P g.1 vwCl (wX g u ++ wM g v) H) (hD : va_D A (wX g u ++ wM g v)) (hS : va_S A s.heap H locs) (hl : lv_has ls 4 [(3, .int i), (2, .ref (v.1 0)), (1, .ref (u.1 0)), (0, .ref b)]) (ih : ∀ n', n' < n → ∀ (H : Heap) (locs : List Loc) (ls : Array Slot), LI g A s b n' H locs ls → W p l e room_1 s m #[Value.ref b] below meth c H locs 476 78636 (lw_Z below #[Value.ref b] s) (F0 m 18 ls [])) : W p l e room_1 s m #[Value.ref b] below meth c H locs 476 78636 (lw_Z below #[Value.ref b] s) (F0 m 921 ls []) := by
  obtain ⟨hx, hb, hr, hml, hown, hts, hXs, hbl, hlocks, hgv⟩ := id C0
  have hT : ∀ w ∈ gT, w.before #[Value.ref b] s = true := fun w h => hts w (List.mem_filter.mp h).1
  have hown : s.vm.findClass RL = some m.cls := hown
  have hA : ∀ q : Nat, s.heap.size ≤ q → A q := by rw [hAe]; exact fun _ h => h
  have hbA : ¬ A b := by rw [hAe]; exact Nat.not_le.mpr hbl
  refine lv_aload_n hx hb dL_law_921 rfl (lv_at hl 2 rfl) ?_
  refine lv_aload_n hx hb dL_law_922 rfl (lv_at hl 3 rfl) ?_
  refine lv_iload_n hx hb dL_law_923 rfl (lv_at hl 0 rfl) ?_
  refine lv_iconst (v := 1) hx hb dL_law_924 (by decide) ?_
  refine lv_iadd hx hb dL_law_925 ?_
  refine lv_topi (fun x_1 ex_1 => ?_)
  have fx_1 : x_1.toInt = i.toInt + 1 := by rw [ex_1]; exact I_add rfl (by decide : (1 : Int32).toInt = 1) (by omega) (by omega)
  refine va_sld hx hb hXs hbl hbA hS (i := x_1) (vp_in_iff.mpr (by omega)) dL_law_926 ?_
  refine lv_topi (fun x_2 ex_2 => ?_)
  refine k_iW (k_VW (n := 1) ⟨hx, hb, hml, hown, hT⟩ hK hP hD (lift_l (X' := nX) (wr := wM g v) (xL_clash l g H.size u hu x_2) (fun _ _ _ _ _ _ => trivial)) (gV bw_1587 bw_1588 bw_1589 bw_395 bw_320) rfl rfl (by decide +kernel) ⟨by decide, by decide⟩ (ci := 11) rfl (List.mem_append_left _ (List.mem_append_left _ List.mem_cons_self)) (fun _ _ _ _ _ => trivial) (fun _ _ _ => trivial) rfl rfl hl.1 (Nat.le_of_ble_eq_true rfl) dL_law_927 ⟨by decide, by decide⟩) hD hS hA (fun r_3 u_4 H locs hw hP hD hS => ?_)
  obtain ⟨hu_4, heu_4, htu_4⟩ := hw
  have hl : lv_has ls 4 [(3, .int i), (2, .ref (v.1 0)), (1, .ref (u_4.1 0)), (0, .ref b)] := by rw [heu_4]; exact hl
  refine lv_pop hx hb dL_law_930 rfl ?_
  refine lv_aload_n hx hb dL_law_931 rfl (lv_at hl 1 rfl) ?_
  refine lv_aload_n hx hb dL_law_932 rfl (lv_at hl 3 rfl) ?_
  refine lv_iload_n hx hb dL_law_933 rfl (lv_at hl 0 rfl) ?_
  refine lv_iconst (v := 1) hx hb dL_law_934 (by decide) ?_
  refine lv_iadd hx hb dL_law_935 ?_
  refine lv_topi (fun x_5 ex_5 => ?_)
  have fx_5 : x_5.toInt = i.toInt + 1 := by rw [ex_5]; exact I_add rfl (by decide : (1 : Int32).toInt = 1) (by omega) (by omega)
  refine va_sld hx hb hXs hbl hbA hS (i := x_5) (vp_in_iff.mpr (by omega)) dL_law_936 ?_
  refine lv_topi (fun x_6 ex_6 => ?_)
  refine k_iW (k_VW (n := 1) ⟨hx, hb, hml, hown, hT⟩ hK hP hD (lift_r (X' := nX) (wr := wX g u_4) (mL_clash l g H.size v hv x_6) (fun _ _ _ _ _ _ => trivial)) (gV bw_1590 bw_1045 bw_1046 bw_840 bw_1038) rfl rfl (by decide +kernel) ⟨by decide, by decide⟩ (ci := 12) rfl (List.mem_append_right _ List.mem_cons_self) (fun _ _ _ _ _ => trivial) (fun _ _ _ => trivial) rfl rfl hl.1 (Nat.le_of_ble_eq_true rfl) dL_law_937 ⟨by decide, by decide⟩) hD hS hA (fun r_7 v_8 H locs hw hP hD hS => ?_)
  obtain ⟨hv_8, hev_8, htv_8⟩ := hw
  have hl : lv_has ls 4 [(3, .int i), (2, .ref (v_8.1 0)), (1, .ref (u_4.1 0)), (0, .ref b)] := by rw [hev_8]; exact hl
  refine lv_pop hx hb dL_law_940 rfl ?_
  refine lv_goto (tgt := 1217) hx hb dL_law_941 (by decide) ?_
  obtain ⟨x_9, ex_9⟩ : ∃ y : Int32, y = i + 6 := ⟨_, rfl⟩
  have fx_9 : x_9.toInt = i.toInt + 6 := by rw [ex_9]; exact I_add rfl (by decide) (by omega) (by omega)
  refine lv_iinc (v := x_9) (lv' := [(3, .int x_9), (2, .ref (v_8.1 0)), (1, .ref (u_4.1 0)), (0, .ref b)]) hx hb dL_law_1217 hl (k := 0) rfl (by rw [ex_9]; rfl) (by decide) rfl (fun ls hl => ?_)
  refine lv_goto (tgt := 18) hx hb dL_law_1220 (by decide) ?_
  exact ih (n - 1) (by omega) H locs ls ⟨u_4, v_8, x_9, hu_4, hv_8, (htu_4.trans (htt.trans htv_8.symm)), by omega, by omega, hP, hD, hS, lv_sub hl [0, 1, 2, 3] rfl⟩

set_option maxHeartbeats 40000000 in
set_option maxRecDepth 100000 in
theorem law_c26 {p : Program} {e : Env} {s : State} {m : MethodId} {below : List Frame} {meth : Method} {c : Code} (l : Launch) {b L : Nat} {xs : Nat → Int32} (hL : L ≤ 3072) (C0 : lw_At p s m meth c b L xs) {g : GG} {aW : Nat} {fw : Nat → Int32} {A : Nat → Prop} (hK : kE g s) (hX2 : sE g.2.2.2.2.2.2.2 11 aW fw A s s.heap) (hAe : A = fun q : Nat => s.heap.size ≤ q) {u : XRec} {v : MRec} {H : Heap} {locs : List Loc} {ls : Array Slot} (hu : XOk u) (hv : MOk v) (htt : (u.2.1 35) = (v.2.1 32)) {i : Int32} {n : Nat} (hi0 : 0 ≤ i.toInt ∧ i.toInt ≤ 3072) (hm : 3072 - i.toInt ≤ (n : Int)) (hil : i.toInt + 6 ≤ (L : Int)) (hP : va_P g.1 vwCl (wX g u ++ wM g v) H) (hD : va_D A (wX g u ++ wM g v)) (hS : va_S A s.heap H locs) (hl : lv_has ls 4 [(3, .int i), (2, .ref (v.1 0)), (1, .ref (u.1 0)), (0, .ref b)]) (ih : ∀ n', n' < n → ∀ (H : Heap) (locs : List Loc) (ls : Array Slot), LI g A s b n' H locs ls → W p l e room_1 s m #[Value.ref b] below meth c H locs 476 78636 (lw_Z below #[Value.ref b] s) (F0 m 18 ls [])) : W p l e room_1 s m #[Value.ref b] below meth c H locs 476 78636 (lw_Z below #[Value.ref b] s) (F0 m 944 ls []) := by
  obtain ⟨hx, hb, hr, hml, hown, hts, hXs, hbl, hlocks, hgv⟩ := id C0
  have hT : ∀ w ∈ gT, w.before #[Value.ref b] s = true := fun w h => hts w (List.mem_filter.mp h).1
  have hown : s.vm.findClass RL = some m.cls := hown
  have hA : ∀ q : Nat, s.heap.size ≤ q → A q := by rw [hAe]; exact fun _ h => h
  have hbA : ¬ A b := by rw [hAe]; exact Nat.not_le.mpr hbl
  refine lv_aload_n hx hb dL_law_944 rfl (lv_at hl 2 rfl) ?_
  refine lv_aload_n hx hb dL_law_945 rfl (lv_at hl 3 rfl) ?_
  refine lv_iload_n hx hb dL_law_946 rfl (lv_at hl 0 rfl) ?_
  refine lv_iconst (v := 1) hx hb dL_law_947 (by decide) ?_
  refine lv_iadd hx hb dL_law_948 ?_
  refine lv_topi (fun x_1 ex_1 => ?_)
  have fx_1 : x_1.toInt = i.toInt + 1 := by rw [ex_1]; exact I_add rfl (by decide : (1 : Int32).toInt = 1) (by omega) (by omega)
  refine va_sld hx hb hXs hbl hbA hS (i := x_1) (vp_in_iff.mpr (by omega)) dL_law_949 ?_
  refine lv_topi (fun x_2 ex_2 => ?_)
  refine k_iW (k_VW (n := 1) ⟨hx, hb, hml, hown, hT⟩ hK hP hD (lift_l (X' := nX) (wr := wM g v) (xL_part l g H.size u hu x_2) (fun _ _ _ _ _ _ => trivial)) (gV bw_1591 bw_1592 bw_1593 bw_395 bw_389) rfl rfl (by decide +kernel) ⟨by decide, by decide⟩ (ci := 11) rfl (List.mem_append_left _ (List.mem_append_left _ List.mem_cons_self)) (fun _ _ _ _ _ => trivial) (fun _ _ _ => trivial) rfl rfl hl.1 (Nat.le_of_ble_eq_true rfl) dL_law_950 ⟨by decide, by decide⟩) hD hS hA (fun r_3 u_4 H locs hw hP hD hS => ?_)
  obtain ⟨hu_4, heu_4, htu_4⟩ := hw
  have hl : lv_has ls 4 [(3, .int i), (2, .ref (v.1 0)), (1, .ref (u_4.1 0)), (0, .ref b)] := by rw [heu_4]; exact hl
  refine lv_pop hx hb dL_law_953 rfl ?_
  refine lv_aload_n hx hb dL_law_954 rfl (lv_at hl 1 rfl) ?_
  refine lv_aload_n hx hb dL_law_955 rfl (lv_at hl 3 rfl) ?_
  refine lv_iload_n hx hb dL_law_956 rfl (lv_at hl 0 rfl) ?_
  refine lv_iconst (v := 1) hx hb dL_law_957 (by decide) ?_
  refine lv_iadd hx hb dL_law_958 ?_
  refine lv_topi (fun x_5 ex_5 => ?_)
  have fx_5 : x_5.toInt = i.toInt + 1 := by rw [ex_5]; exact I_add rfl (by decide : (1 : Int32).toInt = 1) (by omega) (by omega)
  refine va_sld hx hb hXs hbl hbA hS (i := x_5) (vp_in_iff.mpr (by omega)) dL_law_959 ?_
  refine lv_topi (fun x_6 ex_6 => ?_)
  refine k_iW (k_VW (n := 1) ⟨hx, hb, hml, hown, hT⟩ hK hP hD (lift_r (X' := nX) (wr := wX g u_4) (mL_part l g H.size v hv x_6) (fun _ _ _ _ _ _ => trivial)) (gV bw_1594 bw_1595 bw_1596 bw_840 bw_1058) rfl rfl (by decide +kernel) ⟨by decide, by decide⟩ (ci := 12) rfl (List.mem_append_right _ List.mem_cons_self) (fun _ _ _ _ _ => trivial) (fun _ _ _ => trivial) rfl rfl hl.1 (Nat.le_of_ble_eq_true rfl) dL_law_960 ⟨by decide, by decide⟩) hD hS hA (fun r_7 v_8 H locs hw hP hD hS => ?_)
  obtain ⟨hv_8, hev_8, htv_8⟩ := hw
  have hl : lv_has ls 4 [(3, .int i), (2, .ref (v_8.1 0)), (1, .ref (u_4.1 0)), (0, .ref b)] := by rw [hev_8]; exact hl
  refine lv_pop hx hb dL_law_963 rfl ?_
  refine lv_goto (tgt := 1217) hx hb dL_law_964 (by decide) ?_
  obtain ⟨x_9, ex_9⟩ : ∃ y : Int32, y = i + 6 := ⟨_, rfl⟩
  have fx_9 : x_9.toInt = i.toInt + 6 := by rw [ex_9]; exact I_add rfl (by decide) (by omega) (by omega)
  refine lv_iinc (v := x_9) (lv' := [(3, .int x_9), (2, .ref (v_8.1 0)), (1, .ref (u_4.1 0)), (0, .ref b)]) hx hb dL_law_1217 hl (k := 0) rfl (by rw [ex_9]; rfl) (by decide) rfl (fun ls hl => ?_)
  refine lv_goto (tgt := 18) hx hb dL_law_1220 (by decide) ?_
  exact ih (n - 1) (by omega) H locs ls ⟨u_4, v_8, x_9, hu_4, hv_8, (htu_4.trans (htt.trans htv_8.symm)), by omega, by omega, hP, hD, hS, lv_sub hl [0, 1, 2, 3] rfl⟩

set_option maxHeartbeats 40000000 in
set_option maxRecDepth 100000 in
theorem law_c27 {p : Program} {e : Env} {s : State} {m : MethodId} {below : List Frame} {meth : Method} {c : Code} (l : Launch) {b L : Nat} {xs : Nat → Int32} (hL : L ≤ 3072) (C0 : lw_At p s m meth c b L xs) {g : GG} {aW : Nat} {fw : Nat → Int32} {A : Nat → Prop} (hK : kE g s) (hX2 : sE g.2.2.2.2.2.2.2 11 aW fw A s s.heap) (hAe : A = fun q : Nat => s.heap.size ≤ q) {u : XRec} {v : MRec} {H : Heap} {locs : List Loc} {ls : Array Slot} (hu : XOk u) (hv : MOk v) (htt : (u.2.1 35) = (v.2.1 32)) {i : Int32} {n : Nat} (hi0 : 0 ≤ i.toInt ∧ i.toInt ≤ 3072) (hm : 3072 - i.toInt ≤ (n : Int)) (hil : i.toInt + 6 ≤ (L : Int)) (hP : va_P g.1 vwCl (wX g u ++ wM g v) H) (hD : va_D A (wX g u ++ wM g v)) (hS : va_S A s.heap H locs) (hl : lv_has ls 4 [(3, .int i), (2, .ref (v.1 0)), (1, .ref (u.1 0)), (0, .ref b)]) (ih : ∀ n', n' < n → ∀ (H : Heap) (locs : List Loc) (ls : Array Slot), LI g A s b n' H locs ls → W p l e room_1 s m #[Value.ref b] below meth c H locs 476 78636 (lw_Z below #[Value.ref b] s) (F0 m 18 ls [])) : W p l e room_1 s m #[Value.ref b] below meth c H locs 476 78636 (lw_Z below #[Value.ref b] s) (F0 m 967 ls []) := by
  obtain ⟨hx, hb, hr, hml, hown, hts, hXs, hbl, hlocks, hgv⟩ := id C0
  have hT : ∀ w ∈ gT, w.before #[Value.ref b] s = true := fun w h => hts w (List.mem_filter.mp h).1
  have hown : s.vm.findClass RL = some m.cls := hown
  have hA : ∀ q : Nat, s.heap.size ≤ q → A q := by rw [hAe]; exact fun _ h => h
  have hbA : ¬ A b := by rw [hAe]; exact Nat.not_le.mpr hbl
  refine lv_aload_n hx hb dL_law_967 rfl (lv_at hl 2 rfl) ?_
  refine lv_aload_n hx hb dL_law_968 rfl (lv_at hl 3 rfl) ?_
  refine lv_iload_n hx hb dL_law_969 rfl (lv_at hl 0 rfl) ?_
  refine lv_iconst (v := 1) hx hb dL_law_970 (by decide) ?_
  refine lv_iadd hx hb dL_law_971 ?_
  refine lv_topi (fun x_1 ex_1 => ?_)
  have fx_1 : x_1.toInt = i.toInt + 1 := by rw [ex_1]; exact I_add rfl (by decide : (1 : Int32).toInt = 1) (by omega) (by omega)
  refine va_sld hx hb hXs hbl hbA hS (i := x_1) (vp_in_iff.mpr (by omega)) dL_law_972 ?_
  refine lv_topi (fun x_2 ex_2 => ?_)
  refine k_iW (k_VW (n := 1) ⟨hx, hb, hml, hown, hT⟩ hK hP hD (lift_l (X' := nX) (wr := wM g v) (xL_lies l g H.size u hu x_2) (fun _ _ _ _ _ _ => trivial)) (gV bw_1597 bw_1598 bw_1599 bw_395 bw_347) rfl rfl (by decide +kernel) ⟨by decide, by decide⟩ (ci := 11) rfl (List.mem_append_left _ (List.mem_append_left _ List.mem_cons_self)) (fun _ _ _ _ _ => trivial) (fun _ _ _ => trivial) rfl rfl hl.1 (Nat.le_of_ble_eq_true rfl) dL_law_973 ⟨by decide, by decide⟩) hD hS hA (fun r_3 u_4 H locs hw hP hD hS => ?_)
  obtain ⟨hu_4, heu_4, htu_4⟩ := hw
  have hl : lv_has ls 4 [(3, .int i), (2, .ref (v.1 0)), (1, .ref (u_4.1 0)), (0, .ref b)] := by rw [heu_4]; exact hl
  refine lv_pop hx hb dL_law_976 rfl ?_
  refine lv_aload_n hx hb dL_law_977 rfl (lv_at hl 1 rfl) ?_
  refine lv_aload_n hx hb dL_law_978 rfl (lv_at hl 3 rfl) ?_
  refine lv_iload_n hx hb dL_law_979 rfl (lv_at hl 0 rfl) ?_
  refine lv_iconst (v := 1) hx hb dL_law_980 (by decide) ?_
  refine lv_iadd hx hb dL_law_981 ?_
  refine lv_topi (fun x_5 ex_5 => ?_)
  have fx_5 : x_5.toInt = i.toInt + 1 := by rw [ex_5]; exact I_add rfl (by decide : (1 : Int32).toInt = 1) (by omega) (by omega)
  refine va_sld hx hb hXs hbl hbA hS (i := x_5) (vp_in_iff.mpr (by omega)) dL_law_982 ?_
  refine lv_topi (fun x_6 ex_6 => ?_)
  refine k_iW (k_VW (n := 1) ⟨hx, hb, hml, hown, hT⟩ hK hP hD (lift_r (X' := nX) (wr := wX g u_4) (mL_lies l g H.size v hv x_6) (fun _ _ _ _ _ _ => trivial)) (gV bw_1600 bw_1601 bw_1602 bw_840 bw_954) rfl rfl (by decide +kernel) ⟨by decide, by decide⟩ (ci := 12) rfl (List.mem_append_right _ List.mem_cons_self) (fun _ _ _ _ _ => trivial) (fun _ _ _ => trivial) rfl rfl hl.1 (Nat.le_of_ble_eq_true rfl) dL_law_983 ⟨by decide, by decide⟩) hD hS hA (fun r_7 v_8 H locs hw hP hD hS => ?_)
  obtain ⟨hv_8, hev_8, htv_8⟩ := hw
  have hl : lv_has ls 4 [(3, .int i), (2, .ref (v_8.1 0)), (1, .ref (u_4.1 0)), (0, .ref b)] := by rw [hev_8]; exact hl
  refine lv_pop hx hb dL_law_986 rfl ?_
  refine lv_goto (tgt := 1217) hx hb dL_law_987 (by decide) ?_
  obtain ⟨x_9, ex_9⟩ : ∃ y : Int32, y = i + 6 := ⟨_, rfl⟩
  have fx_9 : x_9.toInt = i.toInt + 6 := by rw [ex_9]; exact I_add rfl (by decide) (by omega) (by omega)
  refine lv_iinc (v := x_9) (lv' := [(3, .int x_9), (2, .ref (v_8.1 0)), (1, .ref (u_4.1 0)), (0, .ref b)]) hx hb dL_law_1217 hl (k := 0) rfl (by rw [ex_9]; rfl) (by decide) rfl (fun ls hl => ?_)
  refine lv_goto (tgt := 18) hx hb dL_law_1220 (by decide) ?_
  exact ih (n - 1) (by omega) H locs ls ⟨u_4, v_8, x_9, hu_4, hv_8, (htu_4.trans (htt.trans htv_8.symm)), by omega, by omega, hP, hD, hS, lv_sub hl [0, 1, 2, 3] rfl⟩

set_option maxHeartbeats 40000000 in
set_option maxRecDepth 100000 in
theorem law_c28 {p : Program} {e : Env} {s : State} {m : MethodId} {below : List Frame} {meth : Method} {c : Code} (l : Launch) {b L : Nat} {xs : Nat → Int32} (hL : L ≤ 3072) (C0 : lw_At p s m meth c b L xs) {g : GG} {aW : Nat} {fw : Nat → Int32} {A : Nat → Prop} (hK : kE g s) (hX2 : sE g.2.2.2.2.2.2.2 11 aW fw A s s.heap) (hAe : A = fun q : Nat => s.heap.size ≤ q) {u : XRec} {v : MRec} {H : Heap} {locs : List Loc} {ls : Array Slot} (hu : XOk u) (hv : MOk v) (htt : (u.2.1 35) = (v.2.1 32)) {i : Int32} {n : Nat} (hi0 : 0 ≤ i.toInt ∧ i.toInt ≤ 3072) (hm : 3072 - i.toInt ≤ (n : Int)) (hil : i.toInt + 6 ≤ (L : Int)) (hP : va_P g.1 vwCl (wX g u ++ wM g v) H) (hD : va_D A (wX g u ++ wM g v)) (hS : va_S A s.heap H locs) (hl : lv_has ls 4 [(3, .int i), (2, .ref (v.1 0)), (1, .ref (u.1 0)), (0, .ref b)]) (ih : ∀ n', n' < n → ∀ (H : Heap) (locs : List Loc) (ls : Array Slot), LI g A s b n' H locs ls → W p l e room_1 s m #[Value.ref b] below meth c H locs 476 78636 (lw_Z below #[Value.ref b] s) (F0 m 18 ls [])) : W p l e room_1 s m #[Value.ref b] below meth c H locs 476 78636 (lw_Z below #[Value.ref b] s) (F0 m 990 ls []) := by
  obtain ⟨hx, hb, hr, hml, hown, hts, hXs, hbl, hlocks, hgv⟩ := id C0
  have hT : ∀ w ∈ gT, w.before #[Value.ref b] s = true := fun w h => hts w (List.mem_filter.mp h).1
  have hown : s.vm.findClass RL = some m.cls := hown
  have hA : ∀ q : Nat, s.heap.size ≤ q → A q := by rw [hAe]; exact fun _ h => h
  have hbA : ¬ A b := by rw [hAe]; exact Nat.not_le.mpr hbl
  refine lv_aload_n hx hb dL_law_990 rfl (lv_at hl 2 rfl) ?_
  refine lv_aload_n hx hb dL_law_991 rfl (lv_at hl 3 rfl) ?_
  refine lv_iload_n hx hb dL_law_992 rfl (lv_at hl 0 rfl) ?_
  refine lv_iconst (v := 1) hx hb dL_law_993 (by decide) ?_
  refine lv_iadd hx hb dL_law_994 ?_
  refine lv_topi (fun x_1 ex_1 => ?_)
  have fx_1 : x_1.toInt = i.toInt + 1 := by rw [ex_1]; exact I_add rfl (by decide : (1 : Int32).toInt = 1) (by omega) (by omega)
  refine va_sld hx hb hXs hbl hbA hS (i := x_1) (vp_in_iff.mpr (by omega)) dL_law_995 ?_
  refine lv_topi (fun x_2 ex_2 => ?_)
  refine lv_aload_n hx hb dL_law_996 rfl (lv_at hl 3 rfl) ?_
  refine lv_iload_n hx hb dL_law_997 rfl (lv_at hl 0 rfl) ?_
  refine lv_iconst (v := 2) hx hb dL_law_998 (by decide) ?_
  refine lv_iadd hx hb dL_law_999 ?_
  refine lv_topi (fun x_3 ex_3 => ?_)
  have fx_3 : x_3.toInt = i.toInt + 2 := by rw [ex_3]; exact I_add rfl (by decide : (2 : Int32).toInt = 2) (by omega) (by omega)
  refine va_sld hx hb hXs hbl hbA hS (i := x_3) (vp_in_iff.mpr (by omega)) dL_law_1000 ?_
  refine lv_topi (fun x_4 ex_4 => ?_)
  refine k_iW (k_VW (n := 2) ⟨hx, hb, hml, hown, hT⟩ hK hP hD (lift_l (X' := nX) (wr := wM g v) (xL_log l g H.size u hu x_2 x_4) (fun _ _ _ _ _ _ => trivial)) (gV bw_1603 bw_1604 bw_1605 bw_395 bw_325) rfl rfl (by decide +kernel) ⟨by decide, by decide⟩ (ci := 11) rfl (List.mem_append_left _ (List.mem_append_left _ List.mem_cons_self)) (fun _ _ _ _ _ => trivial) (fun _ _ _ => trivial) rfl rfl hl.1 (Nat.le_of_ble_eq_true rfl) dL_law_1001 ⟨by decide, by decide⟩) hD hS hA (fun r_5 u_6 H locs hw hP hD hS => ?_)
  obtain ⟨hu_6, heu_6, htu_6⟩ := hw
  have hl : lv_has ls 4 [(3, .int i), (2, .ref (v.1 0)), (1, .ref (u_6.1 0)), (0, .ref b)] := by rw [heu_6]; exact hl
  refine lv_pop hx hb dL_law_1004 rfl ?_
  refine lv_aload_n hx hb dL_law_1005 rfl (lv_at hl 1 rfl) ?_
  refine lv_aload_n hx hb dL_law_1006 rfl (lv_at hl 3 rfl) ?_
  refine lv_iload_n hx hb dL_law_1007 rfl (lv_at hl 0 rfl) ?_
  refine lv_iconst (v := 1) hx hb dL_law_1008 (by decide) ?_
  refine lv_iadd hx hb dL_law_1009 ?_
  refine lv_topi (fun x_7 ex_7 => ?_)
  have fx_7 : x_7.toInt = i.toInt + 1 := by rw [ex_7]; exact I_add rfl (by decide : (1 : Int32).toInt = 1) (by omega) (by omega)
  refine va_sld hx hb hXs hbl hbA hS (i := x_7) (vp_in_iff.mpr (by omega)) dL_law_1010 ?_
  refine lv_topi (fun x_8 ex_8 => ?_)
  refine lv_aload_n hx hb dL_law_1011 rfl (lv_at hl 3 rfl) ?_
  refine lv_iload_n hx hb dL_law_1012 rfl (lv_at hl 0 rfl) ?_
  refine lv_iconst (v := 2) hx hb dL_law_1013 (by decide) ?_
  refine lv_iadd hx hb dL_law_1014 ?_
  refine lv_topi (fun x_9 ex_9 => ?_)
  have fx_9 : x_9.toInt = i.toInt + 2 := by rw [ex_9]; exact I_add rfl (by decide : (2 : Int32).toInt = 2) (by omega) (by omega)
  refine va_sld hx hb hXs hbl hbA hS (i := x_9) (vp_in_iff.mpr (by omega)) dL_law_1015 ?_
  refine lv_topi (fun x_10 ex_10 => ?_)
  refine k_iW (k_VW (n := 2) ⟨hx, hb, hml, hown, hT⟩ hK hP hD (lift_r (X' := nX) (wr := wX g u_6) (mL_log l g H.size v hv x_8 x_10) (fun _ _ _ _ _ _ => trivial)) (gV bw_1606 bw_1607 bw_1608 bw_840 bw_950) rfl rfl (by decide +kernel) ⟨by decide, by decide⟩ (ci := 12) rfl (List.mem_append_right _ List.mem_cons_self) (fun _ _ _ _ _ => trivial) (fun _ _ _ => trivial) rfl rfl hl.1 (Nat.le_of_ble_eq_true rfl) dL_law_1016 ⟨by decide, by decide⟩) hD hS hA (fun r_11 v_12 H locs hw hP hD hS => ?_)
  obtain ⟨hv_12, hev_12, htv_12⟩ := hw
  have hl : lv_has ls 4 [(3, .int i), (2, .ref (v_12.1 0)), (1, .ref (u_6.1 0)), (0, .ref b)] := by rw [hev_12]; exact hl
  refine lv_pop hx hb dL_law_1019 rfl ?_
  refine lv_goto (tgt := 1217) hx hb dL_law_1020 (by decide) ?_
  obtain ⟨x_13, ex_13⟩ : ∃ y : Int32, y = i + 6 := ⟨_, rfl⟩
  have fx_13 : x_13.toInt = i.toInt + 6 := by rw [ex_13]; exact I_add rfl (by decide) (by omega) (by omega)
  refine lv_iinc (v := x_13) (lv' := [(3, .int x_13), (2, .ref (v_12.1 0)), (1, .ref (u_6.1 0)), (0, .ref b)]) hx hb dL_law_1217 hl (k := 0) rfl (by rw [ex_13]; rfl) (by decide) rfl (fun ls hl => ?_)
  refine lv_goto (tgt := 18) hx hb dL_law_1220 (by decide) ?_
  exact ih (n - 1) (by omega) H locs ls ⟨u_6, v_12, x_13, hu_6, hv_12, (htu_6.trans (htt.trans htv_12.symm)), by omega, by omega, hP, hD, hS, lv_sub hl [0, 1, 2, 3] rfl⟩

set_option maxHeartbeats 40000000 in
set_option maxRecDepth 100000 in
theorem law_c29 {p : Program} {e : Env} {s : State} {m : MethodId} {below : List Frame} {meth : Method} {c : Code} (l : Launch) {b L : Nat} {xs : Nat → Int32} (hL : L ≤ 3072) (C0 : lw_At p s m meth c b L xs) {g : GG} {aW : Nat} {fw : Nat → Int32} {A : Nat → Prop} (hK : kE g s) (hX2 : sE g.2.2.2.2.2.2.2 11 aW fw A s s.heap) (hAe : A = fun q : Nat => s.heap.size ≤ q) {u : XRec} {v : MRec} {H : Heap} {locs : List Loc} {ls : Array Slot} (hu : XOk u) (hv : MOk v) (htt : (u.2.1 35) = (v.2.1 32)) {i : Int32} {n : Nat} (hi0 : 0 ≤ i.toInt ∧ i.toInt ≤ 3072) (hm : 3072 - i.toInt ≤ (n : Int)) (hil : i.toInt + 6 ≤ (L : Int)) (hP : va_P g.1 vwCl (wX g u ++ wM g v) H) (hD : va_D A (wX g u ++ wM g v)) (hS : va_S A s.heap H locs) (hl : lv_has ls 4 [(3, .int i), (2, .ref (v.1 0)), (1, .ref (u.1 0)), (0, .ref b)]) (ih : ∀ n', n' < n → ∀ (H : Heap) (locs : List Loc) (ls : Array Slot), LI g A s b n' H locs ls → W p l e room_1 s m #[Value.ref b] below meth c H locs 476 78636 (lw_Z below #[Value.ref b] s) (F0 m 18 ls [])) : W p l e room_1 s m #[Value.ref b] below meth c H locs 476 78636 (lw_Z below #[Value.ref b] s) (F0 m 1023 ls []) := by
  obtain ⟨hx, hb, hr, hml, hown, hts, hXs, hbl, hlocks, hgv⟩ := id C0
  have hT : ∀ w ∈ gT, w.before #[Value.ref b] s = true := fun w h => hts w (List.mem_filter.mp h).1
  have hown : s.vm.findClass RL = some m.cls := hown
  have hA : ∀ q : Nat, s.heap.size ≤ q → A q := by rw [hAe]; exact fun _ h => h
  have hbA : ¬ A b := by rw [hAe]; exact Nat.not_le.mpr hbl
  refine lv_aload_n hx hb dL_law_1023 rfl (lv_at hl 2 rfl) ?_
  refine lv_aload_n hx hb dL_law_1024 rfl (lv_at hl 3 rfl) ?_
  refine lv_iload_n hx hb dL_law_1025 rfl (lv_at hl 0 rfl) ?_
  refine lv_iconst (v := 1) hx hb dL_law_1026 (by decide) ?_
  refine lv_iadd hx hb dL_law_1027 ?_
  refine lv_topi (fun x_1 ex_1 => ?_)
  have fx_1 : x_1.toInt = i.toInt + 1 := by rw [ex_1]; exact I_add rfl (by decide : (1 : Int32).toInt = 1) (by omega) (by omega)
  refine va_sld hx hb hXs hbl hbA hS (i := x_1) (vp_in_iff.mpr (by omega)) dL_law_1028 ?_
  refine lv_topi (fun x_2 ex_2 => ?_)
  refine k_iW (k_VW (n := 1) ⟨hx, hb, hml, hown, hT⟩ hK hP hD (lift_l (X' := nX) (wr := wM g v) (xL_began l g H.size u hu x_2) (fun _ _ _ _ _ _ => trivial)) (gV bw_1609 bw_1610 bw_1611 bw_395 bw_365) rfl rfl (by decide +kernel) ⟨by decide, by decide⟩ (ci := 11) rfl (List.mem_append_left _ (List.mem_append_left _ List.mem_cons_self)) (fun _ _ _ _ _ => trivial) (fun _ _ _ => trivial) rfl rfl hl.1 (Nat.le_of_ble_eq_true rfl) dL_law_1029 ⟨by decide, by decide⟩) hD hS hA (fun r_3 u_4 H locs hw hP hD hS => ?_)
  obtain ⟨hu_4, heu_4, htu_4⟩ := hw
  have hl : lv_has ls 4 [(3, .int i), (2, .ref (v.1 0)), (1, .ref (u_4.1 0)), (0, .ref b)] := by rw [heu_4]; exact hl
  refine lv_pop hx hb dL_law_1032 rfl ?_
  refine lv_aload_n hx hb dL_law_1033 rfl (lv_at hl 1 rfl) ?_
  refine lv_aload_n hx hb dL_law_1034 rfl (lv_at hl 3 rfl) ?_
  refine lv_iload_n hx hb dL_law_1035 rfl (lv_at hl 0 rfl) ?_
  refine lv_iconst (v := 1) hx hb dL_law_1036 (by decide) ?_
  refine lv_iadd hx hb dL_law_1037 ?_
  refine lv_topi (fun x_5 ex_5 => ?_)
  have fx_5 : x_5.toInt = i.toInt + 1 := by rw [ex_5]; exact I_add rfl (by decide : (1 : Int32).toInt = 1) (by omega) (by omega)
  refine va_sld hx hb hXs hbl hbA hS (i := x_5) (vp_in_iff.mpr (by omega)) dL_law_1038 ?_
  refine lv_topi (fun x_6 ex_6 => ?_)
  refine k_iW (k_VW (n := 1) ⟨hx, hb, hml, hown, hT⟩ hK hP hD (lift_r (X' := nX) (wr := wX g u_4) (mL_began l g H.size v hv x_6) (fun _ _ _ _ _ _ => trivial)) (gV bw_1612 bw_1613 bw_1614 bw_840 bw_951) rfl rfl (by decide +kernel) ⟨by decide, by decide⟩ (ci := 12) rfl (List.mem_append_right _ List.mem_cons_self) (fun _ _ _ _ _ => trivial) (fun _ _ _ => trivial) rfl rfl hl.1 (Nat.le_of_ble_eq_true rfl) dL_law_1039 ⟨by decide, by decide⟩) hD hS hA (fun r_7 v_8 H locs hw hP hD hS => ?_)
  obtain ⟨hv_8, hev_8, htv_8⟩ := hw
  have hl : lv_has ls 4 [(3, .int i), (2, .ref (v_8.1 0)), (1, .ref (u_4.1 0)), (0, .ref b)] := by rw [hev_8]; exact hl
  refine lv_pop hx hb dL_law_1042 rfl ?_
  refine lv_goto (tgt := 1217) hx hb dL_law_1043 (by decide) ?_
  obtain ⟨x_9, ex_9⟩ : ∃ y : Int32, y = i + 6 := ⟨_, rfl⟩
  have fx_9 : x_9.toInt = i.toInt + 6 := by rw [ex_9]; exact I_add rfl (by decide) (by omega) (by omega)
  refine lv_iinc (v := x_9) (lv' := [(3, .int x_9), (2, .ref (v_8.1 0)), (1, .ref (u_4.1 0)), (0, .ref b)]) hx hb dL_law_1217 hl (k := 0) rfl (by rw [ex_9]; rfl) (by decide) rfl (fun ls hl => ?_)
  refine lv_goto (tgt := 18) hx hb dL_law_1220 (by decide) ?_
  exact ih (n - 1) (by omega) H locs ls ⟨u_4, v_8, x_9, hu_4, hv_8, (htu_4.trans (htt.trans htv_8.symm)), by omega, by omega, hP, hD, hS, lv_sub hl [0, 1, 2, 3] rfl⟩
