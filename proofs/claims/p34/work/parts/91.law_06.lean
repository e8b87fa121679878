set_option maxHeartbeats 40000000 in
set_option maxRecDepth 100000 in
theorem law_c30 {p : Program} {e : Env} {s : State} {m : MethodId} {below : List Frame} {meth : Method} {c : Code} (l : Launch) {b L : Nat} {xs : Nat → Int32} (hL : L ≤ 3072) (C0 : lw_At p s m meth c b L xs) {g : GG} {aW : Nat} {fw : Nat → Int32} {A : Nat → Prop} (hK : kE g s) (hX2 : sE g.2.2.2.2.2.2.2 11 aW fw A s s.heap) (hAe : A = fun q : Nat => s.heap.size ≤ q) {u : XRec} {v : MRec} {H : Heap} {locs : List Loc} {ls : Array Slot} (hu : XOk u) (hv : MOk v) (htt : (u.2.1 35) = (v.2.1 32)) {i : Int32} {n : Nat} (hi0 : 0 ≤ i.toInt ∧ i.toInt ≤ 3072) (hm : 3072 - i.toInt ≤ (n : Int)) (hil : i.toInt + 6 ≤ (L : Int)) (hP : va_P g.1 vwCl (wX g u ++ wM g v) H) (hD : va_D A (wX g u ++ wM g v)) (hS : va_S A s.heap H locs) (hl : lv_has ls 4 [(3, .int i), (2, .ref (v.1 0)), (1, .ref (u.1 0)), (0, .ref b)]) (ih : ∀ n', n' < n → ∀ (H : Heap) (locs : List Loc) (ls : Array Slot), LI g A s b n' H locs ls → W p l e room_1 s m #[Value.ref b] below meth c H locs 476 78636 (lw_Z below #[Value.ref b] s) (F0 m 18 ls [])) : W p l e room_1 s m #[Value.ref b] below meth c H locs 476 78636 (lw_Z below #[Value.ref b] s) (F0 m 1046 ls []) := by
  obtain ⟨hx, hb, hr, hml, hown, hts, hXs, hbl, hlocks, hgv⟩ := id C0
  have hT : ∀ w ∈ gT, w.before #[Value.ref b] s = true := fun w h => hts w (List.mem_filter.mp h).1
  have hown : s.vm.findClass RL = some m.cls := hown
  have hA : ∀ q : Nat, s.heap.size ≤ q → A q := by rw [hAe]; exact fun _ h => h
  have hbA : ¬ A b := by rw [hAe]; exact Nat.not_le.mpr hbl
  refine lv_aload_n hx hb dL_law_1046 rfl (lv_at hl 2 rfl) ?_
  refine lv_aload_n hx hb dL_law_1047 rfl (lv_at hl 3 rfl) ?_
  refine lv_iload_n hx hb dL_law_1048 rfl (lv_at hl 0 rfl) ?_
  refine lv_iconst (v := 1) hx hb dL_law_1049 (by decide) ?_
  refine lv_iadd hx hb dL_law_1050 ?_
  refine lv_topi (fun x_1 ex_1 => ?_)
  have fx_1 : x_1.toInt = i.toInt + 1 := by rw [ex_1]; exact I_add rfl (by decide : (1 : Int32).toInt = 1) (by omega) (by omega)
  refine va_sld hx hb hXs hbl hbA hS (i := x_1) (vp_in_iff.mpr (by omega)) dL_law_1051 ?_
  refine lv_topi (fun x_2 ex_2 => ?_)
  refine lv_aload_n hx hb dL_law_1052 rfl (lv_at hl 3 rfl) ?_
  refine lv_iload_n hx hb dL_law_1053 rfl (lv_at hl 0 rfl) ?_
  refine lv_iconst (v := 2) hx hb dL_law_1054 (by decide) ?_
  refine lv_iadd hx hb dL_law_1055 ?_
  refine lv_topi (fun x_3 ex_3 => ?_)
  have fx_3 : x_3.toInt = i.toInt + 2 := by rw [ex_3]; exact I_add rfl (by decide : (2 : Int32).toInt = 2) (by omega) (by omega)
  refine va_sld hx hb hXs hbl hbA hS (i := x_3) (vp_in_iff.mpr (by omega)) dL_law_1056 ?_
  refine lv_topi (fun x_4 ex_4 => ?_)
  refine k_iW (k_VW (n := 2) ⟨hx, hb, hml, hown, hT⟩ hK hP hD (lift_l (X' := nX) (wr := wM g v) (xL_sight l g H.size u hu x_2 x_4) (fun _ _ _ _ _ _ => trivial)) (gV bw_1615 bw_1616 bw_1617 bw_395 bw_352) rfl rfl (by decide +kernel) ⟨by decide, by decide⟩ (ci := 11) rfl (List.mem_append_left _ (List.mem_append_left _ List.mem_cons_self)) (fun _ _ _ _ _ => trivial) (fun _ _ _ => trivial) rfl rfl hl.1 (Nat.le_of_ble_eq_true rfl) dL_law_1057 ⟨by decide, by decide⟩) hD hS hA (fun r_5 u_6 H locs hw hP hD hS => ?_)
  obtain ⟨hu_6, heu_6, htu_6⟩ := hw
  have hl : lv_has ls 4 [(3, .int i), (2, .ref (v.1 0)), (1, .ref (u_6.1 0)), (0, .ref b)] := by rw [heu_6]; exact hl
  refine lv_pop hx hb dL_law_1060 rfl ?_
  refine lv_aload_n hx hb dL_law_1061 rfl (lv_at hl 1 rfl) ?_
  refine lv_aload_n hx hb dL_law_1062 rfl (lv_at hl 3 rfl) ?_
  refine lv_iload_n hx hb dL_law_1063 rfl (lv_at hl 0 rfl) ?_
  refine lv_iconst (v := 1) hx hb dL_law_1064 (by decide) ?_
  refine lv_iadd hx hb dL_law_1065 ?_
  refine lv_topi (fun x_7 ex_7 => ?_)
  have fx_7 : x_7.toInt = i.toInt + 1 := by rw [ex_7]; exact I_add rfl (by decide : (1 : Int32).toInt = 1) (by omega) (by omega)
  refine va_sld hx hb hXs hbl hbA hS (i := x_7) (vp_in_iff.mpr (by omega)) dL_law_1066 ?_
  refine lv_topi (fun x_8 ex_8 => ?_)
  refine lv_aload_n hx hb dL_law_1067 rfl (lv_at hl 3 rfl) ?_
  refine lv_iload_n hx hb dL_law_1068 rfl (lv_at hl 0 rfl) ?_
  refine lv_iconst (v := 2) hx hb dL_law_1069 (by decide) ?_
  refine lv_iadd hx hb dL_law_1070 ?_
  refine lv_topi (fun x_9 ex_9 => ?_)
  have fx_9 : x_9.toInt = i.toInt + 2 := by rw [ex_9]; exact I_add rfl (by decide : (2 : Int32).toInt = 2) (by omega) (by omega)
  refine va_sld hx hb hXs hbl hbA hS (i := x_9) (vp_in_iff.mpr (by omega)) dL_law_1071 ?_
  refine lv_topi (fun x_10 ex_10 => ?_)
  refine k_iW (k_VW (n := 2) ⟨hx, hb, hml, hown, hT⟩ hK hP hD (lift_r (X' := nX) (wr := wX g u_6) (mL_sight l g H.size v hv x_8 x_10) (fun _ _ _ _ _ _ => trivial)) (gV bw_1618 bw_1619 bw_1620 bw_840 bw_1019) rfl rfl (by decide +kernel) ⟨by decide, by decide⟩ (ci := 12) rfl (List.mem_append_right _ List.mem_cons_self) (fun _ _ _ _ _ => trivial) (fun _ _ _ => trivial) rfl rfl hl.1 (Nat.le_of_ble_eq_true rfl) dL_law_1072 ⟨by decide, by decide⟩) hD hS hA (fun r_11 v_12 H locs hw hP hD hS => ?_)
  obtain ⟨hv_12, hev_12, htv_12⟩ := hw
  have hl : lv_has ls 4 [(3, .int i), (2, .ref (v_12.1 0)), (1, .ref (u_6.1 0)), (0, .ref b)] := by rw [hev_12]; exact hl
  refine lv_pop hx hb dL_law_1075 rfl ?_
  refine lv_goto (tgt := 1217) hx hb dL_law_1076 (by decide) ?_
  obtain ⟨x_13, ex_13⟩ : ∃ y : Int32, y = i + 6 := ⟨_, rfl⟩
  have fx_13 : x_13.toInt = i.toInt + 6 := by rw [ex_13]; exact I_add rfl (by decide) (by omega) (by omega)
  refine lv_iinc (v := x_13) (lv' := [(3, .int x_13), (2, .ref (v_12.1 0)), (1, .ref (u_6.1 0)), (0, .ref b)]) hx hb dL_law_1217 hl (k := 0) rfl (by rw [ex_13]; rfl) (by decide) rfl (fun ls hl => ?_)
  refine lv_goto (tgt := 18) hx hb dL_law_1220 (by decide) ?_
  exact ih (n - 1) (by omega) H locs ls ⟨u_6, v_12, x_13, hu_6, hv_12, (htu_6.trans (htt.trans htv_12.symm)), by omega, by omega, hP, hD, hS, lv_sub hl [0, 1, 2, 3] rfl⟩

set_option maxHeartbeats 40000000 in
set_option maxRecDepth 100000 in
theorem law_c31 {p : Program} {e : Env} {s : State} {m : MethodId} {below : List Frame} {meth : Method} {c : Code} (l : Launch) {b L : Nat} {xs : Nat → Int32} (hL : L ≤ 3072) (C0 : lw_At p s m meth c b L xs) {g : GG} {aW : Nat} {fw : Nat → Int32} {A : Nat → Prop} (hK : kE g s) (hX2 : sE g.2.2.2.2.2.2.2 11 aW fw A s s.heap) (hAe : A = fun q : Nat => s.heap.size ≤ q) {u : XRec} {v : MRec} {H : Heap} {locs : List Loc} {ls : Array Slot} (hu : XOk u) (hv : MOk v) (htt : (u.2.1 35) = (v.2.1 32)) {i : Int32} {n : Nat} (hi0 : 0 ≤ i.toInt ∧ i.toInt ≤ 3072) (hm : 3072 - i.toInt ≤ (n : Int)) (hil : i.toInt + 6 ≤ (L : Int)) (hP : va_P g.1 vwCl (wX g u ++ wM g v) H) (hD : va_D A (wX g u ++ wM g v)) (hS : va_S A s.heap H locs) (hl : lv_has ls 4 [(3, .int i), (2, .ref (v.1 0)), (1, .ref (u.1 0)), (0, .ref b)]) (ih : ∀ n', n' < n → ∀ (H : Heap) (locs : List Loc) (ls : Array Slot), LI g A s b n' H locs ls → W p l e room_1 s m #[Value.ref b] below meth c H locs 476 78636 (lw_Z below #[Value.ref b] s) (F0 m 18 ls [])) : W p l e room_1 s m #[Value.ref b] below meth c H locs 476 78636 (lw_Z below #[Value.ref b] s) (F0 m 1079 ls []) := by
  obtain ⟨hx, hb, hr, hml, hown, hts, hXs, hbl, hlocks, hgv⟩ := id C0
  have hT : ∀ w ∈ gT, w.before #[Value.ref b] s = true := fun w h => hts w (List.mem_filter.mp h).1
  have hown : s.vm.findClass RL = some m.cls := hown
  have hA : ∀ q : Nat, s.heap.size ≤ q → A q := by rw [hAe]; exact fun _ h => h
  have hbA : ¬ A b := by rw [hAe]; exact Nat.not_le.mpr hbl
  refine lv_aload_n hx hb dL_law_1079 rfl (lv_at hl 2 rfl) ?_
  refine lv_aload_n hx hb dL_law_1080 rfl (lv_at hl 3 rfl) ?_
  refine lv_iload_n hx hb dL_law_1081 rfl (lv_at hl 0 rfl) ?_
  refine lv_iconst (v := 1) hx hb dL_law_1082 (by decide) ?_
  refine lv_iadd hx hb dL_law_1083 ?_
  refine lv_topi (fun x_1 ex_1 => ?_)
  have fx_1 : x_1.toInt = i.toInt + 1 := by rw [ex_1]; exact I_add rfl (by decide : (1 : Int32).toInt = 1) (by omega) (by omega)
  refine va_sld hx hb hXs hbl hbA hS (i := x_1) (vp_in_iff.mpr (by omega)) dL_law_1084 ?_
  refine lv_topi (fun x_2 ex_2 => ?_)
  refine k_iW (k_VW (n := 1) ⟨hx, hb, hml, hown, hT⟩ hK hP hD (lift_l (X' := nX) (wr := wM g v) (xL_untell l g H.size u hu x_2) (fun _ _ _ _ _ _ => trivial)) (gV bw_1621 bw_1622 bw_1623 bw_395 bw_356) rfl rfl (by decide +kernel) ⟨by decide, by decide⟩ (ci := 11) rfl (List.mem_append_left _ (List.mem_append_left _ List.mem_cons_self)) (fun _ _ _ _ _ => trivial) (fun _ _ _ => trivial) rfl rfl hl.1 (Nat.le_of_ble_eq_true rfl) dL_law_1085 ⟨by decide, by decide⟩) hD hS hA (fun r_3 u_4 H locs hw hP hD hS => ?_)
  obtain ⟨hu_4, heu_4, htu_4⟩ := hw
  have hl : lv_has ls 4 [(3, .int i), (2, .ref (v.1 0)), (1, .ref (u_4.1 0)), (0, .ref b)] := by rw [heu_4]; exact hl
  refine lv_pop hx hb dL_law_1088 rfl ?_
  refine lv_aload_n hx hb dL_law_1089 rfl (lv_at hl 1 rfl) ?_
  refine lv_aload_n hx hb dL_law_1090 rfl (lv_at hl 3 rfl) ?_
  refine lv_iload_n hx hb dL_law_1091 rfl (lv_at hl 0 rfl) ?_
  refine lv_iconst (v := 1) hx hb dL_law_1092 (by decide) ?_
  refine lv_iadd hx hb dL_law_1093 ?_
  refine lv_topi (fun x_5 ex_5 => ?_)
  have fx_5 : x_5.toInt = i.toInt + 1 := by rw [ex_5]; exact I_add rfl (by decide : (1 : Int32).toInt = 1) (by omega) (by omega)
  refine va_sld hx hb hXs hbl hbA hS (i := x_5) (vp_in_iff.mpr (by omega)) dL_law_1094 ?_
  refine lv_topi (fun x_6 ex_6 => ?_)
  refine k_iW (k_VW (n := 1) ⟨hx, hb, hml, hown, hT⟩ hK hP hD (lift_r (X' := nX) (wr := wX g u_4) (mL_untell l g H.size v hv x_6) (fun _ _ _ _ _ _ => trivial)) (gV bw_1624 bw_1625 bw_1626 bw_840 bw_1020) rfl rfl (by decide +kernel) ⟨by decide, by decide⟩ (ci := 12) rfl (List.mem_append_right _ List.mem_cons_self) (fun _ _ _ _ _ => trivial) (fun _ _ _ => trivial) rfl rfl hl.1 (Nat.le_of_ble_eq_true rfl) dL_law_1095 ⟨by decide, by decide⟩) hD hS hA (fun r_7 v_8 H locs hw hP hD hS => ?_)
  obtain ⟨hv_8, hev_8, htv_8⟩ := hw
  have hl : lv_has ls 4 [(3, .int i), (2, .ref (v_8.1 0)), (1, .ref (u_4.1 0)), (0, .ref b)] := by rw [hev_8]; exact hl
  refine lv_pop hx hb dL_law_1098 rfl ?_
  refine lv_goto (tgt := 1217) hx hb dL_law_1099 (by decide) ?_
  obtain ⟨x_9, ex_9⟩ : ∃ y : Int32, y = i + 6 := ⟨_, rfl⟩
  have fx_9 : x_9.toInt = i.toInt + 6 := by rw [ex_9]; exact I_add rfl (by decide) (by omega) (by omega)
  refine lv_iinc (v := x_9) (lv' := [(3, .int x_9), (2, .ref (v_8.1 0)), (1, .ref (u_4.1 0)), (0, .ref b)]) hx hb dL_law_1217 hl (k := 0) rfl (by rw [ex_9]; rfl) (by decide) rfl (fun ls hl => ?_)
  refine lv_goto (tgt := 18) hx hb dL_law_1220 (by decide) ?_
  exact ih (n - 1) (by omega) H locs ls ⟨u_4, v_8, x_9, hu_4, hv_8, (htu_4.trans (htt.trans htv_8.symm)), by omega, by omega, hP, hD, hS, lv_sub hl [0, 1, 2, 3] rfl⟩

set_option maxHeartbeats 40000000 in
set_option maxRecDepth 100000 in
theorem law_c32 {p : Program} {e : Env} {s : State} {m : MethodId} {below : List Frame} {meth : Method} {c : Code} (l : Launch) {b L : Nat} {xs : Nat → Int32} (hL : L ≤ 3072) (C0 : lw_At p s m meth c b L xs) {g : GG} {aW : Nat} {fw : Nat → Int32} {A : Nat → Prop} (hK : kE g s) (hX2 : sE g.2.2.2.2.2.2.2 11 aW fw A s s.heap) (hAe : A = fun q : Nat => s.heap.size ≤ q) {u : XRec} {v : MRec} {H : Heap} {locs : List Loc} {ls : Array Slot} (hu : XOk u) (hv : MOk v) (htt : (u.2.1 35) = (v.2.1 32)) {i : Int32} {n : Nat} (hi0 : 0 ≤ i.toInt ∧ i.toInt ≤ 3072) (hm : 3072 - i.toInt ≤ (n : Int)) (hil : i.toInt + 6 ≤ (L : Int)) (hP : va_P g.1 vwCl (wX g u ++ wM g v) H) (hD : va_D A (wX g u ++ wM g v)) (hS : va_S A s.heap H locs) (hl : lv_has ls 4 [(3, .int i), (2, .ref (v.1 0)), (1, .ref (u.1 0)), (0, .ref b)]) (ih : ∀ n', n' < n → ∀ (H : Heap) (locs : List Loc) (ls : Array Slot), LI g A s b n' H locs ls → W p l e room_1 s m #[Value.ref b] below meth c H locs 476 78636 (lw_Z below #[Value.ref b] s) (F0 m 18 ls [])) : W p l e room_1 s m #[Value.ref b] below meth c H locs 476 78636 (lw_Z below #[Value.ref b] s) (F0 m 1102 ls []) := by
  obtain ⟨hx, hb, hr, hml, hown, hts, hXs, hbl, hlocks, hgv⟩ := id C0
  have hT : ∀ w ∈ gT, w.before #[Value.ref b] s = true := fun w h => hts w (List.mem_filter.mp h).1
  have hown : s.vm.findClass RL = some m.cls := hown
  have hA : ∀ q : Nat, s.heap.size ≤ q → A q := by rw [hAe]; exact fun _ h => h
  have hbA : ¬ A b := by rw [hAe]; exact Nat.not_le.mpr hbl
  refine lv_aload_n hx hb dL_law_1102 rfl (lv_at hl 2 rfl) ?_
  refine lv_aload_n hx hb dL_law_1103 rfl (lv_at hl 3 rfl) ?_
  refine lv_iload_n hx hb dL_law_1104 rfl (lv_at hl 0 rfl) ?_
  refine lv_iconst (v := 1) hx hb dL_law_1105 (by decide) ?_
  refine lv_iadd hx hb dL_law_1106 ?_
  refine lv_topi (fun x_1 ex_1 => ?_)
  have fx_1 : x_1.toInt = i.toInt + 1 := by rw [ex_1]; exact I_add rfl (by decide : (1 : Int32).toInt = 1) (by omega) (by omega)
  refine va_sld hx hb hXs hbl hbA hS (i := x_1) (vp_in_iff.mpr (by omega)) dL_law_1107 ?_
  refine lv_topi (fun x_2 ex_2 => ?_)
  refine k_iW (k_VW (n := 1) ⟨hx, hb, hml, hown, hT⟩ hK hP hD (lift_l (X' := nX) (wr := wM g v) (xL_later l g H.size u hu x_2) (fun _ _ _ _ _ _ => trivial)) (gV bw_1627 bw_1628 bw_1629 bw_395 bw_378) rfl rfl (by decide +kernel) ⟨by decide, by decide⟩ (ci := 11) rfl (List.mem_append_left _ (List.mem_append_left _ List.mem_cons_self)) (fun _ _ _ _ _ => trivial) (fun _ _ _ => trivial) rfl rfl hl.1 (Nat.le_of_ble_eq_true rfl) dL_law_1108 ⟨by decide, by decide⟩) hD hS hA (fun r_3 u_4 H locs hw hP hD hS => ?_)
  obtain ⟨hu_4, heu_4, htu_4⟩ := hw
  have hl : lv_has ls 4 [(3, .int i), (2, .ref (v.1 0)), (1, .ref (u_4.1 0)), (0, .ref b)] := by rw [heu_4]; exact hl
  refine lv_aload_n hx hb dL_law_1111 rfl (lv_at hl 1 rfl) ?_
  refine lv_aload_n hx hb dL_law_1112 rfl (lv_at hl 3 rfl) ?_
  refine lv_iload_n hx hb dL_law_1113 rfl (lv_at hl 0 rfl) ?_
  refine lv_iconst (v := 1) hx hb dL_law_1114 (by decide) ?_
  refine lv_iadd hx hb dL_law_1115 ?_
  refine lv_topi (fun x_5 ex_5 => ?_)
  have fx_5 : x_5.toInt = i.toInt + 1 := by rw [ex_5]; exact I_add rfl (by decide : (1 : Int32).toInt = 1) (by omega) (by omega)
  refine va_sld hx hb hXs hbl hbA hS (i := x_5) (vp_in_iff.mpr (by omega)) dL_law_1116 ?_
  refine lv_topi (fun x_6 ex_6 => ?_)
  refine k_iW (k_VW (n := 1) ⟨hx, hb, hml, hown, hT⟩ hK hP hD (lift_r (X' := nX) (wr := wX g u_4) (mL_later l g H.size v hv x_6) (fun _ _ _ _ _ _ => trivial)) (gV bw_1630 bw_1631 bw_1632 bw_840 bw_1022) rfl rfl (by decide +kernel) ⟨by decide, by decide⟩ (ci := 12) rfl (List.mem_append_right _ List.mem_cons_self) (fun _ _ _ _ _ => trivial) (fun _ _ _ => trivial) rfl rfl hl.1 (Nat.le_of_ble_eq_true rfl) dL_law_1117 ⟨by decide, by decide⟩) hD hS hA (fun r_7 v_8 H locs hw hP hD hS => ?_)
  obtain ⟨hv_8, hev_8, htv_8⟩ := hw
  have hl : lv_has ls 4 [(3, .int i), (2, .ref (v_8.1 0)), (1, .ref (u_4.1 0)), (0, .ref b)] := by rw [hev_8]; exact hl
  have hxx : x_6 = x_2 := by rw [ex_6, ex_2, ex_5, ex_1]
  refine lv_icmp_eq (tgt := 1217) hx hb dL_law_1120 (by decide) (fun _ => ?_) (fun c9 => absurd (htu_4.1.trans ((by rw [htt, hxx]) : Fl (u.2.1 35) x_2 = Fl (v.2.1 32) x_6) |>.trans htv_8.1.symm) c9)
  obtain ⟨x_9, ex_9⟩ : ∃ y : Int32, y = i + 6 := ⟨_, rfl⟩
  have fx_9 : x_9.toInt = i.toInt + 6 := by rw [ex_9]; exact I_add rfl (by decide) (by omega) (by omega)
  refine lv_iinc (v := x_9) (lv' := [(3, .int x_9), (2, .ref (v_8.1 0)), (1, .ref (u_4.1 0)), (0, .ref b)]) hx hb dL_law_1217 hl (k := 0) rfl (by rw [ex_9]; rfl) (by decide) rfl (fun ls hl => ?_)
  refine lv_goto (tgt := 18) hx hb dL_law_1220 (by decide) ?_
  exact ih (n - 1) (by omega) H locs ls ⟨u_4, v_8, x_9, hu_4, hv_8, (htu_4.2.trans ((by rw [htt, hxx]) : Ft (u.2.1 35) x_2 = Ft (v.2.1 32) x_6) |>.trans htv_8.2.symm), by omega, by omega, hP, hD, hS, lv_sub hl [0, 1, 2, 3] rfl⟩

set_option maxHeartbeats 40000000 in
set_option maxRecDepth 100000 in
theorem law_c33 {p : Program} {e : Env} {s : State} {m : MethodId} {below : List Frame} {meth : Method} {c : Code} (l : Launch) {b L : Nat} {xs : Nat → Int32} (hL : L ≤ 3072) (C0 : lw_At p s m meth c b L xs) {g : GG} {aW : Nat} {fw : Nat → Int32} {A : Nat → Prop} (hK : kE g s) (hX2 : sE g.2.2.2.2.2.2.2 11 aW fw A s s.heap) (hAe : A = fun q : Nat => s.heap.size ≤ q) {u : XRec} {v : MRec} {H : Heap} {locs : List Loc} {ls : Array Slot} (hu : XOk u) (hv : MOk v) (htt : (u.2.1 35) = (v.2.1 32)) {i : Int32} {n : Nat} (hi0 : 0 ≤ i.toInt ∧ i.toInt ≤ 3072) (hm : 3072 - i.toInt ≤ (n : Int)) (hil : i.toInt + 6 ≤ (L : Int)) (hP : va_P g.1 vwCl (wX g u ++ wM g v) H) (hD : va_D A (wX g u ++ wM g v)) (hS : va_S A s.heap H locs) (hl : lv_has ls 4 [(3, .int i), (2, .ref (v.1 0)), (1, .ref (u.1 0)), (0, .ref b)]) (ih : ∀ n', n' < n → ∀ (H : Heap) (locs : List Loc) (ls : Array Slot), LI g A s b n' H locs ls → W p l e room_1 s m #[Value.ref b] below meth c H locs 476 78636 (lw_Z below #[Value.ref b] s) (F0 m 18 ls [])) : W p l e room_1 s m #[Value.ref b] below meth c H locs 476 78636 (lw_Z below #[Value.ref b] s) (F0 m 1125 ls []) := by
  obtain ⟨hx, hb, hr, hml, hown, hts, hXs, hbl, hlocks, hgv⟩ := id C0
  have hT : ∀ w ∈ gT, w.before #[Value.ref b] s = true := fun w h => hts w (List.mem_filter.mp h).1
  have hown : s.vm.findClass RL = some m.cls := hown
  have hA : ∀ q : Nat, s.heap.size ≤ q → A q := by rw [hAe]; exact fun _ h => h
  have hbA : ¬ A b := by rw [hAe]; exact Nat.not_le.mpr hbl
  refine lv_aload_n hx hb dL_law_1125 rfl (lv_at hl 2 rfl) ?_
  refine lv_aload_n hx hb dL_law_1126 rfl (lv_at hl 3 rfl) ?_
  refine lv_iload_n hx hb dL_law_1127 rfl (lv_at hl 0 rfl) ?_
  refine lv_iconst (v := 1) hx hb dL_law_1128 (by decide) ?_
  refine lv_iadd hx hb dL_law_1129 ?_
  refine lv_topi (fun x_1 ex_1 => ?_)
  have fx_1 : x_1.toInt = i.toInt + 1 := by rw [ex_1]; exact I_add rfl (by decide : (1 : Int32).toInt = 1) (by omega) (by omega)
  refine va_sld hx hb hXs hbl hbA hS (i := x_1) (vp_in_iff.mpr (by omega)) dL_law_1130 ?_
  refine lv_topi (fun x_2 ex_2 => ?_)
  refine k_iW (k_VW (n := 1) ⟨hx, hb, hml, hown, hT⟩ hK hP hD (lift_l (X' := nX) (wr := wM g v) (xL_falses l g H.size u hu x_2) (fun _ _ _ _ _ _ => trivial)) (gV bw_1633 bw_1634 bw_1635 bw_395 bw_376) rfl rfl (by decide +kernel) ⟨by decide, by decide⟩ (ci := 11) rfl (List.mem_append_left _ (List.mem_append_left _ List.mem_cons_self)) (fun _ _ _ _ _ => trivial) (fun _ _ _ => trivial) rfl rfl hl.1 (Nat.le_of_ble_eq_true rfl) dL_law_1131 ⟨by decide, by decide⟩) hD hS hA (fun r_3 u_4 H locs hw hP hD hS => ?_)
  obtain ⟨hu_4, heu_4, htu_4⟩ := hw
  have hl : lv_has ls 4 [(3, .int i), (2, .ref (v.1 0)), (1, .ref (u_4.1 0)), (0, .ref b)] := by rw [heu_4]; exact hl
  refine lv_pop hx hb dL_law_1134 rfl ?_
  refine lv_aload_n hx hb dL_law_1135 rfl (lv_at hl 1 rfl) ?_
  refine lv_aload_n hx hb dL_law_1136 rfl (lv_at hl 3 rfl) ?_
  refine lv_iload_n hx hb dL_law_1137 rfl (lv_at hl 0 rfl) ?_
  refine lv_iconst (v := 1) hx hb dL_law_1138 (by decide) ?_
  refine lv_iadd hx hb dL_law_1139 ?_
  refine lv_topi (fun x_5 ex_5 => ?_)
  have fx_5 : x_5.toInt = i.toInt + 1 := by rw [ex_5]; exact I_add rfl (by decide : (1 : Int32).toInt = 1) (by omega) (by omega)
  refine va_sld hx hb hXs hbl hbA hS (i := x_5) (vp_in_iff.mpr (by omega)) dL_law_1140 ?_
  refine lv_topi (fun x_6 ex_6 => ?_)
  refine k_iW (k_VW (n := 1) ⟨hx, hb, hml, hown, hT⟩ hK hP hD (lift_r (X' := nX) (wr := wX g u_4) (mL_falses l g H.size v hv x_6) (fun _ _ _ _ _ _ => trivial)) (gV bw_1636 bw_1637 bw_1638 bw_840 bw_1027) rfl rfl (by decide +kernel) ⟨by decide, by decide⟩ (ci := 12) rfl (List.mem_append_right _ List.mem_cons_self) (fun _ _ _ _ _ => trivial) (fun _ _ _ => trivial) rfl rfl hl.1 (Nat.le_of_ble_eq_true rfl) dL_law_1141 ⟨by decide, by decide⟩) hD hS hA (fun r_7 v_8 H locs hw hP hD hS => ?_)
  obtain ⟨hv_8, hev_8, htv_8⟩ := hw
  have hl : lv_has ls 4 [(3, .int i), (2, .ref (v_8.1 0)), (1, .ref (u_4.1 0)), (0, .ref b)] := by rw [hev_8]; exact hl
  refine lv_pop hx hb dL_law_1144 rfl ?_
  refine lv_goto (tgt := 1217) hx hb dL_law_1145 (by decide) ?_
  obtain ⟨x_9, ex_9⟩ : ∃ y : Int32, y = i + 6 := ⟨_, rfl⟩
  have fx_9 : x_9.toInt = i.toInt + 6 := by rw [ex_9]; exact I_add rfl (by decide) (by omega) (by omega)
  refine lv_iinc (v := x_9) (lv' := [(3, .int x_9), (2, .ref (v_8.1 0)), (1, .ref (u_4.1 0)), (0, .ref b)]) hx hb dL_law_1217 hl (k := 0) rfl (by rw [ex_9]; rfl) (by decide) rfl (fun ls hl => ?_)
  refine lv_goto (tgt := 18) hx hb dL_law_1220 (by decide) ?_
  exact ih (n - 1) (by omega) H locs ls ⟨u_4, v_8, x_9, hu_4, hv_8, (htu_4.trans (htt.trans htv_8.symm)), by omega, by omega, hP, hD, hS, lv_sub hl [0, 1, 2, 3] rfl⟩

set_option maxHeartbeats 40000000 in
set_option maxRecDepth 100000 in
theorem law_c34 {p : Program} {e : Env} {s : State} {m : MethodId} {below : List Frame} {meth : Method} {c : Code} (l : Launch) {b L : Nat} {xs : Nat → Int32} (hL : L ≤ 3072) (C0 : lw_At p s m meth c b L xs) {g : GG} {aW : Nat} {fw : Nat → Int32} {A : Nat → Prop} (hK : kE g s) (hX2 : sE g.2.2.2.2.2.2.2 11 aW fw A s s.heap) (hAe : A = fun q : Nat => s.heap.size ≤ q) {u : XRec} {v : MRec} {H : Heap} {locs : List Loc} {ls : Array Slot} (hu : XOk u) (hv : MOk v) (htt : (u.2.1 35) = (v.2.1 32)) {i : Int32} {n : Nat} (hi0 : 0 ≤ i.toInt ∧ i.toInt ≤ 3072) (hm : 3072 - i.toInt ≤ (n : Int)) (hil : i.toInt + 6 ≤ (L : Int)) (hP : va_P g.1 vwCl (wX g u ++ wM g v) H) (hD : va_D A (wX g u ++ wM g v)) (hS : va_S A s.heap H locs) (hl : lv_has ls 4 [(3, .int i), (2, .ref (v.1 0)), (1, .ref (u.1 0)), (0, .ref b)]) (ih : ∀ n', n' < n → ∀ (H : Heap) (locs : List Loc) (ls : Array Slot), LI g A s b n' H locs ls → W p l e room_1 s m #[Value.ref b] below meth c H locs 476 78636 (lw_Z below #[Value.ref b] s) (F0 m 18 ls [])) : W p l e room_1 s m #[Value.ref b] below meth c H locs 476 78636 (lw_Z below #[Value.ref b] s) (F0 m 1148 ls []) := by
  obtain ⟨hx, hb, hr, hml, hown, hts, hXs, hbl, hlocks, hgv⟩ := id C0
  have hT : ∀ w ∈ gT, w.before #[Value.ref b] s = true := fun w h => hts w (List.mem_filter.mp h).1
  have hown : s.vm.findClass RL = some m.cls := hown
  have hA : ∀ q : Nat, s.heap.size ≤ q → A q := by rw [hAe]; exact fun _ h => h
  have hbA : ¬ A b := by rw [hAe]; exact Nat.not_le.mpr hbl
  refine lv_aload_n hx hb dL_law_1148 rfl (lv_at hl 2 rfl) ?_
  refine lv_aload_n hx hb dL_law_1149 rfl (lv_at hl 3 rfl) ?_
  refine lv_iload_n hx hb dL_law_1150 rfl (lv_at hl 0 rfl) ?_
  refine lv_iconst (v := 1) hx hb dL_law_1151 (by decide) ?_
  refine lv_iadd hx hb dL_law_1152 ?_
  refine lv_topi (fun x_1 ex_1 => ?_)
  have fx_1 : x_1.toInt = i.toInt + 1 := by rw [ex_1]; exact I_add rfl (by decide : (1 : Int32).toInt = 1) (by omega) (by omega)
  refine va_sld hx hb hXs hbl hbA hS (i := x_1) (vp_in_iff.mpr (by omega)) dL_law_1153 ?_
  refine lv_topi (fun x_2 ex_2 => ?_)
  refine k_iW (k_VW (n := 1) ⟨hx, hb, hml, hown, hT⟩ hK hP hD (lift_l (X' := nX) (wr := wM g v) (xL_image l g H.size u hu x_2) (fun _ _ _ _ _ _ => trivial)) (gV bw_1639 bw_1640 bw_1641 bw_395 bw_402) rfl rfl (by decide +kernel) ⟨by decide, by decide⟩ (ci := 11) rfl (List.mem_append_left _ (List.mem_append_left _ List.mem_cons_self)) (fun _ _ _ _ _ => trivial) (fun _ _ _ => trivial) rfl rfl hl.1 (Nat.le_of_ble_eq_true rfl) dL_law_1154 ⟨by decide, by decide⟩) hD hS hA (fun r_3 u_4 H locs hw hP hD hS => ?_)
  obtain ⟨hu_4, heu_4, htu_4⟩ := hw
  have hl : lv_has ls 4 [(3, .int i), (2, .ref (v.1 0)), (1, .ref (u_4.1 0)), (0, .ref b)] := by rw [heu_4]; exact hl
  refine lv_pop hx hb dL_law_1157 rfl ?_
  refine lv_aload_n hx hb dL_law_1158 rfl (lv_at hl 1 rfl) ?_
  refine lv_aload_n hx hb dL_law_1159 rfl (lv_at hl 3 rfl) ?_
  refine lv_iload_n hx hb dL_law_1160 rfl (lv_at hl 0 rfl) ?_
  refine lv_iconst (v := 1) hx hb dL_law_1161 (by decide) ?_
  refine lv_iadd hx hb dL_law_1162 ?_
  refine lv_topi (fun x_5 ex_5 => ?_)
  have fx_5 : x_5.toInt = i.toInt + 1 := by rw [ex_5]; exact I_add rfl (by decide : (1 : Int32).toInt = 1) (by omega) (by omega)
  refine va_sld hx hb hXs hbl hbA hS (i := x_5) (vp_in_iff.mpr (by omega)) dL_law_1163 ?_
  refine lv_topi (fun x_6 ex_6 => ?_)
  refine k_iW (k_VW (n := 1) ⟨hx, hb, hml, hown, hT⟩ hK hP hD (lift_r (X' := nX) (wr := wX g u_4) (mL_image l g H.size v hv x_6) (fun _ _ _ _ _ _ => trivial)) (gV bw_1642 bw_1643 bw_1644 bw_840 bw_1029) rfl rfl (by decide +kernel) ⟨by decide, by decide⟩ (ci := 12) rfl (List.mem_append_right _ List.mem_cons_self) (fun _ _ _ _ _ => trivial) (fun _ _ _ => trivial) rfl rfl hl.1 (Nat.le_of_ble_eq_true rfl) dL_law_1164 ⟨by decide, by decide⟩) hD hS hA (fun r_7 v_8 H locs hw hP hD hS => ?_)
  obtain ⟨hv_8, hev_8, htv_8⟩ := hw
  have hl : lv_has ls 4 [(3, .int i), (2, .ref (v_8.1 0)), (1, .ref (u_4.1 0)), (0, .ref b)] := by rw [hev_8]; exact hl
  refine lv_pop hx hb dL_law_1167 rfl ?_
  refine lv_goto (tgt := 1217) hx hb dL_law_1168 (by decide) ?_
  obtain ⟨x_9, ex_9⟩ : ∃ y : Int32, y = i + 6 := ⟨_, rfl⟩
  have fx_9 : x_9.toInt = i.toInt + 6 := by rw [ex_9]; exact I_add rfl (by decide) (by omega) (by omega)
  refine lv_iinc (v := x_9) (lv' := [(3, .int x_9), (2, .ref (v_8.1 0)), (1, .ref (u_4.1 0)), (0, .ref b)]) hx hb dL_law_1217 hl (k := 0) rfl (by rw [ex_9]; rfl) (by decide) rfl (fun ls hl => ?_)
  refine lv_goto (tgt := 18) hx hb dL_law_1220 (by decide) ?_
  exact ih (n - 1) (by omega) H locs ls ⟨u_4, v_8, x_9, hu_4, hv_8, (htu_4.trans (htt.trans htv_8.symm)), by omega, by omega, hP, hD, hS, lv_sub hl [0, 1, 2, 3] rfl⟩

set_option maxHeartbeats 40000000 in
set_option maxRecDepth 100000 in
theorem law_c35 {p : Program} {e : Env} {s : State} {m : MethodId} {below : List Frame} {meth : Method} {c : Code} (l : Launch) {b L : Nat} {xs : Nat → Int32} (hL : L ≤ 3072) (C0 : lw_At p s m meth c b L xs) {g : GG} {aW : Nat} {fw : Nat → Int32} {A : Nat → Prop} (hK : kE g s) (hX2 : sE g.2.2.2.2.2.2.2 11 aW fw A s s.heap) (hAe : A = fun q : Nat => s.heap.size ≤ q) {u : XRec} {v : MRec} {H : Heap} {locs : List Loc} {ls : Array Slot} (hu : XOk u) (hv : MOk v) (htt : (u.2.1 35) = (v.2.1 32)) {i : Int32} {n : Nat} (hi0 : 0 ≤ i.toInt ∧ i.toInt ≤ 3072) (hm : 3072 - i.toInt ≤ (n : Int)) (hil : i.toInt + 6 ≤ (L : Int)) (hP : va_P g.1 vwCl (wX g u ++ wM g v) H) (hD : va_D A (wX g u ++ wM g v)) (hS : va_S A s.heap H locs) (hl : lv_has ls 4 [(3, .int i), (2, .ref (v.1 0)), (1, .ref (u.1 0)), (0, .ref b)]) (ih : ∀ n', n' < n → ∀ (H : Heap) (locs : List Loc) (ls : Array Slot), LI g A s b n' H locs ls → W p l e room_1 s m #[Value.ref b] below meth c H locs 476 78636 (lw_Z below #[Value.ref b] s) (F0 m 18 ls [])) : W p l e room_1 s m #[Value.ref b] below meth c H locs 476 78636 (lw_Z below #[Value.ref b] s) (F0 m 1171 ls []) := by
  obtain ⟨hx, hb, hr, hml, hown, hts, hXs, hbl, hlocks, hgv⟩ := id C0
  have hT : ∀ w ∈ gT, w.before #[Value.ref b] s = true := fun w h => hts w (List.mem_filter.mp h).1
  have hown : s.vm.findClass RL = some m.cls := hown
  have hA : ∀ q : Nat, s.heap.size ≤ q → A q := by rw [hAe]; exact fun _ h => h
  have hbA : ¬ A b := by rw [hAe]; exact Nat.not_le.mpr hbl
  refine lv_aload_n hx hb dL_law_1171 rfl (lv_at hl 2 rfl) ?_
  refine lv_aload_n hx hb dL_law_1172 rfl (lv_at hl 3 rfl) ?_
  refine lv_iload_n hx hb dL_law_1173 rfl (lv_at hl 0 rfl) ?_
  refine lv_iconst (v := 1) hx hb dL_law_1174 (by decide) ?_
  refine lv_iadd hx hb dL_law_1175 ?_
  refine lv_topi (fun x_1 ex_1 => ?_)
  have fx_1 : x_1.toInt = i.toInt + 1 := by rw [ex_1]; exact I_add rfl (by decide : (1 : Int32).toInt = 1) (by omega) (by omega)
  refine va_sld hx hb hXs hbl hbA hS (i := x_1) (vp_in_iff.mpr (by omega)) dL_law_1176 ?_
  refine lv_topi (fun x_2 ex_2 => ?_)
  refine k_iW (k_VW (n := 1) ⟨hx, hb, hml, hown, hT⟩ hK hP hD (lift_l (X' := nX) (wr := wM g v) (xL_back l g H.size u hu x_2) (fun _ _ _ _ _ _ => trivial)) (gV bw_1645 bw_1646 bw_1647 bw_395 bw_403) rfl rfl (by decide +kernel) ⟨by decide, by decide⟩ (ci := 11) rfl (List.mem_append_left _ (List.mem_append_left _ List.mem_cons_self)) (fun _ _ _ _ _ => trivial) (fun _ _ _ => trivial) rfl rfl hl.1 (Nat.le_of_ble_eq_true rfl) dL_law_1177 ⟨by decide, by decide⟩) hD hS hA (fun r_3 u_4 H locs hw hP hD hS => ?_)
  obtain ⟨hu_4, heu_4, htu_4⟩ := hw
  have hl : lv_has ls 4 [(3, .int i), (2, .ref (v.1 0)), (1, .ref (u_4.1 0)), (0, .ref b)] := by rw [heu_4]; exact hl
  refine lv_pop hx hb dL_law_1180 rfl ?_
  refine lv_aload_n hx hb dL_law_1181 rfl (lv_at hl 1 rfl) ?_
  refine lv_aload_n hx hb dL_law_1182 rfl (lv_at hl 3 rfl) ?_
  refine lv_iload_n hx hb dL_law_1183 rfl (lv_at hl 0 rfl) ?_
  refine lv_iconst (v := 1) hx hb dL_law_1184 (by decide) ?_
  refine lv_iadd hx hb dL_law_1185 ?_
  refine lv_topi (fun x_5 ex_5 => ?_)
  have fx_5 : x_5.toInt = i.toInt + 1 := by rw [ex_5]; exact I_add rfl (by decide : (1 : Int32).toInt = 1) (by omega) (by omega)
  refine va_sld hx hb hXs hbl hbA hS (i := x_5) (vp_in_iff.mpr (by omega)) dL_law_1186 ?_
  refine lv_topi (fun x_6 ex_6 => ?_)
  refine k_iW (k_VW (n := 1) ⟨hx, hb, hml, hown, hT⟩ hK hP hD (lift_r (X' := nX) (wr := wX g u_4) (mL_back l g H.size v hv x_6) (fun _ _ _ _ _ _ => trivial)) (gV bw_1648 bw_1649 bw_1650 bw_840 bw_1030) rfl rfl (by decide +kernel) ⟨by decide, by decide⟩ (ci := 12) rfl (List.mem_append_right _ List.mem_cons_self) (fun _ _ _ _ _ => trivial) (fun _ _ _ => trivial) rfl rfl hl.1 (Nat.le_of_ble_eq_true rfl) dL_law_1187 ⟨by decide, by decide⟩) hD hS hA (fun r_7 v_8 H locs hw hP hD hS => ?_)
  obtain ⟨hv_8, hev_8, htv_8⟩ := hw
  have hl : lv_has ls 4 [(3, .int i), (2, .ref (v_8.1 0)), (1, .ref (u_4.1 0)), (0, .ref b)] := by rw [hev_8]; exact hl
  refine lv_pop hx hb dL_law_1190 rfl ?_
  refine lv_goto (tgt := 1217) hx hb dL_law_1191 (by decide) ?_
  obtain ⟨x_9, ex_9⟩ : ∃ y : Int32, y = i + 6 := ⟨_, rfl⟩
  have fx_9 : x_9.toInt = i.toInt + 6 := by rw [ex_9]; exact I_add rfl (by decide) (by omega) (by omega)
  refine lv_iinc (v := x_9) (lv' := [(3, .int x_9), (2, .ref (v_8.1 0)), (1, .ref (u_4.1 0)), (0, .ref b)]) hx hb dL_law_1217 hl (k := 0) rfl (by rw [ex_9]; rfl) (by decide) rfl (fun ls hl => ?_)
  refine lv_goto (tgt := 18) hx hb dL_law_1220 (by decide) ?_
  exact ih (n - 1) (by omega) H locs ls ⟨u_4, v_8, x_9, hu_4, hv_8, (htu_4.trans (htt.trans htv_8.symm)), by omega, by omega, hP, hD, hS, lv_sub hl [0, 1, 2, 3] rfl⟩

set_option maxHeartbeats 40000000 in
set_option maxRecDepth 100000 in
theorem law_c36 {p : Program} {e : Env} {s : State} {m : MethodId} {below : List Frame} {meth : Method} {c : Code} (l : Launch) {b L : Nat} {xs : Nat → Int32} (hL : L ≤ 3072) (C0 : lw_At p s m meth c b L xs) {g : GG} {aW : Nat} {fw : Nat → Int32} {A : Nat → Prop} (hK : kE g s) (hX2 : sE g.2.2.2.2.2.2.2 11 aW fw A s s.heap) (hAe : A = fun q : Nat => s.heap.size ≤ q) {u : XRec} {v : MRec} {H : Heap} {locs : List Loc} {ls : Array Slot} (hu : XOk u) (hv : MOk v) (htt : (u.2.1 35) = (v.2.1 32)) {i : Int32} {n : Nat} (hi0 : 0 ≤ i.toInt ∧ i.toInt ≤ 3072) (hm : 3072 - i.toInt ≤ (n : Int)) (hil : i.toInt + 6 ≤ (L : Int)) (hP : va_P g.1 vwCl (wX g u ++ wM g v) H) (hD : va_D A (wX g u ++ wM g v)) (hS : va_S A s.heap H locs) (hl : lv_has ls 4 [(3, .int i), (2, .ref (v.1 0)), (1, .ref (u.1 0)), (0, .ref b)]) (ih : ∀ n', n' < n → ∀ (H : Heap) (locs : List Loc) (ls : Array Slot), LI g A s b n' H locs ls → W p l e room_1 s m #[Value.ref b] below meth c H locs 476 78636 (lw_Z below #[Value.ref b] s) (F0 m 18 ls [])) : W p l e room_1 s m #[Value.ref b] below meth c H locs 476 78636 (lw_Z below #[Value.ref b] s) (F0 m 1194 ls []) := by
  obtain ⟨hx, hb, hr, hml, hown, hts, hXs, hbl, hlocks, hgv⟩ := id C0
  have hT : ∀ w ∈ gT, w.before #[Value.ref b] s = true := fun w h => hts w (List.mem_filter.mp h).1
  have hown : s.vm.findClass RL = some m.cls := hown
  have hA : ∀ q : Nat, s.heap.size ≤ q → A q := by rw [hAe]; exact fun _ h => h
  have hbA : ¬ A b := by rw [hAe]; exact Nat.not_le.mpr hbl
  refine lv_aload_n hx hb dL_law_1194 rfl (lv_at hl 2 rfl) ?_
  refine lv_aload_n hx hb dL_law_1195 rfl (lv_at hl 3 rfl) ?_
  refine lv_iload_n hx hb dL_law_1196 rfl (lv_at hl 0 rfl) ?_
  refine lv_iconst (v := 1) hx hb dL_law_1197 (by decide) ?_
  refine lv_iadd hx hb dL_law_1198 ?_
  refine lv_topi (fun x_1 ex_1 => ?_)
  have fx_1 : x_1.toInt = i.toInt + 1 := by rw [ex_1]; exact I_add rfl (by decide : (1 : Int32).toInt = 1) (by omega) (by omega)
  refine va_sld hx hb hXs hbl hbA hS (i := x_1) (vp_in_iff.mpr (by omega)) dL_law_1199 ?_
  refine lv_topi (fun x_2 ex_2 => ?_)
  refine k_iW (k_VW (n := 1) ⟨hx, hb, hml, hown, hT⟩ hK hP hD (lift_l (X' := nX) (wr := wM g v) (xL_about l g H.size u hu x_2) (fun _ _ _ _ _ _ => trivial)) (gV bw_1651 bw_1652 bw_1653 bw_395 bw_343) rfl rfl (by decide +kernel) ⟨by decide, by decide⟩ (ci := 11) rfl (List.mem_append_left _ (List.mem_append_left _ List.mem_cons_self)) (fun _ _ _ _ _ => trivial) (fun _ _ _ => trivial) rfl rfl hl.1 (Nat.le_of_ble_eq_true rfl) dL_law_1200 ⟨by decide, by decide⟩) hD hS hA (fun r_3 u_4 H locs hw hP hD hS => ?_)
  obtain ⟨hu_4, heu_4, htu_4⟩ := hw
  have hl : lv_has ls 4 [(3, .int i), (2, .ref (v.1 0)), (1, .ref (u_4.1 0)), (0, .ref b)] := by rw [heu_4]; exact hl
  refine lv_pop hx hb dL_law_1203 rfl ?_
  refine lv_aload_n hx hb dL_law_1204 rfl (lv_at hl 1 rfl) ?_
  refine lv_aload_n hx hb dL_law_1205 rfl (lv_at hl 3 rfl) ?_
  refine lv_iload_n hx hb dL_law_1206 rfl (lv_at hl 0 rfl) ?_
  refine lv_iconst (v := 1) hx hb dL_law_1207 (by decide) ?_
  refine lv_iadd hx hb dL_law_1208 ?_
  refine lv_topi (fun x_5 ex_5 => ?_)
  have fx_5 : x_5.toInt = i.toInt + 1 := by rw [ex_5]; exact I_add rfl (by decide : (1 : Int32).toInt = 1) (by omega) (by omega)
  refine va_sld hx hb hXs hbl hbA hS (i := x_5) (vp_in_iff.mpr (by omega)) dL_law_1209 ?_
  refine lv_topi (fun x_6 ex_6 => ?_)
  refine k_iW (k_VW (n := 1) ⟨hx, hb, hml, hown, hT⟩ hK hP hD (lift_r (X' := nX) (wr := wX g u_4) (mL_about l g H.size v hv x_6) (fun _ _ _ _ _ _ => trivial)) (gV bw_1654 bw_1655 bw_1656 bw_840 bw_966) rfl rfl (by decide +kernel) ⟨by decide, by decide⟩ (ci := 12) rfl (List.mem_append_right _ List.mem_cons_self) (fun _ _ _ _ _ => trivial) (fun _ _ _ => trivial) rfl rfl hl.1 (Nat.le_of_ble_eq_true rfl) dL_law_1210 ⟨by decide, by decide⟩) hD hS hA (fun r_7 v_8 H locs hw hP hD hS => ?_)
  obtain ⟨hv_8, hev_8, htv_8⟩ := hw
  have hl : lv_has ls 4 [(3, .int i), (2, .ref (v_8.1 0)), (1, .ref (u_4.1 0)), (0, .ref b)] := by rw [hev_8]; exact hl
  refine lv_pop hx hb dL_law_1213 rfl ?_
  refine lv_goto (tgt := 1217) hx hb dL_law_1214 (by decide) ?_
  obtain ⟨x_9, ex_9⟩ : ∃ y : Int32, y = i + 6 := ⟨_, rfl⟩
  have fx_9 : x_9.toInt = i.toInt + 6 := by rw [ex_9]; exact I_add rfl (by decide) (by omega) (by omega)
  refine lv_iinc (v := x_9) (lv' := [(3, .int x_9), (2, .ref (v_8.1 0)), (1, .ref (u_4.1 0)), (0, .ref b)]) hx hb dL_law_1217 hl (k := 0) rfl (by rw [ex_9]; rfl) (by decide) rfl (fun ls hl => ?_)
  refine lv_goto (tgt := 18) hx hb dL_law_1220 (by decide) ?_
  exact ih (n - 1) (by omega) H locs ls ⟨u_4, v_8, x_9, hu_4, hv_8, (htu_4.trans (htt.trans htv_8.symm)), by omega, by omega, hP, hD, hS, lv_sub hl [0, 1, 2, 3] rfl⟩

set_option maxHeartbeats 40000000 in
set_option maxRecDepth 100000 in
theorem law_loop {p : Program} {e : Env} {s : State} {m : MethodId} {below : List Frame} {meth : Method} {c : Code} (l : Launch) {b L : Nat} {xs : Nat → Int32} (hL : L ≤ 3072) (C0 : lw_At p s m meth c b L xs) {g : GG} {aW : Nat} {fw : Nat → Int32} {A : Nat → Prop} (hK : kE g s) (hX2 : sE g.2.2.2.2.2.2.2 11 aW fw A s s.heap) (hAe : A = fun q : Nat => s.heap.size ≤ q) {u : XRec} {v : MRec} {H : Heap} {locs : List Loc} {ls : Array Slot} (hu : XOk u) (hv : MOk v) (htt : (u.2.1 35) = (v.2.1 32)) (hP : va_P g.1 vwCl (wX g u ++ wM g v) H) (hD : va_D A (wX g u ++ wM g v)) (hS : va_S A s.heap H locs) (hl : lv_has ls 4 [(3, .int 0), (2, .ref (v.1 0)), (1, .ref (u.1 0)), (0, .ref b)]) : W p l e room_1 s m #[Value.ref b] below meth c H locs 476 78636 (lw_Z below #[Value.ref b] s) (F0 m 18 ls []) := by
  obtain ⟨hx, hb, hr, hml, hown, hts, hXs, hbl, hlocks, hgv⟩ := id C0
  have hT : ∀ w ∈ gT, w.before #[Value.ref b] s = true := fun w h => hts w (List.mem_filter.mp h).1
  have hown : s.vm.findClass RL = some m.cls := hown
  have hA : ∀ q : Nat, s.heap.size ≤ q → A q := by rw [hAe]; exact fun _ h => h
  have hbA : ¬ A b := by rw [hAe]; exact Nat.not_le.mpr hbl
  refine k_floop 18 (LI g A s b) (fun n H locs ls hI ih => ?_) 3072 ⟨u, v, 0, hu, hv, htt, by decide, by decide, hP, hD, hS, hl⟩
  clear hu hv htt hP hD hS hl
  obtain ⟨u, v, i, hu, hv, htt, hi0, hm, hP, hD, hS, hl⟩ := hI
  refine lv_iload_n hx hb dL_law_18 rfl (lv_at hl 0 rfl) ?_
  refine lv_aload_n hx hb dL_law_19 rfl (lv_at hl 3 rfl) ?_
  refine va_slen hx hb hXs hbl hbA hS dL_law_20 ?_
  refine lv_topi (fun x_1 ex_1 => ?_)
  have fx_1 : x_1.toInt = L := by rw [ex_1]; exact nI_toInt (by omega)
  refine lv_bipush (v := 6) hx hb dL_law_21 (by decide) ?_
  refine lv_isub hx hb dL_law_23 ?_
  refine lv_topi (fun x_2 ex_2 => ?_)
  have fx_2 : x_2.toInt = x_1.toInt - 6 := by rw [ex_2]; exact I_sub rfl (by decide : (6 : Int32).toInt = 6) (by omega) (by omega)
  refine lv_icmp_gt (tgt := 1223) hx hb dL_law_24 (by decide) (fun c_3 => ?_) (fun c_3 => ?_)
  · have f_4 := E_lt (rfl : x_2.toInt = _) (rfl : i.toInt = _) c_3
    refine lv_iconst (v := 1) hx hb dL_law_1223 (by decide) ?_
    refine va_forget (fun q hq => by have h9 := hS.2.2 q hq; rw [hAe] at h9; exact h9) ?_
    refine W.widen (k := 600000) (n := 7302250) (by decide) (by decide) ?_
    exact lw_ret hx hb hr hlocks dL_law_1224
  · have f_5 := E_nlt (rfl : x_2.toInt = _) (rfl : i.toInt = _) c_3
    refine lv_aload_n hx hb dL_law_27 rfl (lv_at hl 3 rfl) ?_
    refine lv_iload_n hx hb dL_law_28 rfl (lv_at hl 0 rfl) ?_
    refine va_sld hx hb hXs hbl hbA hS (i := i) (vp_in_iff.mpr (by omega)) dL_law_29 ?_
    refine lv_topi (fun x_6 ex_6 => ?_)
    refine lv_bipush (v := 63) hx hb dL_law_30 (by decide) ?_
    refine lv_iand hx hb dL_law_32 ?_
    refine lv_topi (fun x_7 ex_7 => ?_)
    have fx_7 : 0 ≤ x_7.toInt ∧ x_7.toInt ≤ 63 := by rw [ex_7]; exact I_and (by decide) (by decide)
    rcases tsplit x_7 37 (by decide) with h_8 | ⟨j, hj, eh_8⟩
    · refine lv_tableOut (tgt := 1217) hx hb dL_law_33 (by omega) (by decide) ?_
      obtain ⟨x_9, ex_9⟩ : ∃ y : Int32, y = i + 6 := ⟨_, rfl⟩
      have fx_9 : x_9.toInt = i.toInt + 6 := by rw [ex_9]; exact I_add rfl (by decide) (by omega) (by omega)
      refine lv_iinc (v := x_9) (lv' := [(3, .int x_9), (2, .ref (v.1 0)), (1, .ref (u.1 0)), (0, .ref b)]) hx hb dL_law_1217 hl (k := 0) rfl (by rw [ex_9]; rfl) (by decide) rfl (fun ls hl => ?_)
      refine lv_goto (tgt := 18) hx hb dL_law_1220 (by decide) ?_
      exact ih (n - 1) (by omega) H locs ls ⟨u, v, x_9, hu, hv, htt, by omega, by omega, hP, hD, hS, lv_sub hl [0, 1, 2, 3] rfl⟩
    · rcases (show j = 0 ∨ j = 1 ∨ j = 2 ∨ j = 3 ∨ j = 4 ∨ j = 5 ∨ j = 6 ∨ j = 7 ∨ j = 8 ∨ j = 9 ∨ j = 10 ∨ j = 11 ∨ j = 12 ∨ j = 13 ∨ j = 14 ∨ j = 15 ∨ j = 16 ∨ j = 17 ∨ j = 18 ∨ j = 19 ∨ j = 20 ∨ j = 21 ∨ j = 22 ∨ j = 23 ∨ j = 24 ∨ j = 25 ∨ j = 26 ∨ j = 27 ∨ j = 28 ∨ j = 29 ∨ j = 30 ∨ j = 31 ∨ j = 32 ∨ j = 33 ∨ j = 34 ∨ j = 35 ∨ j = 36 by omega) with rfl | rfl | rfl | rfl | rfl | rfl | rfl | rfl | rfl | rfl | rfl | rfl | rfl | rfl | rfl | rfl | rfl | rfl | rfl | rfl | rfl | rfl | rfl | rfl | rfl | rfl | rfl | rfl | rfl | rfl | rfl | rfl | rfl | rfl | rfl | rfl | rfl
      · obtain rfl : x_7 = 0 := eh_8
        refine lv_tableIn (tgt := 196) hx hb dL_law_33 (by decide) (by decide) (off := 163) (by decide) (by decide) ?_
        exact law_c0 l hL C0 hK hX2 hAe hu hv htt hi0 hm (by omega) hP hD hS hl ih
      · obtain rfl : x_7 = 1 := eh_8
        refine lv_tableIn (tgt := 259) hx hb dL_law_33 (by decide) (by decide) (off := 226) (by decide) (by decide) ?_
        exact law_c1 l hL C0 hK hX2 hAe hu hv htt hi0 hm (by omega) hP hD hS hl ih
      · obtain rfl : x_7 = 2 := eh_8
        refine lv_tableIn (tgt := 282) hx hb dL_law_33 (by decide) (by decide) (off := 249) (by decide) (by decide) ?_
        exact law_c2 l hL C0 hK hX2 hAe hu hv htt hi0 hm (by omega) hP hD hS hl ih
      · obtain rfl : x_7 = 3 := eh_8
        refine lv_tableIn (tgt := 295) hx hb dL_law_33 (by decide) (by decide) (off := 262) (by decide) (by decide) ?_
        exact law_c3 l hL C0 hK hX2 hAe hu hv htt hi0 hm (by omega) hP hD hS hl ih
      · obtain rfl : x_7 = 4 := eh_8
        refine lv_tableIn (tgt := 318) hx hb dL_law_33 (by decide) (by decide) (off := 285) (by decide) (by decide) ?_
        exact law_c4 l hL C0 hK hX2 hAe hu hv htt hi0 hm (by omega) hP hD hS hl ih
      · obtain rfl : x_7 = 5 := eh_8
        refine lv_tableIn (tgt := 351) hx hb dL_law_33 (by decide) (by decide) (off := 318) (by decide) (by decide) ?_
        exact law_c5 l hL C0 hK hX2 hAe hu hv htt hi0 hm (by omega) hP hD hS hl ih
      · obtain rfl : x_7 = 6 := eh_8
        refine lv_tableIn (tgt := 384) hx hb dL_law_33 (by decide) (by decide) (off := 351) (by decide) (by decide) ?_
        exact law_c6 l hL C0 hK hX2 hAe hu hv htt hi0 hm (by omega) hP hD hS hl ih
      · obtain rfl : x_7 = 7 := eh_8
        refine lv_tableIn (tgt := 417) hx hb dL_law_33 (by decide) (by decide) (off := 384) (by decide) (by decide) ?_
        exact law_c7 l hL C0 hK hX2 hAe hu hv htt hi0 hm (by omega) hP hD hS hl ih
      · obtain rfl : x_7 = 8 := eh_8
        refine lv_tableIn (tgt := 460) hx hb dL_law_33 (by decide) (by decide) (off := 427) (by decide) (by decide) ?_
        exact law_c8 l hL C0 hK hX2 hAe hu hv htt hi0 hm (by omega) hP hD hS hl ih
      · obtain rfl : x_7 = 9 := eh_8
        refine lv_tableIn (tgt := 493) hx hb dL_law_33 (by decide) (by decide) (off := 460) (by decide) (by decide) ?_
        exact law_c9 l hL C0 hK hX2 hAe hu hv htt hi0 hm (by omega) hP hD hS hl ih
      · obtain rfl : x_7 = 10 := eh_8
        refine lv_tableIn (tgt := 516) hx hb dL_law_33 (by decide) (by decide) (off := 483) (by decide) (by decide) ?_
        exact law_c10 l hL C0 hK hX2 hAe hu hv htt hi0 hm (by omega) hP hD hS hl ih
      · obtain rfl : x_7 = 11 := eh_8
        refine lv_tableIn (tgt := 539) hx hb dL_law_33 (by decide) (by decide) (off := 506) (by decide) (by decide) ?_
        exact law_c11 l hL C0 hK hX2 hAe hu hv htt hi0 hm (by omega) hP hD hS hl ih
      · obtain rfl : x_7 = 12 := eh_8
        refine lv_tableIn (tgt := 562) hx hb dL_law_33 (by decide) (by decide) (off := 529) (by decide) (by decide) ?_
        exact law_c12 l hL C0 hK hX2 hAe hu hv htt hi0 hm (by omega) hP hD hS hl ih
      · obtain rfl : x_7 = 13 := eh_8
        refine lv_tableIn (tgt := 595) hx hb dL_law_33 (by decide) (by decide) (off := 562) (by decide) (by decide) ?_
        exact law_c13 l hL C0 hK hX2 hAe hu hv htt hi0 hm (by omega) hP hD hS hl ih
      · obtain rfl : x_7 = 14 := eh_8
        refine lv_tableIn (tgt := 638) hx hb dL_law_33 (by decide) (by decide) (off := 605) (by decide) (by decide) ?_
        exact law_c14 l hL C0 hK hX2 hAe hu hv htt hi0 hm (by omega) hP hD hS hl ih
      · obtain rfl : x_7 = 15 := eh_8
        refine lv_tableIn (tgt := 671) hx hb dL_law_33 (by decide) (by decide) (off := 638) (by decide) (by decide) ?_
        exact law_c15 l hL C0 hK hX2 hAe hu hv htt hi0 hm (by omega) hP hD hS hl ih
      · obtain rfl : x_7 = 16 := eh_8
        refine lv_tableIn (tgt := 694) hx hb dL_law_33 (by decide) (by decide) (off := 661) (by decide) (by decide) ?_
        exact law_c16 l hL C0 hK hX2 hAe hu hv htt hi0 hm (by omega) hP hD hS hl ih
      · obtain rfl : x_7 = 17 := eh_8
        refine lv_tableIn (tgt := 727) hx hb dL_law_33 (by decide) (by decide) (off := 694) (by decide) (by decide) ?_
        exact law_c17 l hL C0 hK hX2 hAe hu hv htt hi0 hm (by omega) hP hD hS hl ih
      · obtain rfl : x_7 = 18 := eh_8
        refine lv_tableIn (tgt := 750) hx hb dL_law_33 (by decide) (by decide) (off := 717) (by decide) (by decide) ?_
        exact law_c18 l hL C0 hK hX2 hAe hu hv htt hi0 hm (by omega) hP hD hS hl ih
      · obtain rfl : x_7 = 19 := eh_8
        refine lv_tableIn (tgt := 763) hx hb dL_law_33 (by decide) (by decide) (off := 730) (by decide) (by decide) ?_
        exact law_c19 l hL C0 hK hX2 hAe hu hv htt hi0 hm (by omega) hP hD hS hl ih
      · obtain rfl : x_7 = 20 := eh_8
        refine lv_tableIn (tgt := 776) hx hb dL_law_33 (by decide) (by decide) (off := 743) (by decide) (by decide) ?_
        exact law_c20 l hL C0 hK hX2 hAe hu hv htt hi0 hm (by omega) hP hD hS hl ih
      · obtain rfl : x_7 = 21 := eh_8
        refine lv_tableIn (tgt := 799) hx hb dL_law_33 (by decide) (by decide) (off := 766) (by decide) (by decide) ?_
        exact law_c21 l hL C0 hK hX2 hAe hu hv htt hi0 hm (by omega) hP hD hS hl ih
      · obtain rfl : x_7 = 22 := eh_8
        refine lv_tableIn (tgt := 832) hx hb dL_law_33 (by decide) (by decide) (off := 799) (by decide) (by decide) ?_
        exact law_c22 l hL C0 hK hX2 hAe hu hv htt hi0 hm (by omega) hP hD hS hl ih
      · obtain rfl : x_7 = 23 := eh_8
        refine lv_tableIn (tgt := 865) hx hb dL_law_33 (by decide) (by decide) (off := 832) (by decide) (by decide) ?_
        exact law_c23 l hL C0 hK hX2 hAe hu hv htt hi0 hm (by omega) hP hD hS hl ih
      · obtain rfl : x_7 = 24 := eh_8
        refine lv_tableIn (tgt := 888) hx hb dL_law_33 (by decide) (by decide) (off := 855) (by decide) (by decide) ?_
        exact law_c24 l hL C0 hK hX2 hAe hu hv htt hi0 hm (by omega) hP hD hS hl ih
      · obtain rfl : x_7 = 25 := eh_8
        refine lv_tableIn (tgt := 921) hx hb dL_law_33 (by decide) (by decide) (off := 888) (by decide) (by decide) ?_
        exact law_c25 l hL C0 hK hX2 hAe hu hv htt hi0 hm (by omega) hP hD hS hl ih
      · obtain rfl : x_7 = 26 := eh_8
        refine lv_tableIn (tgt := 944) hx hb dL_law_33 (by decide) (by decide) (off := 911) (by decide) (by decide) ?_
        exact law_c26 l hL C0 hK hX2 hAe hu hv htt hi0 hm (by omega) hP hD hS hl ih
      · obtain rfl : x_7 = 27 := eh_8
        refine lv_tableIn (tgt := 967) hx hb dL_law_33 (by decide) (by decide) (off := 934) (by decide) (by decide) ?_
        exact law_c27 l hL C0 hK hX2 hAe hu hv htt hi0 hm (by omega) hP hD hS hl ih
      · obtain rfl : x_7 = 28 := eh_8
        refine lv_tableIn (tgt := 990) hx hb dL_law_33 (by decide) (by decide) (off := 957) (by decide) (by decide) ?_
        exact law_c28 l hL C0 hK hX2 hAe hu hv htt hi0 hm (by omega) hP hD hS hl ih
      · obtain rfl : x_7 = 29 := eh_8
        refine lv_tableIn (tgt := 1023) hx hb dL_law_33 (by decide) (by decide) (off := 990) (by decide) (by decide) ?_
        exact law_c29 l hL C0 hK hX2 hAe hu hv htt hi0 hm (by omega) hP hD hS hl ih
      · obtain rfl : x_7 = 30 := eh_8
        refine lv_tableIn (tgt := 1046) hx hb dL_law_33 (by decide) (by decide) (off := 1013) (by decide) (by decide) ?_
        exact law_c30 l hL C0 hK hX2 hAe hu hv htt hi0 hm (by omega) hP hD hS hl ih
      · obtain rfl : x_7 = 31 := eh_8
        refine lv_tableIn (tgt := 1079) hx hb dL_law_33 (by decide) (by decide) (off := 1046) (by decide) (by decide) ?_
        exact law_c31 l hL C0 hK hX2 hAe hu hv htt hi0 hm (by omega) hP hD hS hl ih
      · obtain rfl : x_7 = 32 := eh_8
        refine lv_tableIn (tgt := 1102) hx hb dL_law_33 (by decide) (by decide) (off := 1069) (by decide) (by decide) ?_
        exact law_c32 l hL C0 hK hX2 hAe hu hv htt hi0 hm (by omega) hP hD hS hl ih
      · obtain rfl : x_7 = 33 := eh_8
        refine lv_tableIn (tgt := 1125) hx hb dL_law_33 (by decide) (by decide) (off := 1092) (by decide) (by decide) ?_
        exact law_c33 l hL C0 hK hX2 hAe hu hv htt hi0 hm (by omega) hP hD hS hl ih
      · obtain rfl : x_7 = 34 := eh_8
        refine lv_tableIn (tgt := 1148) hx hb dL_law_33 (by decide) (by decide) (off := 1115) (by decide) (by decide) ?_
        exact law_c34 l hL C0 hK hX2 hAe hu hv htt hi0 hm (by omega) hP hD hS hl ih
      · obtain rfl : x_7 = 35 := eh_8
        refine lv_tableIn (tgt := 1171) hx hb dL_law_33 (by decide) (by decide) (off := 1138) (by decide) (by decide) ?_
        exact law_c35 l hL C0 hK hX2 hAe hu hv htt hi0 hm (by omega) hP hD hS hl ih
      · obtain rfl : x_7 = 36 := eh_8
        refine lv_tableIn (tgt := 1194) hx hb dL_law_33 (by decide) (by decide) (off := 1161) (by decide) (by decide) ?_
        exact law_c36 l hL C0 hK hX2 hAe hu hv htt hi0 hm (by omega) hP hD hS hl ih
