set_option maxHeartbeats 40000000 in
set_option maxRecDepth 100000 in
theorem law_c7 {p : Program} {e : Env} {s : State} {m : MethodId} {below : List Frame} {meth : Method} {c : Code} (l : Launch) {b L : Nat} {xs : Nat → Int32} (hL : L ≤ 3072) (C0 : lw_At p s m meth c b L xs) {g : GG} {aW : Nat} {fw : Nat → Int32} {A : Nat → Prop} (hK : kE g s) (hX2 : sE g.2.2.2.2.2.2.2 11 aW fw A s s.heap) (hAe : A = fun q : Nat => s.heap.size ≤ q) {u : XRec} {v : MRec} {H : Heap} {locs : List Loc} {ls : Array Slot} (hu : XOk u) (hv : MOk v) (htt : (u.2.1 35) = (v.2.1 32)) {i : Int32} {n : Nat} (hi0 : 0 ≤ i.toInt ∧ i.toInt ≤ 3072) (hm : 3072 - i.toInt ≤ (n : Int)) (hil : i.toInt + 6 ≤ (L : Int)) (hP : va_P g.1 vwCl (wX g u ++ wM g v) H) (hD : va_D A (wX g u ++ wM g v)) (hS : va_S A s.heap H locs) (hl : lv_has ls 4 [(3, .int i), (2, .ref (v.1 0)), (1, .ref (u.1 0)), (0, .ref b)]) (ih : ∀ n', n' < n → ∀ (H : Heap) (locs : List Loc) (ls : Array Slot), LI g A s b n' H locs ls → W p l e room_1 s m #[Value.ref b] below meth c H locs 476 78636 (lw_Z below #[Value.ref b] s) (F0 m 18 ls [])) : W p l e room_1 s m #[Value.ref b] below meth c H locs 476 78636 (lw_Z below #[Value.ref b] s) (F0 m 417 ls []) := by
  obtain ⟨hx, hb, hr, hml, hown, hts, hXs, hbl, hlocks, hgv⟩ := id C0
  have hT : ∀ w ∈ gT, w.before #[Value.ref b] s = true := fun w h => hts w (List.mem_filter.mp h).1
  have hown : s.vm.findClass RL = some m.cls := hown
  have hA : ∀ q : Nat, s.heap.size ≤ q → A q := by rw [hAe]; exact fun _ h => h
  have hbA : ¬ A b := by rw [hAe]; exact Nat.not_le.mpr hbl
  refine lv_aload_n hx hb dL_law_417 rfl (lv_at hl 2 rfl) ?_
  refine lv_aload_n hx hb dL_law_418 rfl (lv_at hl 3 rfl) ?_
  refine lv_iload_n hx hb dL_law_419 rfl (lv_at hl 0 rfl) ?_
  refine lv_iconst (v := 1) hx hb dL_law_420 (by decide) ?_
  refine lv_iadd hx hb dL_law_421 ?_
  refine lv_topi (fun x_1 ex_1 => ?_)
  have fx_1 : x_1.toInt = i.toInt + 1 := by rw [ex_1]; exact I_add rfl (by decide : (1 : Int32).toInt = 1) (by omega) (by omega)
  refine va_sld hx hb hXs hbl hbA hS (i := x_1) (vp_in_iff.mpr (by omega)) dL_law_422 ?_
  refine lv_topi (fun x_2 ex_2 => ?_)
  refine lv_aload_n hx hb dL_law_423 rfl (lv_at hl 3 rfl) ?_
  refine lv_iload_n hx hb dL_law_424 rfl (lv_at hl 0 rfl) ?_
  refine lv_iconst (v := 2) hx hb dL_law_425 (by decide) ?_
  refine lv_iadd hx hb dL_law_426 ?_
  refine lv_topi (fun x_3 ex_3 => ?_)
  have fx_3 : x_3.toInt = i.toInt + 2 := by rw [ex_3]; exact I_add rfl (by decide : (2 : Int32).toInt = 2) (by omega) (by omega)
  refine va_sld hx hb hXs hbl hbA hS (i := x_3) (vp_in_iff.mpr (by omega)) dL_law_427 ?_
  refine lv_topi (fun x_4 ex_4 => ?_)
  refine lv_aload_n hx hb dL_law_428 rfl (lv_at hl 3 rfl) ?_
  refine lv_iload_n hx hb dL_law_429 rfl (lv_at hl 0 rfl) ?_
  refine lv_iconst (v := 3) hx hb dL_law_430 (by decide) ?_
  refine lv_iadd hx hb dL_law_431 ?_
  refine lv_topi (fun x_5 ex_5 => ?_)
  have fx_5 : x_5.toInt = i.toInt + 3 := by rw [ex_5]; exact I_add rfl (by decide : (3 : Int32).toInt = 3) (by omega) (by omega)
  refine va_sld hx hb hXs hbl hbA hS (i := x_5) (vp_in_iff.mpr (by omega)) dL_law_432 ?_
  refine lv_topi (fun x_6 ex_6 => ?_)
  refine k_iW (k_VW (n := 3) ⟨hx, hb, hml, hown, hT⟩ hK hP hD (lift_l (X' := nX) (wr := wM g v) (xL_worth l g H.size u hu x_2 x_4 x_6) (fun _ _ _ _ _ _ => trivial)) (gV bw_1481 bw_1482 bw_1483 bw_395 bw_305) rfl rfl (by decide +kernel) ⟨by decide, by decide⟩ (ci := 11) rfl (List.mem_append_left _ (List.mem_append_left _ List.mem_cons_self)) (fun _ _ _ _ _ => trivial) (fun _ _ _ => trivial) rfl rfl hl.1 (Nat.le_of_ble_eq_true rfl) dL_law_433 ⟨by decide, by decide⟩) hD hS hA (fun r_7 u_8 H locs hw hP hD hS => ?_)
  obtain ⟨hu_8, heu_8, htu_8⟩ := hw
  have hl : lv_has ls 4 [(3, .int i), (2, .ref (v.1 0)), (1, .ref (u_8.1 0)), (0, .ref b)] := by rw [heu_8]; exact hl
  refine lv_pop hx hb dL_law_436 rfl ?_
  refine lv_aload_n hx hb dL_law_437 rfl (lv_at hl 1 rfl) ?_
  refine lv_aload_n hx hb dL_law_438 rfl (lv_at hl 3 rfl) ?_
  refine lv_iload_n hx hb dL_law_439 rfl (lv_at hl 0 rfl) ?_
  refine lv_iconst (v := 1) hx hb dL_law_440 (by decide) ?_
  refine lv_iadd hx hb dL_law_441 ?_
  refine lv_topi (fun x_9 ex_9 => ?_)
  have fx_9 : x_9.toInt = i.toInt + 1 := by rw [ex_9]; exact I_add rfl (by decide : (1 : Int32).toInt = 1) (by omega) (by omega)
  refine va_sld hx hb hXs hbl hbA hS (i := x_9) (vp_in_iff.mpr (by omega)) dL_law_442 ?_
  refine lv_topi (fun x_10 ex_10 => ?_)
  refine lv_aload_n hx hb dL_law_443 rfl (lv_at hl 3 rfl) ?_
  refine lv_iload_n hx hb dL_law_444 rfl (lv_at hl 0 rfl) ?_
  refine lv_iconst (v := 2) hx hb dL_law_445 (by decide) ?_
  refine lv_iadd hx hb dL_law_446 ?_
  refine lv_topi (fun x_11 ex_11 => ?_)
  have fx_11 : x_11.toInt = i.toInt + 2 := by rw [ex_11]; exact I_add rfl (by decide : (2 : Int32).toInt = 2) (by omega) (by omega)
  refine va_sld hx hb hXs hbl hbA hS (i := x_11) (vp_in_iff.mpr (by omega)) dL_law_447 ?_
  refine lv_topi (fun x_12 ex_12 => ?_)
  refine lv_aload_n hx hb dL_law_448 rfl (lv_at hl 3 rfl) ?_
  refine lv_iload_n hx hb dL_law_449 rfl (lv_at hl 0 rfl) ?_
  refine lv_iconst (v := 3) hx hb dL_law_450 (by decide) ?_
  refine lv_iadd hx hb dL_law_451 ?_
  refine lv_topi (fun x_13 ex_13 => ?_)
  have fx_13 : x_13.toInt = i.toInt + 3 := by rw [ex_13]; exact I_add rfl (by decide : (3 : Int32).toInt = 3) (by omega) (by omega)
  refine va_sld hx hb hXs hbl hbA hS (i := x_13) (vp_in_iff.mpr (by omega)) dL_law_452 ?_
  refine lv_topi (fun x_14 ex_14 => ?_)
  refine k_iW (k_VW (n := 3) ⟨hx, hb, hml, hown, hT⟩ hK hP hD (lift_r (X' := nX) (wr := wX g u_8) (mL_worth l g H.size v hv x_10 x_12 x_14) (fun _ _ _ _ _ _ => trivial)) (gV bw_1484 bw_1485 bw_1486 bw_840 bw_927) rfl rfl (by decide +kernel) ⟨by decide, by decide⟩ (ci := 12) rfl (List.mem_append_right _ List.mem_cons_self) (fun _ _ _ _ _ => trivial) (fun _ _ _ => trivial) rfl rfl hl.1 (Nat.le_of_ble_eq_true rfl) dL_law_453 ⟨by decide, by decide⟩) hD hS hA (fun r_15 v_16 H locs hw hP hD hS => ?_)
  obtain ⟨hv_16, hev_16, htv_16⟩ := hw
  have hl : lv_has ls 4 [(3, .int i), (2, .ref (v_16.1 0)), (1, .ref (u_8.1 0)), (0, .ref b)] := by rw [hev_16]; exact hl
  refine lv_pop hx hb dL_law_456 rfl ?_
  refine lv_goto (tgt := 1217) hx hb dL_law_457 (by decide) ?_
  obtain ⟨x_17, ex_17⟩ : ∃ y : Int32, y = i + 6 := ⟨_, rfl⟩
  have fx_17 : x_17.toInt = i.toInt + 6 := by rw [ex_17]; exact I_add rfl (by decide) (by omega) (by omega)
  refine lv_iinc (v := x_17) (lv' := [(3, .int x_17), (2, .ref (v_16.1 0)), (1, .ref (u_8.1 0)), (0, .ref b)]) hx hb dL_law_1217 hl (k := 0) rfl (by rw [ex_17]; rfl) (by decide) rfl (fun ls hl => ?_)
  refine lv_goto (tgt := 18) hx hb dL_law_1220 (by decide) ?_
  exact ih (n - 1) (by omega) H locs ls ⟨u_8, v_16, x_17, hu_8, hv_16, (htu_8.trans (htt.trans htv_16.symm)), by omega, by omega, hP, hD, hS, lv_sub hl [0, 1, 2, 3] rfl⟩

set_option maxHeartbeats 40000000 in
set_option maxRecDepth 100000 in
theorem law_c8 {p : Program} {e : Env} {s : State} {m : MethodId} {below : List Frame} {meth : Method} {c : Code} (l : Launch) {b L : Nat} {xs : Nat → Int32} (hL : L ≤ 3072) (C0 : lw_At p s m meth c b L xs) {g : GG} {aW : Nat} {fw : Nat → Int32} {A : Nat → Prop} (hK : kE g s) (hX2 : sE g.2.2.2.2.2.2.2 11 aW fw A s s.heap) (hAe : A = fun q : Nat => s.heap.size ≤ q) {u : XRec} {v : MRec} {H : Heap} {locs : List Loc} {ls : Array Slot} (hu : XOk u) (hv : MOk v) (htt : (u.2.1 35) = (v.2.1 32)) {i : Int32} {n : Nat} (hi0 : 0 ≤ i.toInt ∧ i.toInt ≤ 3072) (hm : 3072 - i.toInt ≤ (n : Int)) (hil : i.toInt + 6 ≤ (L : Int)) (hP : va_P g.1 vwCl (wX g u ++ wM g v) H) (hD : va_D A (wX g u ++ wM g v)) (hS : va_S A s.heap H locs) (hl : lv_has ls 4 [(3, .int i), (2, .ref (v.1 0)), (1, .ref (u.1 0)), (0, .ref b)]) (ih : ∀ n', n' < n → ∀ (H : Heap) (locs : List Loc) (ls : Array Slot), LI g A s b n' H locs ls → W p l e room_1 s m #[Value.ref b] below meth c H locs 476 78636 (lw_Z below #[Value.ref b] s) (F0 m 18 ls [])) : W p l e room_1 s m #[Value.ref b] below meth c H locs 476 78636 (lw_Z below #[Value.ref b] s) (F0 m 460 ls []) := by
  obtain ⟨hx, hb, hr, hml, hown, hts, hXs, hbl, hlocks, hgv⟩ := id C0
  have hT : ∀ w ∈ gT, w.before #[Value.ref b] s = true := fun w h => hts w (List.mem_filter.mp h).1
  have hown : s.vm.findClass RL = some m.cls := hown
  have hA : ∀ q : Nat, s.heap.size ≤ q → A q := by rw [hAe]; exact fun _ h => h
  have hbA : ¬ A b := by rw [hAe]; exact Nat.not_le.mpr hbl
  refine lv_aload_n hx hb dL_law_460 rfl (lv_at hl 2 rfl) ?_
  refine lv_aload_n hx hb dL_law_461 rfl (lv_at hl 3 rfl) ?_
  refine lv_iload_n hx hb dL_law_462 rfl (lv_at hl 0 rfl) ?_
  refine lv_iconst (v := 1) hx hb dL_law_463 (by decide) ?_
  refine lv_iadd hx hb dL_law_464 ?_
  refine lv_topi (fun x_1 ex_1 => ?_)
  have fx_1 : x_1.toInt = i.toInt + 1 := by rw [ex_1]; exact I_add rfl (by decide : (1 : Int32).toInt = 1) (by omega) (by omega)
  refine va_sld hx hb hXs hbl hbA hS (i := x_1) (vp_in_iff.mpr (by omega)) dL_law_465 ?_
  refine lv_topi (fun x_2 ex_2 => ?_)
  refine lv_aload_n hx hb dL_law_466 rfl (lv_at hl 3 rfl) ?_
  refine lv_iload_n hx hb dL_law_467 rfl (lv_at hl 0 rfl) ?_
  refine lv_iconst (v := 2) hx hb dL_law_468 (by decide) ?_
  refine lv_iadd hx hb dL_law_469 ?_
  refine lv_topi (fun x_3 ex_3 => ?_)
  have fx_3 : x_3.toInt = i.toInt + 2 := by rw [ex_3]; exact I_add rfl (by decide : (2 : Int32).toInt = 2) (by omega) (by omega)
  refine va_sld hx hb hXs hbl hbA hS (i := x_3) (vp_in_iff.mpr (by omega)) dL_law_470 ?_
  refine lv_topi (fun x_4 ex_4 => ?_)
  refine k_iW (k_VW (n := 2) ⟨hx, hb, hml, hown, hT⟩ hK hP hD (lift_l (X' := nX) (wr := wM g v) (xL_may l g H.size u hu x_2 x_4) (fun _ _ _ _ _ _ => trivial)) (gV bw_1487 bw_1488 bw_1489 bw_395 bw_312) rfl rfl (by decide +kernel) ⟨by decide, by decide⟩ (ci := 11) rfl (List.mem_append_left _ (List.mem_append_left _ List.mem_cons_self)) (fun _ _ _ _ _ => trivial) (fun _ _ _ => trivial) rfl rfl hl.1 (Nat.le_of_ble_eq_true rfl) dL_law_471 ⟨by decide, by decide⟩) hD hS hA (fun r_5 u_6 H locs hw hP hD hS => ?_)
  obtain ⟨hu_6, heu_6, htu_6⟩ := hw
  have hl : lv_has ls 4 [(3, .int i), (2, .ref (v.1 0)), (1, .ref (u_6.1 0)), (0, .ref b)] := by rw [heu_6]; exact hl
  refine lv_pop hx hb dL_law_474 rfl ?_
  refine lv_aload_n hx hb dL_law_475 rfl (lv_at hl 1 rfl) ?_
  refine lv_aload_n hx hb dL_law_476 rfl (lv_at hl 3 rfl) ?_
  refine lv_iload_n hx hb dL_law_477 rfl (lv_at hl 0 rfl) ?_
  refine lv_iconst (v := 1) hx hb dL_law_478 (by decide) ?_
  refine lv_iadd hx hb dL_law_479 ?_
  refine lv_topi (fun x_7 ex_7 => ?_)
  have fx_7 : x_7.toInt = i.toInt + 1 := by rw [ex_7]; exact I_add rfl (by decide : (1 : Int32).toInt = 1) (by omega) (by omega)
  refine va_sld hx hb hXs hbl hbA hS (i := x_7) (vp_in_iff.mpr (by omega)) dL_law_480 ?_
  refine lv_topi (fun x_8 ex_8 => ?_)
  refine lv_aload_n hx hb dL_law_481 rfl (lv_at hl 3 rfl) ?_
  refine lv_iload_n hx hb dL_law_482 rfl (lv_at hl 0 rfl) ?_
  refine lv_iconst (v := 2) hx hb dL_law_483 (by decide) ?_
  refine lv_iadd hx hb dL_law_484 ?_
  refine lv_topi (fun x_9 ex_9 => ?_)
  have fx_9 : x_9.toInt = i.toInt + 2 := by rw [ex_9]; exact I_add rfl (by decide : (2 : Int32).toInt = 2) (by omega) (by omega)
  refine va_sld hx hb hXs hbl hbA hS (i := x_9) (vp_in_iff.mpr (by omega)) dL_law_485 ?_
  refine lv_topi (fun x_10 ex_10 => ?_)
  refine k_iW (k_VW (n := 2) ⟨hx, hb, hml, hown, hT⟩ hK hP hD (lift_r (X' := nX) (wr := wX g u_6) (mL_may l g H.size v hv x_8 x_10) (fun _ _ _ _ _ _ => trivial)) (gV bw_1490 bw_946 bw_947 bw_840 bw_934) rfl rfl (by decide +kernel) ⟨by decide, by decide⟩ (ci := 12) rfl (List.mem_append_right _ List.mem_cons_self) (fun _ _ _ _ _ => trivial) (fun _ _ _ => trivial) rfl rfl hl.1 (Nat.le_of_ble_eq_true rfl) dL_law_486 ⟨by decide, by decide⟩) hD hS hA (fun r_11 v_12 H locs hw hP hD hS => ?_)
  obtain ⟨hv_12, hev_12, htv_12⟩ := hw
  have hl : lv_has ls 4 [(3, .int i), (2, .ref (v_12.1 0)), (1, .ref (u_6.1 0)), (0, .ref b)] := by rw [hev_12]; exact hl
  refine lv_pop hx hb dL_law_489 rfl ?_
  refine lv_goto (tgt := 1217) hx hb dL_law_490 (by decide) ?_
  obtain ⟨x_13, ex_13⟩ : ∃ y : Int32, y = i + 6 := ⟨_, rfl⟩
  have fx_13 : x_13.toInt = i.toInt + 6 := by rw [ex_13]; exact I_add rfl (by decide) (by omega) (by omega)
  refine lv_iinc (v := x_13) (lv' := [(3, .int x_13), (2, .ref (v_12.1 0)), (1, .ref (u_6.1 0)), (0, .ref b)]) hx hb dL_law_1217 hl (k := 0) rfl (by rw [ex_13]; rfl) (by decide) rfl (fun ls hl => ?_)
  refine lv_goto (tgt := 18) hx hb dL_law_1220 (by decide) ?_
  exact ih (n - 1) (by omega) H locs ls ⟨u_6, v_12, x_13, hu_6, hv_12, (htu_6.trans (htt.trans htv_12.symm)), by omega, by omega, hP, hD, hS, lv_sub hl [0, 1, 2, 3] rfl⟩

set_option maxHeartbeats 40000000 in
set_option maxRecDepth 100000 in
theorem law_c9 {p : Program} {e : Env} {s : State} {m : MethodId} {below : List Frame} {meth : Method} {c : Code} (l : Launch) {b L : Nat} {xs : Nat → Int32} (hL : L ≤ 3072) (C0 : lw_At p s m meth c b L xs) {g : GG} {aW : Nat} {fw : Nat → Int32} {A : Nat → Prop} (hK : kE g s) (hX2 : sE g.2.2.2.2.2.2.2 11 aW fw A s s.heap) (hAe : A = fun q : Nat => s.heap.size ≤ q) {u : XRec} {v : MRec} {H : Heap} {locs : List Loc} {ls : Array Slot} (hu : XOk u) (hv : MOk v) (htt : (u.2.1 35) = (v.2.1 32)) {i : Int32} {n : Nat} (hi0 : 0 ≤ i.toInt ∧ i.toInt ≤ 3072) (hm : 3072 - i.toInt ≤ (n : Int)) (hil : i.toInt + 6 ≤ (L : Int)) (hP : va_P g.1 vwCl (wX g u ++ wM g v) H) (hD : va_D A (wX g u ++ wM g v)) (hS : va_S A s.heap H locs) (hl : lv_has ls 4 [(3, .int i), (2, .ref (v.1 0)), (1, .ref (u.1 0)), (0, .ref b)]) (ih : ∀ n', n' < n → ∀ (H : Heap) (locs : List Loc) (ls : Array Slot), LI g A s b n' H locs ls → W p l e room_1 s m #[Value.ref b] below meth c H locs 476 78636 (lw_Z below #[Value.ref b] s) (F0 m 18 ls [])) : W p l e room_1 s m #[Value.ref b] below meth c H locs 476 78636 (lw_Z below #[Value.ref b] s) (F0 m 493 ls []) := by
  obtain ⟨hx, hb, hr, hml, hown, hts, hXs, hbl, hlocks, hgv⟩ := id C0
  have hT : ∀ w ∈ gT, w.before #[Value.ref b] s = true := fun w h => hts w (List.mem_filter.mp h).1
  have hown : s.vm.findClass RL = some m.cls := hown
  have hA : ∀ q : Nat, s.heap.size ≤ q → A q := by rw [hAe]; exact fun _ h => h
  have hbA : ¬ A b := by rw [hAe]; exact Nat.not_le.mpr hbl
  refine lv_aload_n hx hb dL_law_493 rfl (lv_at hl 2 rfl) ?_
  refine lv_aload_n hx hb dL_law_494 rfl (lv_at hl 3 rfl) ?_
  refine lv_iload_n hx hb dL_law_495 rfl (lv_at hl 0 rfl) ?_
  refine lv_iconst (v := 1) hx hb dL_law_496 (by decide) ?_
  refine lv_iadd hx hb dL_law_497 ?_
  refine lv_topi (fun x_1 ex_1 => ?_)
  have fx_1 : x_1.toInt = i.toInt + 1 := by rw [ex_1]; exact I_add rfl (by decide : (1 : Int32).toInt = 1) (by omega) (by omega)
  refine va_sld hx hb hXs hbl hbA hS (i := x_1) (vp_in_iff.mpr (by omega)) dL_law_498 ?_
  refine lv_topi (fun x_2 ex_2 => ?_)
  refine k_iW (k_VW (n := 1) ⟨hx, hb, hml, hown, hT⟩ hK hP hD (lift_l (X' := nX) (wr := wM g v) (xL_next l g H.size u hu x_2) (fun _ _ _ _ _ _ => trivial)) (gV bw_1491 bw_1492 bw_1493 bw_395 bw_316) rfl rfl (by decide +kernel) ⟨by decide, by decide⟩ (ci := 11) rfl (List.mem_append_left _ (List.mem_append_left _ List.mem_cons_self)) (fun _ _ _ _ _ => trivial) (fun _ _ _ => trivial) rfl rfl hl.1 (Nat.le_of_ble_eq_true rfl) dL_law_499 ⟨by decide, by decide⟩) hD hS hA (fun r_3 u_4 H locs hw hP hD hS => ?_)
  obtain ⟨hu_4, heu_4, htu_4⟩ := hw
  have hl : lv_has ls 4 [(3, .int i), (2, .ref (v.1 0)), (1, .ref (u_4.1 0)), (0, .ref b)] := by rw [heu_4]; exact hl
  refine lv_pop hx hb dL_law_502 rfl ?_
  refine lv_aload_n hx hb dL_law_503 rfl (lv_at hl 1 rfl) ?_
  refine lv_aload_n hx hb dL_law_504 rfl (lv_at hl 3 rfl) ?_
  refine lv_iload_n hx hb dL_law_505 rfl (lv_at hl 0 rfl) ?_
  refine lv_iconst (v := 1) hx hb dL_law_506 (by decide) ?_
  refine lv_iadd hx hb dL_law_507 ?_
  refine lv_topi (fun x_5 ex_5 => ?_)
  have fx_5 : x_5.toInt = i.toInt + 1 := by rw [ex_5]; exact I_add rfl (by decide : (1 : Int32).toInt = 1) (by omega) (by omega)
  refine va_sld hx hb hXs hbl hbA hS (i := x_5) (vp_in_iff.mpr (by omega)) dL_law_508 ?_
  refine lv_topi (fun x_6 ex_6 => ?_)
  refine k_iW (k_VW (n := 1) ⟨hx, hb, hml, hown, hT⟩ hK hP hD (lift_r (X' := nX) (wr := wX g u_4) (mL_next l g H.size v hv x_6) (fun _ _ _ _ _ _ => trivial)) (gV bw_1494 bw_1495 bw_1496 bw_840 bw_949) rfl rfl (by decide +kernel) ⟨by decide, by decide⟩ (ci := 12) rfl (List.mem_append_right _ List.mem_cons_self) (fun _ _ _ _ _ => trivial) (fun _ _ _ => trivial) rfl rfl hl.1 (Nat.le_of_ble_eq_true rfl) dL_law_509 ⟨by decide, by decide⟩) hD hS hA (fun r_7 v_8 H locs hw hP hD hS => ?_)
  obtain ⟨hv_8, hev_8, htv_8⟩ := hw
  have hl : lv_has ls 4 [(3, .int i), (2, .ref (v_8.1 0)), (1, .ref (u_4.1 0)), (0, .ref b)] := by rw [hev_8]; exact hl
  refine lv_pop hx hb dL_law_512 rfl ?_
  refine lv_goto (tgt := 1217) hx hb dL_law_513 (by decide) ?_
  obtain ⟨x_9, ex_9⟩ : ∃ y : Int32, y = i + 6 := ⟨_, rfl⟩
  have fx_9 : x_9.toInt = i.toInt + 6 := by rw [ex_9]; exact I_add rfl (by decide) (by omega) (by omega)
  refine lv_iinc (v := x_9) (lv' := [(3, .int x_9), (2, .ref (v_8.1 0)), (1, .ref (u_4.1 0)), (0, .ref b)]) hx hb dL_law_1217 hl (k := 0) rfl (by rw [ex_9]; rfl) (by decide) rfl (fun ls hl => ?_)
  refine lv_goto (tgt := 18) hx hb dL_law_1220 (by decide) ?_
  exact ih (n - 1) (by omega) H locs ls ⟨u_4, v_8, x_9, hu_4, hv_8, (htu_4.trans (htt.trans htv_8.symm)), by omega, by omega, hP, hD, hS, lv_sub hl [0, 1, 2, 3] rfl⟩

set_option maxHeartbeats 40000000 in
set_option maxRecDepth 100000 in
theorem law_c10 {p : Program} {e : Env} {s : State} {m : MethodId} {below : List Frame} {meth : Method} {c : Code} (l : Launch) {b L : Nat} {xs : Nat → Int32} (hL : L ≤ 3072) (C0 : lw_At p s m meth c b L xs) {g : GG} {aW : Nat} {fw : Nat → Int32} {A : Nat → Prop} (hK : kE g s) (hX2 : sE g.2.2.2.2.2.2.2 11 aW fw A s s.heap) (hAe : A = fun q : Nat => s.heap.size ≤ q) {u : XRec} {v : MRec} {H : Heap} {locs : List Loc} {ls : Array Slot} (hu : XOk u) (hv : MOk v) (htt : (u.2.1 35) = (v.2.1 32)) {i : Int32} {n : Nat} (hi0 : 0 ≤ i.toInt ∧ i.toInt ≤ 3072) (hm : 3072 - i.toInt ≤ (n : Int)) (hil : i.toInt + 6 ≤ (L : Int)) (hP : va_P g.1 vwCl (wX g u ++ wM g v) H) (hD : va_D A (wX g u ++ wM g v)) (hS : va_S A s.heap H locs) (hl : lv_has ls 4 [(3, .int i), (2, .ref (v.1 0)), (1, .ref (u.1 0)), (0, .ref b)]) (ih : ∀ n', n' < n → ∀ (H : Heap) (locs : List Loc) (ls : Array Slot), LI g A s b n' H locs ls → W p l e room_1 s m #[Value.ref b] below meth c H locs 476 78636 (lw_Z below #[Value.ref b] s) (F0 m 18 ls [])) : W p l e room_1 s m #[Value.ref b] below meth c H locs 476 78636 (lw_Z below #[Value.ref b] s) (F0 m 516 ls []) := by
  obtain ⟨hx, hb, hr, hml, hown, hts, hXs, hbl, hlocks, hgv⟩ := id C0
  have hT : ∀ w ∈ gT, w.before #[Value.ref b] s = true := fun w h => hts w (List.mem_filter.mp h).1
  have hown : s.vm.findClass RL = some m.cls := hown
  have hA : ∀ q : Nat, s.heap.size ≤ q → A q := by rw [hAe]; exact fun _ h => h
  have hbA : ¬ A b := by rw [hAe]; exact Nat.not_le.mpr hbl
  refine lv_aload_n hx hb dL_law_516 rfl (lv_at hl 2 rfl) ?_
  refine lv_aload_n hx hb dL_law_517 rfl (lv_at hl 3 rfl) ?_
  refine lv_iload_n hx hb dL_law_518 rfl (lv_at hl 0 rfl) ?_
  refine lv_iconst (v := 1) hx hb dL_law_519 (by decide) ?_
  refine lv_iadd hx hb dL_law_520 ?_
  refine lv_topi (fun x_1 ex_1 => ?_)
  have fx_1 : x_1.toInt = i.toInt + 1 := by rw [ex_1]; exact I_add rfl (by decide : (1 : Int32).toInt = 1) (by omega) (by omega)
  refine va_sld hx hb hXs hbl hbA hS (i := x_1) (vp_in_iff.mpr (by omega)) dL_law_521 ?_
  refine lv_topi (fun x_2 ex_2 => ?_)
  refine k_iW (k_VW (n := 1) ⟨hx, hb, hml, hown, hT⟩ hK hP hD (lift_l (X' := nX) (wr := wM g v) (xL_heir l g H.size u hu x_2) (fun _ _ _ _ _ _ => trivial)) (gV bw_1497 bw_1498 bw_1499 bw_395 bw_318) rfl rfl (by decide +kernel) ⟨by decide, by decide⟩ (ci := 11) rfl (List.mem_append_left _ (List.mem_append_left _ List.mem_cons_self)) (fun _ _ _ _ _ => trivial) (fun _ _ _ => trivial) rfl rfl hl.1 (Nat.le_of_ble_eq_true rfl) dL_law_522 ⟨by decide, by decide⟩) hD hS hA (fun r_3 u_4 H locs hw hP hD hS => ?_)
  obtain ⟨hu_4, heu_4, htu_4⟩ := hw
  have hl : lv_has ls 4 [(3, .int i), (2, .ref (v.1 0)), (1, .ref (u_4.1 0)), (0, .ref b)] := by rw [heu_4]; exact hl
  refine lv_pop hx hb dL_law_525 rfl ?_
  refine lv_aload_n hx hb dL_law_526 rfl (lv_at hl 1 rfl) ?_
  refine lv_aload_n hx hb dL_law_527 rfl (lv_at hl 3 rfl) ?_
  refine lv_iload_n hx hb dL_law_528 rfl (lv_at hl 0 rfl) ?_
  refine lv_iconst (v := 1) hx hb dL_law_529 (by decide) ?_
  refine lv_iadd hx hb dL_law_530 ?_
  refine lv_topi (fun x_5 ex_5 => ?_)
  have fx_5 : x_5.toInt = i.toInt + 1 := by rw [ex_5]; exact I_add rfl (by decide : (1 : Int32).toInt = 1) (by omega) (by omega)
  refine va_sld hx hb hXs hbl hbA hS (i := x_5) (vp_in_iff.mpr (by omega)) dL_law_531 ?_
  refine lv_topi (fun x_6 ex_6 => ?_)
  refine k_iW (k_VW (n := 1) ⟨hx, hb, hml, hown, hT⟩ hK hP hD (lift_r (X' := nX) (wr := wX g u_4) (mL_heir l g H.size v hv x_6) (fun _ _ _ _ _ _ => trivial)) (gV bw_1500 bw_1501 bw_1502 bw_840 bw_939) rfl rfl (by decide +kernel) ⟨by decide, by decide⟩ (ci := 12) rfl (List.mem_append_right _ List.mem_cons_self) (fun _ _ _ _ _ => trivial) (fun _ _ _ => trivial) rfl rfl hl.1 (Nat.le_of_ble_eq_true rfl) dL_law_532 ⟨by decide, by decide⟩) hD hS hA (fun r_7 v_8 H locs hw hP hD hS => ?_)
  obtain ⟨hv_8, hev_8, htv_8⟩ := hw
  have hl : lv_has ls 4 [(3, .int i), (2, .ref (v_8.1 0)), (1, .ref (u_4.1 0)), (0, .ref b)] := by rw [hev_8]; exact hl
  refine lv_pop hx hb dL_law_535 rfl ?_
  refine lv_goto (tgt := 1217) hx hb dL_law_536 (by decide) ?_
  obtain ⟨x_9, ex_9⟩ : ∃ y : Int32, y = i + 6 := ⟨_, rfl⟩
  have fx_9 : x_9.toInt = i.toInt + 6 := by rw [ex_9]; exact I_add rfl (by decide) (by omega) (by omega)
  refine lv_iinc (v := x_9) (lv' := [(3, .int x_9), (2, .ref (v_8.1 0)), (1, .ref (u_4.1 0)), (0, .ref b)]) hx hb dL_law_1217 hl (k := 0) rfl (by rw [ex_9]; rfl) (by decide) rfl (fun ls hl => ?_)
  refine lv_goto (tgt := 18) hx hb dL_law_1220 (by decide) ?_
  exact ih (n - 1) (by omega) H locs ls ⟨u_4, v_8, x_9, hu_4, hv_8, (htu_4.trans (htt.trans htv_8.symm)), by omega, by omega, hP, hD, hS, lv_sub hl [0, 1, 2, 3] rfl⟩

set_option maxHeartbeats 40000000 in
set_option maxRecDepth 100000 in
theorem law_c11 {p : Program} {e : Env} {s : State} {m : MethodId} {below : List Frame} {meth : Method} {c : Code} (l : Launch) {b L : Nat} {xs : Nat → Int32} (hL : L ≤ 3072) (C0 : lw_At p s m meth c b L xs) {g : GG} {aW : Nat} {fw : Nat → Int32} {A : Nat → Prop} (hK : kE g s) (hX2 : sE g.2.2.2.2.2.2.2 11 aW fw A s s.heap) (hAe : A = fun q : Nat => s.heap.size ≤ q) {u : XRec} {v : MRec} {H : Heap} {locs : List Loc} {ls : Array Slot} (hu : XOk u) (hv : MOk v) (htt : (u.2.1 35) = (v.2.1 32)) {i : Int32} {n : Nat} (hi0 : 0 ≤ i.toInt ∧ i.toInt ≤ 3072) (hm : 3072 - i.toInt ≤ (n : Int)) (hil : i.toInt + 6 ≤ (L : Int)) (hP : va_P g.1 vwCl (wX g u ++ wM g v) H) (hD : va_D A (wX g u ++ wM g v)) (hS : va_S A s.heap H locs) (hl : lv_has ls 4 [(3, .int i), (2, .ref (v.1 0)), (1, .ref (u.1 0)), (0, .ref b)]) (ih : ∀ n', n' < n → ∀ (H : Heap) (locs : List Loc) (ls : Array Slot), LI g A s b n' H locs ls → W p l e room_1 s m #[Value.ref b] below meth c H locs 476 78636 (lw_Z below #[Value.ref b] s) (F0 m 18 ls [])) : W p l e room_1 s m #[Value.ref b] below meth c H locs 476 78636 (lw_Z below #[Value.ref b] s) (F0 m 539 ls []) := by
  obtain ⟨hx, hb, hr, hml, hown, hts, hXs, hbl, hlocks, hgv⟩ := id C0
  have hT : ∀ w ∈ gT, w.before #[Value.ref b] s = true := fun w h => hts w (List.mem_filter.mp h).1
  have hown : s.vm.findClass RL = some m.cls := hown
  have hA : ∀ q : Nat, s.heap.size ≤ q → A q := by rw [hAe]; exact fun _ h => h
  have hbA : ¬ A b := by rw [hAe]; exact Nat.not_le.mpr hbl
  refine lv_aload_n hx hb dL_law_539 rfl (lv_at hl 2 rfl) ?_
  refine lv_aload_n hx hb dL_law_540 rfl (lv_at hl 3 rfl) ?_
  refine lv_iload_n hx hb dL_law_541 rfl (lv_at hl 0 rfl) ?_
  refine lv_iconst (v := 1) hx hb dL_law_542 (by decide) ?_
  refine lv_iadd hx hb dL_law_543 ?_
  refine lv_topi (fun x_1 ex_1 => ?_)
  have fx_1 : x_1.toInt = i.toInt + 1 := by rw [ex_1]; exact I_add rfl (by decide : (1 : Int32).toInt = 1) (by omega) (by omega)
  refine va_sld hx hb hXs hbl hbA hS (i := x_1) (vp_in_iff.mpr (by omega)) dL_law_544 ?_
  refine lv_topi (fun x_2 ex_2 => ?_)
  refine k_iW (k_VW (n := 1) ⟨hx, hb, hml, hown, hT⟩ hK hP hD (lift_l (X' := nX) (wr := wM g v) (xL_his l g H.size u hu x_2) (fun _ _ _ _ _ _ => trivial)) (gV bw_1503 bw_1504 bw_1505 bw_395 bw_345) rfl rfl (by decide +kernel) ⟨by decide, by decide⟩ (ci := 11) rfl (List.mem_append_left _ (List.mem_append_left _ List.mem_cons_self)) (fun _ _ _ _ _ => trivial) (fun _ _ _ => trivial) rfl rfl hl.1 (Nat.le_of_ble_eq_true rfl) dL_law_545 ⟨by decide, by decide⟩) hD hS hA (fun r_3 u_4 H locs hw hP hD hS => ?_)
  obtain ⟨hu_4, heu_4, htu_4⟩ := hw
  have hl : lv_has ls 4 [(3, .int i), (2, .ref (v.1 0)), (1, .ref (u_4.1 0)), (0, .ref b)] := by rw [heu_4]; exact hl
  refine lv_pop hx hb dL_law_548 rfl ?_
  refine lv_aload_n hx hb dL_law_549 rfl (lv_at hl 1 rfl) ?_
  refine lv_aload_n hx hb dL_law_550 rfl (lv_at hl 3 rfl) ?_
  refine lv_iload_n hx hb dL_law_551 rfl (lv_at hl 0 rfl) ?_
  refine lv_iconst (v := 1) hx hb dL_law_552 (by decide) ?_
  refine lv_iadd hx hb dL_law_553 ?_
  refine lv_topi (fun x_5 ex_5 => ?_)
  have fx_5 : x_5.toInt = i.toInt + 1 := by rw [ex_5]; exact I_add rfl (by decide : (1 : Int32).toInt = 1) (by omega) (by omega)
  refine va_sld hx hb hXs hbl hbA hS (i := x_5) (vp_in_iff.mpr (by omega)) dL_law_554 ?_
  refine lv_topi (fun x_6 ex_6 => ?_)
  refine k_iW (k_VW (n := 1) ⟨hx, hb, hml, hown, hT⟩ hK hP hD (lift_r (X' := nX) (wr := wX g u_4) (mL_his l g H.size v hv x_6) (fun _ _ _ _ _ _ => trivial)) (gV bw_1506 bw_1507 bw_1508 bw_840 bw_948) rfl rfl (by decide +kernel) ⟨by decide, by decide⟩ (ci := 12) rfl (List.mem_append_right _ List.mem_cons_self) (fun _ _ _ _ _ => trivial) (fun _ _ _ => trivial) rfl rfl hl.1 (Nat.le_of_ble_eq_true rfl) dL_law_555 ⟨by decide, by decide⟩) hD hS hA (fun r_7 v_8 H locs hw hP hD hS => ?_)
  obtain ⟨hv_8, hev_8, htv_8⟩ := hw
  have hl : lv_has ls 4 [(3, .int i), (2, .ref (v_8.1 0)), (1, .ref (u_4.1 0)), (0, .ref b)] := by rw [hev_8]; exact hl
  refine lv_pop hx hb dL_law_558 rfl ?_
  refine lv_goto (tgt := 1217) hx hb dL_law_559 (by decide) ?_
  obtain ⟨x_9, ex_9⟩ : ∃ y : Int32, y = i + 6 := ⟨_, rfl⟩
  have fx_9 : x_9.toInt = i.toInt + 6 := by rw [ex_9]; exact I_add rfl (by decide) (by omega) (by omega)
  refine lv_iinc (v := x_9) (lv' := [(3, .int x_9), (2, .ref (v_8.1 0)), (1, .ref (u_4.1 0)), (0, .ref b)]) hx hb dL_law_1217 hl (k := 0) rfl (by rw [ex_9]; rfl) (by decide) rfl (fun ls hl => ?_)
  refine lv_goto (tgt := 18) hx hb dL_law_1220 (by decide) ?_
  exact ih (n - 1) (by omega) H locs ls ⟨u_4, v_8, x_9, hu_4, hv_8, (htu_4.trans (htt.trans htv_8.symm)), by omega, by omega, hP, hD, hS, lv_sub hl [0, 1, 2, 3] rfl⟩

set_option maxHeartbeats 40000000 in
set_option maxRecDepth 100000 in
theorem law_c12 {p : Program} {e : Env} {s : State} {m : MethodId} {below : List Frame} {meth : Method} {c : Code} (l : Launch) {b L : Nat} {xs : Nat → Int32} (hL : L ≤ 3072) (C0 : lw_At p s m meth c b L xs) {g : GG} {aW : Nat} {fw : Nat → Int32} {A : Nat → Prop} (hK : kE g s) (hX2 : sE g.2.2.2.2.2.2.2 11 aW fw A s s.heap) (hAe : A = fun q : Nat => s.heap.size ≤ q) {u : XRec} {v : MRec} {H : Heap} {locs : List Loc} {ls : Array Slot} (hu : XOk u) (hv : MOk v) (htt : (u.2.1 35) = (v.2.1 32)) {i : Int32} {n : Nat} (hi0 : 0 ≤ i.toInt ∧ i.toInt ≤ 3072) (hm : 3072 - i.toInt ≤ (n : Int)) (hil : i.toInt + 6 ≤ (L : Int)) (hP : va_P g.1 vwCl (wX g u ++ wM g v) H) (hD : va_D A (wX g u ++ wM g v)) (hS : va_S A s.heap H locs) (hl : lv_has ls 4 [(3, .int i), (2, .ref (v.1 0)), (1, .ref (u.1 0)), (0, .ref b)]) (ih : ∀ n', n' < n → ∀ (H : Heap) (locs : List Loc) (ls : Array Slot), LI g A s b n' H locs ls → W p l e room_1 s m #[Value.ref b] below meth c H locs 476 78636 (lw_Z below #[Value.ref b] s) (F0 m 18 ls [])) : W p l e room_1 s m #[Value.ref b] below meth c H locs 476 78636 (lw_Z below #[Value.ref b] s) (F0 m 562 ls []) := by
  obtain ⟨hx, hb, hr, hml, hown, hts, hXs, hbl, hlocks, hgv⟩ := id C0
  have hT : ∀ w ∈ gT, w.before #[Value.ref b] s = true := fun w h => hts w (List.mem_filter.mp h).1
  have hown : s.vm.findClass RL = some m.cls := hown
  have hA : ∀ q : Nat, s.heap.size ≤ q → A q := by rw [hAe]; exact fun _ h => h
  have hbA : ¬ A b := by rw [hAe]; exact Nat.not_le.mpr hbl
  refine lv_aload_n hx hb dL_law_562 rfl (lv_at hl 2 rfl) ?_
  refine lv_aload_n hx hb dL_law_563 rfl (lv_at hl 3 rfl) ?_
  refine lv_iload_n hx hb dL_law_564 rfl (lv_at hl 0 rfl) ?_
  refine lv_iconst (v := 1) hx hb dL_law_565 (by decide) ?_
  refine lv_iadd hx hb dL_law_566 ?_
  refine lv_topi (fun x_1 ex_1 => ?_)
  have fx_1 : x_1.toInt = i.toInt + 1 := by rw [ex_1]; exact I_add rfl (by decide : (1 : Int32).toInt = 1) (by omega) (by omega)
  refine va_sld hx hb hXs hbl hbA hS (i := x_1) (vp_in_iff.mpr (by omega)) dL_law_567 ?_
  refine lv_topi (fun x_2 ex_2 => ?_)
  refine lv_aload_n hx hb dL_law_568 rfl (lv_at hl 3 rfl) ?_
  refine lv_iload_n hx hb dL_law_569 rfl (lv_at hl 0 rfl) ?_
  refine lv_iconst (v := 2) hx hb dL_law_570 (by decide) ?_
  refine lv_iadd hx hb dL_law_571 ?_
  refine lv_topi (fun x_3 ex_3 => ?_)
  have fx_3 : x_3.toInt = i.toInt + 2 := by rw [ex_3]; exact I_add rfl (by decide : (2 : Int32).toInt = 2) (by omega) (by omega)
  refine va_sld hx hb hXs hbl hbA hS (i := x_3) (vp_in_iff.mpr (by omega)) dL_law_572 ?_
  refine lv_topi (fun x_4 ex_4 => ?_)
  refine k_iW (k_VW (n := 2) ⟨hx, hb, hml, hown, hT⟩ hK hP hD (lift_l (X' := nX) (wr := wM g v) (xL_comes l g H.size u hu x_2 x_4) (fun _ _ _ _ _ _ => trivial)) (gV bw_1509 bw_1510 bw_1511 bw_395 bw_364) rfl rfl (by decide +kernel) ⟨by decide, by decide⟩ (ci := 11) rfl (List.mem_append_left _ (List.mem_append_left _ List.mem_cons_self)) (fun _ _ _ _ _ => trivial) (fun _ _ _ => trivial) rfl rfl hl.1 (Nat.le_of_ble_eq_true rfl) dL_law_573 ⟨by decide, by decide⟩) hD hS hA (fun r_5 u_6 H locs hw hP hD hS => ?_)
  obtain ⟨hu_6, heu_6, htu_6⟩ := hw
  have hl : lv_has ls 4 [(3, .int i), (2, .ref (v.1 0)), (1, .ref (u_6.1 0)), (0, .ref b)] := by rw [heu_6]; exact hl
  refine lv_pop hx hb dL_law_576 rfl ?_
  refine lv_aload_n hx hb dL_law_577 rfl (lv_at hl 1 rfl) ?_
  refine lv_aload_n hx hb dL_law_578 rfl (lv_at hl 3 rfl) ?_
  refine lv_iload_n hx hb dL_law_579 rfl (lv_at hl 0 rfl) ?_
  refine lv_iconst (v := 1) hx hb dL_law_580 (by decide) ?_
  refine lv_iadd hx hb dL_law_581 ?_
  refine lv_topi (fun x_7 ex_7 => ?_)
  have fx_7 : x_7.toInt = i.toInt + 1 := by rw [ex_7]; exact I_add rfl (by decide : (1 : Int32).toInt = 1) (by omega) (by omega)
  refine va_sld hx hb hXs hbl hbA hS (i := x_7) (vp_in_iff.mpr (by omega)) dL_law_582 ?_
  refine lv_topi (fun x_8 ex_8 => ?_)
  refine lv_aload_n hx hb dL_law_583 rfl (lv_at hl 3 rfl) ?_
  refine lv_iload_n hx hb dL_law_584 rfl (lv_at hl 0 rfl) ?_
  refine lv_iconst (v := 2) hx hb dL_law_585 (by decide) ?_
  refine lv_iadd hx hb dL_law_586 ?_
  refine lv_topi (fun x_9 ex_9 => ?_)
  have fx_9 : x_9.toInt = i.toInt + 2 := by rw [ex_9]; exact I_add rfl (by decide : (2 : Int32).toInt = 2) (by omega) (by omega)
  refine va_sld hx hb hXs hbl hbA hS (i := x_9) (vp_in_iff.mpr (by omega)) dL_law_587 ?_
  refine lv_topi (fun x_10 ex_10 => ?_)
  refine k_iW (k_VW (n := 2) ⟨hx, hb, hml, hown, hT⟩ hK hP hD (lift_r (X' := nX) (wr := wX g u_6) (mL_comes l g H.size v hv x_8 x_10) (fun _ _ _ _ _ _ => trivial)) (gV bw_1512 bw_1513 bw_1514 bw_840 bw_967) rfl rfl (by decide +kernel) ⟨by decide, by decide⟩ (ci := 12) rfl (List.mem_append_right _ List.mem_cons_self) (fun _ _ _ _ _ => trivial) (fun _ _ _ => trivial) rfl rfl hl.1 (Nat.le_of_ble_eq_true rfl) dL_law_588 ⟨by decide, by decide⟩) hD hS hA (fun r_11 v_12 H locs hw hP hD hS => ?_)
  obtain ⟨hv_12, hev_12, htv_12⟩ := hw
  have hl : lv_has ls 4 [(3, .int i), (2, .ref (v_12.1 0)), (1, .ref (u_6.1 0)), (0, .ref b)] := by rw [hev_12]; exact hl
  refine lv_pop hx hb dL_law_591 rfl ?_
  refine lv_goto (tgt := 1217) hx hb dL_law_592 (by decide) ?_
  obtain ⟨x_13, ex_13⟩ : ∃ y : Int32, y = i + 6 := ⟨_, rfl⟩
  have fx_13 : x_13.toInt = i.toInt + 6 := by rw [ex_13]; exact I_add rfl (by decide) (by omega) (by omega)
  refine lv_iinc (v := x_13) (lv' := [(3, .int x_13), (2, .ref (v_12.1 0)), (1, .ref (u_6.1 0)), (0, .ref b)]) hx hb dL_law_1217 hl (k := 0) rfl (by rw [ex_13]; rfl) (by decide) rfl (fun ls hl => ?_)
  refine lv_goto (tgt := 18) hx hb dL_law_1220 (by decide) ?_
  exact ih (n - 1) (by omega) H locs ls ⟨u_6, v_12, x_13, hu_6, hv_12, (htu_6.trans (htt.trans htv_12.symm)), by omega, by omega, hP, hD, hS, lv_sub hl [0, 1, 2, 3] rfl⟩

set_option maxHeartbeats 40000000 in
set_option maxRecDepth 100000 in
theorem law_c13 {p : Program} {e : Env} {s : State} {m : MethodId} {below : List Frame} {meth : Method} {c : Code} (l : Launch) {b L : Nat} {xs : Nat → Int32} (hL : L ≤ 3072) (C0 : lw_At p s m meth c b L xs) {g : GG} {aW : Nat} {fw : Nat → Int32} {A : Nat → Prop} (hK : kE g s) (hX2 : sE g.2.2.2.2.2.2.2 11 aW fw A s s.heap) (hAe : A = fun q : Nat => s.heap.size ≤ q) {u : XRec} {v : MRec} {H : Heap} {locs : List Loc} {ls : Array Slot} (hu : XOk u) (hv : MOk v) (htt : (u.2.1 35) = (v.2.1 32)) {i : Int32} {n : Nat} (hi0 : 0 ≤ i.toInt ∧ i.toInt ≤ 3072) (hm : 3072 - i.toInt ≤ (n : Int)) (hil : i.toInt + 6 ≤ (L : Int)) (hP : va_P g.1 vwCl (wX g u ++ wM g v) H) (hD : va_D A (wX g u ++ wM g v)) (hS : va_S A s.heap H locs) (hl : lv_has ls 4 [(3, .int i), (2, .ref (v.1 0)), (1, .ref (u.1 0)), (0, .ref b)]) (ih : ∀ n', n' < n → ∀ (H : Heap) (locs : List Loc) (ls : Array Slot), LI g A s b n' H locs ls → W p l e room_1 s m #[Value.ref b] below meth c H locs 476 78636 (lw_Z below #[Value.ref b] s) (F0 m 18 ls [])) : W p l e room_1 s m #[Value.ref b] below meth c H locs 476 78636 (lw_Z below #[Value.ref b] s) (F0 m 595 ls []) := by
  obtain ⟨hx, hb, hr, hml, hown, hts, hXs, hbl, hlocks, hgv⟩ := id C0
  have hT : ∀ w ∈ gT, w.before #[Value.ref b] s = true := fun w h => hts w (List.mem_filter.mp h).1
  have hown : s.vm.findClass RL = some m.cls := hown
  have hA : ∀ q : Nat, s.heap.size ≤ q → A q := by rw [hAe]; exact fun _ h => h
  have hbA : ¬ A b := by rw [hAe]; exact Nat.not_le.mpr hbl
  refine lv_aload_n hx hb dL_law_595 rfl (lv_at hl 2 rfl) ?_
  refine lv_aload_n hx hb dL_law_596 rfl (lv_at hl 3 rfl) ?_
  refine lv_iload_n hx hb dL_law_597 rfl (lv_at hl 0 rfl) ?_
  refine lv_iconst (v := 1) hx hb dL_law_598 (by decide) ?_
  refine lv_iadd hx hb dL_law_599 ?_
  refine lv_topi (fun x_1 ex_1 => ?_)
  have fx_1 : x_1.toInt = i.toInt + 1 := by rw [ex_1]; exact I_add rfl (by decide : (1 : Int32).toInt = 1) (by omega) (by omega)
  refine va_sld hx hb hXs hbl hbA hS (i := x_1) (vp_in_iff.mpr (by omega)) dL_law_600 ?_
  refine lv_topi (fun x_2 ex_2 => ?_)
  refine lv_aload_n hx hb dL_law_601 rfl (lv_at hl 3 rfl) ?_
  refine lv_iload_n hx hb dL_law_602 rfl (lv_at hl 0 rfl) ?_
  refine lv_iconst (v := 2) hx hb dL_law_603 (by decide) ?_
  refine lv_iadd hx hb dL_law_604 ?_
  refine lv_topi (fun x_3 ex_3 => ?_)
  have fx_3 : x_3.toInt = i.toInt + 2 := by rw [ex_3]; exact I_add rfl (by decide : (2 : Int32).toInt = 2) (by omega) (by omega)
  refine va_sld hx hb hXs hbl hbA hS (i := x_3) (vp_in_iff.mpr (by omega)) dL_law_605 ?_
  refine lv_topi (fun x_4 ex_4 => ?_)
  refine lv_aload_n hx hb dL_law_606 rfl (lv_at hl 3 rfl) ?_
  refine lv_iload_n hx hb dL_law_607 rfl (lv_at hl 0 rfl) ?_
  refine lv_iconst (v := 3) hx hb dL_law_608 (by decide) ?_
  refine lv_iadd hx hb dL_law_609 ?_
  refine lv_topi (fun x_5 ex_5 => ?_)
  have fx_5 : x_5.toInt = i.toInt + 3 := by rw [ex_5]; exact I_add rfl (by decide : (3 : Int32).toInt = 3) (by omega) (by omega)
  refine va_sld hx hb hXs hbl hbA hS (i := x_5) (vp_in_iff.mpr (by omega)) dL_law_610 ?_
  refine lv_topi (fun x_6 ex_6 => ?_)
  rcases (show (u.2.1 1).toInt ≤ 39 ∨ (u.2.1 1).toInt = 40 by have q9 := hu.2.1; omega) with hcc | hcc
  · refine k_iW (k_VW (n := 3) ⟨hx, hb, hml, hown, hT⟩ hK hP hD (lift_l (X' := nX) (wr := wM g v) (xL_put_l l g H.size u hu x_2 x_4 x_6 hcc) (fun _ _ _ _ _ _ => trivial)) (gV bw_1515 bw_1516 bw_1517 bw_395 bw_510) rfl rfl (by decide +kernel) ⟨by decide, by decide⟩ (ci := 11) rfl (List.mem_append_left _ (List.mem_append_left _ List.mem_cons_self)) (fun _ _ _ _ _ => trivial) (fun _ _ _ => trivial) rfl rfl hl.1 (Nat.le_of_ble_eq_true rfl) dL_law_611 ⟨by decide, by decide⟩) hD hS hA (fun r_7 u_8 H locs hw hP hD hS => ?_)
    obtain ⟨hu_8, heu_8, htu_8⟩ := hw
    have hl : lv_has ls 4 [(3, .int i), (2, .ref (v.1 0)), (1, .ref (u_8.1 0)), (0, .ref b)] := by rw [heu_8]; exact hl
    refine lv_pop hx hb dL_law_614 rfl ?_
    refine lv_aload_n hx hb dL_law_615 rfl (lv_at hl 1 rfl) ?_
    refine lv_aload_n hx hb dL_law_616 rfl (lv_at hl 3 rfl) ?_
    refine lv_iload_n hx hb dL_law_617 rfl (lv_at hl 0 rfl) ?_
    refine lv_iconst (v := 1) hx hb dL_law_618 (by decide) ?_
    refine lv_iadd hx hb dL_law_619 ?_
    refine lv_topi (fun x_9 ex_9 => ?_)
    have fx_9 : x_9.toInt = i.toInt + 1 := by rw [ex_9]; exact I_add rfl (by decide : (1 : Int32).toInt = 1) (by omega) (by omega)
    refine va_sld hx hb hXs hbl hbA hS (i := x_9) (vp_in_iff.mpr (by omega)) dL_law_620 ?_
    refine lv_topi (fun x_10 ex_10 => ?_)
    refine lv_aload_n hx hb dL_law_621 rfl (lv_at hl 3 rfl) ?_
    refine lv_iload_n hx hb dL_law_622 rfl (lv_at hl 0 rfl) ?_
    refine lv_iconst (v := 2) hx hb dL_law_623 (by decide) ?_
    refine lv_iadd hx hb dL_law_624 ?_
    refine lv_topi (fun x_11 ex_11 => ?_)
    have fx_11 : x_11.toInt = i.toInt + 2 := by rw [ex_11]; exact I_add rfl (by decide : (2 : Int32).toInt = 2) (by omega) (by omega)
    refine va_sld hx hb hXs hbl hbA hS (i := x_11) (vp_in_iff.mpr (by omega)) dL_law_625 ?_
    refine lv_topi (fun x_12 ex_12 => ?_)
    refine lv_aload_n hx hb dL_law_626 rfl (lv_at hl 3 rfl) ?_
    refine lv_iload_n hx hb dL_law_627 rfl (lv_at hl 0 rfl) ?_
    refine lv_iconst (v := 3) hx hb dL_law_628 (by decide) ?_
    refine lv_iadd hx hb dL_law_629 ?_
    refine lv_topi (fun x_13 ex_13 => ?_)
    have fx_13 : x_13.toInt = i.toInt + 3 := by rw [ex_13]; exact I_add rfl (by decide : (3 : Int32).toInt = 3) (by omega) (by omega)
    refine va_sld hx hb hXs hbl hbA hS (i := x_13) (vp_in_iff.mpr (by omega)) dL_law_630 ?_
    refine lv_topi (fun x_14 ex_14 => ?_)
    refine k_iW (k_VW (n := 3) ⟨hx, hb, hml, hown, hT⟩ hK hP hD (lift_r (X' := nX) (wr := wX g u_8) (mL_put l g H.size v hv x_10 x_12 x_14) (fun _ _ _ _ _ _ => trivial)) (gV bw_1518 bw_1519 bw_1520 bw_840 bw_989) rfl rfl (by decide +kernel) ⟨by decide, by decide⟩ (ci := 12) rfl (List.mem_append_right _ List.mem_cons_self) (fun _ _ _ _ _ => trivial) (fun _ _ _ => trivial) rfl rfl hl.1 (Nat.le_of_ble_eq_true rfl) dL_law_631 ⟨by decide, by decide⟩) hD hS hA (fun r_15 v_16 H locs hw hP hD hS => ?_)
    obtain ⟨hv_16, hev_16, htv_16⟩ := hw
    have hl : lv_has ls 4 [(3, .int i), (2, .ref (v_16.1 0)), (1, .ref (u_8.1 0)), (0, .ref b)] := by rw [hev_16]; exact hl
    refine lv_pop hx hb dL_law_634 rfl ?_
    refine lv_goto (tgt := 1217) hx hb dL_law_635 (by decide) ?_
    obtain ⟨x_17, ex_17⟩ : ∃ y : Int32, y = i + 6 := ⟨_, rfl⟩
    have fx_17 : x_17.toInt = i.toInt + 6 := by rw [ex_17]; exact I_add rfl (by decide) (by omega) (by omega)
    refine lv_iinc (v := x_17) (lv' := [(3, .int x_17), (2, .ref (v_16.1 0)), (1, .ref (u_8.1 0)), (0, .ref b)]) hx hb dL_law_1217 hl (k := 0) rfl (by rw [ex_17]; rfl) (by decide) rfl (fun ls hl => ?_)
    refine lv_goto (tgt := 18) hx hb dL_law_1220 (by decide) ?_
    exact ih (n - 1) (by omega) H locs ls ⟨u_8, v_16, x_17, hu_8, hv_16, (htu_8.trans (htt.trans htv_16.symm)), by omega, by omega, hP, hD, hS, lv_sub hl [0, 1, 2, 3] rfl⟩
  · refine k_iW (k_VW (n := 3) ⟨hx, hb, hml, hown, hT⟩ hK hP hD (lift_l (X' := nX) (wr := wM g v) (xL_put_h l g H.size u hu x_2 x_4 x_6 hcc) (fun _ _ _ _ _ _ => trivial)) (gV bw_1515 bw_1516 bw_1517 bw_395 bw_510) rfl rfl (by decide +kernel) ⟨by decide, by decide⟩ (ci := 11) rfl (List.mem_append_left _ (List.mem_append_left _ List.mem_cons_self)) (fun _ _ _ _ _ => trivial) (fun _ _ _ => trivial) rfl rfl hl.1 (Nat.le_of_ble_eq_true rfl) dL_law_611 ⟨by decide, by decide⟩) hD hS hA (fun r_18 u_19 H locs hw hP hD hS => ?_)
    obtain ⟨hu_19, heu_19, htu_19⟩ := hw
    have hl : lv_has ls 4 [(3, .int i), (2, .ref (v.1 0)), (1, .ref (u_19.1 0)), (0, .ref b)] := by rw [heu_19]; exact hl
    refine lv_pop hx hb dL_law_614 rfl ?_
    refine lv_aload_n hx hb dL_law_615 rfl (lv_at hl 1 rfl) ?_
    refine lv_aload_n hx hb dL_law_616 rfl (lv_at hl 3 rfl) ?_
    refine lv_iload_n hx hb dL_law_617 rfl (lv_at hl 0 rfl) ?_
    refine lv_iconst (v := 1) hx hb dL_law_618 (by decide) ?_
    refine lv_iadd hx hb dL_law_619 ?_
    refine lv_topi (fun x_20 ex_20 => ?_)
    have fx_20 : x_20.toInt = i.toInt + 1 := by rw [ex_20]; exact I_add rfl (by decide : (1 : Int32).toInt = 1) (by omega) (by omega)
    refine va_sld hx hb hXs hbl hbA hS (i := x_20) (vp_in_iff.mpr (by omega)) dL_law_620 ?_
    refine lv_topi (fun x_21 ex_21 => ?_)
    refine lv_aload_n hx hb dL_law_621 rfl (lv_at hl 3 rfl) ?_
    refine lv_iload_n hx hb dL_law_622 rfl (lv_at hl 0 rfl) ?_
    refine lv_iconst (v := 2) hx hb dL_law_623 (by decide) ?_
    refine lv_iadd hx hb dL_law_624 ?_
    refine lv_topi (fun x_22 ex_22 => ?_)
    have fx_22 : x_22.toInt = i.toInt + 2 := by rw [ex_22]; exact I_add rfl (by decide : (2 : Int32).toInt = 2) (by omega) (by omega)
    refine va_sld hx hb hXs hbl hbA hS (i := x_22) (vp_in_iff.mpr (by omega)) dL_law_625 ?_
    refine lv_topi (fun x_23 ex_23 => ?_)
    refine lv_aload_n hx hb dL_law_626 rfl (lv_at hl 3 rfl) ?_
    refine lv_iload_n hx hb dL_law_627 rfl (lv_at hl 0 rfl) ?_
    refine lv_iconst (v := 3) hx hb dL_law_628 (by decide) ?_
    refine lv_iadd hx hb dL_law_629 ?_
    refine lv_topi (fun x_24 ex_24 => ?_)
    have fx_24 : x_24.toInt = i.toInt + 3 := by rw [ex_24]; exact I_add rfl (by decide : (3 : Int32).toInt = 3) (by omega) (by omega)
    refine va_sld hx hb hXs hbl hbA hS (i := x_24) (vp_in_iff.mpr (by omega)) dL_law_630 ?_
    refine lv_topi (fun x_25 ex_25 => ?_)
    refine k_iW (k_VW (n := 3) ⟨hx, hb, hml, hown, hT⟩ hK hP hD (lift_r (X' := nX) (wr := wX g u_19) (mL_put l g H.size v hv x_21 x_23 x_25) (fun _ _ _ _ _ _ => trivial)) (gV bw_1518 bw_1519 bw_1520 bw_840 bw_989) rfl rfl (by decide +kernel) ⟨by decide, by decide⟩ (ci := 12) rfl (List.mem_append_right _ List.mem_cons_self) (fun _ _ _ _ _ => trivial) (fun _ _ _ => trivial) rfl rfl hl.1 (Nat.le_of_ble_eq_true rfl) dL_law_631 ⟨by decide, by decide⟩) hD hS hA (fun r_26 v_27 H locs hw hP hD hS => ?_)
    obtain ⟨hv_27, hev_27, htv_27⟩ := hw
    have hl : lv_has ls 4 [(3, .int i), (2, .ref (v_27.1 0)), (1, .ref (u_19.1 0)), (0, .ref b)] := by rw [hev_27]; exact hl
    refine lv_pop hx hb dL_law_634 rfl ?_
    refine lv_goto (tgt := 1217) hx hb dL_law_635 (by decide) ?_
    obtain ⟨x_28, ex_28⟩ : ∃ y : Int32, y = i + 6 := ⟨_, rfl⟩
    have fx_28 : x_28.toInt = i.toInt + 6 := by rw [ex_28]; exact I_add rfl (by decide) (by omega) (by omega)
    refine lv_iinc (v := x_28) (lv' := [(3, .int x_28), (2, .ref (v_27.1 0)), (1, .ref (u_19.1 0)), (0, .ref b)]) hx hb dL_law_1217 hl (k := 0) rfl (by rw [ex_28]; rfl) (by decide) rfl (fun ls hl => ?_)
    refine lv_goto (tgt := 18) hx hb dL_law_1220 (by decide) ?_
    exact ih (n - 1) (by omega) H locs ls ⟨u_19, v_27, x_28, hu_19, hv_27, (htu_19.trans (htt.trans htv_27.symm)), by omega, by omega, hP, hD, hS, lv_sub hl [0, 1, 2, 3] rfl⟩
