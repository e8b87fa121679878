set_option maxHeartbeats 40000000 in
set_option maxRecDepth 100000 in
/-- THE LAW, from its entry -/
theorem whole_start {p : Program} {e : Env} {s : State} {m : MethodId} {below : List Frame} {meth : Method} {c : Code} (l : Launch) {b L : Nat} {xs : Nat → Int32} (hL : L ≤ 3072) (C0 : lw_At p s m meth c b L xs) : W p l e room_1 s m #[Value.ref b] below meth c s.heap [] 0 0 (lw_Z below #[Value.ref b] s) (entryFrame m ([Value.ref b] : List Value).toArray 4) := by
  obtain ⟨g, aV, fb, aW, fw, hK, hX, hX2⟩ := law_env C0
  obtain ⟨hx, hb, hr, hml, hown, hts, hXs, hbl, hlocks, hgv⟩ := id C0
  have hT : ∀ w ∈ gT, w.before #[Value.ref b] s = true := fun w h => hts w (List.mem_filter.mp h).1
  have hown : s.vm.findClass RL = some m.cls := hown
  generalize hAe : (fun q : Nat => s.heap.size ≤ q) = A at hX hX2
  have hAe := hAe.symm
  have hA : ∀ q : Nat, s.heap.size ≤ q → A q := by rw [hAe]; exact fun _ h => h
  have hbA : ¬ A b := by rw [hAe]; exact Nat.not_le.mpr hbl
  have hS : va_S A s.heap s.heap [] := va_S.rf
  have hl := lv_entry ([.ref b]) (n := 4) (Nat.le_of_ble_eq_true rfl)
  rw [lg_entry_eq]
  generalize (lg_sl ([.ref b]) ++ List.replicate (4 - (lg_sl ([.ref b])).length) Slot.unset).toArray = ls at hl ⊢
  have hl : lv_has ls 4 [(0, .ref b)] := hl
  refine p_nH (fun H hH => ?_)
  have hS : va_S A s.heap H [] := by rw [hH]; exact hS
  have hP : va_P g.1 vwCl [] H := fun k q h => by simp at h
  have hD : va_D A [] := ⟨fun i j p q h => by simp at h, fun k q h => by simp at h⟩
  refine va_new (D := g.1) (ci := 11) (fs := [.null, .int 0, .null, .null, .null, .null, .int 0, .int 0, .null, .int 0, .null, .null, .null, .null]) (C := RX11) (T := TX11) (N := 14) hx hb hT inF_X11 tyX11 tyX11_ok hown (hT _ bw_1431) (hT _ bw_1428) (hT _ bw_395) hK.1 hP hD hS hA rfl (by decide +kernel) (by decide) (by decide) dL_law_0 (fun q_1 H hP hD hS => ?_)
  refine W.widen (k := 1) (n := 14) (by decide) (by decide) ?_
  have hP : va_P g.1 vwCl [(q_1, .inr (11, [.null, .int 0, .null, .null, .null, .null, .int 0, .int 0, .null, .int 0, .null, .null, .null, .null]))] H := hP
  have hD : va_D A [(q_1, .inr (11, [.null, .int 0, .null, .null, .null, .null, .int 0, .int 0, .null, .int 0, .null, .null, .null, .null]))] := hD
  refine lv_dup hx hb dL_law_3 rfl ?_
  refine k_v (wr := []) (k_I (n := 0) ⟨hx, hb, hml, hown, hT⟩ hK hP hD [0] rfl (by decide) (x_init l g H.size q_1 aV fb) (gI bw_1427) bw_1432 bw_1433 bw_1434 rfl rfl rfl (by decide +kernel) ⟨by decide, by decide⟩ sX.calling (sE.go hX hS (va_free (wc := [(q_1, .inr (11, [.null, .int 0, .null, .null, .null, .null, .int 0, .int 0, .null, .int 0, .null, .null, .null, .null]))]) hD hS hA [0] rfl)) rfl rfl hl.1 (Nat.le_of_ble_eq_true rfl) dL_law_4 ⟨by decide, by decide⟩) hP hD hS hA [0] [] rfl rfl (by decide) (by decide) (fun u H locs hw hP hD hS => ?_)
  refine W.widen (k := 422) (n := 26407) (by decide) (by decide) ?_
  obtain ⟨hu, heu, htu⟩ := hw
  have hP : va_P g.1 vwCl (wX g u) H := hP
  have hD : va_D A (wX g u) := hD
  refine p_tr (x := (u.1 0)) (by rw [heu]) ?_
  refine lv_astore_n (lv' := [(1, .ref (u.1 0)), (0, .ref b)]) hx hb dL_law_7 rfl hl (by decide) rfl (fun ls hl => ?_)
  refine va_new (D := g.1) (ci := 12) (fs := [.null, .null, .int 0, .int 0, .int 0, .int 0, .int 0, .int 0, .int 0, .int 0, .long 0, .null, .null, .null, .null, .null, .null, .null, .null, .null, .null, .null, .null, .null, .null, .null, .null, .null, .null, .null, .null, .null, .null, .null, .null, .null, .null, .null, .null, .null, .null, .null, .null, .int 0, .int 0, .int 0, .int 0, .int 0, .int 0, .int 0, .int 0, .int 0, .null, .null, .int 0, .int 0, .null, .null, .null, .null, .null, .null, .null, .null, .null, .null, .int 0, .int 0, .int 0, .int 0, .int 0, .int 0, .int 0, .int 0, .int 0, .int 0, .int 0, .int 0, .null, .null, .null, .null, .null, .int 0, .int 0, .null, .null]) (C := RX12) (T := TX12) (N := 87) hx hb hT inF_X12 tyX12 tyX12_ok hown (hT _ bw_1435) (hT _ bw_1429) (hT _ bw_840) hK.1 hP hD hS hA rfl (by decide +kernel) (by decide) (by decide) dL_law_8 (fun q_2 H hP hD hS => ?_)
  refine W.widen (k := 423) (n := 26494) (by decide) (by decide) ?_
  have hP : va_P g.1 vwCl ([(q_2, .inr (12, [.null, .null, .int 0, .int 0, .int 0, .int 0, .int 0, .int 0, .int 0, .int 0, .long 0, .null, .null, .null, .null, .null, .null, .null, .null, .null, .null, .null, .null, .null, .null, .null, .null, .null, .null, .null, .null, .null, .null, .null, .null, .null, .null, .null, .null, .null, .null, .null, .null, .int 0, .int 0, .int 0, .int 0, .int 0, .int 0, .int 0, .int 0, .int 0, .null, .null, .int 0, .int 0, .null, .null, .null, .null, .null, .null, .null, .null, .null, .null, .int 0, .int 0, .int 0, .int 0, .int 0, .int 0, .int 0, .int 0, .int 0, .int 0, .int 0, .int 0, .null, .null, .null, .null, .null, .int 0, .int 0, .null, .null]))] ++ wX g u) H := P_perm List.perm_append_comm hP
  have hD : va_D A ([(q_2, .inr (12, [.null, .null, .int 0, .int 0, .int 0, .int 0, .int 0, .int 0, .int 0, .int 0, .long 0, .null, .null, .null, .null, .null, .null, .null, .null, .null, .null, .null, .null, .null, .null, .null, .null, .null, .null, .null, .null, .null, .null, .null, .null, .null, .null, .null, .null, .null, .null, .null, .null, .int 0, .int 0, .int 0, .int 0, .int 0, .int 0, .int 0, .int 0, .int 0, .null, .null, .int 0, .int 0, .null, .null, .null, .null, .null, .null, .null, .null, .null, .null, .int 0, .int 0, .int 0, .int 0, .int 0, .int 0, .int 0, .int 0, .int 0, .int 0, .int 0, .int 0, .null, .null, .null, .null, .null, .int 0, .int 0, .null, .null]))] ++ wX g u) := D_perm List.perm_append_comm hD
  refine lv_dup hx hb dL_law_11 rfl ?_
  refine k_vT (T := wX g u) (wr := []) (k_I (n := 0) ⟨hx, hb, hml, hown, hT⟩ hK hP hD [0] rfl (by decide) (m_init l g H.size q_2) (gI bw_1397) bw_1436 bw_1437 bw_1438 rfl rfl rfl (by decide +kernel) ⟨by decide, by decide⟩ (fun _ _ _ _ _ => trivial) (fun _ _ _ => trivial) rfl rfl hl.1 (Nat.le_of_ble_eq_true rfl) dL_law_12 ⟨by decide, by decide⟩) hP hD hS hA [0] [] rfl rfl (by decide) (by decide) (fun v H locs hw hP hD hS => ?_)
  refine W.widen (k := 476) (n := 78636) (by decide) (by decide) ?_
  obtain ⟨hv, hev, htv⟩ := hw
  have hP : va_P g.1 vwCl (wX g u ++ wM g v) H := P_perm List.perm_append_comm hP
  have hD : va_D A (wX g u ++ wM g v) := D_perm List.perm_append_comm hD
  refine p_tr (x := (v.1 0)) (by rw [hev]) ?_
  refine lv_astore_n (lv' := [(2, .ref (v.1 0)), (1, .ref (u.1 0)), (0, .ref b)]) hx hb dL_law_15 rfl hl (by decide) rfl (fun ls hl => ?_)
  refine lv_iconst (v := 0) hx hb dL_law_16 (by decide) ?_
  refine lv_istore_n (lv' := [(3, .int 0), (2, .ref (v.1 0)), (1, .ref (u.1 0)), (0, .ref b)]) hx hb dL_law_17 rfl hl (by decide) rfl (fun ls hl => ?_)
  exact law_loop l hL C0 hK hX2 hAe hu hv (htu.trans htv.symm) hP hD hS hl
