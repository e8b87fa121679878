theorem bw_214 : Cond.code yX11_feedNumber cX11_feedNumber 3 none ∈ gT := gT_tb 571 (by decide +kernel) (by decide +kernel)
theorem dX11_feedNumber_0 : decode cX11_feedNumber 0 = .ok (.bipush 24, 2) := by decide +kernel
theorem dX11_feedNumber_2 : decode cX11_feedNumber 2 = .ok (.istore_n 2, 1) := by decide +kernel
theorem dX11_feedNumber_3 : decode cX11_feedNumber 3 = .ok (.iload_n 2, 1) := by decide +kernel
theorem dX11_feedNumber_4 : decode cX11_feedNumber 4 = .ok (.ifCond .lt 32, 3) := by decide +kernel
theorem dX11_feedNumber_7 : decode cX11_feedNumber 7 = .ok (.aload_n 0, 1) := by decide +kernel
theorem dX11_feedNumber_8 : decode cX11_feedNumber 8 = .ok (.getfield 9, 3) := by decide +kernel
theorem dX11_feedNumber_11 : decode cX11_feedNumber 11 = .ok (.aload_n 0, 1) := by decide +kernel
theorem dX11_feedNumber_12 : decode cX11_feedNumber 12 = .ok (.getfield 72, 3) := by decide +kernel
theorem dX11_feedNumber_15 : decode cX11_feedNumber 15 = .ok (.iload_n 1, 1) := by decide +kernel
theorem dX11_feedNumber_16 : decode cX11_feedNumber 16 = .ok (.iload_n 2, 1) := by decide +kernel
theorem dX11_feedNumber_17 : decode cX11_feedNumber 17 = .ok (.ishr, 1) := by decide +kernel
theorem dX11_feedNumber_18 : decode cX11_feedNumber 18 = .ok (.i2b, 1) := by decide +kernel
theorem dX11_feedNumber_19 : decode cX11_feedNumber 19 = .ok (.bastore, 1) := by decide +kernel
theorem dX11_feedNumber_20 : decode cX11_feedNumber 20 = .ok (.aload_n 0, 1) := by decide +kernel
theorem dX11_feedNumber_21 : decode cX11_feedNumber 21 = .ok (.dup, 1) := by decide +kernel
theorem dX11_feedNumber_22 : decode cX11_feedNumber 22 = .ok (.getfield 72, 3) := by decide +kernel
theorem dX11_feedNumber_25 : decode cX11_feedNumber 25 = .ok (.iconst 1, 1) := by decide +kernel
theorem dX11_feedNumber_26 : decode cX11_feedNumber 26 = .ok (.iadd, 1) := by decide +kernel
theorem dX11_feedNumber_27 : decode cX11_feedNumber 27 = .ok (.putfield 72, 3) := by decide +kernel
theorem dX11_feedNumber_30 : decode cX11_feedNumber 30 = .ok (.iinc 2 (-8), 3) := by decide +kernel
theorem dX11_feedNumber_33 : decode cX11_feedNumber 33 = .ok (.goto (-30), 3) := by decide +kernel
theorem dX11_feedNumber_36 : decode cX11_feedNumber 36 = .ok (.return_, 1) := by decide +kernel
set_option maxHeartbeats 4000000 in
set_option maxRecDepth 100000 in
theorem c_X11_feedNumber_0 (l : Launch) (g : GG) (sz : Nat) (x : Nat) (xt : Nat) (xr : Nat) (la : Nat) (lb : Nat) (sa : Nat) (ba : Nat) (se : Nat) (si : Nat) (pa : Nat) (he : Nat) (ff : Nat → Int32) (p0 : Int32) : Met l yX11_feedNumber (.code yX11_feedNumber cX11_feedNumber 3 none :: gT) ({ frames := 0, cells := 0, slots := 0, locals := 0 }) (va_Pc [.ref x, .int p0] (Pst g sz [(x, .inr (11, [.ref xt, .int 0, .ref xr, .ref la, .ref lb, .ref sa, .int 0, .int 0, .ref ba, .int 0, .ref se, .ref si, .ref pa, .ref he])), (xt, aB g 1600 ff)] nX)) (va_Qv (fun (_ : (Nat → Int32)) => True) (Qst g [(x, .inr (11, [.ref xt, .int 0, .ref xr, .ref la, .ref lb, .ref sa, .int 0, .int 0, .ref ba, .int 0, .ref se, .ref si, .ref pa, .ref he])), (xt, aB g 1600 ff)] sz (fun (f_12 : Nat → Int32) => [(x, .inr (11, [.ref xt, .int 4, .ref xr, .ref la, .ref lb, .ref sa, .int 0, .int 0, .ref ba, .int 0, .ref se, .ref si, .ref pa, .ref he])), (xt, aB g 1600 f_12)])) (va_A [(x, .inr (11, [.ref xt, .int 0, .ref xr, .ref la, .ref lb, .ref sa, .int 0, .int 0, .ref ba, .int 0, .ref se, .ref si, .ref pa, .ref he])), (xt, aB g 1600 ff)] sz)) 0 0 (va_A [(x, .inr (11, [.ref xt, .int 0, .ref xr, .ref la, .ref lb, .ref sa, .int 0, .int 0, .ref ba, .int 0, .ref se, .ref si, .ref pa, .ref he])), (xt, aB g 1600 ff)] sz) := by
  refine Met.ofW (cc := cX11_feedNumber) (maxL := 3) (ret := none) (by decide) rfl ?_
  intro p e s m args below meth c s₁ B hml hv
  obtain ⟨rfl, hsz, hP, hK, hD0, hX⟩ := hv
  have hx := B.exec
  have hb := B.bytes
  have hr := B.returns
  have hT : ∀ w ∈ gT, w.before _ s = true := fun w h => atoms_spec (ws := .code yX11_feedNumber cX11_feedNumber 3 none :: gT) B.pre w (List.mem_cons_of_mem _ h)
  have hown : s.vm.findClass RX11 = some m.cls := findClass_of_methodNamed B.named
  have hlocks := B.notSynchronized
  subst hsz
  have hD := hD0.self (sz := s.heap.size)
  generalize hAe : va_A [(x, .inr (11, [.ref xt, .int 0, .ref xr, .ref la, .ref lb, .ref sa, .int 0, .int 0, .ref ba, .int 0, .ref se, .ref si, .ref pa, .ref he])), (xt, aB g 1600 ff)] s.heap.size = A at hD ⊢
  have hA : ∀ q : Nat, s.heap.size ≤ q → A q := fun q h => by rw [← hAe]; exact Or.inr h
  have hS : va_S A s.heap s.heap [] := va_S.rf
  have hl := lv_entry ([.ref x, .int p0]) (n := 3) (Nat.le_of_ble_eq_true rfl)
  rw [lg_entry_eq]
  generalize (lg_sl ([.ref x, .int p0]) ++ List.replicate (3 - (lg_sl ([.ref x, .int p0])).length) Slot.unset).toArray = ls at hl ⊢
  have hl : lv_has ls 3 [(0, .ref x), (1, .int p0)] := hl
  refine p_nH (fun H hH => ?_)
  have hP : va_P g.1 vwCl [(x, .inr (11, [.ref xt, .int 0, .ref xr, .ref la, .ref lb, .ref sa, .int 0, .int 0, .ref ba, .int 0, .ref se, .ref si, .ref pa, .ref he])), (xt, aB g 1600 ff)] H := by rw [hH]; exact hP
  have hS : va_S A s.heap H [] := by rw [hH]; exact hS
  refine lv_bipush (v := 24) hx hb dX11_feedNumber_0 (by decide) ?_
  refine lv_istore_n (lv' := [(2, .int 24), (0, .ref x), (1, .int p0)]) hx hb dX11_feedNumber_2 rfl hl (by decide) rfl (fun ls hl => ?_)
  refine lv_iload_n hx hb dX11_feedNumber_3 rfl (lv_at hl 0 rfl) ?_
  refine lv_if_lt (tgt := 36) hx hb dX11_feedNumber_4 (by decide) (fun c9 => absurd c9 (by decide)) (fun _ => ?_)
  refine lv_aload_n hx hb dX11_feedNumber_7 rfl (lv_at hl 1 rfl) ?_
  refine va_get (D := g.1) (ci := 11) (v := .ref xt) (C := RX11) (T := TX11) (N := 14) hx hb hT inF_X11 hown hK.1 hP 0 rfl rfl 0 (by decide) (hT _ bw_160) (fun _ h9 => h9) rfl dX11_feedNumber_8 ?_
  refine lv_aload_n hx hb dX11_feedNumber_11 rfl (lv_at hl 1 rfl) ?_
  refine va_get (D := g.1) (ci := 11) (v := .int 0) (C := RX11) (T := TX11) (N := 14) hx hb hT inF_X11 hown hK.1 hP 0 rfl rfl 1 (by decide) (hT _ bw_161) (fun _ h9 => h9) rfl dX11_feedNumber_12 ?_
  refine lv_iload_n hx hb dX11_feedNumber_15 rfl (lv_at hl 2 rfl) ?_
  refine lv_iload_n hx hb dX11_feedNumber_16 rfl (lv_at hl 0 rfl) ?_
  refine lv_ishr hx hb dX11_feedNumber_17 ?_
  refine lv_topi (fun x_1 ex_1 => ?_)
  obtain ⟨x_2, ex_2⟩ : ∃ y : Int32, x_1.toInt8.toInt32 = y := ⟨_, rfl⟩
  refine lv_i2b (v := x_2) hx hb dX11_feedNumber_18 ex_2 ?_
  refine va_bast hx hb hK.1 hP hD hS 1 0 rfl rfl (i := 0) (x := x_2) (by unfold vp_in; decide) dX11_feedNumber_19 (fun H locs hP hD hS => ?_)
  generalize upd ff (0 : Int32).toNatClampNeg (vp_nar .byte x_2) = f_3 at hP hD
  have hP : va_P g.1 vwCl [(x, .inr (11, [.ref xt, .int 0, .ref xr, .ref la, .ref lb, .ref sa, .int 0, .int 0, .ref ba, .int 0, .ref se, .ref si, .ref pa, .ref he])), (xt, aB g 1600 f_3)] H := hP
  have hD : va_D A [(x, .inr (11, [.ref xt, .int 0, .ref xr, .ref la, .ref lb, .ref sa, .int 0, .int 0, .ref ba, .int 0, .ref se, .ref si, .ref pa, .ref he])), (xt, aB g 1600 f_3)] := hD
  refine lv_aload_n hx hb dX11_feedNumber_20 rfl (lv_at hl 1 rfl) ?_
  refine lv_dup hx hb dX11_feedNumber_21 rfl ?_
  refine va_get (D := g.1) (ci := 11) (v := .int 0) (C := RX11) (T := TX11) (N := 14) hx hb hT inF_X11 hown hK.1 hP 0 rfl rfl 1 (by decide) (hT _ bw_161) (fun _ h9 => h9) rfl dX11_feedNumber_22 ?_
  refine lv_iconst (v := 1) hx hb dX11_feedNumber_25 (by decide) ?_
  refine lv_iadd hx hb dX11_feedNumber_26 ?_
  refine p_ti (v := 1) (by decide +kernel) ?_
  refine va_put (D := g.1) (ci := 11) (v := .int 1) (ty := .int) (C := RX11) (T := TX11) (N := 14) hx hb hT inF_X11 tyX11 tyX11_ok nmX11 hown hK.1 hP hD hS 0 rfl rfl 1 (by decide) (hT _ bw_161) (fun _ h9 => h9) rfl (by decide +kernel) rfl rfl (Nat.le_of_ble_eq_true rfl) dX11_feedNumber_27 (fun H locs hP hD hS => ?_)
  have hP : va_P g.1 vwCl [(x, .inr (11, [.ref xt, .int 1, .ref xr, .ref la, .ref lb, .ref sa, .int 0, .int 0, .ref ba, .int 0, .ref se, .ref si, .ref pa, .ref he])), (xt, aB g 1600 f_3)] H := hP
  have hD : va_D A [(x, .inr (11, [.ref xt, .int 1, .ref xr, .ref la, .ref lb, .ref sa, .int 0, .int 0, .ref ba, .int 0, .ref se, .ref si, .ref pa, .ref he])), (xt, aB g 1600 f_3)] := hD
  refine lv_iinc (v := 16) (lv' := [(2, .int 16), (0, .ref x), (1, .int p0)]) hx hb dX11_feedNumber_30 hl (k := 0) rfl (by decide) (by decide) rfl (fun ls hl => ?_)
  refine lv_goto (tgt := 3) hx hb dX11_feedNumber_33 (by decide) ?_
  refine lv_iload_n hx hb dX11_feedNumber_3 rfl (lv_at hl 0 rfl) ?_
  refine lv_if_lt (tgt := 36) hx hb dX11_feedNumber_4 (by decide) (fun c9 => absurd c9 (by decide)) (fun _ => ?_)
  refine lv_aload_n hx hb dX11_feedNumber_7 rfl (lv_at hl 1 rfl) ?_
  refine va_get (D := g.1) (ci := 11) (v := .ref xt) (C := RX11) (T := TX11) (N := 14) hx hb hT inF_X11 hown hK.1 hP 0 rfl rfl 0 (by decide) (hT _ bw_160) (fun _ h9 => h9) rfl dX11_feedNumber_8 ?_
  refine lv_aload_n hx hb dX11_feedNumber_11 rfl (lv_at hl 1 rfl) ?_
  refine va_get (D := g.1) (ci := 11) (v := .int 1) (C := RX11) (T := TX11) (N := 14) hx hb hT inF_X11 hown hK.1 hP 0 rfl rfl 1 (by decide) (hT _ bw_161) (fun _ h9 => h9) rfl dX11_feedNumber_12 ?_
  refine lv_iload_n hx hb dX11_feedNumber_15 rfl (lv_at hl 2 rfl) ?_
  refine lv_iload_n hx hb dX11_feedNumber_16 rfl (lv_at hl 0 rfl) ?_
  refine lv_ishr hx hb dX11_feedNumber_17 ?_
  refine lv_topi (fun x_4 ex_4 => ?_)
  obtain ⟨x_5, ex_5⟩ : ∃ y : Int32, x_4.toInt8.toInt32 = y := ⟨_, rfl⟩
  refine lv_i2b (v := x_5) hx hb dX11_feedNumber_18 ex_5 ?_
  refine va_bast hx hb hK.1 hP hD hS 1 0 rfl rfl (i := 1) (x := x_5) (by unfold vp_in; decide) dX11_feedNumber_19 (fun H locs hP hD hS => ?_)
  generalize upd f_3 (1 : Int32).toNatClampNeg (vp_nar .byte x_5) = f_6 at hP hD
  have hP : va_P g.1 vwCl [(x, .inr (11, [.ref xt, .int 1, .ref xr, .ref la, .ref lb, .ref sa, .int 0, .int 0, .ref ba, .int 0, .ref se, .ref si, .ref pa, .ref he])), (xt, aB g 1600 f_6)] H := hP
  have hD : va_D A [(x, .inr (11, [.ref xt, .int 1, .ref xr, .ref la, .ref lb, .ref sa, .int 0, .int 0, .ref ba, .int 0, .ref se, .ref si, .ref pa, .ref he])), (xt, aB g 1600 f_6)] := hD
  refine lv_aload_n hx hb dX11_feedNumber_20 rfl (lv_at hl 1 rfl) ?_
  refine lv_dup hx hb dX11_feedNumber_21 rfl ?_
  refine va_get (D := g.1) (ci := 11) (v := .int 1) (C := RX11) (T := TX11) (N := 14) hx hb hT inF_X11 hown hK.1 hP 0 rfl rfl 1 (by decide) (hT _ bw_161) (fun _ h9 => h9) rfl dX11_feedNumber_22 ?_
  refine lv_iconst (v := 1) hx hb dX11_feedNumber_25 (by decide) ?_
  refine lv_iadd hx hb dX11_feedNumber_26 ?_
  refine p_ti (v := 2) (by decide +kernel) ?_
  refine va_put (D := g.1) (ci := 11) (v := .int 2) (ty := .int) (C := RX11) (T := TX11) (N := 14) hx hb hT inF_X11 tyX11 tyX11_ok nmX11 hown hK.1 hP hD hS 0 rfl rfl 1 (by decide) (hT _ bw_161) (fun _ h9 => h9) rfl (by decide +kernel) rfl rfl (Nat.le_of_ble_eq_true rfl) dX11_feedNumber_27 (fun H locs hP hD hS => ?_)
  have hP : va_P g.1 vwCl [(x, .inr (11, [.ref xt, .int 2, .ref xr, .ref la, .ref lb, .ref sa, .int 0, .int 0, .ref ba, .int 0, .ref se, .ref si, .ref pa, .ref he])), (xt, aB g 1600 f_6)] H := hP
  have hD : va_D A [(x, .inr (11, [.ref xt, .int 2, .ref xr, .ref la, .ref lb, .ref sa, .int 0, .int 0, .ref ba, .int 0, .ref se, .ref si, .ref pa, .ref he])), (xt, aB g 1600 f_6)] := hD
  refine lv_iinc (v := 8) (lv' := [(2, .int 8), (0, .ref x), (1, .int p0)]) hx hb dX11_feedNumber_30 hl (k := 0) rfl (by decide) (by decide) rfl (fun ls hl => ?_)
  refine lv_goto (tgt := 3) hx hb dX11_feedNumber_33 (by decide) ?_
  refine lv_iload_n hx hb dX11_feedNumber_3 rfl (lv_at hl 0 rfl) ?_
  refine lv_if_lt (tgt := 36) hx hb dX11_feedNumber_4 (by decide) (fun c9 => absurd c9 (by decide)) (fun _ => ?_)
  refine lv_aload_n hx hb dX11_feedNumber_7 rfl (lv_at hl 1 rfl) ?_
  refine va_get (D := g.1) (ci := 11) (v := .ref xt) (C := RX11) (T := TX11) (N := 14) hx hb hT inF_X11 hown hK.1 hP 0 rfl rfl 0 (by decide) (hT _ bw_160) (fun _ h9 => h9) rfl dX11_feedNumber_8 ?_
  refine lv_aload_n hx hb dX11_feedNumber_11 rfl (lv_at hl 1 rfl) ?_
  refine va_get (D := g.1) (ci := 11) (v := .int 2) (C := RX11) (T := TX11) (N := 14) hx hb hT inF_X11 hown hK.1 hP 0 rfl rfl 1 (by decide) (hT _ bw_161) (fun _ h9 => h9) rfl dX11_feedNumber_12 ?_
  refine lv_iload_n hx hb dX11_feedNumber_15 rfl (lv_at hl 2 rfl) ?_
  refine lv_iload_n hx hb dX11_feedNumber_16 rfl (lv_at hl 0 rfl) ?_
  refine lv_ishr hx hb dX11_feedNumber_17 ?_
  refine lv_topi (fun x_7 ex_7 => ?_)
  obtain ⟨x_8, ex_8⟩ : ∃ y : Int32, x_7.toInt8.toInt32 = y := ⟨_, rfl⟩
  refine lv_i2b (v := x_8) hx hb dX11_feedNumber_18 ex_8 ?_
  refine va_bast hx hb hK.1 hP hD hS 1 0 rfl rfl (i := 2) (x := x_8) (by unfold vp_in; decide) dX11_feedNumber_19 (fun H locs hP hD hS => ?_)
  generalize upd f_6 (2 : Int32).toNatClampNeg (vp_nar .byte x_8) = f_9 at hP hD
  have hP : va_P g.1 vwCl [(x, .inr (11, [.ref xt, .int 2, .ref xr, .ref la, .ref lb, .ref sa, .int 0, .int 0, .ref ba, .int 0, .ref se, .ref si, .ref pa, .ref he])), (xt, aB g 1600 f_9)] H := hP
  have hD : va_D A [(x, .inr (11, [.ref xt, .int 2, .ref xr, .ref la, .ref lb, .ref sa, .int 0, .int 0, .ref ba, .int 0, .ref se, .ref si, .ref pa, .ref he])), (xt, aB g 1600 f_9)] := hD
  refine lv_aload_n hx hb dX11_feedNumber_20 rfl (lv_at hl 1 rfl) ?_
  refine lv_dup hx hb dX11_feedNumber_21 rfl ?_
  refine va_get (D := g.1) (ci := 11) (v := .int 2) (C := RX11) (T := TX11) (N := 14) hx hb hT inF_X11 hown hK.1 hP 0 rfl rfl 1 (by decide) (hT _ bw_161) (fun _ h9 => h9) rfl dX11_feedNumber_22 ?_
  refine lv_iconst (v := 1) hx hb dX11_feedNumber_25 (by decide) ?_
  refine lv_iadd hx hb dX11_feedNumber_26 ?_
  refine p_ti (v := 3) (by decide +kernel) ?_
  refine va_put (D := g.1) (ci := 11) (v := .int 3) (ty := .int) (C := RX11) (T := TX11) (N := 14) hx hb hT inF_X11 tyX11 tyX11_ok nmX11 hown hK.1 hP hD hS 0 rfl rfl 1 (by decide) (hT _ bw_161) (fun _ h9 => h9) rfl (by decide +kernel) rfl rfl (Nat.le_of_ble_eq_true rfl) dX11_feedNumber_27 (fun H locs hP hD hS => ?_)
  have hP : va_P g.1 vwCl [(x, .inr (11, [.ref xt, .int 3, .ref xr, .ref la, .ref lb, .ref sa, .int 0, .int 0, .ref ba, .int 0, .ref se, .ref si, .ref pa, .ref he])), (xt, aB g 1600 f_9)] H := hP
  have hD : va_D A [(x, .inr (11, [.ref xt, .int 3, .ref xr, .ref la, .ref lb, .ref sa, .int 0, .int 0, .ref ba, .int 0, .ref se, .ref si, .ref pa, .ref he])), (xt, aB g 1600 f_9)] := hD
  refine lv_iinc (v := 0) (lv' := [(2, .int 0), (0, .ref x), (1, .int p0)]) hx hb dX11_feedNumber_30 hl (k := 0) rfl (by decide) (by decide) rfl (fun ls hl => ?_)
  refine lv_goto (tgt := 3) hx hb dX11_feedNumber_33 (by decide) ?_
  refine lv_iload_n hx hb dX11_feedNumber_3 rfl (lv_at hl 0 rfl) ?_
  refine lv_if_lt (tgt := 36) hx hb dX11_feedNumber_4 (by decide) (fun c9 => absurd c9 (by decide)) (fun _ => ?_)
  refine lv_aload_n hx hb dX11_feedNumber_7 rfl (lv_at hl 1 rfl) ?_
  refine va_get (D := g.1) (ci := 11) (v := .ref xt) (C := RX11) (T := TX11) (N := 14) hx hb hT inF_X11 hown hK.1 hP 0 rfl rfl 0 (by decide) (hT _ bw_160) (fun _ h9 => h9) rfl dX11_feedNumber_8 ?_
  refine lv_aload_n hx hb dX11_feedNumber_11 rfl (lv_at hl 1 rfl) ?_
  refine va_get (D := g.1) (ci := 11) (v := .int 3) (C := RX11) (T := TX11) (N := 14) hx hb hT inF_X11 hown hK.1 hP 0 rfl rfl 1 (by decide) (hT _ bw_161) (fun _ h9 => h9) rfl dX11_feedNumber_12 ?_
  refine lv_iload_n hx hb dX11_feedNumber_15 rfl (lv_at hl 2 rfl) ?_
  refine lv_iload_n hx hb dX11_feedNumber_16 rfl (lv_at hl 0 rfl) ?_
  refine lv_ishr hx hb dX11_feedNumber_17 ?_
  refine lv_topi (fun x_10 ex_10 => ?_)
  obtain ⟨x_11, ex_11⟩ : ∃ y : Int32, x_10.toInt8.toInt32 = y := ⟨_, rfl⟩
  refine lv_i2b (v := x_11) hx hb dX11_feedNumber_18 ex_11 ?_
  refine va_bast hx hb hK.1 hP hD hS 1 0 rfl rfl (i := 3) (x := x_11) (by unfold vp_in; decide) dX11_feedNumber_19 (fun H locs hP hD hS => ?_)
  generalize upd f_9 (3 : Int32).toNatClampNeg (vp_nar .byte x_11) = f_12 at hP hD
  have hP : va_P g.1 vwCl [(x, .inr (11, [.ref xt, .int 3, .ref xr, .ref la, .ref lb, .ref sa, .int 0, .int 0, .ref ba, .int 0, .ref se, .ref si, .ref pa, .ref he])), (xt, aB g 1600 f_12)] H := hP
  have hD : va_D A [(x, .inr (11, [.ref xt, .int 3, .ref xr, .ref la, .ref lb, .ref sa, .int 0, .int 0, .ref ba, .int 0, .ref se, .ref si, .ref pa, .ref he])), (xt, aB g 1600 f_12)] := hD
  refine lv_aload_n hx hb dX11_feedNumber_20 rfl (lv_at hl 1 rfl) ?_
  refine lv_dup hx hb dX11_feedNumber_21 rfl ?_
  refine va_get (D := g.1) (ci := 11) (v := .int 3) (C := RX11) (T := TX11) (N := 14) hx hb hT inF_X11 hown hK.1 hP 0 rfl rfl 1 (by decide) (hT _ bw_161) (fun _ h9 => h9) rfl dX11_feedNumber_22 ?_
  refine lv_iconst (v := 1) hx hb dX11_feedNumber_25 (by decide) ?_
  refine lv_iadd hx hb dX11_feedNumber_26 ?_
  refine p_ti (v := 4) (by decide +kernel) ?_
  refine va_put (D := g.1) (ci := 11) (v := .int 4) (ty := .int) (C := RX11) (T := TX11) (N := 14) hx hb hT inF_X11 tyX11 tyX11_ok nmX11 hown hK.1 hP hD hS 0 rfl rfl 1 (by decide) (hT _ bw_161) (fun _ h9 => h9) rfl (by decide +kernel) rfl rfl (Nat.le_of_ble_eq_true rfl) dX11_feedNumber_27 (fun H locs hP hD hS => ?_)
  have hP : va_P g.1 vwCl [(x, .inr (11, [.ref xt, .int 4, .ref xr, .ref la, .ref lb, .ref sa, .int 0, .int 0, .ref ba, .int 0, .ref se, .ref si, .ref pa, .ref he])), (xt, aB g 1600 f_12)] H := hP
  have hD : va_D A [(x, .inr (11, [.ref xt, .int 4, .ref xr, .ref la, .ref lb, .ref sa, .int 0, .int 0, .ref ba, .int 0, .ref se, .ref si, .ref pa, .ref he])), (xt, aB g 1600 f_12)] := hD
  refine lv_iinc (v := (-8)) (lv' := [(2, .int (-8)), (0, .ref x), (1, .int p0)]) hx hb dX11_feedNumber_30 hl (k := 0) rfl (by decide) (by decide) rfl (fun ls hl => ?_)
  refine lv_goto (tgt := 3) hx hb dX11_feedNumber_33 (by decide) ?_
  refine lv_iload_n hx hb dX11_feedNumber_3 rfl (lv_at hl 0 rfl) ?_
  refine lv_if_lt (tgt := 36) hx hb dX11_feedNumber_4 (by decide) (fun _ => ?_) (fun c9 => absurd (by decide) c9)
  have hP9 : va_P g.1 vwCl [(x, .inr (11, [.ref xt, .int 4, .ref xr, .ref la, .ref lb, .ref sa, .int 0, .int 0, .ref ba, .int 0, .ref se, .ref si, .ref pa, .ref he])), (xt, aB g 1600 f_12)] H := hP.sub [0, 1] rfl
  have hD9 : va_D A [(x, .inr (11, [.ref xt, .int 4, .ref xr, .ref la, .ref lb, .ref sa, .int 0, .int 0, .ref ba, .int 0, .ref se, .ref si, .ref pa, .ref he])), (xt, aB g 1600 f_12)] := hD.sub [0, 1] (by decide) rfl
  exact W.vret hx hb hr (fun t ht hW => ⟨⟨f_12, rfl, trivial, by rw [ht]; exact hP9, by rw [hAe]; exact hD9⟩, hS.F ht⟩) hS.2.2 dX11_feedNumber_36

set_option maxHeartbeats 4000000 in
set_option maxRecDepth 100000 in
theorem c_X11_feedNumber_4 (l : Launch) (g : GG) (sz : Nat) (x : Nat) (xt : Nat) (xr : Nat) (la : Nat) (lb : Nat) (sa : Nat) (ba : Nat) (se : Nat) (si : Nat) (pa : Nat) (he : Nat) (ff : Nat → Int32) (p0 : Int32) : Met l yX11_feedNumber (.code yX11_feedNumber cX11_feedNumber 3 none :: gT) ({ frames := 0, cells := 0, slots := 0, locals := 0 }) (va_Pc [.ref x, .int p0] (Pst g sz [(x, .inr (11, [.ref xt, .int 4, .ref xr, .ref la, .ref lb, .ref sa, .int 0, .int 0, .ref ba, .int 0, .ref se, .ref si, .ref pa, .ref he])), (xt, aB g 1600 ff)] nX)) (va_Qv (fun (_ : (Nat → Int32)) => True) (Qst g [(x, .inr (11, [.ref xt, .int 4, .ref xr, .ref la, .ref lb, .ref sa, .int 0, .int 0, .ref ba, .int 0, .ref se, .ref si, .ref pa, .ref he])), (xt, aB g 1600 ff)] sz (fun (f_12 : Nat → Int32) => [(x, .inr (11, [.ref xt, .int 8, .ref xr, .ref la, .ref lb, .ref sa, .int 0, .int 0, .ref ba, .int 0, .ref se, .ref si, .ref pa, .ref he])), (xt, aB g 1600 f_12)])) (va_A [(x, .inr (11, [.ref xt, .int 4, .ref xr, .ref la, .ref lb, .ref sa, .int 0, .int 0, .ref ba, .int 0, .ref se, .ref si, .ref pa, .ref he])), (xt, aB g 1600 ff)] sz)) 0 0 (va_A [(x, .inr (11, [.ref xt, .int 4, .ref xr, .ref la, .ref lb, .ref sa, .int 0, .int 0, .ref ba, .int 0, .ref se, .ref si, .ref pa, .ref he])), (xt, aB g 1600 ff)] sz) := by
  refine Met.ofW (cc := cX11_feedNumber) (maxL := 3) (ret := none) (by decide) rfl ?_
  intro p e s m args below meth c s₁ B hml hv
  obtain ⟨rfl, hsz, hP, hK, hD0, hX⟩ := hv
  have hx := B.exec
  have hb := B.bytes
  have hr := B.returns
  have hT : ∀ w ∈ gT, w.before _ s = true := fun w h => atoms_spec (ws := .code yX11_feedNumber cX11_feedNumber 3 none :: gT) B.pre w (List.mem_cons_of_mem _ h)
  have hown : s.vm.findClass RX11 = some m.cls := findClass_of_methodNamed B.named
  have hlocks := B.notSynchronized
  subst hsz
  have hD := hD0.self (sz := s.heap.size)
  generalize hAe : va_A [(x, .inr (11, [.ref xt, .int 4, .ref xr, .ref la, .ref lb, .ref sa, .int 0, .int 0, .ref ba, .int 0, .ref se, .ref si, .ref pa, .ref he])), (xt, aB g 1600 ff)] s.heap.size = A at hD ⊢
  have hA : ∀ q : Nat, s.heap.size ≤ q → A q := fun q h => by rw [← hAe]; exact Or.inr h
  have hS : va_S A s.heap s.heap [] := va_S.rf
  have hl := lv_entry ([.ref x, .int p0]) (n := 3) (Nat.le_of_ble_eq_true rfl)
  rw [lg_entry_eq]
  generalize (lg_sl ([.ref x, .int p0]) ++ List.replicate (3 - (lg_sl ([.ref x, .int p0])).length) Slot.unset).toArray = ls at hl ⊢
  have hl : lv_has ls 3 [(0, .ref x), (1, .int p0)] := hl
  refine p_nH (fun H hH => ?_)
  have hP : va_P g.1 vwCl [(x, .inr (11, [.ref xt, .int 4, .ref xr, .ref la, .ref lb, .ref sa, .int 0, .int 0, .ref ba, .int 0, .ref se, .ref si, .ref pa, .ref he])), (xt, aB g 1600 ff)] H := by rw [hH]; exact hP
  have hS : va_S A s.heap H [] := by rw [hH]; exact hS
  refine lv_bipush (v := 24) hx hb dX11_feedNumber_0 (by decide) ?_
  refine lv_istore_n (lv' := [(2, .int 24), (0, .ref x), (1, .int p0)]) hx hb dX11_feedNumber_2 rfl hl (by decide) rfl (fun ls hl => ?_)
  refine lv_iload_n hx hb dX11_feedNumber_3 rfl (lv_at hl 0 rfl) ?_
  refine lv_if_lt (tgt := 36) hx hb dX11_feedNumber_4 (by decide) (fun c9 => absurd c9 (by decide)) (fun _ => ?_)
  refine lv_aload_n hx hb dX11_feedNumber_7 rfl (lv_at hl 1 rfl) ?_
  refine va_get (D := g.1) (ci := 11) (v := .ref xt) (C := RX11) (T := TX11) (N := 14) hx hb hT inF_X11 hown hK.1 hP 0 rfl rfl 0 (by decide) (hT _ bw_160) (fun _ h9 => h9) rfl dX11_feedNumber_8 ?_
  refine lv_aload_n hx hb dX11_feedNumber_11 rfl (lv_at hl 1 rfl) ?_
  refine va_get (D := g.1) (ci := 11) (v := .int 4) (C := RX11) (T := TX11) (N := 14) hx hb hT inF_X11 hown hK.1 hP 0 rfl rfl 1 (by decide) (hT _ bw_161) (fun _ h9 => h9) rfl dX11_feedNumber_12 ?_
  refine lv_iload_n hx hb dX11_feedNumber_15 rfl (lv_at hl 2 rfl) ?_
  refine lv_iload_n hx hb dX11_feedNumber_16 rfl (lv_at hl 0 rfl) ?_
  refine lv_ishr hx hb dX11_feedNumber_17 ?_
  refine lv_topi (fun x_1 ex_1 => ?_)
  obtain ⟨x_2, ex_2⟩ : ∃ y : Int32, x_1.toInt8.toInt32 = y := ⟨_, rfl⟩
  refine lv_i2b (v := x_2) hx hb dX11_feedNumber_18 ex_2 ?_
  refine va_bast hx hb hK.1 hP hD hS 1 0 rfl rfl (i := 4) (x := x_2) (by unfold vp_in; decide) dX11_feedNumber_19 (fun H locs hP hD hS => ?_)
  generalize upd ff (4 : Int32).toNatClampNeg (vp_nar .byte x_2) = f_3 at hP hD
  have hP : va_P g.1 vwCl [(x, .inr (11, [.ref xt, .int 4, .ref xr, .ref la, .ref lb, .ref sa, .int 0, .int 0, .ref ba, .int 0, .ref se, .ref si, .ref pa, .ref he])), (xt, aB g 1600 f_3)] H := hP
  have hD : va_D A [(x, .inr (11, [.ref xt, .int 4, .ref xr, .ref la, .ref lb, .ref sa, .int 0, .int 0, .ref ba, .int 0, .ref se, .ref si, .ref pa, .ref he])), (xt, aB g 1600 f_3)] := hD
  refine lv_aload_n hx hb dX11_feedNumber_20 rfl (lv_at hl 1 rfl) ?_
  refine lv_dup hx hb dX11_feedNumber_21 rfl ?_
  refine va_get (D := g.1) (ci := 11) (v := .int 4) (C := RX11) (T := TX11) (N := 14) hx hb hT inF_X11 hown hK.1 hP 0 rfl rfl 1 (by decide) (hT _ bw_161) (fun _ h9 => h9) rfl dX11_feedNumber_22 ?_
  refine lv_iconst (v := 1) hx hb dX11_feedNumber_25 (by decide) ?_
  refine lv_iadd hx hb dX11_feedNumber_26 ?_
  refine p_ti (v := 5) (by decide +kernel) ?_
  refine va_put (D := g.1) (ci := 11) (v := .int 5) (ty := .int) (C := RX11) (T := TX11) (N := 14) hx hb hT inF_X11 tyX11 tyX11_ok nmX11 hown hK.1 hP hD hS 0 rfl rfl 1 (by decide) (hT _ bw_161) (fun _ h9 => h9) rfl (by decide +kernel) rfl rfl (Nat.le_of_ble_eq_true rfl) dX11_feedNumber_27 (fun H locs hP hD hS => ?_)
  have hP : va_P g.1 vwCl [(x, .inr (11, [.ref xt, .int 5, .ref xr, .ref la, .ref lb, .ref sa, .int 0, .int 0, .ref ba, .int 0, .ref se, .ref si, .ref pa, .ref he])), (xt, aB g 1600 f_3)] H := hP
  have hD : va_D A [(x, .inr (11, [.ref xt, .int 5, .ref xr, .ref la, .ref lb, .ref sa, .int 0, .int 0, .ref ba, .int 0, .ref se, .ref si, .ref pa, .ref he])), (xt, aB g 1600 f_3)] := hD
  refine lv_iinc (v := 16) (lv' := [(2, .int 16), (0, .ref x), (1, .int p0)]) hx hb dX11_feedNumber_30 hl (k := 0) rfl (by decide) (by decide) rfl (fun ls hl => ?_)
  refine lv_goto (tgt := 3) hx hb dX11_feedNumber_33 (by decide) ?_
  refine lv_iload_n hx hb dX11_feedNumber_3 rfl (lv_at hl 0 rfl) ?_
  refine lv_if_lt (tgt := 36) hx hb dX11_feedNumber_4 (by decide) (fun c9 => absurd c9 (by decide)) (fun _ => ?_)
  refine lv_aload_n hx hb dX11_feedNumber_7 rfl (lv_at hl 1 rfl) ?_
  refine va_get (D := g.1) (ci := 11) (v := .ref xt) (C := RX11) (T := TX11) (N := 14) hx hb hT inF_X11 hown hK.1 hP 0 rfl rfl 0 (by decide) (hT _ bw_160) (fun _ h9 => h9) rfl dX11_feedNumber_8 ?_
  refine lv_aload_n hx hb dX11_feedNumber_11 rfl (lv_at hl 1 rfl) ?_
  refine va_get (D := g.1) (ci := 11) (v := .int 5) (C := RX11) (T := TX11) (N := 14) hx hb hT inF_X11 hown hK.1 hP 0 rfl rfl 1 (by decide) (hT _ bw_161) (fun _ h9 => h9) rfl dX11_feedNumber_12 ?_
  refine lv_iload_n hx hb dX11_feedNumber_15 rfl (lv_at hl 2 rfl) ?_
  refine lv_iload_n hx hb dX11_feedNumber_16 rfl (lv_at hl 0 rfl) ?_
  refine lv_ishr hx hb dX11_feedNumber_17 ?_
  refine lv_topi (fun x_4 ex_4 => ?_)
  obtain ⟨x_5, ex_5⟩ : ∃ y : Int32, x_4.toInt8.toInt32 = y := ⟨_, rfl⟩
  refine lv_i2b (v := x_5) hx hb dX11_feedNumber_18 ex_5 ?_
  refine va_bast hx hb hK.1 hP hD hS 1 0 rfl rfl (i := 5) (x := x_5) (by unfold vp_in; decide) dX11_feedNumber_19 (fun H locs hP hD hS => ?_)
  generalize upd f_3 (5 : Int32).toNatClampNeg (vp_nar .byte x_5) = f_6 at hP hD
  have hP : va_P g.1 vwCl [(x, .inr (11, [.ref xt, .int 5, .ref xr, .ref la, .ref lb, .ref sa, .int 0, .int 0, .ref ba, .int 0, .ref se, .ref si, .ref pa, .ref he])), (xt, aB g 1600 f_6)] H := hP
  have hD : va_D A [(x, .inr (11, [.ref xt, .int 5, .ref xr, .ref la, .ref lb, .ref sa, .int 0, .int 0, .ref ba, .int 0, .ref se, .ref si, .ref pa, .ref he])), (xt, aB g 1600 f_6)] := hD
  refine lv_aload_n hx hb dX11_feedNumber_20 rfl (lv_at hl 1 rfl) ?_
  refine lv_dup hx hb dX11_feedNumber_21 rfl ?_
  refine va_get (D := g.1) (ci := 11) (v := .int 5) (C := RX11) (T := TX11) (N := 14) hx hb hT inF_X11 hown hK.1 hP 0 rfl rfl 1 (by decide) (hT _ bw_161) (fun _ h9 => h9) rfl dX11_feedNumber_22 ?_
  refine lv_iconst (v := 1) hx hb dX11_feedNumber_25 (by decide) ?_
  refine lv_iadd hx hb dX11_feedNumber_26 ?_
  refine p_ti (v := 6) (by decide +kernel) ?_
  refine va_put (D := g.1) (ci := 11) (v := .int 6) (ty := .int) (C := RX11) (T := TX11) (N := 14) hx hb hT inF_X11 tyX11 tyX11_ok nmX11 hown hK.1 hP hD hS 0 rfl rfl 1 (by decide) (hT _ bw_161) (fun _ h9 => h9) rfl (by decide +kernel) rfl rfl (Nat.le_of_ble_eq_true rfl) dX11_feedNumber_27 (fun H locs hP hD hS => ?_)
  have hP : va_P g.1 vwCl [(x, .inr (11, [.ref xt, .int 6, .ref xr, .ref la, .ref lb, .ref sa, .int 0, .int 0, .ref ba, .int 0, .ref se, .ref si, .ref pa, .ref he])), (xt, aB g 1600 f_6)] H := hP
  have hD : va_D A [(x, .inr (11, [.ref xt, .int 6, .ref xr, .ref la, .ref lb, .ref sa, .int 0, .int 0, .ref ba, .int 0, .ref se, .ref si, .ref pa, .ref he])), (xt, aB g 1600 f_6)] := hD
  refine lv_iinc (v := 8) (lv' := [(2, .int 8), (0, .ref x), (1, .int p0)]) hx hb dX11_feedNumber_30 hl (k := 0) rfl (by decide) (by decide) rfl (fun ls hl => ?_)
  refine lv_goto (tgt := 3) hx hb dX11_feedNumber_33 (by decide) ?_
  refine lv_iload_n hx hb dX11_feedNumber_3 rfl (lv_at hl 0 rfl) ?_
  refine lv_if_lt (tgt := 36) hx hb dX11_feedNumber_4 (by decide) (fun c9 => absurd c9 (by decide)) (fun _ => ?_)
  refine lv_aload_n hx hb dX11_feedNumber_7 rfl (lv_at hl 1 rfl) ?_
  refine va_get (D := g.1) (ci := 11) (v := .ref xt) (C := RX11) (T := TX11) (N := 14) hx hb hT inF_X11 hown hK.1 hP 0 rfl rfl 0 (by decide) (hT _ bw_160) (fun _ h9 => h9) rfl dX11_feedNumber_8 ?_
  refine lv_aload_n hx hb dX11_feedNumber_11 rfl (lv_at hl 1 rfl) ?_
  refine va_get (D := g.1) (ci := 11) (v := .int 6) (C := RX11) (T := TX11) (N := 14) hx hb hT inF_X11 hown hK.1 hP 0 rfl rfl 1 (by decide) (hT _ bw_161) (fun _ h9 => h9) rfl dX11_feedNumber_12 ?_
  refine lv_iload_n hx hb dX11_feedNumber_15 rfl (lv_at hl 2 rfl) ?_
  refine lv_iload_n hx hb dX11_feedNumber_16 rfl (lv_at hl 0 rfl) ?_
  refine lv_ishr hx hb dX11_feedNumber_17 ?_
  refine lv_topi (fun x_7 ex_7 => ?_)
  obtain ⟨x_8, ex_8⟩ : ∃ y : Int32, x_7.toInt8.toInt32 = y := ⟨_, rfl⟩
  refine lv_i2b (v := x_8) hx hb dX11_feedNumber_18 ex_8 ?_
  refine va_bast hx hb hK.1 hP hD hS 1 0 rfl rfl (i := 6) (x := x_8) (by unfold vp_in; decide) dX11_feedNumber_19 (fun H locs hP hD hS => ?_)
  generalize upd f_6 (6 : Int32).toNatClampNeg (vp_nar .byte x_8) = f_9 at hP hD
  have hP : va_P g.1 vwCl [(x, .inr (11, [.ref xt, .int 6, .ref xr, .ref la, .ref lb, .ref sa, .int 0, .int 0, .ref ba, .int 0, .ref se, .ref si, .ref pa, .ref he])), (xt, aB g 1600 f_9)] H := hP
  have hD : va_D A [(x, .inr (11, [.ref xt, .int 6, .ref xr, .ref la, .ref lb, .ref sa, .int 0, .int 0, .ref ba, .int 0, .ref se, .ref si, .ref pa, .ref he])), (xt, aB g 1600 f_9)] := hD
  refine lv_aload_n hx hb dX11_feedNumber_20 rfl (lv_at hl 1 rfl) ?_
  refine lv_dup hx hb dX11_feedNumber_21 rfl ?_
  refine va_get (D := g.1) (ci := 11) (v := .int 6) (C := RX11) (T := TX11) (N := 14) hx hb hT inF_X11 hown hK.1 hP 0 rfl rfl 1 (by decide) (hT _ bw_161) (fun _ h9 => h9) rfl dX11_feedNumber_22 ?_
  refine lv_iconst (v := 1) hx hb dX11_feedNumber_25 (by decide) ?_
  refine lv_iadd hx hb dX11_feedNumber_26 ?_
  refine p_ti (v := 7) (by decide +kernel) ?_
  refine va_put (D := g.1) (ci := 11) (v := .int 7) (ty := .int) (C := RX11) (T := TX11) (N := 14) hx hb hT inF_X11 tyX11 tyX11_ok nmX11 hown hK.1 hP hD hS 0 rfl rfl 1 (by decide) (hT _ bw_161) (fun _ h9 => h9) rfl (by decide +kernel) rfl rfl (Nat.le_of_ble_eq_true rfl) dX11_feedNumber_27 (fun H locs hP hD hS => ?_)
  have hP : va_P g.1 vwCl [(x, .inr (11, [.ref xt, .int 7, .ref xr, .ref la, .ref lb, .ref sa, .int 0, .int 0, .ref ba, .int 0, .ref se, .ref si, .ref pa, .ref he])), (xt, aB g 1600 f_9)] H := hP
  have hD : va_D A [(x, .inr (11, [.ref xt, .int 7, .ref xr, .ref la, .ref lb, .ref sa, .int 0, .int 0, .ref ba, .int 0, .ref se, .ref si, .ref pa, .ref he])), (xt, aB g 1600 f_9)] := hD
  refine lv_iinc (v := 0) (lv' := [(2, .int 0), (0, .ref x), (1, .int p0)]) hx hb dX11_feedNumber_30 hl (k := 0) rfl (by decide) (by decide) rfl (fun ls hl => ?_)
  refine lv_goto (tgt := 3) hx hb dX11_feedNumber_33 (by decide) ?_
  refine lv_iload_n hx hb dX11_feedNumber_3 rfl (lv_at hl 0 rfl) ?_
  refine lv_if_lt (tgt := 36) hx hb dX11_feedNumber_4 (by decide) (fun c9 => absurd c9 (by decide)) (fun _ => ?_)
  refine lv_aload_n hx hb dX11_feedNumber_7 rfl (lv_at hl 1 rfl) ?_
  refine va_get (D := g.1) (ci := 11) (v := .ref xt) (C := RX11) (T := TX11) (N := 14) hx hb hT inF_X11 hown hK.1 hP 0 rfl rfl 0 (by decide) (hT _ bw_160) (fun _ h9 => h9) rfl dX11_feedNumber_8 ?_
  refine lv_aload_n hx hb dX11_feedNumber_11 rfl (lv_at hl 1 rfl) ?_
  refine va_get (D := g.1) (ci := 11) (v := .int 7) (C := RX11) (T := TX11) (N := 14) hx hb hT inF_X11 hown hK.1 hP 0 rfl rfl 1 (by decide) (hT _ bw_161) (fun _ h9 => h9) rfl dX11_feedNumber_12 ?_
  refine lv_iload_n hx hb dX11_feedNumber_15 rfl (lv_at hl 2 rfl) ?_
  refine lv_iload_n hx hb dX11_feedNumber_16 rfl (lv_at hl 0 rfl) ?_
  refine lv_ishr hx hb dX11_feedNumber_17 ?_
  refine lv_topi (fun x_10 ex_10 => ?_)
  obtain ⟨x_11, ex_11⟩ : ∃ y : Int32, x_10.toInt8.toInt32 = y := ⟨_, rfl⟩
  refine lv_i2b (v := x_11) hx hb dX11_feedNumber_18 ex_11 ?_
  refine va_bast hx hb hK.1 hP hD hS 1 0 rfl rfl (i := 7) (x := x_11) (by unfold vp_in; decide) dX11_feedNumber_19 (fun H locs hP hD hS => ?_)
  generalize upd f_9 (7 : Int32).toNatClampNeg (vp_nar .byte x_11) = f_12 at hP hD
  have hP : va_P g.1 vwCl [(x, .inr (11, [.ref xt, .int 7, .ref xr, .ref la, .ref lb, .ref sa, .int 0, .int 0, .ref ba, .int 0, .ref se, .ref si, .ref pa, .ref he])), (xt, aB g 1600 f_12)] H := hP
  have hD : va_D A [(x, .inr (11, [.ref xt, .int 7, .ref xr, .ref la, .ref lb, .ref sa, .int 0, .int 0, .ref ba, .int 0, .ref se, .ref si, .ref pa, .ref he])), (xt, aB g 1600 f_12)] := hD
  refine lv_aload_n hx hb dX11_feedNumber_20 rfl (lv_at hl 1 rfl) ?_
  refine lv_dup hx hb dX11_feedNumber_21 rfl ?_
  refine va_get (D := g.1) (ci := 11) (v := .int 7) (C := RX11) (T := TX11) (N := 14) hx hb hT inF_X11 hown hK.1 hP 0 rfl rfl 1 (by decide) (hT _ bw_161) (fun _ h9 => h9) rfl dX11_feedNumber_22 ?_
  refine lv_iconst (v := 1) hx hb dX11_feedNumber_25 (by decide) ?_
  refine lv_iadd hx hb dX11_feedNumber_26 ?_
  refine p_ti (v := 8) (by decide +kernel) ?_
  refine va_put (D := g.1) (ci := 11) (v := .int 8) (ty := .int) (C := RX11) (T := TX11) (N := 14) hx hb hT inF_X11 tyX11 tyX11_ok nmX11 hown hK.1 hP hD hS 0 rfl rfl 1 (by decide) (hT _ bw_161) (fun _ h9 => h9) rfl (by decide +kernel) rfl rfl (Nat.le_of_ble_eq_true rfl) dX11_feedNumber_27 (fun H locs hP hD hS => ?_)
  have hP : va_P g.1 vwCl [(x, .inr (11, [.ref xt, .int 8, .ref xr, .ref la, .ref lb, .ref sa, .int 0, .int 0, .ref ba, .int 0, .ref se, .ref si, .ref pa, .ref he])), (xt, aB g 1600 f_12)] H := hP
  have hD : va_D A [(x, .inr (11, [.ref xt, .int 8, .ref xr, .ref la, .ref lb, .ref sa, .int 0, .int 0, .ref ba, .int 0, .ref se, .ref si, .ref pa, .ref he])), (xt, aB g 1600 f_12)] := hD
  refine lv_iinc (v := (-8)) (lv' := [(2, .int (-8)), (0, .ref x), (1, .int p0)]) hx hb dX11_feedNumber_30 hl (k := 0) rfl (by decide) (by decide) rfl (fun ls hl => ?_)
  refine lv_goto (tgt := 3) hx hb dX11_feedNumber_33 (by decide) ?_
  refine lv_iload_n hx hb dX11_feedNumber_3 rfl (lv_at hl 0 rfl) ?_
  refine lv_if_lt (tgt := 36) hx hb dX11_feedNumber_4 (by decide) (fun _ => ?_) (fun c9 => absurd (by decide) c9)
  have hP9 : va_P g.1 vwCl [(x, .inr (11, [.ref xt, .int 8, .ref xr, .ref la, .ref lb, .ref sa, .int 0, .int 0, .ref ba, .int 0, .ref se, .ref si, .ref pa, .ref he])), (xt, aB g 1600 f_12)] H := hP.sub [0, 1] rfl
  have hD9 : va_D A [(x, .inr (11, [.ref xt, .int 8, .ref xr, .ref la, .ref lb, .ref sa, .int 0, .int 0, .ref ba, .int 0, .ref se, .ref si, .ref pa, .ref he])), (xt, aB g 1600 f_12)] := hD.sub [0, 1] (by decide) rfl
  exact W.vret hx hb hr (fun t ht hW => ⟨⟨f_12, rfl, trivial, by rw [ht]; exact hP9, by rw [hAe]; exact hD9⟩, hS.F ht⟩) hS.2.2 dX11_feedNumber_36

set_option maxHeartbeats 4000000 in
set_option maxRecDepth 100000 in
theorem c_X11_feedNumber_8 (l : Launch) (g : GG) (sz : Nat) (x : Nat) (xt : Nat) (xr : Nat) (la : Nat) (lb : Nat) (sa : Nat) (ba : Nat) (se : Nat) (si : Nat) (pa : Nat) (he : Nat) (ff : Nat → Int32) (p0 : Int32) : Met l yX11_feedNumber (.code yX11_feedNumber cX11_feedNumber 3 none :: gT) ({ frames := 0, cells := 0, slots := 0, locals := 0 }) (va_Pc [.ref x, .int p0] (Pst g sz [(x, .inr (11, [.ref xt, .int 8, .ref xr, .ref la, .ref lb, .ref sa, .int 0, .int 0, .ref ba, .int 0, .ref se, .ref si, .ref pa, .ref he])), (xt, aB g 1600 ff)] nX)) (va_Qv (fun (_ : (Nat → Int32)) => True) (Qst g [(x, .inr (11, [.ref xt, .int 8, .ref xr, .ref la, .ref lb, .ref sa, .int 0, .int 0, .ref ba, .int 0, .ref se, .ref si, .ref pa, .ref he])), (xt, aB g 1600 ff)] sz (fun (f_12 : Nat → Int32) => [(x, .inr (11, [.ref xt, .int 12, .ref xr, .ref la, .ref lb, .ref sa, .int 0, .int 0, .ref ba, .int 0, .ref se, .ref si, .ref pa, .ref he])), (xt, aB g 1600 f_12)])) (va_A [(x, .inr (11, [.ref xt, .int 8, .ref xr, .ref la, .ref lb, .ref sa, .int 0, .int 0, .ref ba, .int 0, .ref se, .ref si, .ref pa, .ref he])), (xt, aB g 1600 ff)] sz)) 0 0 (va_A [(x, .inr (11, [.ref xt, .int 8, .ref xr, .ref la, .ref lb, .ref sa, .int 0, .int 0, .ref ba, .int 0, .ref se, .ref si, .ref pa, .ref he])), (xt, aB g 1600 ff)] sz) := by
  refine Met.ofW (cc := cX11_feedNumber) (maxL := 3) (ret := none) (by decide) rfl ?_
  intro p e s m args below meth c s₁ B hml hv
  obtain ⟨rfl, hsz, hP, hK, hD0, hX⟩ := hv
  have hx := B.exec
  have hb := B.bytes
  have hr := B.returns
  have hT : ∀ w ∈ gT, w.before _ s = true := fun w h => atoms_spec (ws := .code yX11_feedNumber cX11_feedNumber 3 none :: gT) B.pre w (List.mem_cons_of_mem _ h)
  have hown : s.vm.findClass RX11 = some m.cls := findClass_of_methodNamed B.named
  have hlocks := B.notSynchronized
  subst hsz
  have hD := hD0.self (sz := s.heap.size)
  generalize hAe : va_A [(x, .inr (11, [.ref xt, .int 8, .ref xr, .ref la, .ref lb, .ref sa, .int 0, .int 0, .ref ba, .int 0, .ref se, .ref si, .ref pa, .ref he])), (xt, aB g 1600 ff)] s.heap.size = A at hD ⊢
  have hA : ∀ q : Nat, s.heap.size ≤ q → A q := fun q h => by rw [← hAe]; exact Or.inr h
  have hS : va_S A s.heap s.heap [] := va_S.rf
  have hl := lv_entry ([.ref x, .int p0]) (n := 3) (Nat.le_of_ble_eq_true rfl)
  rw [lg_entry_eq]
  generalize (lg_sl ([.ref x, .int p0]) ++ List.replicate (3 - (lg_sl ([.ref x, .int p0])).length) Slot.unset).toArray = ls at hl ⊢
  have hl : lv_has ls 3 [(0, .ref x), (1, .int p0)] := hl
  refine p_nH (fun H hH => ?_)
  have hP : va_P g.1 vwCl [(x, .inr (11, [.ref xt, .int 8, .ref xr, .ref la, .ref lb, .ref sa, .int 0, .int 0, .ref ba, .int 0, .ref se, .ref si, .ref pa, .ref he])), (xt, aB g 1600 ff)] H := by rw [hH]; exact hP
  have hS : va_S A s.heap H [] := by rw [hH]; exact hS
  refine lv_bipush (v := 24) hx hb dX11_feedNumber_0 (by decide) ?_
  refine lv_istore_n (lv' := [(2, .int 24), (0, .ref x), (1, .int p0)]) hx hb dX11_feedNumber_2 rfl hl (by decide) rfl (fun ls hl => ?_)
  refine lv_iload_n hx hb dX11_feedNumber_3 rfl (lv_at hl 0 rfl) ?_
  refine lv_if_lt (tgt := 36) hx hb dX11_feedNumber_4 (by decide) (fun c9 => absurd c9 (by decide)) (fun _ => ?_)
  refine lv_aload_n hx hb dX11_feedNumber_7 rfl (lv_at hl 1 rfl) ?_
  refine va_get (D := g.1) (ci := 11) (v := .ref xt) (C := RX11) (T := TX11) (N := 14) hx hb hT inF_X11 hown hK.1 hP 0 rfl rfl 0 (by decide) (hT _ bw_160) (fun _ h9 => h9) rfl dX11_feedNumber_8 ?_
  refine lv_aload_n hx hb dX11_feedNumber_11 rfl (lv_at hl 1 rfl) ?_
  refine va_get (D := g.1) (ci := 11) (v := .int 8) (C := RX11) (T := TX11) (N := 14) hx hb hT inF_X11 hown hK.1 hP 0 rfl rfl 1 (by decide) (hT _ bw_161) (fun _ h9 => h9) rfl dX11_feedNumber_12 ?_
  refine lv_iload_n hx hb dX11_feedNumber_15 rfl (lv_at hl 2 rfl) ?_
  refine lv_iload_n hx hb dX11_feedNumber_16 rfl (lv_at hl 0 rfl) ?_
  refine lv_ishr hx hb dX11_feedNumber_17 ?_
  refine lv_topi (fun x_1 ex_1 => ?_)
  obtain ⟨x_2, ex_2⟩ : ∃ y : Int32, x_1.toInt8.toInt32 = y := ⟨_, rfl⟩
  refine lv_i2b (v := x_2) hx hb dX11_feedNumber_18 ex_2 ?_
  refine va_bast hx hb hK.1 hP hD hS 1 0 rfl rfl (i := 8) (x := x_2) (by unfold vp_in; decide) dX11_feedNumber_19 (fun H locs hP hD hS => ?_)
  generalize upd ff (8 : Int32).toNatClampNeg (vp_nar .byte x_2) = f_3 at hP hD
  have hP : va_P g.1 vwCl [(x, .inr (11, [.ref xt, .int 8, .ref xr, .ref la, .ref lb, .ref sa, .int 0, .int 0, .ref ba, .int 0, .ref se, .ref si, .ref pa, .ref he])), (xt, aB g 1600 f_3)] H := hP
  have hD : va_D A [(x, .inr (11, [.ref xt, .int 8, .ref xr, .ref la, .ref lb, .ref sa, .int 0, .int 0, .ref ba, .int 0, .ref se, .ref si, .ref pa, .ref he])), (xt, aB g 1600 f_3)] := hD
  refine lv_aload_n hx hb dX11_feedNumber_20 rfl (lv_at hl 1 rfl) ?_
  refine lv_dup hx hb dX11_feedNumber_21 rfl ?_
  refine va_get (D := g.1) (ci := 11) (v := .int 8) (C := RX11) (T := TX11) (N := 14) hx hb hT inF_X11 hown hK.1 hP 0 rfl rfl 1 (by decide) (hT _ bw_161) (fun _ h9 => h9) rfl dX11_feedNumber_22 ?_
  refine lv_iconst (v := 1) hx hb dX11_feedNumber_25 (by decide) ?_
  refine lv_iadd hx hb dX11_feedNumber_26 ?_
  refine p_ti (v := 9) (by decide +kernel) ?_
  refine va_put (D := g.1) (ci := 11) (v := .int 9) (ty := .int) (C := RX11) (T := TX11) (N := 14) hx hb hT inF_X11 tyX11 tyX11_ok nmX11 hown hK.1 hP hD hS 0 rfl rfl 1 (by decide) (hT _ bw_161) (fun _ h9 => h9) rfl (by decide +kernel) rfl rfl (Nat.le_of_ble_eq_true rfl) dX11_feedNumber_27 (fun H locs hP hD hS => ?_)
  have hP : va_P g.1 vwCl [(x, .inr (11, [.ref xt, .int 9, .ref xr, .ref la, .ref lb, .ref sa, .int 0, .int 0, .ref ba, .int 0, .ref se, .ref si, .ref pa, .ref he])), (xt, aB g 1600 f_3)] H := hP
  have hD : va_D A [(x, .inr (11, [.ref xt, .int 9, .ref xr, .ref la, .ref lb, .ref sa, .int 0, .int 0, .ref ba, .int 0, .ref se, .ref si, .ref pa, .ref he])), (xt, aB g 1600 f_3)] := hD
  refine lv_iinc (v := 16) (lv' := [(2, .int 16), (0, .ref x), (1, .int p0)]) hx hb dX11_feedNumber_30 hl (k := 0) rfl (by decide) (by decide) rfl (fun ls hl => ?_)
  refine lv_goto (tgt := 3) hx hb dX11_feedNumber_33 (by decide) ?_
  refine lv_iload_n hx hb dX11_feedNumber_3 rfl (lv_at hl 0 rfl) ?_
  refine lv_if_lt (tgt := 36) hx hb dX11_feedNumber_4 (by decide) (fun c9 => absurd c9 (by decide)) (fun _ => ?_)
  refine lv_aload_n hx hb dX11_feedNumber_7 rfl (lv_at hl 1 rfl) ?_
  refine va_get (D := g.1) (ci := 11) (v := .ref xt) (C := RX11) (T := TX11) (N := 14) hx hb hT inF_X11 hown hK.1 hP 0 rfl rfl 0 (by decide) (hT _ bw_160) (fun _ h9 => h9) rfl dX11_feedNumber_8 ?_
  refine lv_aload_n hx hb dX11_feedNumber_11 rfl (lv_at hl 1 rfl) ?_
  refine va_get (D := g.1) (ci := 11) (v := .int 9) (C := RX11) (T := TX11) (N := 14) hx hb hT inF_X11 hown hK.1 hP 0 rfl rfl 1 (by decide) (hT _ bw_161) (fun _ h9 => h9) rfl dX11_feedNumber_12 ?_
  refine lv_iload_n hx hb dX11_feedNumber_15 rfl (lv_at hl 2 rfl) ?_
  refine lv_iload_n hx hb dX11_feedNumber_16 rfl (lv_at hl 0 rfl) ?_
  refine lv_ishr hx hb dX11_feedNumber_17 ?_
  refine lv_topi (fun x_4 ex_4 => ?_)
  obtain ⟨x_5, ex_5⟩ : ∃ y : Int32, x_4.toInt8.toInt32 = y := ⟨_, rfl⟩
  refine lv_i2b (v := x_5) hx hb dX11_feedNumber_18 ex_5 ?_
  refine va_bast hx hb hK.1 hP hD hS 1 0 rfl rfl (i := 9) (x := x_5) (by unfold vp_in; decide) dX11_feedNumber_19 (fun H locs hP hD hS => ?_)
  generalize upd f_3 (9 : Int32).toNatClampNeg (vp_nar .byte x_5) = f_6 at hP hD
  have hP : va_P g.1 vwCl [(x, .inr (11, [.ref xt, .int 9, .ref xr, .ref la, .ref lb, .ref sa, .int 0, .int 0, .ref ba, .int 0, .ref se, .ref si, .ref pa, .ref he])), (xt, aB g 1600 f_6)] H := hP
  have hD : va_D A [(x, .inr (11, [.ref xt, .int 9, .ref xr, .ref la, .ref lb, .ref sa, .int 0, .int 0, .ref ba, .int 0, .ref se, .ref si, .ref pa, .ref he])), (xt, aB g 1600 f_6)] := hD
  refine lv_aload_n hx hb dX11_feedNumber_20 rfl (lv_at hl 1 rfl) ?_
  refine lv_dup hx hb dX11_feedNumber_21 rfl ?_
  refine va_get (D := g.1) (ci := 11) (v := .int 9) (C := RX11) (T := TX11) (N := 14) hx hb hT inF_X11 hown hK.1 hP 0 rfl rfl 1 (by decide) (hT _ bw_161) (fun _ h9 => h9) rfl dX11_feedNumber_22 ?_
  refine lv_iconst (v := 1) hx hb dX11_feedNumber_25 (by decide) ?_
  refine lv_iadd hx hb dX11_feedNumber_26 ?_
  refine p_ti (v := 10) (by decide +kernel) ?_
  refine va_put (D := g.1) (ci := 11) (v := .int 10) (ty := .int) (C := RX11) (T := TX11) (N := 14) hx hb hT inF_X11 tyX11 tyX11_ok nmX11 hown hK.1 hP hD hS 0 rfl rfl 1 (by decide) (hT _ bw_161) (fun _ h9 => h9) rfl (by decide +kernel) rfl rfl (Nat.le_of_ble_eq_true rfl) dX11_feedNumber_27 (fun H locs hP hD hS => ?_)
  have hP : va_P g.1 vwCl [(x, .inr (11, [.ref xt, .int 10, .ref xr, .ref la, .ref lb, .ref sa, .int 0, .int 0, .ref ba, .int 0, .ref se, .ref si, .ref pa, .ref he])), (xt, aB g 1600 f_6)] H := hP
  have hD : va_D A [(x, .inr (11, [.ref xt, .int 10, .ref xr, .ref la, .ref lb, .ref sa, .int 0, .int 0, .ref ba, .int 0, .ref se, .ref si, .ref pa, .ref he])), (xt, aB g 1600 f_6)] := hD
  refine lv_iinc (v := 8) (lv' := [(2, .int 8), (0, .ref x), (1, .int p0)]) hx hb dX11_feedNumber_30 hl (k := 0) rfl (by decide) (by decide) rfl (fun ls hl => ?_)
  refine lv_goto (tgt := 3) hx hb dX11_feedNumber_33 (by decide) ?_
  refine lv_iload_n hx hb dX11_feedNumber_3 rfl (lv_at hl 0 rfl) ?_
  refine lv_if_lt (tgt := 36) hx hb dX11_feedNumber_4 (by decide) (fun c9 => absurd c9 (by decide)) (fun _ => ?_)
  refine lv_aload_n hx hb dX11_feedNumber_7 rfl (lv_at hl 1 rfl) ?_
  refine va_get (D := g.1) (ci := 11) (v := .ref xt) (C := RX11) (T := TX11) (N := 14) hx hb hT inF_X11 hown hK.1 hP 0 rfl rfl 0 (by decide) (hT _ bw_160) (fun _ h9 => h9) rfl dX11_feedNumber_8 ?_
  refine lv_aload_n hx hb dX11_feedNumber_11 rfl (lv_at hl 1 rfl) ?_
  refine va_get (D := g.1) (ci := 11) (v := .int 10) (C := RX11) (T := TX11) (N := 14) hx hb hT inF_X11 hown hK.1 hP 0 rfl rfl 1 (by decide) (hT _ bw_161) (fun _ h9 => h9) rfl dX11_feedNumber_12 ?_
  refine lv_iload_n hx hb dX11_feedNumber_15 rfl (lv_at hl 2 rfl) ?_
  refine lv_iload_n hx hb dX11_feedNumber_16 rfl (lv_at hl 0 rfl) ?_
  refine lv_ishr hx hb dX11_feedNumber_17 ?_
  refine lv_topi (fun x_7 ex_7 => ?_)
  obtain ⟨x_8, ex_8⟩ : ∃ y : Int32, x_7.toInt8.toInt32 = y := ⟨_, rfl⟩
  refine lv_i2b (v := x_8) hx hb dX11_feedNumber_18 ex_8 ?_
  refine va_bast hx hb hK.1 hP hD hS 1 0 rfl rfl (i := 10) (x := x_8) (by unfold vp_in; decide) dX11_feedNumber_19 (fun H locs hP hD hS => ?_)
  generalize upd f_6 (10 : Int32).toNatClampNeg (vp_nar .byte x_8) = f_9 at hP hD
  have hP : va_P g.1 vwCl [(x, .inr (11, [.ref xt, .int 10, .ref xr, .ref la, .ref lb, .ref sa, .int 0, .int 0, .ref ba, .int 0, .ref se, .ref si, .ref pa, .ref he])), (xt, aB g 1600 f_9)] H := hP
  have hD : va_D A [(x, .inr (11, [.ref xt, .int 10, .ref xr, .ref la, .ref lb, .ref sa, .int 0, .int 0, .ref ba, .int 0, .ref se, .ref si, .ref pa, .ref he])), (xt, aB g 1600 f_9)] := hD
  refine lv_aload_n hx hb dX11_feedNumber_20 rfl (lv_at hl 1 rfl) ?_
  refine lv_dup hx hb dX11_feedNumber_21 rfl ?_
  refine va_get (D := g.1) (ci := 11) (v := .int 10) (C := RX11) (T := TX11) (N := 14) hx hb hT inF_X11 hown hK.1 hP 0 rfl rfl 1 (by decide) (hT _ bw_161) (fun _ h9 => h9) rfl dX11_feedNumber_22 ?_
  refine lv_iconst (v := 1) hx hb dX11_feedNumber_25 (by decide) ?_
  refine lv_iadd hx hb dX11_feedNumber_26 ?_
  refine p_ti (v := 11) (by decide +kernel) ?_
  refine va_put (D := g.1) (ci := 11) (v := .int 11) (ty := .int) (C := RX11) (T := TX11) (N := 14) hx hb hT inF_X11 tyX11 tyX11_ok nmX11 hown hK.1 hP hD hS 0 rfl rfl 1 (by decide) (hT _ bw_161) (fun _ h9 => h9) rfl (by decide +kernel) rfl rfl (Nat.le_of_ble_eq_true rfl) dX11_feedNumber_27 (fun H locs hP hD hS => ?_)
  have hP : va_P g.1 vwCl [(x, .inr (11, [.ref xt, .int 11, .ref xr, .ref la, .ref lb, .ref sa, .int 0, .int 0, .ref ba, .int 0, .ref se, .ref si, .ref pa, .ref he])), (xt, aB g 1600 f_9)] H := hP
  have hD : va_D A [(x, .inr (11, [.ref xt, .int 11, .ref xr, .ref la, .ref lb, .ref sa, .int 0, .int 0, .ref ba, .int 0, .ref se, .ref si, .ref pa, .ref he])), (xt, aB g 1600 f_9)] := hD
  refine lv_iinc (v := 0) (lv' := [(2, .int 0), (0, .ref x), (1, .int p0)]) hx hb dX11_feedNumber_30 hl (k := 0) rfl (by decide) (by decide) rfl (fun ls hl => ?_)
  refine lv_goto (tgt := 3) hx hb dX11_feedNumber_33 (by decide) ?_
  refine lv_iload_n hx hb dX11_feedNumber_3 rfl (lv_at hl 0 rfl) ?_
  refine lv_if_lt (tgt := 36) hx hb dX11_feedNumber_4 (by decide) (fun c9 => absurd c9 (by decide)) (fun _ => ?_)
  refine lv_aload_n hx hb dX11_feedNumber_7 rfl (lv_at hl 1 rfl) ?_
  refine va_get (D := g.1) (ci := 11) (v := .ref xt) (C := RX11) (T := TX11) (N := 14) hx hb hT inF_X11 hown hK.1 hP 0 rfl rfl 0 (by decide) (hT _ bw_160) (fun _ h9 => h9) rfl dX11_feedNumber_8 ?_
  refine lv_aload_n hx hb dX11_feedNumber_11 rfl (lv_at hl 1 rfl) ?_
  refine va_get (D := g.1) (ci := 11) (v := .int 11) (C := RX11) (T := TX11) (N := 14) hx hb hT inF_X11 hown hK.1 hP 0 rfl rfl 1 (by decide) (hT _ bw_161) (fun _ h9 => h9) rfl dX11_feedNumber_12 ?_
  refine lv_iload_n hx hb dX11_feedNumber_15 rfl (lv_at hl 2 rfl) ?_
  refine lv_iload_n hx hb dX11_feedNumber_16 rfl (lv_at hl 0 rfl) ?_
  refine lv_ishr hx hb dX11_feedNumber_17 ?_
  refine lv_topi (fun x_10 ex_10 => ?_)
  obtain ⟨x_11, ex_11⟩ : ∃ y : Int32, x_10.toInt8.toInt32 = y := ⟨_, rfl⟩
  refine lv_i2b (v := x_11) hx hb dX11_feedNumber_18 ex_11 ?_
  refine va_bast hx hb hK.1 hP hD hS 1 0 rfl rfl (i := 11) (x := x_11) (by unfold vp_in; decide) dX11_feedNumber_19 (fun H locs hP hD hS => ?_)
  generalize upd f_9 (11 : Int32).toNatClampNeg (vp_nar .byte x_11) = f_12 at hP hD
  have hP : va_P g.1 vwCl [(x, .inr (11, [.ref xt, .int 11, .ref xr, .ref la, .ref lb, .ref sa, .int 0, .int 0, .ref ba, .int 0, .ref se, .ref si, .ref pa, .ref he])), (xt, aB g 1600 f_12)] H := hP
  have hD : va_D A [(x, .inr (11, [.ref xt, .int 11, .ref xr, .ref la, .ref lb, .ref sa, .int 0, .int 0, .ref ba, .int 0, .ref se, .ref si, .ref pa, .ref he])), (xt, aB g 1600 f_12)] := hD
  refine lv_aload_n hx hb dX11_feedNumber_20 rfl (lv_at hl 1 rfl) ?_
  refine lv_dup hx hb dX11_feedNumber_21 rfl ?_
  refine va_get (D := g.1) (ci := 11) (v := .int 11) (C := RX11) (T := TX11) (N := 14) hx hb hT inF_X11 hown hK.1 hP 0 rfl rfl 1 (by decide) (hT _ bw_161) (fun _ h9 => h9) rfl dX11_feedNumber_22 ?_
  refine lv_iconst (v := 1) hx hb dX11_feedNumber_25 (by decide) ?_
  refine lv_iadd hx hb dX11_feedNumber_26 ?_
  refine p_ti (v := 12) (by decide +kernel) ?_
  refine va_put (D := g.1) (ci := 11) (v := .int 12) (ty := .int) (C := RX11) (T := TX11) (N := 14) hx hb hT inF_X11 tyX11 tyX11_ok nmX11 hown hK.1 hP hD hS 0 rfl rfl 1 (by decide) (hT _ bw_161) (fun _ h9 => h9) rfl (by decide +kernel) rfl rfl (Nat.le_of_ble_eq_true rfl) dX11_feedNumber_27 (fun H locs hP hD hS => ?_)
  have hP : va_P g.1 vwCl [(x, .inr (11, [.ref xt, .int 12, .ref xr, .ref la, .ref lb, .ref sa, .int 0, .int 0, .ref ba, .int 0, .ref se, .ref si, .ref pa, .ref he])), (xt, aB g 1600 f_12)] H := hP
  have hD : va_D A [(x, .inr (11, [.ref xt, .int 12, .ref xr, .ref la, .ref lb, .ref sa, .int 0, .int 0, .ref ba, .int 0, .ref se, .ref si, .ref pa, .ref he])), (xt, aB g 1600 f_12)] := hD
  refine lv_iinc (v := (-8)) (lv' := [(2, .int (-8)), (0, .ref x), (1, .int p0)]) hx hb dX11_feedNumber_30 hl (k := 0) rfl (by decide) (by decide) rfl (fun ls hl => ?_)
  refine lv_goto (tgt := 3) hx hb dX11_feedNumber_33 (by decide) ?_
  refine lv_iload_n hx hb dX11_feedNumber_3 rfl (lv_at hl 0 rfl) ?_
  refine lv_if_lt (tgt := 36) hx hb dX11_feedNumber_4 (by decide) (fun _ => ?_) (fun c9 => absurd (by decide) c9)
  have hP9 : va_P g.1 vwCl [(x, .inr (11, [.ref xt, .int 12, .ref xr, .ref la, .ref lb, .ref sa, .int 0, .int 0, .ref ba, .int 0, .ref se, .ref si, .ref pa, .ref he])), (xt, aB g 1600 f_12)] H := hP.sub [0, 1] rfl
  have hD9 : va_D A [(x, .inr (11, [.ref xt, .int 12, .ref xr, .ref la, .ref lb, .ref sa, .int 0, .int 0, .ref ba, .int 0, .ref se, .ref si, .ref pa, .ref he])), (xt, aB g 1600 f_12)] := hD.sub [0, 1] (by decide) rfl
  exact W.vret hx hb hr (fun t ht hW => ⟨⟨f_12, rfl, trivial, by rw [ht]; exact hP9, by rw [hAe]; exact hD9⟩, hS.F ht⟩) hS.2.2 dX11_feedNumber_36

set_option maxHeartbeats 4000000 in
set_option maxRecDepth 100000 in
theorem c_X11_feedNumber_12 (l : Launch) (g : GG) (sz : Nat) (x : Nat) (xt : Nat) (xr : Nat) (la : Nat) (lb : Nat) (sa : Nat) (ba : Nat) (se : Nat) (si : Nat) (pa : Nat) (he : Nat) (ff : Nat → Int32) (p0 : Int32) : Met l yX11_feedNumber (.code yX11_feedNumber cX11_feedNumber 3 none :: gT) ({ frames := 0, cells := 0, slots := 0, locals := 0 }) (va_Pc [.ref x, .int p0] (Pst g sz [(x, .inr (11, [.ref xt, .int 12, .ref xr, .ref la, .ref lb, .ref sa, .int 0, .int 0, .ref ba, .int 0, .ref se, .ref si, .ref pa, .ref he])), (xt, aB g 1600 ff)] nX)) (va_Qv (fun (_ : (Nat → Int32)) => True) (Qst g [(x, .inr (11, [.ref xt, .int 12, .ref xr, .ref la, .ref lb, .ref sa, .int 0, .int 0, .ref ba, .int 0, .ref se, .ref si, .ref pa, .ref he])), (xt, aB g 1600 ff)] sz (fun (f_12 : Nat → Int32) => [(x, .inr (11, [.ref xt, .int 16, .ref xr, .ref la, .ref lb, .ref sa, .int 0, .int 0, .ref ba, .int 0, .ref se, .ref si, .ref pa, .ref he])), (xt, aB g 1600 f_12)])) (va_A [(x, .inr (11, [.ref xt, .int 12, .ref xr, .ref la, .ref lb, .ref sa, .int 0, .int 0, .ref ba, .int 0, .ref se, .ref si, .ref pa, .ref he])), (xt, aB g 1600 ff)] sz)) 0 0 (va_A [(x, .inr (11, [.ref xt, .int 12, .ref xr, .ref la, .ref lb, .ref sa, .int 0, .int 0, .ref ba, .int 0, .ref se, .ref si, .ref pa, .ref he])), (xt, aB g 1600 ff)] sz) := by
  refine Met.ofW (cc := cX11_feedNumber) (maxL := 3) (ret := none) (by decide) rfl ?_
  intro p e s m args below meth c s₁ B hml hv
  obtain ⟨rfl, hsz, hP, hK, hD0, hX⟩ := hv
  have hx := B.exec
  have hb := B.bytes
  have hr := B.returns
  have hT : ∀ w ∈ gT, w.before _ s = true := fun w h => atoms_spec (ws := .code yX11_feedNumber cX11_feedNumber 3 none :: gT) B.pre w (List.mem_cons_of_mem _ h)
  have hown : s.vm.findClass RX11 = some m.cls := findClass_of_methodNamed B.named
  have hlocks := B.notSynchronized
  subst hsz
  have hD := hD0.self (sz := s.heap.size)
  generalize hAe : va_A [(x, .inr (11, [.ref xt, .int 12, .ref xr, .ref la, .ref lb, .ref sa, .int 0, .int 0, .ref ba, .int 0, .ref se, .ref si, .ref pa, .ref he])), (xt, aB g 1600 ff)] s.heap.size = A at hD ⊢
  have hA : ∀ q : Nat, s.heap.size ≤ q → A q := fun q h => by rw [← hAe]; exact Or.inr h
  have hS : va_S A s.heap s.heap [] := va_S.rf
  have hl := lv_entry ([.ref x, .int p0]) (n := 3) (Nat.le_of_ble_eq_true rfl)
  rw [lg_entry_eq]
  generalize (lg_sl ([.ref x, .int p0]) ++ List.replicate (3 - (lg_sl ([.ref x, .int p0])).length) Slot.unset).toArray = ls at hl ⊢
  have hl : lv_has ls 3 [(0, .ref x), (1, .int p0)] := hl
  refine p_nH (fun H hH => ?_)
  have hP : va_P g.1 vwCl [(x, .inr (11, [.ref xt, .int 12, .ref xr, .ref la, .ref lb, .ref sa, .int 0, .int 0, .ref ba, .int 0, .ref se, .ref si, .ref pa, .ref he])), (xt, aB g 1600 ff)] H := by rw [hH]; exact hP
  have hS : va_S A s.heap H [] := by rw [hH]; exact hS
  refine lv_bipush (v := 24) hx hb dX11_feedNumber_0 (by decide) ?_
  refine lv_istore_n (lv' := [(2, .int 24), (0, .ref x), (1, .int p0)]) hx hb dX11_feedNumber_2 rfl hl (by decide) rfl (fun ls hl => ?_)
  refine lv_iload_n hx hb dX11_feedNumber_3 rfl (lv_at hl 0 rfl) ?_
  refine lv_if_lt (tgt := 36) hx hb dX11_feedNumber_4 (by decide) (fun c9 => absurd c9 (by decide)) (fun _ => ?_)
  refine lv_aload_n hx hb dX11_feedNumber_7 rfl (lv_at hl 1 rfl) ?_
  refine va_get (D := g.1) (ci := 11) (v := .ref xt) (C := RX11) (T := TX11) (N := 14) hx hb hT inF_X11 hown hK.1 hP 0 rfl rfl 0 (by decide) (hT _ bw_160) (fun _ h9 => h9) rfl dX11_feedNumber_8 ?_
  refine lv_aload_n hx hb dX11_feedNumber_11 rfl (lv_at hl 1 rfl) ?_
  refine va_get (D := g.1) (ci := 11) (v := .int 12) (C := RX11) (T := TX11) (N := 14) hx hb hT inF_X11 hown hK.1 hP 0 rfl rfl 1 (by decide) (hT _ bw_161) (fun _ h9 => h9) rfl dX11_feedNumber_12 ?_
  refine lv_iload_n hx hb dX11_feedNumber_15 rfl (lv_at hl 2 rfl) ?_
  refine lv_iload_n hx hb dX11_feedNumber_16 rfl (lv_at hl 0 rfl) ?_
  refine lv_ishr hx hb dX11_feedNumber_17 ?_
  refine lv_topi (fun x_1 ex_1 => ?_)
  obtain ⟨x_2, ex_2⟩ : ∃ y : Int32, x_1.toInt8.toInt32 = y := ⟨_, rfl⟩
  refine lv_i2b (v := x_2) hx hb dX11_feedNumber_18 ex_2 ?_
  refine va_bast hx hb hK.1 hP hD hS 1 0 rfl rfl (i := 12) (x := x_2) (by unfold vp_in; decide) dX11_feedNumber_19 (fun H locs hP hD hS => ?_)
  generalize upd ff (12 : Int32).toNatClampNeg (vp_nar .byte x_2) = f_3 at hP hD
  have hP : va_P g.1 vwCl [(x, .inr (11, [.ref xt, .int 12, .ref xr, .ref la, .ref lb, .ref sa, .int 0, .int 0, .ref ba, .int 0, .ref se, .ref si, .ref pa, .ref he])), (xt, aB g 1600 f_3)] H := hP
  have hD : va_D A [(x, .inr (11, [.ref xt, .int 12, .ref xr, .ref la, .ref lb, .ref sa, .int 0, .int 0, .ref ba, .int 0, .ref se, .ref si, .ref pa, .ref he])), (xt, aB g 1600 f_3)] := hD
  refine lv_aload_n hx hb dX11_feedNumber_20 rfl (lv_at hl 1 rfl) ?_
  refine lv_dup hx hb dX11_feedNumber_21 rfl ?_
  refine va_get (D := g.1) (ci := 11) (v := .int 12) (C := RX11) (T := TX11) (N := 14) hx hb hT inF_X11 hown hK.1 hP 0 rfl rfl 1 (by decide) (hT _ bw_161) (fun _ h9 => h9) rfl dX11_feedNumber_22 ?_
  refine lv_iconst (v := 1) hx hb dX11_feedNumber_25 (by decide) ?_
  refine lv_iadd hx hb dX11_feedNumber_26 ?_
  refine p_ti (v := 13) (by decide +kernel) ?_
  refine va_put (D := g.1) (ci := 11) (v := .int 13) (ty := .int) (C := RX11) (T := TX11) (N := 14) hx hb hT inF_X11 tyX11 tyX11_ok nmX11 hown hK.1 hP hD hS 0 rfl rfl 1 (by decide) (hT _ bw_161) (fun _ h9 => h9) rfl (by decide +kernel) rfl rfl (Nat.le_of_ble_eq_true rfl) dX11_feedNumber_27 (fun H locs hP hD hS => ?_)
  have hP : va_P g.1 vwCl [(x, .inr (11, [.ref xt, .int 13, .ref xr, .ref la, .ref lb, .ref sa, .int 0, .int 0, .ref ba, .int 0, .ref se, .ref si, .ref pa, .ref he])), (xt, aB g 1600 f_3)] H := hP
  have hD : va_D A [(x, .inr (11, [.ref xt, .int 13, .ref xr, .ref la, .ref lb, .ref sa, .int 0, .int 0, .ref ba, .int 0, .ref se, .ref si, .ref pa, .ref he])), (xt, aB g 1600 f_3)] := hD
  refine lv_iinc (v := 16) (lv' := [(2, .int 16), (0, .ref x), (1, .int p0)]) hx hb dX11_feedNumber_30 hl (k := 0) rfl (by decide) (by decide) rfl (fun ls hl => ?_)
  refine lv_goto (tgt := 3) hx hb dX11_feedNumber_33 (by decide) ?_
  refine lv_iload_n hx hb dX11_feedNumber_3 rfl (lv_at hl 0 rfl) ?_
  refine lv_if_lt (tgt := 36) hx hb dX11_feedNumber_4 (by decide) (fun c9 => absurd c9 (by decide)) (fun _ => ?_)
  refine lv_aload_n hx hb dX11_feedNumber_7 rfl (lv_at hl 1 rfl) ?_
  refine va_get (D := g.1) (ci := 11) (v := .ref xt) (C := RX11) (T := TX11) (N := 14) hx hb hT inF_X11 hown hK.1 hP 0 rfl rfl 0 (by decide) (hT _ bw_160) (fun _ h9 => h9) rfl dX11_feedNumber_8 ?_
  refine lv_aload_n hx hb dX11_feedNumber_11 rfl (lv_at hl 1 rfl) ?_
  refine va_get (D := g.1) (ci := 11) (v := .int 13) (C := RX11) (T := TX11) (N := 14) hx hb hT inF_X11 hown hK.1 hP 0 rfl rfl 1 (by decide) (hT _ bw_161) (fun _ h9 => h9) rfl dX11_feedNumber_12 ?_
  refine lv_iload_n hx hb dX11_feedNumber_15 rfl (lv_at hl 2 rfl) ?_
  refine lv_iload_n hx hb dX11_feedNumber_16 rfl (lv_at hl 0 rfl) ?_
  refine lv_ishr hx hb dX11_feedNumber_17 ?_
  refine lv_topi (fun x_4 ex_4 => ?_)
  obtain ⟨x_5, ex_5⟩ : ∃ y : Int32, x_4.toInt8.toInt32 = y := ⟨_, rfl⟩
  refine lv_i2b (v := x_5) hx hb dX11_feedNumber_18 ex_5 ?_
  refine va_bast hx hb hK.1 hP hD hS 1 0 rfl rfl (i := 13) (x := x_5) (by unfold vp_in; decide) dX11_feedNumber_19 (fun H locs hP hD hS => ?_)
  generalize upd f_3 (13 : Int32).toNatClampNeg (vp_nar .byte x_5) = f_6 at hP hD
  have hP : va_P g.1 vwCl [(x, .inr (11, [.ref xt, .int 13, .ref xr, .ref la, .ref lb, .ref sa, .int 0, .int 0, .ref ba, .int 0, .ref se, .ref si, .ref pa, .ref he])), (xt, aB g 1600 f_6)] H := hP
  have hD : va_D A [(x, .inr (11, [.ref xt, .int 13, .ref xr, .ref la, .ref lb, .ref sa, .int 0, .int 0, .ref ba, .int 0, .ref se, .ref si, .ref pa, .ref he])), (xt, aB g 1600 f_6)] := hD
  refine lv_aload_n hx hb dX11_feedNumber_20 rfl (lv_at hl 1 rfl) ?_
  refine lv_dup hx hb dX11_feedNumber_21 rfl ?_
  refine va_get (D := g.1) (ci := 11) (v := .int 13) (C := RX11) (T := TX11) (N := 14) hx hb hT inF_X11 hown hK.1 hP 0 rfl rfl 1 (by decide) (hT _ bw_161) (fun _ h9 => h9) rfl dX11_feedNumber_22 ?_
  refine lv_iconst (v := 1) hx hb dX11_feedNumber_25 (by decide) ?_
  refine lv_iadd hx hb dX11_feedNumber_26 ?_
  refine p_ti (v := 14) (by decide +kernel) ?_
  refine va_put (D := g.1) (ci := 11) (v := .int 14) (ty := .int) (C := RX11) (T := TX11) (N := 14) hx hb hT inF_X11 tyX11 tyX11_ok nmX11 hown hK.1 hP hD hS 0 rfl rfl 1 (by decide) (hT _ bw_161) (fun _ h9 => h9) rfl (by decide +kernel) rfl rfl (Nat.le_of_ble_eq_true rfl) dX11_feedNumber_27 (fun H locs hP hD hS => ?_)
  have hP : va_P g.1 vwCl [(x, .inr (11, [.ref xt, .int 14, .ref xr, .ref la, .ref lb, .ref sa, .int 0, .int 0, .ref ba, .int 0, .ref se, .ref si, .ref pa, .ref he])), (xt, aB g 1600 f_6)] H := hP
  have hD : va_D A [(x, .inr (11, [.ref xt, .int 14, .ref xr, .ref la, .ref lb, .ref sa, .int 0, .int 0, .ref ba, .int 0, .ref se, .ref si, .ref pa, .ref he])), (xt, aB g 1600 f_6)] := hD
  refine lv_iinc (v := 8) (lv' := [(2, .int 8), (0, .ref x), (1, .int p0)]) hx hb dX11_feedNumber_30 hl (k := 0) rfl (by decide) (by decide) rfl (fun ls hl => ?_)
  refine lv_goto (tgt := 3) hx hb dX11_feedNumber_33 (by decide) ?_
  refine lv_iload_n hx hb dX11_feedNumber_3 rfl (lv_at hl 0 rfl) ?_
  refine lv_if_lt (tgt := 36) hx hb dX11_feedNumber_4 (by decide) (fun c9 => absurd c9 (by decide)) (fun _ => ?_)
  refine lv_aload_n hx hb dX11_feedNumber_7 rfl (lv_at hl 1 rfl) ?_
  refine va_get (D := g.1) (ci := 11) (v := .ref xt) (C := RX11) (T := TX11) (N := 14) hx hb hT inF_X11 hown hK.1 hP 0 rfl rfl 0 (by decide) (hT _ bw_160) (fun _ h9 => h9) rfl dX11_feedNumber_8 ?_
  refine lv_aload_n hx hb dX11_feedNumber_11 rfl (lv_at hl 1 rfl) ?_
  refine va_get (D := g.1) (ci := 11) (v := .int 14) (C := RX11) (T := TX11) (N := 14) hx hb hT inF_X11 hown hK.1 hP 0 rfl rfl 1 (by decide) (hT _ bw_161) (fun _ h9 => h9) rfl dX11_feedNumber_12 ?_
  refine lv_iload_n hx hb dX11_feedNumber_15 rfl (lv_at hl 2 rfl) ?_
  refine lv_iload_n hx hb dX11_feedNumber_16 rfl (lv_at hl 0 rfl) ?_
  refine lv_ishr hx hb dX11_feedNumber_17 ?_
  refine lv_topi (fun x_7 ex_7 => ?_)
  obtain ⟨x_8, ex_8⟩ : ∃ y : Int32, x_7.toInt8.toInt32 = y := ⟨_, rfl⟩
  refine lv_i2b (v := x_8) hx hb dX11_feedNumber_18 ex_8 ?_
  refine va_bast hx hb hK.1 hP hD hS 1 0 rfl rfl (i := 14) (x := x_8) (by unfold vp_in; decide) dX11_feedNumber_19 (fun H locs hP hD hS => ?_)
  generalize upd f_6 (14 : Int32).toNatClampNeg (vp_nar .byte x_8) = f_9 at hP hD
  have hP : va_P g.1 vwCl [(x, .inr (11, [.ref xt, .int 14, .ref xr, .ref la, .ref lb, .ref sa, .int 0, .int 0, .ref ba, .int 0, .ref se, .ref si, .ref pa, .ref he])), (xt, aB g 1600 f_9)] H := hP
  have hD : va_D A [(x, .inr (11, [.ref xt, .int 14, .ref xr, .ref la, .ref lb, .ref sa, .int 0, .int 0, .ref ba, .int 0, .ref se, .ref si, .ref pa, .ref he])), (xt, aB g 1600 f_9)] := hD
  refine lv_aload_n hx hb dX11_feedNumber_20 rfl (lv_at hl 1 rfl) ?_
  refine lv_dup hx hb dX11_feedNumber_21 rfl ?_
  refine va_get (D := g.1) (ci := 11) (v := .int 14) (C := RX11) (T := TX11) (N := 14) hx hb hT inF_X11 hown hK.1 hP 0 rfl rfl 1 (by decide) (hT _ bw_161) (fun _ h9 => h9) rfl dX11_feedNumber_22 ?_
  refine lv_iconst (v := 1) hx hb dX11_feedNumber_25 (by decide) ?_
  refine lv_iadd hx hb dX11_feedNumber_26 ?_
  refine p_ti (v := 15) (by decide +kernel) ?_
  refine va_put (D := g.1) (ci := 11) (v := .int 15) (ty := .int) (C := RX11) (T := TX11) (N := 14) hx hb hT inF_X11 tyX11 tyX11_ok nmX11 hown hK.1 hP hD hS 0 rfl rfl 1 (by decide) (hT _ bw_161) (fun _ h9 => h9) rfl (by decide +kernel) rfl rfl (Nat.le_of_ble_eq_true rfl) dX11_feedNumber_27 (fun H locs hP hD hS => ?_)
  have hP : va_P g.1 vwCl [(x, .inr (11, [.ref xt, .int 15, .ref xr, .ref la, .ref lb, .ref sa, .int 0, .int 0, .ref ba, .int 0, .ref se, .ref si, .ref pa, .ref he])), (xt, aB g 1600 f_9)] H := hP
  have hD : va_D A [(x, .inr (11, [.ref xt, .int 15, .ref xr, .ref la, .ref lb, .ref sa, .int 0, .int 0, .ref ba, .int 0, .ref se, .ref si, .ref pa, .ref he])), (xt, aB g 1600 f_9)] := hD
  refine lv_iinc (v := 0) (lv' := [(2, .int 0), (0, .ref x), (1, .int p0)]) hx hb dX11_feedNumber_30 hl (k := 0) rfl (by decide) (by decide) rfl (fun ls hl => ?_)
  refine lv_goto (tgt := 3) hx hb dX11_feedNumber_33 (by decide) ?_
  refine lv_iload_n hx hb dX11_feedNumber_3 rfl (lv_at hl 0 rfl) ?_
  refine lv_if_lt (tgt := 36) hx hb dX11_feedNumber_4 (by decide) (fun c9 => absurd c9 (by decide)) (fun _ => ?_)
  refine lv_aload_n hx hb dX11_feedNumber_7 rfl (lv_at hl 1 rfl) ?_
  refine va_get (D := g.1) (ci := 11) (v := .ref xt) (C := RX11) (T := TX11) (N := 14) hx hb hT inF_X11 hown hK.1 hP 0 rfl rfl 0 (by decide) (hT _ bw_160) (fun _ h9 => h9) rfl dX11_feedNumber_8 ?_
  refine lv_aload_n hx hb dX11_feedNumber_11 rfl (lv_at hl 1 rfl) ?_
  refine va_get (D := g.1) (ci := 11) (v := .int 15) (C := RX11) (T := TX11) (N := 14) hx hb hT inF_X11 hown hK.1 hP 0 rfl rfl 1 (by decide) (hT _ bw_161) (fun _ h9 => h9) rfl dX11_feedNumber_12 ?_
  refine lv_iload_n hx hb dX11_feedNumber_15 rfl (lv_at hl 2 rfl) ?_
  refine lv_iload_n hx hb dX11_feedNumber_16 rfl (lv_at hl 0 rfl) ?_
  refine lv_ishr hx hb dX11_feedNumber_17 ?_
  refine lv_topi (fun x_10 ex_10 => ?_)
  obtain ⟨x_11, ex_11⟩ : ∃ y : Int32, x_10.toInt8.toInt32 = y := ⟨_, rfl⟩
  refine lv_i2b (v := x_11) hx hb dX11_feedNumber_18 ex_11 ?_
  refine va_bast hx hb hK.1 hP hD hS 1 0 rfl rfl (i := 15) (x := x_11) (by unfold vp_in; decide) dX11_feedNumber_19 (fun H locs hP hD hS => ?_)
  generalize upd f_9 (15 : Int32).toNatClampNeg (vp_nar .byte x_11) = f_12 at hP hD
  have hP : va_P g.1 vwCl [(x, .inr (11, [.ref xt, .int 15, .ref xr, .ref la, .ref lb, .ref sa, .int 0, .int 0, .ref ba, .int 0, .ref se, .ref si, .ref pa, .ref he])), (xt, aB g 1600 f_12)] H := hP
  have hD : va_D A [(x, .inr (11, [.ref xt, .int 15, .ref xr, .ref la, .ref lb, .ref sa, .int 0, .int 0, .ref ba, .int 0, .ref se, .ref si, .ref pa, .ref he])), (xt, aB g 1600 f_12)] := hD
  refine lv_aload_n hx hb dX11_feedNumber_20 rfl (lv_at hl 1 rfl) ?_
  refine lv_dup hx hb dX11_feedNumber_21 rfl ?_
  refine va_get (D := g.1) (ci := 11) (v := .int 15) (C := RX11) (T := TX11) (N := 14) hx hb hT inF_X11 hown hK.1 hP 0 rfl rfl 1 (by decide) (hT _ bw_161) (fun _ h9 => h9) rfl dX11_feedNumber_22 ?_
  refine lv_iconst (v := 1) hx hb dX11_feedNumber_25 (by decide) ?_
  refine lv_iadd hx hb dX11_feedNumber_26 ?_
  refine p_ti (v := 16) (by decide +kernel) ?_
  refine va_put (D := g.1) (ci := 11) (v := .int 16) (ty := .int) (C := RX11) (T := TX11) (N := 14) hx hb hT inF_X11 tyX11 tyX11_ok nmX11 hown hK.1 hP hD hS 0 rfl rfl 1 (by decide) (hT _ bw_161) (fun _ h9 => h9) rfl (by decide +kernel) rfl rfl (Nat.le_of_ble_eq_true rfl) dX11_feedNumber_27 (fun H locs hP hD hS => ?_)
  have hP : va_P g.1 vwCl [(x, .inr (11, [.ref xt, .int 16, .ref xr, .ref la, .ref lb, .ref sa, .int 0, .int 0, .ref ba, .int 0, .ref se, .ref si, .ref pa, .ref he])), (xt, aB g 1600 f_12)] H := hP
  have hD : va_D A [(x, .inr (11, [.ref xt, .int 16, .ref xr, .ref la, .ref lb, .ref sa, .int 0, .int 0, .ref ba, .int 0, .ref se, .ref si, .ref pa, .ref he])), (xt, aB g 1600 f_12)] := hD
  refine lv_iinc (v := (-8)) (lv' := [(2, .int (-8)), (0, .ref x), (1, .int p0)]) hx hb dX11_feedNumber_30 hl (k := 0) rfl (by decide) (by decide) rfl (fun ls hl => ?_)
  refine lv_goto (tgt := 3) hx hb dX11_feedNumber_33 (by decide) ?_
  refine lv_iload_n hx hb dX11_feedNumber_3 rfl (lv_at hl 0 rfl) ?_
  refine lv_if_lt (tgt := 36) hx hb dX11_feedNumber_4 (by decide) (fun _ => ?_) (fun c9 => absurd (by decide) c9)
  have hP9 : va_P g.1 vwCl [(x, .inr (11, [.ref xt, .int 16, .ref xr, .ref la, .ref lb, .ref sa, .int 0, .int 0, .ref ba, .int 0, .ref se, .ref si, .ref pa, .ref he])), (xt, aB g 1600 f_12)] H := hP.sub [0, 1] rfl
  have hD9 : va_D A [(x, .inr (11, [.ref xt, .int 16, .ref xr, .ref la, .ref lb, .ref sa, .int 0, .int 0, .ref ba, .int 0, .ref se, .ref si, .ref pa, .ref he])), (xt, aB g 1600 f_12)] := hD.sub [0, 1] (by decide) rfl
  exact W.vret hx hb hr (fun t ht hW => ⟨⟨f_12, rfl, trivial, by rw [ht]; exact hP9, by rw [hAe]; exact hD9⟩, hS.F ht⟩) hS.2.2 dX11_feedNumber_36

set_option maxHeartbeats 4000000 in
set_option maxRecDepth 100000 in
theorem c_X11_feedNumber_16 (l : Launch) (g : GG) (sz : Nat) (x : Nat) (xt : Nat) (xr : Nat) (la : Nat) (lb : Nat) (sa : Nat) (ba : Nat) (se : Nat) (si : Nat) (pa : Nat) (he : Nat) (ff : Nat → Int32) (p0 : Int32) : Met l yX11_feedNumber (.code yX11_feedNumber cX11_feedNumber 3 none :: gT) ({ frames := 0, cells := 0, slots := 0, locals := 0 }) (va_Pc [.ref x, .int p0] (Pst g sz [(x, .inr (11, [.ref xt, .int 16, .ref xr, .ref la, .ref lb, .ref sa, .int 0, .int 0, .ref ba, .int 0, .ref se, .ref si, .ref pa, .ref he])), (xt, aB g 1600 ff)] nX)) (va_Qv (fun (_ : (Nat → Int32)) => True) (Qst g [(x, .inr (11, [.ref xt, .int 16, .ref xr, .ref la, .ref lb, .ref sa, .int 0, .int 0, .ref ba, .int 0, .ref se, .ref si, .ref pa, .ref he])), (xt, aB g 1600 ff)] sz (fun (f_12 : Nat → Int32) => [(x, .inr (11, [.ref xt, .int 20, .ref xr, .ref la, .ref lb, .ref sa, .int 0, .int 0, .ref ba, .int 0, .ref se, .ref si, .ref pa, .ref he])), (xt, aB g 1600 f_12)])) (va_A [(x, .inr (11, [.ref xt, .int 16, .ref xr, .ref la, .ref lb, .ref sa, .int 0, .int 0, .ref ba, .int 0, .ref se, .ref si, .ref pa, .ref he])), (xt, aB g 1600 ff)] sz)) 0 0 (va_A [(x, .inr (11, [.ref xt, .int 16, .ref xr, .ref la, .ref lb, .ref sa, .int 0, .int 0, .ref ba, .int 0, .ref se, .ref si, .ref pa, .ref he])), (xt, aB g 1600 ff)] sz) := by
  refine Met.ofW (cc := cX11_feedNumber) (maxL := 3) (ret := none) (by decide) rfl ?_
  intro p e s m args below meth c s₁ B hml hv
  obtain ⟨rfl, hsz, hP, hK, hD0, hX⟩ := hv
  have hx := B.exec
  have hb := B.bytes
  have hr := B.returns
  have hT : ∀ w ∈ gT, w.before _ s = true := fun w h => atoms_spec (ws := .code yX11_feedNumber cX11_feedNumber 3 none :: gT) B.pre w (List.mem_cons_of_mem _ h)
  have hown : s.vm.findClass RX11 = some m.cls := findClass_of_methodNamed B.named
  have hlocks := B.notSynchronized
  subst hsz
  have hD := hD0.self (sz := s.heap.size)
  generalize hAe : va_A [(x, .inr (11, [.ref xt, .int 16, .ref xr, .ref la, .ref lb, .ref sa, .int 0, .int 0, .ref ba, .int 0, .ref se, .ref si, .ref pa, .ref he])), (xt, aB g 1600 ff)] s.heap.size = A at hD ⊢
  have hA : ∀ q : Nat, s.heap.size ≤ q → A q := fun q h => by rw [← hAe]; exact Or.inr h
  have hS : va_S A s.heap s.heap [] := va_S.rf
  have hl := lv_entry ([.ref x, .int p0]) (n := 3) (Nat.le_of_ble_eq_true rfl)
  rw [lg_entry_eq]
  generalize (lg_sl ([.ref x, .int p0]) ++ List.replicate (3 - (lg_sl ([.ref x, .int p0])).length) Slot.unset).toArray = ls at hl ⊢
  have hl : lv_has ls 3 [(0, .ref x), (1, .int p0)] := hl
  refine p_nH (fun H hH => ?_)
  have hP : va_P g.1 vwCl [(x, .inr (11, [.ref xt, .int 16, .ref xr, .ref la, .ref lb, .ref sa, .int 0, .int 0, .ref ba, .int 0, .ref se, .ref si, .ref pa, .ref he])), (xt, aB g 1600 ff)] H := by rw [hH]; exact hP
  have hS : va_S A s.heap H [] := by rw [hH]; exact hS
  refine lv_bipush (v := 24) hx hb dX11_feedNumber_0 (by decide) ?_
  refine lv_istore_n (lv' := [(2, .int 24), (0, .ref x), (1, .int p0)]) hx hb dX11_feedNumber_2 rfl hl (by decide) rfl (fun ls hl => ?_)
  refine lv_iload_n hx hb dX11_feedNumber_3 rfl (lv_at hl 0 rfl) ?_
  refine lv_if_lt (tgt := 36) hx hb dX11_feedNumber_4 (by decide) (fun c9 => absurd c9 (by decide)) (fun _ => ?_)
  refine lv_aload_n hx hb dX11_feedNumber_7 rfl (lv_at hl 1 rfl) ?_
  refine va_get (D := g.1) (ci := 11) (v := .ref xt) (C := RX11) (T := TX11) (N := 14) hx hb hT inF_X11 hown hK.1 hP 0 rfl rfl 0 (by decide) (hT _ bw_160) (fun _ h9 => h9) rfl dX11_feedNumber_8 ?_
  refine lv_aload_n hx hb dX11_feedNumber_11 rfl (lv_at hl 1 rfl) ?_
  refine va_get (D := g.1) (ci := 11) (v := .int 16) (C := RX11) (T := TX11) (N := 14) hx hb hT inF_X11 hown hK.1 hP 0 rfl rfl 1 (by decide) (hT _ bw_161) (fun _ h9 => h9) rfl dX11_feedNumber_12 ?_
  refine lv_iload_n hx hb dX11_feedNumber_15 rfl (lv_at hl 2 rfl) ?_
  refine lv_iload_n hx hb dX11_feedNumber_16 rfl (lv_at hl 0 rfl) ?_
  refine lv_ishr hx hb dX11_feedNumber_17 ?_
  refine lv_topi (fun x_1 ex_1 => ?_)
  obtain ⟨x_2, ex_2⟩ : ∃ y : Int32, x_1.toInt8.toInt32 = y := ⟨_, rfl⟩
  refine lv_i2b (v := x_2) hx hb dX11_feedNumber_18 ex_2 ?_
  refine va_bast hx hb hK.1 hP hD hS 1 0 rfl rfl (i := 16) (x := x_2) (by unfold vp_in; decide) dX11_feedNumber_19 (fun H locs hP hD hS => ?_)
  generalize upd ff (16 : Int32).toNatClampNeg (vp_nar .byte x_2) = f_3 at hP hD
  have hP : va_P g.1 vwCl [(x, .inr (11, [.ref xt, .int 16, .ref xr, .ref la, .ref lb, .ref sa, .int 0, .int 0, .ref ba, .int 0, .ref se, .ref si, .ref pa, .ref he])), (xt, aB g 1600 f_3)] H := hP
  have hD : va_D A [(x, .inr (11, [.ref xt, .int 16, .ref xr, .ref la, .ref lb, .ref sa, .int 0, .int 0, .ref ba, .int 0, .ref se, .ref si, .ref pa, .ref he])), (xt, aB g 1600 f_3)] := hD
  refine lv_aload_n hx hb dX11_feedNumber_20 rfl (lv_at hl 1 rfl) ?_
  refine lv_dup hx hb dX11_feedNumber_21 rfl ?_
  refine va_get (D := g.1) (ci := 11) (v := .int 16) (C := RX11) (T := TX11) (N := 14) hx hb hT inF_X11 hown hK.1 hP 0 rfl rfl 1 (by decide) (hT _ bw_161) (fun _ h9 => h9) rfl dX11_feedNumber_22 ?_
  refine lv_iconst (v := 1) hx hb dX11_feedNumber_25 (by decide) ?_
  refine lv_iadd hx hb dX11_feedNumber_26 ?_
  refine p_ti (v := 17) (by decide +kernel) ?_
  refine va_put (D := g.1) (ci := 11) (v := .int 17) (ty := .int) (C := RX11) (T := TX11) (N := 14) hx hb hT inF_X11 tyX11 tyX11_ok nmX11 hown hK.1 hP hD hS 0 rfl rfl 1 (by decide) (hT _ bw_161) (fun _ h9 => h9) rfl (by decide +kernel) rfl rfl (Nat.le_of_ble_eq_true rfl) dX11_feedNumber_27 (fun H locs hP hD hS => ?_)
  have hP : va_P g.1 vwCl [(x, .inr (11, [.ref xt, .int 17, .ref xr, .ref la, .ref lb, .ref sa, .int 0, .int 0, .ref ba, .int 0, .ref se, .ref si, .ref pa, .ref he])), (xt, aB g 1600 f_3)] H := hP
  have hD : va_D A [(x, .inr (11, [.ref xt, .int 17, .ref xr, .ref la, .ref lb, .ref sa, .int 0, .int 0, .ref ba, .int 0, .ref se, .ref si, .ref pa, .ref he])), (xt, aB g 1600 f_3)] := hD
  refine lv_iinc (v := 16) (lv' := [(2, .int 16), (0, .ref x), (1, .int p0)]) hx hb dX11_feedNumber_30 hl (k := 0) rfl (by decide) (by decide) rfl (fun ls hl => ?_)
  refine lv_goto (tgt := 3) hx hb dX11_feedNumber_33 (by decide) ?_
  refine lv_iload_n hx hb dX11_feedNumber_3 rfl (lv_at hl 0 rfl) ?_
  refine lv_if_lt (tgt := 36) hx hb dX11_feedNumber_4 (by decide) (fun c9 => absurd c9 (by decide)) (fun _ => ?_)
  refine lv_aload_n hx hb dX11_feedNumber_7 rfl (lv_at hl 1 rfl) ?_
  refine va_get (D := g.1) (ci := 11) (v := .ref xt) (C := RX11) (T := TX11) (N := 14) hx hb hT inF_X11 hown hK.1 hP 0 rfl rfl 0 (by decide) (hT _ bw_160) (fun _ h9 => h9) rfl dX11_feedNumber_8 ?_
  refine lv_aload_n hx hb dX11_feedNumber_11 rfl (lv_at hl 1 rfl) ?_
  refine va_get (D := g.1) (ci := 11) (v := .int 17) (C := RX11) (T := TX11) (N := 14) hx hb hT inF_X11 hown hK.1 hP 0 rfl rfl 1 (by decide) (hT _ bw_161) (fun _ h9 => h9) rfl dX11_feedNumber_12 ?_
  refine lv_iload_n hx hb dX11_feedNumber_15 rfl (lv_at hl 2 rfl) ?_
  refine lv_iload_n hx hb dX11_feedNumber_16 rfl (lv_at hl 0 rfl) ?_
  refine lv_ishr hx hb dX11_feedNumber_17 ?_
  refine lv_topi (fun x_4 ex_4 => ?_)
  obtain ⟨x_5, ex_5⟩ : ∃ y : Int32, x_4.toInt8.toInt32 = y := ⟨_, rfl⟩
  refine lv_i2b (v := x_5) hx hb dX11_feedNumber_18 ex_5 ?_
  refine va_bast hx hb hK.1 hP hD hS 1 0 rfl rfl (i := 17) (x := x_5) (by unfold vp_in; decide) dX11_feedNumber_19 (fun H locs hP hD hS => ?_)
  generalize upd f_3 (17 : Int32).toNatClampNeg (vp_nar .byte x_5) = f_6 at hP hD
  have hP : va_P g.1 vwCl [(x, .inr (11, [.ref xt, .int 17, .ref xr, .ref la, .ref lb, .ref sa, .int 0, .int 0, .ref ba, .int 0, .ref se, .ref si, .ref pa, .ref he])), (xt, aB g 1600 f_6)] H := hP
  have hD : va_D A [(x, .inr (11, [.ref xt, .int 17, .ref xr, .ref la, .ref lb, .ref sa, .int 0, .int 0, .ref ba, .int 0, .ref se, .ref si, .ref pa, .ref he])), (xt, aB g 1600 f_6)] := hD
  refine lv_aload_n hx hb dX11_feedNumber_20 rfl (lv_at hl 1 rfl) ?_
  refine lv_dup hx hb dX11_feedNumber_21 rfl ?_
  refine va_get (D := g.1) (ci := 11) (v := .int 17) (C := RX11) (T := TX11) (N := 14) hx hb hT inF_X11 hown hK.1 hP 0 rfl rfl 1 (by decide) (hT _ bw_161) (fun _ h9 => h9) rfl dX11_feedNumber_22 ?_
  refine lv_iconst (v := 1) hx hb dX11_feedNumber_25 (by decide) ?_
  refine lv_iadd hx hb dX11_feedNumber_26 ?_
  refine p_ti (v := 18) (by decide +kernel) ?_
  refine va_put (D := g.1) (ci := 11) (v := .int 18) (ty := .int) (C := RX11) (T := TX11) (N := 14) hx hb hT inF_X11 tyX11 tyX11_ok nmX11 hown hK.1 hP hD hS 0 rfl rfl 1 (by decide) (hT _ bw_161) (fun _ h9 => h9) rfl (by decide +kernel) rfl rfl (Nat.le_of_ble_eq_true rfl) dX11_feedNumber_27 (fun H locs hP hD hS => ?_)
  have hP : va_P g.1 vwCl [(x, .inr (11, [.ref xt, .int 18, .ref xr, .ref la, .ref lb, .ref sa, .int 0, .int 0, .ref ba, .int 0, .ref se, .ref si, .ref pa, .ref he])), (xt, aB g 1600 f_6)] H := hP
  have hD : va_D A [(x, .inr (11, [.ref xt, .int 18, .ref xr, .ref la, .ref lb, .ref sa, .int 0, .int 0, .ref ba, .int 0, .ref se, .ref si, .ref pa, .ref he])), (xt, aB g 1600 f_6)] := hD
  refine lv_iinc (v := 8) (lv' := [(2, .int 8), (0, .ref x), (1, .int p0)]) hx hb dX11_feedNumber_30 hl (k := 0) rfl (by decide) (by decide) rfl (fun ls hl => ?_)
  refine lv_goto (tgt := 3) hx hb dX11_feedNumber_33 (by decide) ?_
  refine lv_iload_n hx hb dX11_feedNumber_3 rfl (lv_at hl 0 rfl) ?_
  refine lv_if_lt (tgt := 36) hx hb dX11_feedNumber_4 (by decide) (fun c9 => absurd c9 (by decide)) (fun _ => ?_)
  refine lv_aload_n hx hb dX11_feedNumber_7 rfl (lv_at hl 1 rfl) ?_
  refine va_get (D := g.1) (ci := 11) (v := .ref xt) (C := RX11) (T := TX11) (N := 14) hx hb hT inF_X11 hown hK.1 hP 0 rfl rfl 0 (by decide) (hT _ bw_160) (fun _ h9 => h9) rfl dX11_feedNumber_8 ?_
  refine lv_aload_n hx hb dX11_feedNumber_11 rfl (lv_at hl 1 rfl) ?_
  refine va_get (D := g.1) (ci := 11) (v := .int 18) (C := RX11) (T := TX11) (N := 14) hx hb hT inF_X11 hown hK.1 hP 0 rfl rfl 1 (by decide) (hT _ bw_161) (fun _ h9 => h9) rfl dX11_feedNumber_12 ?_
  refine lv_iload_n hx hb dX11_feedNumber_15 rfl (lv_at hl 2 rfl) ?_
  refine lv_iload_n hx hb dX11_feedNumber_16 rfl (lv_at hl 0 rfl) ?_
  refine lv_ishr hx hb dX11_feedNumber_17 ?_
  refine lv_topi (fun x_7 ex_7 => ?_)
  obtain ⟨x_8, ex_8⟩ : ∃ y : Int32, x_7.toInt8.toInt32 = y := ⟨_, rfl⟩
  refine lv_i2b (v := x_8) hx hb dX11_feedNumber_18 ex_8 ?_
  refine va_bast hx hb hK.1 hP hD hS 1 0 rfl rfl (i := 18) (x := x_8) (by unfold vp_in; decide) dX11_feedNumber_19 (fun H locs hP hD hS => ?_)
  generalize upd f_6 (18 : Int32).toNatClampNeg (vp_nar .byte x_8) = f_9 at hP hD
  have hP : va_P g.1 vwCl [(x, .inr (11, [.ref xt, .int 18, .ref xr, .ref la, .ref lb, .ref sa, .int 0, .int 0, .ref ba, .int 0, .ref se, .ref si, .ref pa, .ref he])), (xt, aB g 1600 f_9)] H := hP
  have hD : va_D A [(x, .inr (11, [.ref xt, .int 18, .ref xr, .ref la, .ref lb, .ref sa, .int 0, .int 0, .ref ba, .int 0, .ref se, .ref si, .ref pa, .ref he])), (xt, aB g 1600 f_9)] := hD
  refine lv_aload_n hx hb dX11_feedNumber_20 rfl (lv_at hl 1 rfl) ?_
  refine lv_dup hx hb dX11_feedNumber_21 rfl ?_
  refine va_get (D := g.1) (ci := 11) (v := .int 18) (C := RX11) (T := TX11) (N := 14) hx hb hT inF_X11 hown hK.1 hP 0 rfl rfl 1 (by decide) (hT _ bw_161) (fun _ h9 => h9) rfl dX11_feedNumber_22 ?_
  refine lv_iconst (v := 1) hx hb dX11_feedNumber_25 (by decide) ?_
  refine lv_iadd hx hb dX11_feedNumber_26 ?_
  refine p_ti (v := 19) (by decide +kernel) ?_
  refine va_put (D := g.1) (ci := 11) (v := .int 19) (ty := .int) (C := RX11) (T := TX11) (N := 14) hx hb hT inF_X11 tyX11 tyX11_ok nmX11 hown hK.1 hP hD hS 0 rfl rfl 1 (by decide) (hT _ bw_161) (fun _ h9 => h9) rfl (by decide +kernel) rfl rfl (Nat.le_of_ble_eq_true rfl) dX11_feedNumber_27 (fun H locs hP hD hS => ?_)
  have hP : va_P g.1 vwCl [(x, .inr (11, [.ref xt, .int 19, .ref xr, .ref la, .ref lb, .ref sa, .int 0, .int 0, .ref ba, .int 0, .ref se, .ref si, .ref pa, .ref he])), (xt, aB g 1600 f_9)] H := hP
  have hD : va_D A [(x, .inr (11, [.ref xt, .int 19, .ref xr, .ref la, .ref lb, .ref sa, .int 0, .int 0, .ref ba, .int 0, .ref se, .ref si, .ref pa, .ref he])), (xt, aB g 1600 f_9)] := hD
  refine lv_iinc (v := 0) (lv' := [(2, .int 0), (0, .ref x), (1, .int p0)]) hx hb dX11_feedNumber_30 hl (k := 0) rfl (by decide) (by decide) rfl (fun ls hl => ?_)
  refine lv_goto (tgt := 3) hx hb dX11_feedNumber_33 (by decide) ?_
  refine lv_iload_n hx hb dX11_feedNumber_3 rfl (lv_at hl 0 rfl) ?_
  refine lv_if_lt (tgt := 36) hx hb dX11_feedNumber_4 (by decide) (fun c9 => absurd c9 (by decide)) (fun _ => ?_)
  refine lv_aload_n hx hb dX11_feedNumber_7 rfl (lv_at hl 1 rfl) ?_
  refine va_get (D := g.1) (ci := 11) (v := .ref xt) (C := RX11) (T := TX11) (N := 14) hx hb hT inF_X11 hown hK.1 hP 0 rfl rfl 0 (by decide) (hT _ bw_160) (fun _ h9 => h9) rfl dX11_feedNumber_8 ?_
  refine lv_aload_n hx hb dX11_feedNumber_11 rfl (lv_at hl 1 rfl) ?_
  refine va_get (D := g.1) (ci := 11) (v := .int 19) (C := RX11) (T := TX11) (N := 14) hx hb hT inF_X11 hown hK.1 hP 0 rfl rfl 1 (by decide) (hT _ bw_161) (fun _ h9 => h9) rfl dX11_feedNumber_12 ?_
  refine lv_iload_n hx hb dX11_feedNumber_15 rfl (lv_at hl 2 rfl) ?_
  refine lv_iload_n hx hb dX11_feedNumber_16 rfl (lv_at hl 0 rfl) ?_
  refine lv_ishr hx hb dX11_feedNumber_17 ?_
  refine lv_topi (fun x_10 ex_10 => ?_)
  obtain ⟨x_11, ex_11⟩ : ∃ y : Int32, x_10.toInt8.toInt32 = y := ⟨_, rfl⟩
  refine lv_i2b (v := x_11) hx hb dX11_feedNumber_18 ex_11 ?_
  refine va_bast hx hb hK.1 hP hD hS 1 0 rfl rfl (i := 19) (x := x_11) (by unfold vp_in; decide) dX11_feedNumber_19 (fun H locs hP hD hS => ?_)
  generalize upd f_9 (19 : Int32).toNatClampNeg (vp_nar .byte x_11) = f_12 at hP hD
  have hP : va_P g.1 vwCl [(x, .inr (11, [.ref xt, .int 19, .ref xr, .ref la, .ref lb, .ref sa, .int 0, .int 0, .ref ba, .int 0, .ref se, .ref si, .ref pa, .ref he])), (xt, aB g 1600 f_12)] H := hP
  have hD : va_D A [(x, .inr (11, [.ref xt, .int 19, .ref xr, .ref la, .ref lb, .ref sa, .int 0, .int 0, .ref ba, .int 0, .ref se, .ref si, .ref pa, .ref he])), (xt, aB g 1600 f_12)] := hD
  refine lv_aload_n hx hb dX11_feedNumber_20 rfl (lv_at hl 1 rfl) ?_
  refine lv_dup hx hb dX11_feedNumber_21 rfl ?_
  refine va_get (D := g.1) (ci := 11) (v := .int 19) (C := RX11) (T := TX11) (N := 14) hx hb hT inF_X11 hown hK.1 hP 0 rfl rfl 1 (by decide) (hT _ bw_161) (fun _ h9 => h9) rfl dX11_feedNumber_22 ?_
  refine lv_iconst (v := 1) hx hb dX11_feedNumber_25 (by decide) ?_
  refine lv_iadd hx hb dX11_feedNumber_26 ?_
  refine p_ti (v := 20) (by decide +kernel) ?_
  refine va_put (D := g.1) (ci := 11) (v := .int 20) (ty := .int) (C := RX11) (T := TX11) (N := 14) hx hb hT inF_X11 tyX11 tyX11_ok nmX11 hown hK.1 hP hD hS 0 rfl rfl 1 (by decide) (hT _ bw_161) (fun _ h9 => h9) rfl (by decide +kernel) rfl rfl (Nat.le_of_ble_eq_true rfl) dX11_feedNumber_27 (fun H locs hP hD hS => ?_)
  have hP : va_P g.1 vwCl [(x, .inr (11, [.ref xt, .int 20, .ref xr, .ref la, .ref lb, .ref sa, .int 0, .int 0, .ref ba, .int 0, .ref se, .ref si, .ref pa, .ref he])), (xt, aB g 1600 f_12)] H := hP
  have hD : va_D A [(x, .inr (11, [.ref xt, .int 20, .ref xr, .ref la, .ref lb, .ref sa, .int 0, .int 0, .ref ba, .int 0, .ref se, .ref si, .ref pa, .ref he])), (xt, aB g 1600 f_12)] := hD
  refine lv_iinc (v := (-8)) (lv' := [(2, .int (-8)), (0, .ref x), (1, .int p0)]) hx hb dX11_feedNumber_30 hl (k := 0) rfl (by decide) (by decide) rfl (fun ls hl => ?_)
  refine lv_goto (tgt := 3) hx hb dX11_feedNumber_33 (by decide) ?_
  refine lv_iload_n hx hb dX11_feedNumber_3 rfl (lv_at hl 0 rfl) ?_
  refine lv_if_lt (tgt := 36) hx hb dX11_feedNumber_4 (by decide) (fun _ => ?_) (fun c9 => absurd (by decide) c9)
  have hP9 : va_P g.1 vwCl [(x, .inr (11, [.ref xt, .int 20, .ref xr, .ref la, .ref lb, .ref sa, .int 0, .int 0, .ref ba, .int 0, .ref se, .ref si, .ref pa, .ref he])), (xt, aB g 1600 f_12)] H := hP.sub [0, 1] rfl
  have hD9 : va_D A [(x, .inr (11, [.ref xt, .int 20, .ref xr, .ref la, .ref lb, .ref sa, .int 0, .int 0, .ref ba, .int 0, .ref se, .ref si, .ref pa, .ref he])), (xt, aB g 1600 f_12)] := hD.sub [0, 1] (by decide) rfl
  exact W.vret hx hb hr (fun t ht hW => ⟨⟨f_12, rfl, trivial, by rw [ht]; exact hP9, by rw [hAe]; exact hD9⟩, hS.F ht⟩) hS.2.2 dX11_feedNumber_36

theorem bw_215 : Cond.methodLink RX11 76 yX11_feedNumber ∈ gT := gT_tb 568 (by decide +kernel) (by decide +kernel)
theorem bw_216 : Cond.instanceMethod yX11_feedNumber ∈ gT := gT_tb 570 (by decide +kernel) (by decide +kernel)
theorem bw_217 : Cond.selects RX11 yX11_feedNumber yX11_feedNumber ∈ gT := gT_sl 0 (by decide +kernel) (by decide +kernel)
theorem bw_218 : Cond.code yX11_feed cX11_feed 6 (some .int) ∈ gT := gT_tb 567 (by decide +kernel) (by decide +kernel)
theorem dX11_feed_0 : decode cX11_feed 0 = .ok (.aload_n 0, 1) := by decide +kernel
theorem dX11_feed_1 : decode cX11_feed 1 = .ok (.getfield 72, 3) := by decide +kernel
theorem dX11_feed_4 : decode cX11_feed 4 = .ok (.bipush 20, 2) := by decide +kernel
theorem dX11_feed_6 : decode cX11_feed 6 = .ok (.iadd, 1) := by decide +kernel
theorem dX11_feed_7 : decode cX11_feed 7 = .ok (.sipush 1600, 3) := by decide +kernel
theorem dX11_feed_10 : decode cX11_feed 10 = .ok (.if_icmp .le 5, 3) := by decide +kernel
theorem dX11_feed_15 : decode cX11_feed 15 = .ok (.aload_n 0, 1) := by decide +kernel
theorem dX11_feed_16 : decode cX11_feed 16 = .ok (.iload_n 1, 1) := by decide +kernel
theorem dX11_feed_17 : decode cX11_feed 17 = .ok (.invokevirtual 76, 3) := by decide +kernel
theorem dX11_feed_20 : decode cX11_feed 20 = .ok (.aload_n 0, 1) := by decide +kernel
theorem dX11_feed_21 : decode cX11_feed 21 = .ok (.iload_n 2, 1) := by decide +kernel
theorem dX11_feed_22 : decode cX11_feed 22 = .ok (.invokevirtual 76, 3) := by decide +kernel
theorem dX11_feed_25 : decode cX11_feed 25 = .ok (.aload_n 0, 1) := by decide +kernel
theorem dX11_feed_26 : decode cX11_feed 26 = .ok (.iload_n 3, 1) := by decide +kernel
theorem dX11_feed_27 : decode cX11_feed 27 = .ok (.invokevirtual 76, 3) := by decide +kernel
theorem dX11_feed_30 : decode cX11_feed 30 = .ok (.aload_n 0, 1) := by decide +kernel
theorem dX11_feed_31 : decode cX11_feed 31 = .ok (.iload 4, 2) := by decide +kernel
theorem dX11_feed_33 : decode cX11_feed 33 = .ok (.invokevirtual 76, 3) := by decide +kernel
theorem dX11_feed_36 : decode cX11_feed 36 = .ok (.aload_n 0, 1) := by decide +kernel
theorem dX11_feed_37 : decode cX11_feed 37 = .ok (.iload 5, 2) := by decide +kernel
theorem dX11_feed_39 : decode cX11_feed 39 = .ok (.invokevirtual 76, 3) := by decide +kernel
theorem dX11_feed_42 : decode cX11_feed 42 = .ok (.aload_n 0, 1) := by decide +kernel
theorem dX11_feed_43 : decode cX11_feed 43 = .ok (.getfield 72, 3) := by decide +kernel
theorem dX11_feed_46 : decode cX11_feed 46 = .ok (.ireturn, 1) := by decide +kernel
set_option maxHeartbeats 4000000 in
set_option maxRecDepth 100000 in
theorem c_X11_feed (l : Launch) (g : GG) (sz : Nat) (x : Nat) (xt : Nat) (xr : Nat) (la : Nat) (lb : Nat) (sa : Nat) (ba : Nat) (se : Nat) (si : Nat) (pa : Nat) (he : Nat) (p0 : Int32) (p1 : Int32) (p2 : Int32) (p3 : Int32) (p4 : Int32) : Met l yX11_feed (.code yX11_feed cX11_feed 6 (some .int) :: gT) ({ frames := 1, cells := 0, slots := 0, locals := 22 }) (va_Pc [.ref x, .int p0, .int p1, .int p2, .int p3, .int p4] (Pst g sz [(x, .inr (11, [.ref xt, .int 0, .ref xr, .ref la, .ref lb, .ref sa, .int 0, .int 0, .ref ba, .int 0, .ref se, .ref si, .ref pa, .ref he])), (xt, aB g 1600 z0)] nX)) (va_Qi (fun (r : Int32) (_ : Unit) => r = 20) (Qst g [(x, .inr (11, [.ref xt, .int 0, .ref xr, .ref la, .ref lb, .ref sa, .int 0, .int 0, .ref ba, .int 0, .ref se, .ref si, .ref pa, .ref he])), (xt, aB g 1600 z0)] sz (fun _ => [])) (va_A [(x, .inr (11, [.ref xt, .int 0, .ref xr, .ref la, .ref lb, .ref sa, .int 0, .int 0, .ref ba, .int 0, .ref se, .ref si, .ref pa, .ref he])), (xt, aB g 1600 z0)] sz)) 0 0 (va_A [(x, .inr (11, [.ref xt, .int 0, .ref xr, .ref la, .ref lb, .ref sa, .int 0, .int 0, .ref ba, .int 0, .ref se, .ref si, .ref pa, .ref he])), (xt, aB g 1600 z0)] sz) := by
  refine Met.ofW (cc := cX11_feed) (maxL := 6) (ret := (some .int)) (by decide) rfl ?_
  intro p e s m args below meth c s₁ B hml hv
  obtain ⟨rfl, hsz, hP, hK, hD0, hX⟩ := hv
  have hx := B.exec
  have hb := B.bytes
  have hr := B.returns
  have hT : ∀ w ∈ gT, w.before _ s = true := fun w h => atoms_spec (ws := .code yX11_feed cX11_feed 6 (some .int) :: gT) B.pre w (List.mem_cons_of_mem _ h)
  have hown : s.vm.findClass RX11 = some m.cls := findClass_of_methodNamed B.named
  have hlocks := B.notSynchronized
  subst hsz
  have hD := hD0.self (sz := s.heap.size)
  generalize hAe : va_A [(x, .inr (11, [.ref xt, .int 0, .ref xr, .ref la, .ref lb, .ref sa, .int 0, .int 0, .ref ba, .int 0, .ref se, .ref si, .ref pa, .ref he])), (xt, aB g 1600 z0)] s.heap.size = A at hD ⊢
  have hA : ∀ q : Nat, s.heap.size ≤ q → A q := fun q h => by rw [← hAe]; exact Or.inr h
  have hS : va_S A s.heap s.heap [] := va_S.rf
  have hl := lv_entry ([.ref x, .int p0, .int p1, .int p2, .int p3, .int p4]) (n := 6) (Nat.le_of_ble_eq_true rfl)
  rw [lg_entry_eq]
  generalize (lg_sl ([.ref x, .int p0, .int p1, .int p2, .int p3, .int p4]) ++ List.replicate (6 - (lg_sl ([.ref x, .int p0, .int p1, .int p2, .int p3, .int p4])).length) Slot.unset).toArray = ls at hl ⊢
  have hl : lv_has ls 6 [(0, .ref x), (1, .int p0), (2, .int p1), (3, .int p2), (4, .int p3), (5, .int p4)] := hl
  refine p_nH (fun H hH => ?_)
  have hP : va_P g.1 vwCl [(x, .inr (11, [.ref xt, .int 0, .ref xr, .ref la, .ref lb, .ref sa, .int 0, .int 0, .ref ba, .int 0, .ref se, .ref si, .ref pa, .ref he])), (xt, aB g 1600 z0)] H := by rw [hH]; exact hP
  have hS : va_S A s.heap H [] := by rw [hH]; exact hS
  refine lv_aload_n hx hb dX11_feed_0 rfl (lv_at hl 0 rfl) ?_
  refine va_get (D := g.1) (ci := 11) (v := .int 0) (C := RX11) (T := TX11) (N := 14) hx hb hT inF_X11 hown hK.1 hP 0 rfl rfl 1 (by decide) (hT _ bw_161) (fun _ h9 => h9) rfl dX11_feed_1 ?_
  refine lv_bipush (v := 20) hx hb dX11_feed_4 (by decide) ?_
  refine lv_iadd hx hb dX11_feed_6 ?_
  refine p_ti (v := 20) (by decide +kernel) ?_
  refine lv_sipush (v := 1600) hx hb dX11_feed_7 (by decide) ?_
  refine lv_icmp_le (tgt := 15) hx hb dX11_feed_10 (by decide) (fun _ => ?_) (fun c9 => absurd (by decide) c9)
  refine lv_aload_n hx hb dX11_feed_15 rfl (lv_at hl 0 rfl) ?_
  refine lv_iload_n hx hb dX11_feed_16 rfl (lv_at hl 1 rfl) ?_
  refine k_v (wr := []) (k_V (n := 1) ⟨hx, hb, hml, hown, hT⟩ hK hP hD [0, 1] rfl (by decide) (c_X11_feedNumber_0 l g H.size x xt xr la lb sa ba se si pa he z0 p0) (gV bw_215 bw_216 bw_217 bw_207 bw_214) rfl rfl (by decide +kernel) ⟨by decide, by decide⟩ (ci := 11) (q0 := 0) rfl rfl (fun _ _ _ _ _ => trivial) (fun _ _ _ => trivial) rfl rfl hl.1 (Nat.le_of_ble_eq_true rfl) dX11_feed_17 ⟨by decide, by decide⟩) hP hD hS hA [0, 1] [] rfl rfl (by decide) (by decide) (fun u H locs hw hP hD hS => ?_)
  obtain ⟨f_1, rfl⟩ : ∃ z, z = u := ⟨_, rfl⟩
  have hP : va_P g.1 vwCl [(x, .inr (11, [.ref xt, .int 4, .ref xr, .ref la, .ref lb, .ref sa, .int 0, .int 0, .ref ba, .int 0, .ref se, .ref si, .ref pa, .ref he])), (xt, aB g 1600 f_1)] H := hP
  have hD : va_D A [(x, .inr (11, [.ref xt, .int 4, .ref xr, .ref la, .ref lb, .ref sa, .int 0, .int 0, .ref ba, .int 0, .ref se, .ref si, .ref pa, .ref he])), (xt, aB g 1600 f_1)] := hD
  refine lv_aload_n hx hb dX11_feed_20 rfl (lv_at hl 0 rfl) ?_
  refine lv_iload_n hx hb dX11_feed_21 rfl (lv_at hl 2 rfl) ?_
  refine k_v (wr := []) (k_V (n := 1) ⟨hx, hb, hml, hown, hT⟩ hK hP hD [0, 1] rfl (by decide) (c_X11_feedNumber_4 l g H.size x xt xr la lb sa ba se si pa he f_1 p1) (gV bw_215 bw_216 bw_217 bw_207 bw_214) rfl rfl (by decide +kernel) ⟨by decide, by decide⟩ (ci := 11) (q0 := 0) rfl rfl (fun _ _ _ _ _ => trivial) (fun _ _ _ => trivial) rfl rfl hl.1 (Nat.le_of_ble_eq_true rfl) dX11_feed_22 ⟨by decide, by decide⟩) hP hD hS hA [0, 1] [] rfl rfl (by decide) (by decide) (fun u H locs hw hP hD hS => ?_)
  obtain ⟨f_2, rfl⟩ : ∃ z, z = u := ⟨_, rfl⟩
  have hP : va_P g.1 vwCl [(x, .inr (11, [.ref xt, .int 8, .ref xr, .ref la, .ref lb, .ref sa, .int 0, .int 0, .ref ba, .int 0, .ref se, .ref si, .ref pa, .ref he])), (xt, aB g 1600 f_2)] H := hP
  have hD : va_D A [(x, .inr (11, [.ref xt, .int 8, .ref xr, .ref la, .ref lb, .ref sa, .int 0, .int 0, .ref ba, .int 0, .ref se, .ref si, .ref pa, .ref he])), (xt, aB g 1600 f_2)] := hD
  refine lv_aload_n hx hb dX11_feed_25 rfl (lv_at hl 0 rfl) ?_
  refine lv_iload_n hx hb dX11_feed_26 rfl (lv_at hl 3 rfl) ?_
  refine k_v (wr := []) (k_V (n := 1) ⟨hx, hb, hml, hown, hT⟩ hK hP hD [0, 1] rfl (by decide) (c_X11_feedNumber_8 l g H.size x xt xr la lb sa ba se si pa he f_2 p2) (gV bw_215 bw_216 bw_217 bw_207 bw_214) rfl rfl (by decide +kernel) ⟨by decide, by decide⟩ (ci := 11) (q0 := 0) rfl rfl (fun _ _ _ _ _ => trivial) (fun _ _ _ => trivial) rfl rfl hl.1 (Nat.le_of_ble_eq_true rfl) dX11_feed_27 ⟨by decide, by decide⟩) hP hD hS hA [0, 1] [] rfl rfl (by decide) (by decide) (fun u H locs hw hP hD hS => ?_)
  obtain ⟨f_3, rfl⟩ : ∃ z, z = u := ⟨_, rfl⟩
  have hP : va_P g.1 vwCl [(x, .inr (11, [.ref xt, .int 12, .ref xr, .ref la, .ref lb, .ref sa, .int 0, .int 0, .ref ba, .int 0, .ref se, .ref si, .ref pa, .ref he])), (xt, aB g 1600 f_3)] H := hP
  have hD : va_D A [(x, .inr (11, [.ref xt, .int 12, .ref xr, .ref la, .ref lb, .ref sa, .int 0, .int 0, .ref ba, .int 0, .ref se, .ref si, .ref pa, .ref he])), (xt, aB g 1600 f_3)] := hD
  refine lv_aload_n hx hb dX11_feed_30 rfl (lv_at hl 0 rfl) ?_
  refine lv_iload hx hb dX11_feed_31 (lv_at hl 4 rfl) ?_
  refine k_v (wr := []) (k_V (n := 1) ⟨hx, hb, hml, hown, hT⟩ hK hP hD [0, 1] rfl (by decide) (c_X11_feedNumber_12 l g H.size x xt xr la lb sa ba se si pa he f_3 p3) (gV bw_215 bw_216 bw_217 bw_207 bw_214) rfl rfl (by decide +kernel) ⟨by decide, by decide⟩ (ci := 11) (q0 := 0) rfl rfl (fun _ _ _ _ _ => trivial) (fun _ _ _ => trivial) rfl rfl hl.1 (Nat.le_of_ble_eq_true rfl) dX11_feed_33 ⟨by decide, by decide⟩) hP hD hS hA [0, 1] [] rfl rfl (by decide) (by decide) (fun u H locs hw hP hD hS => ?_)
  obtain ⟨f_4, rfl⟩ : ∃ z, z = u := ⟨_, rfl⟩
  have hP : va_P g.1 vwCl [(x, .inr (11, [.ref xt, .int 16, .ref xr, .ref la, .ref lb, .ref sa, .int 0, .int 0, .ref ba, .int 0, .ref se, .ref si, .ref pa, .ref he])), (xt, aB g 1600 f_4)] H := hP
  have hD : va_D A [(x, .inr (11, [.ref xt, .int 16, .ref xr, .ref la, .ref lb, .ref sa, .int 0, .int 0, .ref ba, .int 0, .ref se, .ref si, .ref pa, .ref he])), (xt, aB g 1600 f_4)] := hD
  refine lv_aload_n hx hb dX11_feed_36 rfl (lv_at hl 0 rfl) ?_
  refine lv_iload hx hb dX11_feed_37 (lv_at hl 5 rfl) ?_
  refine k_v (wr := []) (k_V (n := 1) ⟨hx, hb, hml, hown, hT⟩ hK hP hD [0, 1] rfl (by decide) (c_X11_feedNumber_16 l g H.size x xt xr la lb sa ba se si pa he f_4 p4) (gV bw_215 bw_216 bw_217 bw_207 bw_214) rfl rfl (by decide +kernel) ⟨by decide, by decide⟩ (ci := 11) (q0 := 0) rfl rfl (fun _ _ _ _ _ => trivial) (fun _ _ _ => trivial) rfl rfl hl.1 (Nat.le_of_ble_eq_true rfl) dX11_feed_39 ⟨by decide, by decide⟩) hP hD hS hA [0, 1] [] rfl rfl (by decide) (by decide) (fun u H locs hw hP hD hS => ?_)
  obtain ⟨f_5, rfl⟩ : ∃ z, z = u := ⟨_, rfl⟩
  have hP : va_P g.1 vwCl [(x, .inr (11, [.ref xt, .int 20, .ref xr, .ref la, .ref lb, .ref sa, .int 0, .int 0, .ref ba, .int 0, .ref se, .ref si, .ref pa, .ref he])), (xt, aB g 1600 f_5)] H := hP
  have hD : va_D A [(x, .inr (11, [.ref xt, .int 20, .ref xr, .ref la, .ref lb, .ref sa, .int 0, .int 0, .ref ba, .int 0, .ref se, .ref si, .ref pa, .ref he])), (xt, aB g 1600 f_5)] := hD
  refine lv_aload_n hx hb dX11_feed_42 rfl (lv_at hl 0 rfl) ?_
  refine va_get (D := g.1) (ci := 11) (v := .int 20) (C := RX11) (T := TX11) (N := 14) hx hb hT inF_X11 hown hK.1 hP 0 rfl rfl 1 (by decide) (hT _ bw_161) (fun _ h9 => h9) rfl dX11_feed_43 ?_
  have hP9 : va_P g.1 vwCl [] H := hP.sub [] rfl
  have hD9 : va_D A [] := ⟨fun i j p q h => by simp at h, fun k q h => by simp at h⟩
  exact W.iret (v := 20) hx hb hr (fun t ht hW => ⟨⟨20, (), rfl, rfl, by rw [ht]; exact hP9, by rw [hAe]; exact hD9⟩, hS.F ht⟩) hS.2.2 dX11_feed_46
