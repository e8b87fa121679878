set_option maxHeartbeats 4000000 in
set_option maxRecDepth 100000 in
theorem c_X3_has (l : Launch) (g : GG) (sz : Nat) (h : Nat) (n1 : Nat) (n2 : Nat) (n3 : Nat) (n4 : Nat) (p0 : Int32) : Met l yX3_has (.code yX3_has cX3_has 2 (some .boolean) :: gT) ({ frames := 0, cells := 0, slots := 0, locals := 0 }) (va_Pc [.ref h, .int p0] (Pst g sz [(h, .inr (3, [.int 0, .ref n1, .ref n2, .ref n3, .ref n4]))] nX)) (va_Qi (fun (r : Int32) (_ : Unit) => r = 0) (Qst g [] sz (fun _ => [])) (va_A [] sz)) 0 0 (va_A [] sz) := by
  refine Met.ofW (cc := cX3_has) (maxL := 2) (ret := (some .boolean)) (by decide) rfl ?_
  intro p e s m args below meth c s₁ B hml hv
  obtain ⟨rfl, hsz, hP, hK, hD0, hX⟩ := hv
  have hx := B.exec
  have hb := B.bytes
  have hr := B.returns
  have hT : ∀ w ∈ gT, w.before _ s = true := fun w h => atoms_spec (ws := .code yX3_has cX3_has 2 (some .boolean) :: gT) B.pre w (List.mem_cons_of_mem _ h)
  have hown : s.vm.findClass RX3 = some m.cls := findClass_of_methodNamed B.named
  have hlocks := B.notSynchronized
  subst hsz
  have hD := hD0
  generalize hAe : va_A [] s.heap.size = A at ⊢
  have hA : ∀ q : Nat, s.heap.size ≤ q → A q := fun q h => by rw [← hAe]; exact Or.inr h
  have hS : va_S A s.heap s.heap [] := va_S.rf
  have hl := lv_entry ([.ref h, .int p0]) (n := 2) (Nat.le_of_ble_eq_true rfl)
  rw [lg_entry_eq]
  generalize (lg_sl ([.ref h, .int p0]) ++ List.replicate (2 - (lg_sl ([.ref h, .int p0])).length) Slot.unset).toArray = ls at hl ⊢
  have hl : lv_has ls 2 [(0, .ref h), (1, .int p0)] := hl
  refine p_nH (fun H hH => ?_)
  have hP : va_P g.1 vwCl [(h, .inr (3, [.int 0, .ref n1, .ref n2, .ref n3, .ref n4]))] H := by rw [hH]; exact hP
  have hS : va_S A s.heap H [] := by rw [hH]; exact hS
  refine lv_iload_n hx hb dX3_has_0 rfl (lv_at hl 1 rfl) ?_
  refine lv_if_lt (tgt := 16) hx hb dX3_has_1 (by decide) (fun c_1 => ?_) (fun c_1 => ?_)
  · refine lv_iconst (v := 0) hx hb dX3_has_16 (by decide) ?_
    have hP9 : va_P g.1 vwCl [] H := hP.sub [] rfl
    have hD9 : va_D A [] := ⟨fun i j p q h => by simp at h, fun k q h => by simp at h⟩
    exact W.zret (v := 0) (ty := .boolean) hx hb hr rfl (fun t ht hW => ⟨⟨0, (), rfl, rfl, by rw [ht]; exact hP9, by rw [hAe]; exact hD9⟩, hS.F ht⟩) hS.2.2 dX3_has_17
  · refine lv_iload_n hx hb dX3_has_4 rfl (lv_at hl 1 rfl) ?_
    refine lv_aload_n hx hb dX3_has_5 rfl (lv_at hl 0 rfl) ?_
    refine va_get (D := g.1) (ci := 3) (v := .int 0) (C := RX3) (T := TX3) (N := 5) hx hb hT inF_X3 hown hK.1 hP 0 rfl rfl 0 (by decide) (hT _ bw_0) (fun _ h9 => h9) rfl dX3_has_6 ?_
    refine lv_icmp_ge (tgt := 16) hx hb dX3_has_9 (by decide) (fun _ => ?_) (fun c9 => absurd (by have e0 : (0 : Int32).toInt = 0 := (by decide); simp only [Int32.lt_iff_toInt_lt, Int32.le_iff_toInt_le, ← Int32.toInt_inj, e0] at c_1 ⊢; omega) c9)
    refine lv_iconst (v := 0) hx hb dX3_has_16 (by decide) ?_
    have hP9 : va_P g.1 vwCl [] H := hP.sub [] rfl
    have hD9 : va_D A [] := ⟨fun i j p q h => by simp at h, fun k q h => by simp at h⟩
    exact W.zret (v := 0) (ty := .boolean) hx hb hr rfl (fun t ht hW => ⟨⟨0, (), rfl, rfl, by rw [ht]; exact hP9, by rw [hAe]; exact hD9⟩, hS.F ht⟩) hS.2.2 dX3_has_17

set_option maxHeartbeats 4000000 in
set_option maxRecDepth 100000 in
theorem c_X11_man (l : Launch) (g : GG) (sz : Nat) (x : Nat) (xt : Nat) (xr : Nat) (la : Nat) (lb : Nat) (st : Nat) (bx : Nat) (se : Nat) (si : Nat) (pa : Nat) (he : Nat) (me : Nat) (fo : Nat) (re : Nat) (a1 : Nat) (a2 : Nat) (a3 : Nat) (n1 : Nat) (n2 : Nat) (n3 : Nat) (n4 : Nat) (p0 : Int32) (p1 : Int32) : Met l yX11_man (.code yX11_man cX11_man 4 (some .int) :: gT) ({ frames := 1, cells := 0, slots := 0, locals := 21 }) (va_Pc [.ref x, .int p0, .int p1] (Pst g sz [(x, .inr (11, [.ref xt, .int 0, .ref xr, .ref la, .ref lb, .ref st, .int 0, .int 0, .ref bx, .int 0, .ref se, .ref si, .ref pa, .ref he])), (la, .inr (2, [.ref me, .ref fo, .ref re, .int 0, .ref a1, .ref a2, .int 9, .int 0, .ref a3])), (me, .inr (3, [.int 0, .ref n1, .ref n2, .ref n3, .ref n4]))] nX)) (va_Qi (fun (r : Int32) (_ : Unit) => r = (-2)) (Qst g [] sz (fun _ => [])) (va_A [] sz)) 0 0 (va_A [] sz) := by
  refine Met.ofW (cc := cX11_man) (maxL := 4) (ret := (some .int)) (by decide) rfl ?_
  intro p e s m args below meth c s₁ B hml hv
  obtain ⟨rfl, hsz, hP, hK, hD0, hX⟩ := hv
  have hx := B.exec
  have hb := B.bytes
  have hr := B.returns
  have hT : ∀ w ∈ gT, w.before _ s = true := fun w h => atoms_spec (ws := .code yX11_man cX11_man 4 (some .int) :: gT) B.pre w (List.mem_cons_of_mem _ h)
  have hown : s.vm.findClass RX11 = some m.cls := findClass_of_methodNamed B.named
  have hlocks := B.notSynchronized
  subst hsz
  have hD := hD0
  generalize hAe : va_A [] s.heap.size = A at ⊢
  have hA : ∀ q : Nat, s.heap.size ≤ q → A q := fun q h => by rw [← hAe]; exact Or.inr h
  have hS : va_S A s.heap s.heap [] := va_S.rf
  have hl := lv_entry ([.ref x, .int p0, .int p1]) (n := 4) (Nat.le_of_ble_eq_true rfl)
  rw [lg_entry_eq]
  generalize (lg_sl ([.ref x, .int p0, .int p1]) ++ List.replicate (4 - (lg_sl ([.ref x, .int p0, .int p1])).length) Slot.unset).toArray = ls at hl ⊢
  have hl : lv_has ls 4 [(0, .ref x), (1, .int p0), (2, .int p1)] := hl
  refine p_nH (fun H hH => ?_)
  have hP : va_P g.1 vwCl [(x, .inr (11, [.ref xt, .int 0, .ref xr, .ref la, .ref lb, .ref st, .int 0, .int 0, .ref bx, .int 0, .ref se, .ref si, .ref pa, .ref he])), (la, .inr (2, [.ref me, .ref fo, .ref re, .int 0, .ref a1, .ref a2, .int 9, .int 0, .ref a3])), (me, .inr (3, [.int 0, .ref n1, .ref n2, .ref n3, .ref n4]))] H := by rw [hH]; exact hP
  have hS : va_S A s.heap H [] := by rw [hH]; exact hS
  refine lv_aload_n hx hb dX11_man_0 rfl (lv_at hl 0 rfl) ?_
  refine va_get (D := g.1) (ci := 11) (v := .ref la) (C := RX11) (T := TX11) (N := 14) hx hb hT inF_X11 hown hK.1 hP 0 rfl rfl 3 (by decide) (hT _ bw_2) (fun _ h9 => h9) rfl dX11_man_1 ?_
  refine va_get (D := g.1) (ci := 2) (v := .ref me) (C := RX2) (T := TX2) (N := 9) hx hb hT inF_X2 hown hK.1 hP 1 rfl rfl 0 (by decide) (hT _ bw_3) (fun _ h9 => h9) rfl dX11_man_4 ?_
  refine lv_iload_n hx hb dX11_man_7 rfl (lv_at hl 1 rfl) ?_
  refine k_iR (k_V (n := 1) ⟨hx, hb, hml, hown, hT⟩ hK hP hD [2] rfl (by decide) (c_X3_has l g H.size me n1 n2 n3 n4 p0) (gV bw_4 bw_5 bw_6 bw_7 bw_1) rfl rfl (by decide +kernel) ⟨by decide, by decide⟩ (ci := 3) (q0 := 0) rfl rfl (fun _ _ _ _ _ => trivial) (fun _ _ _ => trivial) rfl rfl hl.1 (by decide) dX11_man_8 ⟨by decide, by decide⟩) hP hS hA (fun r_1 _ H locs hw hP hS => ?_)
  have hw : r_1 = 0 := hw
  subst hw
  refine lv_if_ne (tgt := 17) hx hb dX11_man_11 (by decide) (fun c9 => absurd c9 (by decide)) (fun _ => ?_)
  refine lv_bipush (v := (-2)) hx hb dX11_man_14 (by decide) ?_
  have hP9 : va_P g.1 vwCl [] H := hP.sub [] rfl
  have hD9 : va_D A [] := ⟨fun i j p q h => by simp at h, fun k q h => by simp at h⟩
  exact W.iret (v := (-2)) hx hb hr (fun t ht hW => ⟨⟨(-2), (), rfl, rfl, by rw [ht]; exact hP9, by rw [hAe]; exact hD9⟩, hS.F ht⟩) hS.2.2 dX11_man_16
