set_option maxRecDepth 20000 in
theorem inF_X10 : ∀ w ∈ u_ws RX10 TX10 8, w ∈ gT := gT_u [108, 110, 112, 114, 116, 118, 120, 122] (by decide +kernel) (by decide +kernel)
theorem bw_127 : Cond.fieldLink RX10 44 "DuelDelays$Tokens" "following" "I" ∈ gT := gT_tb 106 (by decide +kernel) (by decide +kernel)
theorem bw_128 : Cond.fieldLink RX10 41 "DuelDelays$Tokens" "length" "I" ∈ gT := gT_tb 105 (by decide +kernel) (by decide +kernel)
theorem bw_129 : Cond.fieldLink RX10 54 "DuelDelays$Tokens" "place" "I" ∈ gT := gT_tb 99 (by decide +kernel) (by decide +kernel)
theorem bw_130 : Cond.fieldLink RX10 57 "DuelDelays$Tokens" "value" "I" ∈ gT := gT_tb 101 (by decide +kernel) (by decide +kernel)
theorem bw_131 : Cond.fieldLink RX10 60 "DuelDelays$Tokens" "name" "J" ∈ gT := gT_tb 102 (by decide +kernel) (by decide +kernel)
theorem bw_132 : Cond.fieldLink RX10 64 "DuelDelays$Tokens" "sort" "I" ∈ gT := gT_tb 97 (by decide +kernel) (by decide +kernel)
theorem bw_133 : Cond.code yX10_advance cX10_advance 1 none ∈ gT := gT_tb 603 (by decide +kernel) (by decide +kernel)
theorem dX10_advance_0 : decode cX10_advance 0 = .ok (.aload_n 0, 1) := by decide +kernel
theorem dX10_advance_1 : decode cX10_advance 1 = .ok (.getfield 44, 3) := by decide +kernel
theorem dX10_advance_4 : decode cX10_advance 4 = .ok (.aload_n 0, 1) := by decide +kernel
theorem dX10_advance_5 : decode cX10_advance 5 = .ok (.getfield 41, 3) := by decide +kernel
theorem dX10_advance_8 : decode cX10_advance 8 = .ok (.if_icmp .ge 31, 3) := by decide +kernel
theorem dX10_advance_39 : decode cX10_advance 39 = .ok (.aload_n 0, 1) := by decide +kernel
theorem dX10_advance_40 : decode cX10_advance 40 = .ok (.aload_n 0, 1) := by decide +kernel
theorem dX10_advance_41 : decode cX10_advance 41 = .ok (.getfield 44, 3) := by decide +kernel
theorem dX10_advance_44 : decode cX10_advance 44 = .ok (.putfield 54, 3) := by decide +kernel
theorem dX10_advance_47 : decode cX10_advance 47 = .ok (.aload_n 0, 1) := by decide +kernel
theorem dX10_advance_48 : decode cX10_advance 48 = .ok (.iconst 0, 1) := by decide +kernel
theorem dX10_advance_49 : decode cX10_advance 49 = .ok (.putfield 57, 3) := by decide +kernel
theorem dX10_advance_52 : decode cX10_advance 52 = .ok (.aload_n 0, 1) := by decide +kernel
theorem dX10_advance_53 : decode cX10_advance 53 = .ok (.lconst 0, 1) := by decide +kernel
theorem dX10_advance_54 : decode cX10_advance 54 = .ok (.putfield 60, 3) := by decide +kernel
theorem dX10_advance_57 : decode cX10_advance 57 = .ok (.aload_n 0, 1) := by decide +kernel
theorem dX10_advance_58 : decode cX10_advance 58 = .ok (.getfield 44, 3) := by decide +kernel
theorem dX10_advance_61 : decode cX10_advance 61 = .ok (.aload_n 0, 1) := by decide +kernel
theorem dX10_advance_62 : decode cX10_advance 62 = .ok (.getfield 41, 3) := by decide +kernel
theorem dX10_advance_65 : decode cX10_advance 65 = .ok (.if_icmp .lt 11, 3) := by decide +kernel
theorem dX10_advance_68 : decode cX10_advance 68 = .ok (.aload_n 0, 1) := by decide +kernel
theorem dX10_advance_69 : decode cX10_advance 69 = .ok (.iconst 0, 1) := by decide +kernel
theorem dX10_advance_70 : decode cX10_advance 70 = .ok (.putfield 64, 3) := by decide +kernel
theorem dX10_advance_73 : decode cX10_advance 73 = .ok (.goto 51, 3) := by decide +kernel
theorem dX10_advance_124 : decode cX10_advance 124 = .ok (.return_, 1) := by decide +kernel
set_option maxHeartbeats 4000000 in
set_option maxRecDepth 100000 in
theorem c_X10_advance (l : Launch) (g : GG) (sz : Nat) (h : Nat) (tw : Nat) (xt : Nat) : Met l yX10_advance (.code yX10_advance cX10_advance 1 none :: gT) ({ frames := 0, cells := 0, slots := 0, locals := 0 }) (va_Pc [.ref h] (Pst g sz [(h, .inr (10, [.int 0, .int 0, .int 0, .long 0, .ref xt, .int 0, .int 0, .ref tw]))] nX)) (va_Qv (fun (_ : Unit) => True) (Qst g [(h, .inr (10, [.int 0, .int 0, .int 0, .long 0, .ref xt, .int 0, .int 0, .ref tw]))] sz (fun _ => [(h, .inr (10, [.int 0, .int 0, .int 0, .long 0, .ref xt, .int 0, .int 0, .ref tw]))])) (va_A [(h, .inr (10, [.int 0, .int 0, .int 0, .long 0, .ref xt, .int 0, .int 0, .ref tw]))] sz)) 0 0 (va_A [(h, .inr (10, [.int 0, .int 0, .int 0, .long 0, .ref xt, .int 0, .int 0, .ref tw]))] sz) := by
  refine Met.ofW (cc := cX10_advance) (maxL := 1) (ret := none) (by decide) rfl ?_
  intro p e s m args below meth c s₁ B hml hv
  obtain ⟨rfl, hsz, hP, hK, hD0, hX⟩ := hv
  have hx := B.exec
  have hb := B.bytes
  have hr := B.returns
  have hT : ∀ w ∈ gT, w.before _ s = true := fun w h => atoms_spec (ws := .code yX10_advance cX10_advance 1 none :: gT) B.pre w (List.mem_cons_of_mem _ h)
  have hown : s.vm.findClass RX10 = some m.cls := findClass_of_methodNamed B.named
  have hlocks := B.notSynchronized
  subst hsz
  have hD := hD0.self (sz := s.heap.size)
  generalize hAe : va_A [(h, .inr (10, [.int 0, .int 0, .int 0, .long 0, .ref xt, .int 0, .int 0, .ref tw]))] s.heap.size = A at hD ⊢
  have hA : ∀ q : Nat, s.heap.size ≤ q → A q := fun q h => by rw [← hAe]; exact Or.inr h
  have hS : va_S A s.heap s.heap [] := va_S.rf
  have hl := lv_entry ([.ref h]) (n := 1) (Nat.le_of_ble_eq_true rfl)
  rw [lg_entry_eq]
  generalize (lg_sl ([.ref h]) ++ List.replicate (1 - (lg_sl ([.ref h])).length) Slot.unset).toArray = ls at hl ⊢
  have hl : lv_has ls 1 [(0, .ref h)] := hl
  refine p_nH (fun H hH => ?_)
  have hP : va_P g.1 vwCl [(h, .inr (10, [.int 0, .int 0, .int 0, .long 0, .ref xt, .int 0, .int 0, .ref tw]))] H := by rw [hH]; exact hP
  have hS : va_S A s.heap H [] := by rw [hH]; exact hS
  refine lv_aload_n hx hb dX10_advance_0 rfl (lv_at hl 0 rfl) ?_
  refine va_get (D := g.1) (ci := 10) (v := .int 0) (C := RX10) (T := TX10) (N := 8) hx hb hT inF_X10 hown hK.1 hP 0 rfl rfl 6 (by decide) (hT _ bw_127) (fun _ h9 => h9) rfl dX10_advance_1 ?_
  refine lv_aload_n hx hb dX10_advance_4 rfl (lv_at hl 0 rfl) ?_
  refine va_get (D := g.1) (ci := 10) (v := .int 0) (C := RX10) (T := TX10) (N := 8) hx hb hT inF_X10 hown hK.1 hP 0 rfl rfl 5 (by decide) (hT _ bw_128) (fun _ h9 => h9) rfl dX10_advance_5 ?_
  refine lv_icmp_ge (tgt := 39) hx hb dX10_advance_8 (by decide) (fun _ => ?_) (fun c9 => absurd (by decide) c9)
  refine lv_aload_n hx hb dX10_advance_39 rfl (lv_at hl 0 rfl) ?_
  refine lv_aload_n hx hb dX10_advance_40 rfl (lv_at hl 0 rfl) ?_
  refine va_get (D := g.1) (ci := 10) (v := .int 0) (C := RX10) (T := TX10) (N := 8) hx hb hT inF_X10 hown hK.1 hP 0 rfl rfl 6 (by decide) (hT _ bw_127) (fun _ h9 => h9) rfl dX10_advance_41 ?_
  refine va_put (D := g.1) (ci := 10) (v := .int 0) (ty := .int) (C := RX10) (T := TX10) (N := 8) hx hb hT inF_X10 tyX10 tyX10_ok nmX10 hown hK.1 hP hD hS 0 rfl rfl 1 (by decide) (hT _ bw_129) (fun _ h9 => h9) rfl (by decide +kernel) rfl rfl (Nat.le_of_ble_eq_true rfl) dX10_advance_44 (fun H locs hP hD hS => ?_)
  have hP : va_P g.1 vwCl [(h, .inr (10, [.int 0, .int 0, .int 0, .long 0, .ref xt, .int 0, .int 0, .ref tw]))] H := hP
  have hD : va_D A [(h, .inr (10, [.int 0, .int 0, .int 0, .long 0, .ref xt, .int 0, .int 0, .ref tw]))] := hD
  refine lv_aload_n hx hb dX10_advance_47 rfl (lv_at hl 0 rfl) ?_
  refine lv_iconst (v := 0) hx hb dX10_advance_48 (by decide) ?_
  refine va_put (D := g.1) (ci := 10) (v := .int 0) (ty := .int) (C := RX10) (T := TX10) (N := 8) hx hb hT inF_X10 tyX10 tyX10_ok nmX10 hown hK.1 hP hD hS 0 rfl rfl 2 (by decide) (hT _ bw_130) (fun _ h9 => h9) rfl (by decide +kernel) rfl rfl (Nat.le_of_ble_eq_true rfl) dX10_advance_49 (fun H locs hP hD hS => ?_)
  have hP : va_P g.1 vwCl [(h, .inr (10, [.int 0, .int 0, .int 0, .long 0, .ref xt, .int 0, .int 0, .ref tw]))] H := hP
  have hD : va_D A [(h, .inr (10, [.int 0, .int 0, .int 0, .long 0, .ref xt, .int 0, .int 0, .ref tw]))] := hD
  refine lv_aload_n hx hb dX10_advance_52 rfl (lv_at hl 0 rfl) ?_
  refine lv_lconst (v := 0) hx hb dX10_advance_53 (by decide) ?_
  refine va_put (D := g.1) (ci := 10) (v := .long 0) (ty := .long) (C := RX10) (T := TX10) (N := 8) hx hb hT inF_X10 tyX10 tyX10_ok nmX10 hown hK.1 hP hD hS 0 rfl rfl 3 (by decide) (hT _ bw_131) (fun _ h9 => h9) rfl (by decide +kernel) rfl rfl (Nat.le_of_ble_eq_true rfl) dX10_advance_54 (fun H locs hP hD hS => ?_)
  have hP : va_P g.1 vwCl [(h, .inr (10, [.int 0, .int 0, .int 0, .long 0, .ref xt, .int 0, .int 0, .ref tw]))] H := hP
  have hD : va_D A [(h, .inr (10, [.int 0, .int 0, .int 0, .long 0, .ref xt, .int 0, .int 0, .ref tw]))] := hD
  refine lv_aload_n hx hb dX10_advance_57 rfl (lv_at hl 0 rfl) ?_
  refine va_get (D := g.1) (ci := 10) (v := .int 0) (C := RX10) (T := TX10) (N := 8) hx hb hT inF_X10 hown hK.1 hP 0 rfl rfl 6 (by decide) (hT _ bw_127) (fun _ h9 => h9) rfl dX10_advance_58 ?_
  refine lv_aload_n hx hb dX10_advance_61 rfl (lv_at hl 0 rfl) ?_
  refine va_get (D := g.1) (ci := 10) (v := .int 0) (C := RX10) (T := TX10) (N := 8) hx hb hT inF_X10 hown hK.1 hP 0 rfl rfl 5 (by decide) (hT _ bw_128) (fun _ h9 => h9) rfl dX10_advance_62 ?_
  refine lv_icmp_lt (tgt := 76) hx hb dX10_advance_65 (by decide) (fun c9 => absurd c9 (by decide)) (fun _ => ?_)
  refine lv_aload_n hx hb dX10_advance_68 rfl (lv_at hl 0 rfl) ?_
  refine lv_iconst (v := 0) hx hb dX10_advance_69 (by decide) ?_
  refine va_put (D := g.1) (ci := 10) (v := .int 0) (ty := .int) (C := RX10) (T := TX10) (N := 8) hx hb hT inF_X10 tyX10 tyX10_ok nmX10 hown hK.1 hP hD hS 0 rfl rfl 0 (by decide) (hT _ bw_132) (fun _ h9 => h9) rfl (by decide +kernel) rfl rfl (Nat.le_of_ble_eq_true rfl) dX10_advance_70 (fun H locs hP hD hS => ?_)
  have hP : va_P g.1 vwCl [(h, .inr (10, [.int 0, .int 0, .int 0, .long 0, .ref xt, .int 0, .int 0, .ref tw]))] H := hP
  have hD : va_D A [(h, .inr (10, [.int 0, .int 0, .int 0, .long 0, .ref xt, .int 0, .int 0, .ref tw]))] := hD
  refine lv_goto (tgt := 124) hx hb dX10_advance_73 (by decide) ?_
  have hP9 : va_P g.1 vwCl [(h, .inr (10, [.int 0, .int 0, .int 0, .long 0, .ref xt, .int 0, .int 0, .ref tw]))] H := hP.sub [0] rfl
  have hD9 : va_D A [(h, .inr (10, [.int 0, .int 0, .int 0, .long 0, .ref xt, .int 0, .int 0, .ref tw]))] := hD.sub [0] (by decide) rfl
  exact W.vret hx hb hr (fun t ht hW => ⟨⟨(), rfl, trivial, by rw [ht]; exact hP9, by rw [hAe]; exact hD9⟩, hS.F ht⟩) hS.2.2 dX10_advance_124

theorem bw_134 : Cond.fieldLink RX10 31 "DuelDelays$Tokens" "text" "[B" ∈ gT := gT_tb 104 (by decide +kernel) (by decide +kernel)
theorem bw_135 : Cond.methodLink RX10 35 Lib.Math.min.name ∈ gT := gT_tb 597 (by decide +kernel) (by decide +kernel)
theorem bw_136 : Cond.code Lib.Math.min.name Lib.Math.min.code 2 (some .int) ∈ gT := gT_tb 599 (by decide +kernel) (by decide +kernel)
theorem bw_137 : Cond.static Lib.Math.min.name ∈ gT := gT_tb 598 (by decide +kernel) (by decide +kernel)
theorem bw_138 : Cond.initialized "java/lang/Math" ∈ gT := gT_tb 20 (by decide +kernel) (by decide +kernel)
theorem bw_139 : Cond.methodLink RX10 47 yX10_advance ∈ gT := gT_tb 600 (by decide +kernel) (by decide +kernel)
theorem bw_140 : Cond.instanceMethod yX10_advance ∈ gT := gT_tb 601 (by decide +kernel) (by decide +kernel)
theorem bw_141 : Cond.selects RX10 yX10_advance yX10_advance ∈ gT := gT_tb 602 (by decide +kernel) (by decide +kernel)
theorem bw_142 : Cond.initialized RX10 ∈ gT := gT_tb 3 (by decide +kernel) (by decide +kernel)
theorem bw_143 : Cond.code yX10_open cX10_open 3 none ∈ gT := gT_tb 596 (by decide +kernel) (by decide +kernel)
theorem dX10_open_0 : decode cX10_open 0 = .ok (.aload_n 0, 1) := by decide +kernel
theorem dX10_open_1 : decode cX10_open 1 = .ok (.aload_n 1, 1) := by decide +kernel
theorem dX10_open_2 : decode cX10_open 2 = .ok (.putfield 31, 3) := by decide +kernel
theorem dX10_open_5 : decode cX10_open 5 = .ok (.aload_n 0, 1) := by decide +kernel
theorem dX10_open_6 : decode cX10_open 6 = .ok (.aload_n 1, 1) := by decide +kernel
theorem dX10_open_7 : decode cX10_open 7 = .ok (.ifnonnull 7, 3) := by decide +kernel
theorem dX10_open_14 : decode cX10_open 14 = .ok (.iload_n 2, 1) := by decide +kernel
theorem dX10_open_15 : decode cX10_open 15 = .ok (.aload_n 1, 1) := by decide +kernel
theorem dX10_open_16 : decode cX10_open 16 = .ok (.arraylength, 1) := by decide +kernel
theorem dX10_open_17 : decode cX10_open 17 = .ok (.invokestatic 35, 3) := by decide +kernel
theorem dX10_open_20 : decode cX10_open 20 = .ok (.putfield 41, 3) := by decide +kernel
theorem dX10_open_23 : decode cX10_open 23 = .ok (.aload_n 0, 1) := by decide +kernel
theorem dX10_open_24 : decode cX10_open 24 = .ok (.iconst 0, 1) := by decide +kernel
theorem dX10_open_25 : decode cX10_open 25 = .ok (.putfield 44, 3) := by decide +kernel
theorem dX10_open_28 : decode cX10_open 28 = .ok (.aload_n 0, 1) := by decide +kernel
theorem dX10_open_29 : decode cX10_open 29 = .ok (.invokevirtual 47, 3) := by decide +kernel
theorem dX10_open_32 : decode cX10_open 32 = .ok (.return_, 1) := by decide +kernel
set_option maxHeartbeats 4000000 in
set_option maxRecDepth 100000 in
theorem c_X10_open (l : Launch) (g : GG) (sz : Nat) (h : Nat) (tw : Nat) (xt : Nat) : Met l yX10_open (.code yX10_open cX10_open 3 none :: gT) ({ frames := 1, cells := 0, slots := 0, locals := 60 }) (va_Pc [.ref h, .ref xt, .int 0] (Pst g sz [(h, .inr (10, [.int 0, .int 0, .int 0, .long 0, .null, .int 0, .int 0, .ref tw])), (xt, aB g 1600 z0)] nX)) (va_Qv (fun (_ : Unit) => True) (Qst g [(h, .inr (10, [.int 0, .int 0, .int 0, .long 0, .null, .int 0, .int 0, .ref tw])), (xt, aB g 1600 z0)] sz (fun _ => [(xt, aB g 1600 z0), (h, .inr (10, [.int 0, .int 0, .int 0, .long 0, .ref xt, .int 0, .int 0, .ref tw]))])) (va_A [(h, .inr (10, [.int 0, .int 0, .int 0, .long 0, .null, .int 0, .int 0, .ref tw])), (xt, aB g 1600 z0)] sz)) 0 0 (va_A [(h, .inr (10, [.int 0, .int 0, .int 0, .long 0, .null, .int 0, .int 0, .ref tw])), (xt, aB g 1600 z0)] sz) := by
  refine Met.ofW (cc := cX10_open) (maxL := 3) (ret := none) (by decide) rfl ?_
  intro p e s m args below meth c s₁ B hml hv
  obtain ⟨rfl, hsz, hP, hK, hD0, hX⟩ := hv
  have hx := B.exec
  have hb := B.bytes
  have hr := B.returns
  have hT : ∀ w ∈ gT, w.before _ s = true := fun w h => atoms_spec (ws := .code yX10_open cX10_open 3 none :: gT) B.pre w (List.mem_cons_of_mem _ h)
  have hown : s.vm.findClass RX10 = some m.cls := findClass_of_methodNamed B.named
  have hlocks := B.notSynchronized
  subst hsz
  have hD := hD0.self (sz := s.heap.size)
  generalize hAe : va_A [(h, .inr (10, [.int 0, .int 0, .int 0, .long 0, .null, .int 0, .int 0, .ref tw])), (xt, aB g 1600 z0)] s.heap.size = A at hD ⊢
  have hA : ∀ q : Nat, s.heap.size ≤ q → A q := fun q h => by rw [← hAe]; exact Or.inr h
  have hS : va_S A s.heap s.heap [] := va_S.rf
  have hl := lv_entry ([.ref h, .ref xt, .int 0]) (n := 3) (Nat.le_of_ble_eq_true rfl)
  rw [lg_entry_eq]
  generalize (lg_sl ([.ref h, .ref xt, .int 0]) ++ List.replicate (3 - (lg_sl ([.ref h, .ref xt, .int 0])).length) Slot.unset).toArray = ls at hl ⊢
  have hl : lv_has ls 3 [(0, .ref h), (1, .ref xt), (2, .int 0)] := hl
  refine p_nH (fun H hH => ?_)
  have hP : va_P g.1 vwCl [(h, .inr (10, [.int 0, .int 0, .int 0, .long 0, .null, .int 0, .int 0, .ref tw])), (xt, aB g 1600 z0)] H := by rw [hH]; exact hP
  have hS : va_S A s.heap H [] := by rw [hH]; exact hS
  refine lv_aload_n hx hb dX10_open_0 rfl (lv_at hl 0 rfl) ?_
  refine lv_aload_n hx hb dX10_open_1 rfl (lv_at hl 1 rfl) ?_
  refine va_put (D := g.1) (ci := 10) (v := .ref xt) (ty := .array .byte) (C := RX10) (T := TX10) (N := 8) hx hb hT inF_X10 tyX10 tyX10_ok nmX10 hown hK.1 hP hD hS 0 rfl rfl 4 (by decide) (hT _ bw_134) (fun _ h9 => h9) rfl (by decide +kernel) rfl rfl (Nat.le_of_ble_eq_true rfl) dX10_open_2 (fun H locs hP hD hS => ?_)
  have hP : va_P g.1 vwCl [(h, .inr (10, [.int 0, .int 0, .int 0, .long 0, .ref xt, .int 0, .int 0, .ref tw])), (xt, aB g 1600 z0)] H := hP
  have hD : va_D A [(h, .inr (10, [.int 0, .int 0, .int 0, .long 0, .ref xt, .int 0, .int 0, .ref tw])), (xt, aB g 1600 z0)] := hD
  refine lv_aload_n hx hb dX10_open_5 rfl (lv_at hl 0 rfl) ?_
  refine lv_aload_n hx hb dX10_open_6 rfl (lv_at hl 1 rfl) ?_
  refine lv_ifnonnull (tgt := 14) hx hb dX10_open_7 (by decide) ?_
  refine lv_iload_n hx hb dX10_open_14 rfl (lv_at hl 2 rfl) ?_
  refine lv_aload_n hx hb dX10_open_15 rfl (lv_at hl 1 rfl) ?_
  refine va_alen (v := 1600) hx hb hK.1 hP 1 0 rfl rfl (by decide) dX10_open_16 ?_
  refine va_mmin hx hb (hml.trans hl.1.symm) hown (hT _ bw_135) (hT _ bw_137) (hT _ bw_138) (hT _ bw_136) (Nat.le_of_ble_eq_true rfl) (Nat.le_of_ble_eq_true rfl) (Nat.le_of_ble_eq_true rfl) (Nat.le_of_ble_eq_true rfl) dX10_open_17 ?_
  refine p_ti (v := 0) (by decide +kernel) ?_
  refine va_put (D := g.1) (ci := 10) (v := .int 0) (ty := .int) (C := RX10) (T := TX10) (N := 8) hx hb hT inF_X10 tyX10 tyX10_ok nmX10 hown hK.1 hP hD hS 0 rfl rfl 5 (by decide) (hT _ bw_128) (fun _ h9 => h9) rfl (by decide +kernel) rfl rfl (Nat.le_of_ble_eq_true rfl) dX10_open_20 (fun H locs hP hD hS => ?_)
  have hP : va_P g.1 vwCl [(h, .inr (10, [.int 0, .int 0, .int 0, .long 0, .ref xt, .int 0, .int 0, .ref tw])), (xt, aB g 1600 z0)] H := hP
  have hD : va_D A [(h, .inr (10, [.int 0, .int 0, .int 0, .long 0, .ref xt, .int 0, .int 0, .ref tw])), (xt, aB g 1600 z0)] := hD
  refine lv_aload_n hx hb dX10_open_23 rfl (lv_at hl 0 rfl) ?_
  refine lv_iconst (v := 0) hx hb dX10_open_24 (by decide) ?_
  refine va_put (D := g.1) (ci := 10) (v := .int 0) (ty := .int) (C := RX10) (T := TX10) (N := 8) hx hb hT inF_X10 tyX10 tyX10_ok nmX10 hown hK.1 hP hD hS 0 rfl rfl 6 (by decide) (hT _ bw_127) (fun _ h9 => h9) rfl (by decide +kernel) rfl rfl (Nat.le_of_ble_eq_true rfl) dX10_open_25 (fun H locs hP hD hS => ?_)
  have hP : va_P g.1 vwCl [(h, .inr (10, [.int 0, .int 0, .int 0, .long 0, .ref xt, .int 0, .int 0, .ref tw])), (xt, aB g 1600 z0)] H := hP
  have hD : va_D A [(h, .inr (10, [.int 0, .int 0, .int 0, .long 0, .ref xt, .int 0, .int 0, .ref tw])), (xt, aB g 1600 z0)] := hD
  refine lv_aload_n hx hb dX10_open_28 rfl (lv_at hl 0 rfl) ?_
  refine k_v (wr := [(xt, aB g 1600 z0)]) (k_V (n := 0) ⟨hx, hb, hml, hown, hT⟩ hK hP hD [0] rfl (by decide) (c_X10_advance l g H.size h tw xt) (gV bw_139 bw_140 bw_141 bw_142 bw_133) rfl rfl (by decide +kernel) ⟨by decide, by decide⟩ (ci := 10) (q0 := 0) rfl rfl (fun _ _ _ _ _ => trivial) (fun _ _ _ => trivial) rfl rfl hl.1 (Nat.le_of_ble_eq_true rfl) dX10_open_29 ⟨by decide, by decide⟩) hP hD hS hA [0] [1] rfl rfl (by decide) (by decide) (fun u H locs hw hP hD hS => ?_)
  have hP : va_P g.1 vwCl [(xt, aB g 1600 z0), (h, .inr (10, [.int 0, .int 0, .int 0, .long 0, .ref xt, .int 0, .int 0, .ref tw]))] H := hP
  have hD : va_D A [(xt, aB g 1600 z0), (h, .inr (10, [.int 0, .int 0, .int 0, .long 0, .ref xt, .int 0, .int 0, .ref tw]))] := hD
  have hP9 : va_P g.1 vwCl [(xt, aB g 1600 z0), (h, .inr (10, [.int 0, .int 0, .int 0, .long 0, .ref xt, .int 0, .int 0, .ref tw]))] H := hP.sub [0, 1] rfl
  have hD9 : va_D A [(xt, aB g 1600 z0), (h, .inr (10, [.int 0, .int 0, .int 0, .long 0, .ref xt, .int 0, .int 0, .ref tw]))] := hD.sub [0, 1] (by decide) rfl
  exact W.vret hx hb hr (fun t ht hW => ⟨⟨(), rfl, trivial, by rw [ht]; exact hP9, by rw [hAe]; exact hD9⟩, hS.F ht⟩) hS.2.2 dX10_open_32

set_option maxRecDepth 20000 in
theorem inF_X5 : ∀ w ∈ u_ws RX5 TX5 7, w ∈ gT := gT_u [136, 138, 140, 142, 144, 146, 148] (by decide +kernel) (by decide +kernel)
theorem bw_144 : Cond.fieldLink RX5 22 "DuelDelays$Reader" "faultCode" "I" ∈ gT := gT_tb 127 (by decide +kernel) (by decide +kernel)
theorem bw_145 : Cond.fieldLink RX5 9 "DuelDelays$Reader" "faultPlace" "I" ∈ gT := gT_tb 129 (by decide +kernel) (by decide +kernel)
theorem bw_146 : Cond.fieldLink RX5 25 "DuelDelays$Reader" "land" "LDuelDelays$Land;" ∈ gT := gT_tb 132 (by decide +kernel) (by decide +kernel)
theorem bw_147 : Cond.methodLink RX5 29 yX2_clear ∈ gT := gT_tb 584 (by decide +kernel) (by decide +kernel)
theorem bw_148 : Cond.instanceMethod yX2_clear ∈ gT := gT_tb 585 (by decide +kernel) (by decide +kernel)
theorem bw_149 : Cond.selects RX2 yX2_clear yX2_clear ∈ gT := gT_tb 586 (by decide +kernel) (by decide +kernel)
theorem bw_150 : Cond.initialized RX2 ∈ gT := gT_tb 8 (by decide +kernel) (by decide +kernel)
theorem bw_151 : Cond.fieldLink RX5 34 "DuelDelays$Reader" "honourTold" "Z" ∈ gT := gT_tb 133 (by decide +kernel) (by decide +kernel)
theorem bw_152 : Cond.fieldLink RX5 38 "DuelDelays$Reader" "drawTold" "Z" ∈ gT := gT_tb 134 (by decide +kernel) (by decide +kernel)
theorem bw_153 : Cond.fieldLink RX5 18 "DuelDelays$Reader" "tokens" "LDuelDelays$Tokens;" ∈ gT := gT_tb 131 (by decide +kernel) (by decide +kernel)
theorem bw_154 : Cond.methodLink RX5 41 yX10_open ∈ gT := gT_tb 593 (by decide +kernel) (by decide +kernel)
theorem bw_155 : Cond.instanceMethod yX10_open ∈ gT := gT_tb 594 (by decide +kernel) (by decide +kernel)
theorem bw_156 : Cond.selects RX10 yX10_open yX10_open ∈ gT := gT_tb 595 (by decide +kernel) (by decide +kernel)
theorem bw_157 : Cond.fieldLink RX5 45 "DuelDelays$Tokens" "sort" "I" ∈ gT := gT_tb 96 (by decide +kernel) (by decide +kernel)
theorem bw_158 : Cond.code yX5_read cX5_read 6 (some .boolean) ∈ gT := gT_tb 583 (by decide +kernel) (by decide +kernel)
theorem dX5_read_0 : decode cX5_read 0 = .ok (.aload_n 0, 1) := by decide +kernel
theorem dX5_read_1 : decode cX5_read 1 = .ok (.iconst 0, 1) := by decide +kernel
theorem dX5_read_2 : decode cX5_read 2 = .ok (.putfield 22, 3) := by decide +kernel
theorem dX5_read_5 : decode cX5_read 5 = .ok (.aload_n 0, 1) := by decide +kernel
theorem dX5_read_6 : decode cX5_read 6 = .ok (.iconst (-1), 1) := by decide +kernel
theorem dX5_read_7 : decode cX5_read 7 = .ok (.putfield 9, 3) := by decide +kernel
theorem dX5_read_10 : decode cX5_read 10 = .ok (.aload_n 0, 1) := by decide +kernel
theorem dX5_read_11 : decode cX5_read 11 = .ok (.aload_n 3, 1) := by decide +kernel
theorem dX5_read_12 : decode cX5_read 12 = .ok (.putfield 25, 3) := by decide +kernel
theorem dX5_read_15 : decode cX5_read 15 = .ok (.aload_n 0, 1) := by decide +kernel
theorem dX5_read_16 : decode cX5_read 16 = .ok (.getfield 25, 3) := by decide +kernel
theorem dX5_read_19 : decode cX5_read 19 = .ok (.invokevirtual 29, 3) := by decide +kernel
theorem dX5_read_22 : decode cX5_read 22 = .ok (.aload_n 0, 1) := by decide +kernel
theorem dX5_read_23 : decode cX5_read 23 = .ok (.iconst 0, 1) := by decide +kernel
theorem dX5_read_24 : decode cX5_read 24 = .ok (.putfield 34, 3) := by decide +kernel
theorem dX5_read_27 : decode cX5_read 27 = .ok (.aload_n 0, 1) := by decide +kernel
theorem dX5_read_28 : decode cX5_read 28 = .ok (.iconst 0, 1) := by decide +kernel
theorem dX5_read_29 : decode cX5_read 29 = .ok (.putfield 38, 3) := by decide +kernel
theorem dX5_read_32 : decode cX5_read 32 = .ok (.aload_n 0, 1) := by decide +kernel
theorem dX5_read_33 : decode cX5_read 33 = .ok (.getfield 18, 3) := by decide +kernel
theorem dX5_read_36 : decode cX5_read 36 = .ok (.aload_n 1, 1) := by decide +kernel
theorem dX5_read_37 : decode cX5_read 37 = .ok (.iload_n 2, 1) := by decide +kernel
theorem dX5_read_38 : decode cX5_read 38 = .ok (.invokevirtual 41, 3) := by decide +kernel
theorem dX5_read_41 : decode cX5_read 41 = .ok (.iconst 0, 1) := by decide +kernel
theorem dX5_read_42 : decode cX5_read 42 = .ok (.istore 4, 2) := by decide +kernel
theorem dX5_read_44 : decode cX5_read 44 = .ok (.iload 4, 2) := by decide +kernel
theorem dX5_read_46 : decode cX5_read 46 = .ok (.sipush 1600, 3) := by decide +kernel
theorem dX5_read_49 : decode cX5_read 49 = .ok (.if_icmp .gt 197, 3) := by decide +kernel
theorem dX5_read_52 : decode cX5_read 52 = .ok (.aload_n 0, 1) := by decide +kernel
theorem dX5_read_53 : decode cX5_read 53 = .ok (.getfield 18, 3) := by decide +kernel
theorem dX5_read_56 : decode cX5_read 56 = .ok (.getfield 45, 3) := by decide +kernel
theorem dX5_read_59 : decode cX5_read 59 = .ok (.ifCond .eq 187, 3) := by decide +kernel
theorem dX5_read_246 : decode cX5_read 246 = .ok (.iconst 1, 1) := by decide +kernel
theorem dX5_read_247 : decode cX5_read 247 = .ok (.ireturn, 1) := by decide +kernel
set_option maxHeartbeats 4000000 in
set_option maxRecDepth 100000 in
theorem c_X5_read (l : Launch) (g : GG) (sz : Nat) (xr : Nat) (tk : Nat) (tw : Nat) (xt : Nat) (la : Nat) (mea : Nat) (foa : Nat) (rea : Nat) (d1a : Nat) (d2a : Nat) (d3a : Nat) (m1a : Nat) (m2a : Nat) (m3a : Nat) (m4a : Nat) (f1a : Nat) (f2a : Nat) (f3a : Nat) (f4a : Nat) (r1a : Nat) (r2a : Nat) (r3a : Nat) (r4a : Nat) (r5a : Nat) (r6a : Nat) (r7a : Nat) : Met l yX5_read (.code yX5_read cX5_read 6 (some .boolean) :: gT) ({ frames := 2, cells := 0, slots := 0, locals := 82 }) (va_Pc [.ref xr, .ref xt, .int 0, .ref la] (Pst g sz [(xr, .inr (5, [.int 0, .int (-1), .ref tk, .null, .int 0, .int 0, .int 0])), (tk, .inr (10, [.int 0, .int 0, .int 0, .long 0, .null, .int 0, .int 0, .ref tw])), (xt, aB g 1600 z0), (la, .inr (2, [.ref mea, .ref foa, .ref rea, .int 0, .ref d1a, .ref d2a, .int 9, .int 0, .ref d3a])), (mea, .inr (3, [.int 0, .ref m1a, .ref m2a, .ref m3a, .ref m4a])), (foa, .inr (0, [.int 0, .int 0, .ref f1a, .int 0, .int 0, .ref f2a, .ref f3a, .ref f4a])), (rea, .inr (6, [.int 0, .ref r1a, .ref r2a, .ref r3a, .ref r4a, .ref r5a, .ref r6a, .ref r7a])), (d3a, aI g 4 z0)] nX)) (va_Qi (fun (r : Int32) (_ : Unit) => r = 1) (Qst g [(xr, .inr (5, [.int 0, .int (-1), .ref tk, .null, .int 0, .int 0, .int 0])), (tk, .inr (10, [.int 0, .int 0, .int 0, .long 0, .null, .int 0, .int 0, .ref tw])), (xt, aB g 1600 z0), (la, .inr (2, [.ref mea, .ref foa, .ref rea, .int 0, .ref d1a, .ref d2a, .int 9, .int 0, .ref d3a])), (mea, .inr (3, [.int 0, .ref m1a, .ref m2a, .ref m3a, .ref m4a])), (foa, .inr (0, [.int 0, .int 0, .ref f1a, .int 0, .int 0, .ref f2a, .ref f3a, .ref f4a])), (rea, .inr (6, [.int 0, .ref r1a, .ref r2a, .ref r3a, .ref r4a, .ref r5a, .ref r6a, .ref r7a])), (d3a, aI g 4 z0)] sz (fun _ => [(xr, .inr (5, [.int 0, .int (-1), .ref tk, .ref la, .int 0, .int 0, .int 0])), (la, .inr (2, [.ref mea, .ref foa, .ref rea, .int 0, .ref d1a, .ref d2a, .int 9, .int 0, .ref d3a])), (mea, .inr (3, [.int 0, .ref m1a, .ref m2a, .ref m3a, .ref m4a])), (rea, .inr (6, [.int 0, .ref r1a, .ref r2a, .ref r3a, .ref r4a, .ref r5a, .ref r6a, .ref r7a])), (foa, .inr (0, [.int 0, .int 0, .ref f1a, .int 0, .int 0, .ref f2a, .ref f3a, .ref f4a])), (d3a, aI g 4 z0), (xt, aB g 1600 z0), (tk, .inr (10, [.int 0, .int 0, .int 0, .long 0, .ref xt, .int 0, .int 0, .ref tw]))])) (va_A [(xr, .inr (5, [.int 0, .int (-1), .ref tk, .null, .int 0, .int 0, .int 0])), (tk, .inr (10, [.int 0, .int 0, .int 0, .long 0, .null, .int 0, .int 0, .ref tw])), (xt, aB g 1600 z0), (la, .inr (2, [.ref mea, .ref foa, .ref rea, .int 0, .ref d1a, .ref d2a, .int 9, .int 0, .ref d3a])), (mea, .inr (3, [.int 0, .ref m1a, .ref m2a, .ref m3a, .ref m4a])), (foa, .inr (0, [.int 0, .int 0, .ref f1a, .int 0, .int 0, .ref f2a, .ref f3a, .ref f4a])), (rea, .inr (6, [.int 0, .ref r1a, .ref r2a, .ref r3a, .ref r4a, .ref r5a, .ref r6a, .ref r7a])), (d3a, aI g 4 z0)] sz)) 0 0 (va_A [(xr, .inr (5, [.int 0, .int (-1), .ref tk, .null, .int 0, .int 0, .int 0])), (tk, .inr (10, [.int 0, .int 0, .int 0, .long 0, .null, .int 0, .int 0, .ref tw])), (xt, aB g 1600 z0), (la, .inr (2, [.ref mea, .ref foa, .ref rea, .int 0, .ref d1a, .ref d2a, .int 9, .int 0, .ref d3a])), (mea, .inr (3, [.int 0, .ref m1a, .ref m2a, .ref m3a, .ref m4a])), (foa, .inr (0, [.int 0, .int 0, .ref f1a, .int 0, .int 0, .ref f2a, .ref f3a, .ref f4a])), (rea, .inr (6, [.int 0, .ref r1a, .ref r2a, .ref r3a, .ref r4a, .ref r5a, .ref r6a, .ref r7a])), (d3a, aI g 4 z0)] sz) := by
  refine Met.ofW (cc := cX5_read) (maxL := 6) (ret := (some .boolean)) (by decide) rfl ?_
  intro p e s m args below meth c s₁ B hml hv
  obtain ⟨rfl, hsz, hP, hK, hD0, hX⟩ := hv
  have hx := B.exec
  have hb := B.bytes
  have hr := B.returns
  have hT : ∀ w ∈ gT, w.before _ s = true := fun w h => atoms_spec (ws := .code yX5_read cX5_read 6 (some .boolean) :: gT) B.pre w (List.mem_cons_of_mem _ h)
  have hown : s.vm.findClass RX5 = some m.cls := findClass_of_methodNamed B.named
  have hlocks := B.notSynchronized
  subst hsz
  have hD := hD0.self (sz := s.heap.size)
  generalize hAe : va_A [(xr, .inr (5, [.int 0, .int (-1), .ref tk, .null, .int 0, .int 0, .int 0])), (tk, .inr (10, [.int 0, .int 0, .int 0, .long 0, .null, .int 0, .int 0, .ref tw])), (xt, aB g 1600 z0), (la, .inr (2, [.ref mea, .ref foa, .ref rea, .int 0, .ref d1a, .ref d2a, .int 9, .int 0, .ref d3a])), (mea, .inr (3, [.int 0, .ref m1a, .ref m2a, .ref m3a, .ref m4a])), (foa, .inr (0, [.int 0, .int 0, .ref f1a, .int 0, .int 0, .ref f2a, .ref f3a, .ref f4a])), (rea, .inr (6, [.int 0, .ref r1a, .ref r2a, .ref r3a, .ref r4a, .ref r5a, .ref r6a, .ref r7a])), (d3a, aI g 4 z0)] s.heap.size = A at hD ⊢
  have hA : ∀ q : Nat, s.heap.size ≤ q → A q := fun q h => by rw [← hAe]; exact Or.inr h
  have hS : va_S A s.heap s.heap [] := va_S.rf
  have hl := lv_entry ([.ref xr, .ref xt, .int 0, .ref la]) (n := 6) (Nat.le_of_ble_eq_true rfl)
  rw [lg_entry_eq]
  generalize (lg_sl ([.ref xr, .ref xt, .int 0, .ref la]) ++ List.replicate (6 - (lg_sl ([.ref xr, .ref xt, .int 0, .ref la])).length) Slot.unset).toArray = ls at hl ⊢
  have hl : lv_has ls 6 [(0, .ref xr), (1, .ref xt), (2, .int 0), (3, .ref la)] := hl
  refine p_nH (fun H hH => ?_)
  have hP : va_P g.1 vwCl [(xr, .inr (5, [.int 0, .int (-1), .ref tk, .null, .int 0, .int 0, .int 0])), (tk, .inr (10, [.int 0, .int 0, .int 0, .long 0, .null, .int 0, .int 0, .ref tw])), (xt, aB g 1600 z0), (la, .inr (2, [.ref mea, .ref foa, .ref rea, .int 0, .ref d1a, .ref d2a, .int 9, .int 0, .ref d3a])), (mea, .inr (3, [.int 0, .ref m1a, .ref m2a, .ref m3a, .ref m4a])), (foa, .inr (0, [.int 0, .int 0, .ref f1a, .int 0, .int 0, .ref f2a, .ref f3a, .ref f4a])), (rea, .inr (6, [.int 0, .ref r1a, .ref r2a, .ref r3a, .ref r4a, .ref r5a, .ref r6a, .ref r7a])), (d3a, aI g 4 z0)] H := by rw [hH]; exact hP
  have hS : va_S A s.heap H [] := by rw [hH]; exact hS
  refine lv_aload_n hx hb dX5_read_0 rfl (lv_at hl 0 rfl) ?_
  refine lv_iconst (v := 0) hx hb dX5_read_1 (by decide) ?_
  refine va_put (D := g.1) (ci := 5) (v := .int 0) (ty := .int) (C := RX5) (T := TX5) (N := 7) hx hb hT inF_X5 tyX5 tyX5_ok nmX5 hown hK.1 hP hD hS 0 rfl rfl 0 (by decide) (hT _ bw_144) (fun _ h9 => h9) rfl (by decide +kernel) rfl rfl (Nat.le_of_ble_eq_true rfl) dX5_read_2 (fun H locs hP hD hS => ?_)
  have hP : va_P g.1 vwCl [(xr, .inr (5, [.int 0, .int (-1), .ref tk, .null, .int 0, .int 0, .int 0])), (tk, .inr (10, [.int 0, .int 0, .int 0, .long 0, .null, .int 0, .int 0, .ref tw])), (xt, aB g 1600 z0), (la, .inr (2, [.ref mea, .ref foa, .ref rea, .int 0, .ref d1a, .ref d2a, .int 9, .int 0, .ref d3a])), (mea, .inr (3, [.int 0, .ref m1a, .ref m2a, .ref m3a, .ref m4a])), (foa, .inr (0, [.int 0, .int 0, .ref f1a, .int 0, .int 0, .ref f2a, .ref f3a, .ref f4a])), (rea, .inr (6, [.int 0, .ref r1a, .ref r2a, .ref r3a, .ref r4a, .ref r5a, .ref r6a, .ref r7a])), (d3a, aI g 4 z0)] H := hP
  have hD : va_D A [(xr, .inr (5, [.int 0, .int (-1), .ref tk, .null, .int 0, .int 0, .int 0])), (tk, .inr (10, [.int 0, .int 0, .int 0, .long 0, .null, .int 0, .int 0, .ref tw])), (xt, aB g 1600 z0), (la, .inr (2, [.ref mea, .ref foa, .ref rea, .int 0, .ref d1a, .ref d2a, .int 9, .int 0, .ref d3a])), (mea, .inr (3, [.int 0, .ref m1a, .ref m2a, .ref m3a, .ref m4a])), (foa, .inr (0, [.int 0, .int 0, .ref f1a, .int 0, .int 0, .ref f2a, .ref f3a, .ref f4a])), (rea, .inr (6, [.int 0, .ref r1a, .ref r2a, .ref r3a, .ref r4a, .ref r5a, .ref r6a, .ref r7a])), (d3a, aI g 4 z0)] := hD
  refine lv_aload_n hx hb dX5_read_5 rfl (lv_at hl 0 rfl) ?_
  refine lv_iconst (v := (-1)) hx hb dX5_read_6 (by decide) ?_
  refine va_put (D := g.1) (ci := 5) (v := .int (-1)) (ty := .int) (C := RX5) (T := TX5) (N := 7) hx hb hT inF_X5 tyX5 tyX5_ok nmX5 hown hK.1 hP hD hS 0 rfl rfl 1 (by decide) (hT _ bw_145) (fun _ h9 => h9) rfl (by decide +kernel) rfl rfl (Nat.le_of_ble_eq_true rfl) dX5_read_7 (fun H locs hP hD hS => ?_)
  have hP : va_P g.1 vwCl [(xr, .inr (5, [.int 0, .int (-1), .ref tk, .null, .int 0, .int 0, .int 0])), (tk, .inr (10, [.int 0, .int 0, .int 0, .long 0, .null, .int 0, .int 0, .ref tw])), (xt, aB g 1600 z0), (la, .inr (2, [.ref mea, .ref foa, .ref rea, .int 0, .ref d1a, .ref d2a, .int 9, .int 0, .ref d3a])), (mea, .inr (3, [.int 0, .ref m1a, .ref m2a, .ref m3a, .ref m4a])), (foa, .inr (0, [.int 0, .int 0, .ref f1a, .int 0, .int 0, .ref f2a, .ref f3a, .ref f4a])), (rea, .inr (6, [.int 0, .ref r1a, .ref r2a, .ref r3a, .ref r4a, .ref r5a, .ref r6a, .ref r7a])), (d3a, aI g 4 z0)] H := hP
  have hD : va_D A [(xr, .inr (5, [.int 0, .int (-1), .ref tk, .null, .int 0, .int 0, .int 0])), (tk, .inr (10, [.int 0, .int 0, .int 0, .long 0, .null, .int 0, .int 0, .ref tw])), (xt, aB g 1600 z0), (la, .inr (2, [.ref mea, .ref foa, .ref rea, .int 0, .ref d1a, .ref d2a, .int 9, .int 0, .ref d3a])), (mea, .inr (3, [.int 0, .ref m1a, .ref m2a, .ref m3a, .ref m4a])), (foa, .inr (0, [.int 0, .int 0, .ref f1a, .int 0, .int 0, .ref f2a, .ref f3a, .ref f4a])), (rea, .inr (6, [.int 0, .ref r1a, .ref r2a, .ref r3a, .ref r4a, .ref r5a, .ref r6a, .ref r7a])), (d3a, aI g 4 z0)] := hD
  refine lv_aload_n hx hb dX5_read_10 rfl (lv_at hl 0 rfl) ?_
  refine lv_aload_n hx hb dX5_read_11 rfl (lv_at hl 3 rfl) ?_
  refine va_put (D := g.1) (ci := 5) (v := .ref la) (ty := .object "DuelDelays$Land") (C := RX5) (T := TX5) (N := 7) hx hb hT inF_X5 tyX5 tyX5_ok nmX5 hown hK.1 hP hD hS 0 rfl rfl 3 (by decide) (hT _ bw_146) (fun _ h9 => h9) rfl (by decide +kernel) rfl rfl (Nat.le_of_ble_eq_true rfl) dX5_read_12 (fun H locs hP hD hS => ?_)
  have hP : va_P g.1 vwCl [(xr, .inr (5, [.int 0, .int (-1), .ref tk, .ref la, .int 0, .int 0, .int 0])), (tk, .inr (10, [.int 0, .int 0, .int 0, .long 0, .null, .int 0, .int 0, .ref tw])), (xt, aB g 1600 z0), (la, .inr (2, [.ref mea, .ref foa, .ref rea, .int 0, .ref d1a, .ref d2a, .int 9, .int 0, .ref d3a])), (mea, .inr (3, [.int 0, .ref m1a, .ref m2a, .ref m3a, .ref m4a])), (foa, .inr (0, [.int 0, .int 0, .ref f1a, .int 0, .int 0, .ref f2a, .ref f3a, .ref f4a])), (rea, .inr (6, [.int 0, .ref r1a, .ref r2a, .ref r3a, .ref r4a, .ref r5a, .ref r6a, .ref r7a])), (d3a, aI g 4 z0)] H := hP
  have hD : va_D A [(xr, .inr (5, [.int 0, .int (-1), .ref tk, .ref la, .int 0, .int 0, .int 0])), (tk, .inr (10, [.int 0, .int 0, .int 0, .long 0, .null, .int 0, .int 0, .ref tw])), (xt, aB g 1600 z0), (la, .inr (2, [.ref mea, .ref foa, .ref rea, .int 0, .ref d1a, .ref d2a, .int 9, .int 0, .ref d3a])), (mea, .inr (3, [.int 0, .ref m1a, .ref m2a, .ref m3a, .ref m4a])), (foa, .inr (0, [.int 0, .int 0, .ref f1a, .int 0, .int 0, .ref f2a, .ref f3a, .ref f4a])), (rea, .inr (6, [.int 0, .ref r1a, .ref r2a, .ref r3a, .ref r4a, .ref r5a, .ref r6a, .ref r7a])), (d3a, aI g 4 z0)] := hD
  refine lv_aload_n hx hb dX5_read_15 rfl (lv_at hl 0 rfl) ?_
  refine va_get (D := g.1) (ci := 5) (v := .ref la) (C := RX5) (T := TX5) (N := 7) hx hb hT inF_X5 hown hK.1 hP 0 rfl rfl 3 (by decide) (hT _ bw_146) (fun _ h9 => h9) rfl dX5_read_16 ?_
  refine k_v (wr := [(xr, .inr (5, [.int 0, .int (-1), .ref tk, .ref la, .int 0, .int 0, .int 0])), (tk, .inr (10, [.int 0, .int 0, .int 0, .long 0, .null, .int 0, .int 0, .ref tw])), (xt, aB g 1600 z0)]) (k_V (n := 0) ⟨hx, hb, hml, hown, hT⟩ hK hP hD [3, 4, 5, 6, 7] rfl (by decide) (c_X2_clear l g H.size la mea foa rea d1a d2a d3a m1a m2a m3a m4a f1a f2a f3a f4a r1a r2a r3a r4a r5a r6a r7a) (gV bw_147 bw_148 bw_149 bw_150 bw_100) rfl rfl (by decide +kernel) ⟨by decide, by decide⟩ (ci := 2) (q0 := 0) rfl rfl (fun _ _ _ _ _ => trivial) (fun _ _ _ => trivial) rfl rfl hl.1 (Nat.le_of_ble_eq_true rfl) dX5_read_19 ⟨by decide, by decide⟩) hP hD hS hA [3, 4, 5, 6, 7] [0, 1, 2] rfl rfl (by decide) (by decide) (fun u H locs hw hP hD hS => ?_)
  have hP : va_P g.1 vwCl [(xr, .inr (5, [.int 0, .int (-1), .ref tk, .ref la, .int 0, .int 0, .int 0])), (tk, .inr (10, [.int 0, .int 0, .int 0, .long 0, .null, .int 0, .int 0, .ref tw])), (xt, aB g 1600 z0), (la, .inr (2, [.ref mea, .ref foa, .ref rea, .int 0, .ref d1a, .ref d2a, .int 9, .int 0, .ref d3a])), (mea, .inr (3, [.int 0, .ref m1a, .ref m2a, .ref m3a, .ref m4a])), (rea, .inr (6, [.int 0, .ref r1a, .ref r2a, .ref r3a, .ref r4a, .ref r5a, .ref r6a, .ref r7a])), (foa, .inr (0, [.int 0, .int 0, .ref f1a, .int 0, .int 0, .ref f2a, .ref f3a, .ref f4a])), (d3a, aI g 4 z0)] H := hP
  have hD : va_D A [(xr, .inr (5, [.int 0, .int (-1), .ref tk, .ref la, .int 0, .int 0, .int 0])), (tk, .inr (10, [.int 0, .int 0, .int 0, .long 0, .null, .int 0, .int 0, .ref tw])), (xt, aB g 1600 z0), (la, .inr (2, [.ref mea, .ref foa, .ref rea, .int 0, .ref d1a, .ref d2a, .int 9, .int 0, .ref d3a])), (mea, .inr (3, [.int 0, .ref m1a, .ref m2a, .ref m3a, .ref m4a])), (rea, .inr (6, [.int 0, .ref r1a, .ref r2a, .ref r3a, .ref r4a, .ref r5a, .ref r6a, .ref r7a])), (foa, .inr (0, [.int 0, .int 0, .ref f1a, .int 0, .int 0, .ref f2a, .ref f3a, .ref f4a])), (d3a, aI g 4 z0)] := hD
  refine lv_aload_n hx hb dX5_read_22 rfl (lv_at hl 0 rfl) ?_
  refine lv_iconst (v := 0) hx hb dX5_read_23 (by decide) ?_
  refine va_put (D := g.1) (ci := 5) (v := .int 0) (ty := .boolean) (C := RX5) (T := TX5) (N := 7) hx hb hT inF_X5 tyX5 tyX5_ok nmX5 hown hK.1 hP hD hS 0 rfl rfl 4 (by decide) (hT _ bw_151) (fun _ h9 => h9) rfl (by decide +kernel) rfl rfl (Nat.le_of_ble_eq_true rfl) dX5_read_24 (fun H locs hP hD hS => ?_)
  have hP : va_P g.1 vwCl [(xr, .inr (5, [.int 0, .int (-1), .ref tk, .ref la, .int 0, .int 0, .int 0])), (tk, .inr (10, [.int 0, .int 0, .int 0, .long 0, .null, .int 0, .int 0, .ref tw])), (xt, aB g 1600 z0), (la, .inr (2, [.ref mea, .ref foa, .ref rea, .int 0, .ref d1a, .ref d2a, .int 9, .int 0, .ref d3a])), (mea, .inr (3, [.int 0, .ref m1a, .ref m2a, .ref m3a, .ref m4a])), (rea, .inr (6, [.int 0, .ref r1a, .ref r2a, .ref r3a, .ref r4a, .ref r5a, .ref r6a, .ref r7a])), (foa, .inr (0, [.int 0, .int 0, .ref f1a, .int 0, .int 0, .ref f2a, .ref f3a, .ref f4a])), (d3a, aI g 4 z0)] H := hP
  have hD : va_D A [(xr, .inr (5, [.int 0, .int (-1), .ref tk, .ref la, .int 0, .int 0, .int 0])), (tk, .inr (10, [.int 0, .int 0, .int 0, .long 0, .null, .int 0, .int 0, .ref tw])), (xt, aB g 1600 z0), (la, .inr (2, [.ref mea, .ref foa, .ref rea, .int 0, .ref d1a, .ref d2a, .int 9, .int 0, .ref d3a])), (mea, .inr (3, [.int 0, .ref m1a, .ref m2a, .ref m3a, .ref m4a])), (rea, .inr (6, [.int 0, .ref r1a, .ref r2a, .ref r3a, .ref r4a, .ref r5a, .ref r6a, .ref r7a])), (foa, .inr (0, [.int 0, .int 0, .ref f1a, .int 0, .int 0, .ref f2a, .ref f3a, .ref f4a])), (d3a, aI g 4 z0)] := hD
  refine lv_aload_n hx hb dX5_read_27 rfl (lv_at hl 0 rfl) ?_
  refine lv_iconst (v := 0) hx hb dX5_read_28 (by decide) ?_
  refine va_put (D := g.1) (ci := 5) (v := .int 0) (ty := .boolean) (C := RX5) (T := TX5) (N := 7) hx hb hT inF_X5 tyX5 tyX5_ok nmX5 hown hK.1 hP hD hS 0 rfl rfl 5 (by decide) (hT _ bw_152) (fun _ h9 => h9) rfl (by decide +kernel) rfl rfl (Nat.le_of_ble_eq_true rfl) dX5_read_29 (fun H locs hP hD hS => ?_)
  have hP : va_P g.1 vwCl [(xr, .inr (5, [.int 0, .int (-1), .ref tk, .ref la, .int 0, .int 0, .int 0])), (tk, .inr (10, [.int 0, .int 0, .int 0, .long 0, .null, .int 0, .int 0, .ref tw])), (xt, aB g 1600 z0), (la, .inr (2, [.ref mea, .ref foa, .ref rea, .int 0, .ref d1a, .ref d2a, .int 9, .int 0, .ref d3a])), (mea, .inr (3, [.int 0, .ref m1a, .ref m2a, .ref m3a, .ref m4a])), (rea, .inr (6, [.int 0, .ref r1a, .ref r2a, .ref r3a, .ref r4a, .ref r5a, .ref r6a, .ref r7a])), (foa, .inr (0, [.int 0, .int 0, .ref f1a, .int 0, .int 0, .ref f2a, .ref f3a, .ref f4a])), (d3a, aI g 4 z0)] H := hP
  have hD : va_D A [(xr, .inr (5, [.int 0, .int (-1), .ref tk, .ref la, .int 0, .int 0, .int 0])), (tk, .inr (10, [.int 0, .int 0, .int 0, .long 0, .null, .int 0, .int 0, .ref tw])), (xt, aB g 1600 z0), (la, .inr (2, [.ref mea, .ref foa, .ref rea, .int 0, .ref d1a, .ref d2a, .int 9, .int 0, .ref d3a])), (mea, .inr (3, [.int 0, .ref m1a, .ref m2a, .ref m3a, .ref m4a])), (rea, .inr (6, [.int 0, .ref r1a, .ref r2a, .ref r3a, .ref r4a, .ref r5a, .ref r6a, .ref r7a])), (foa, .inr (0, [.int 0, .int 0, .ref f1a, .int 0, .int 0, .ref f2a, .ref f3a, .ref f4a])), (d3a, aI g 4 z0)] := hD
  refine lv_aload_n hx hb dX5_read_32 rfl (lv_at hl 0 rfl) ?_
  refine va_get (D := g.1) (ci := 5) (v := .ref tk) (C := RX5) (T := TX5) (N := 7) hx hb hT inF_X5 hown hK.1 hP 0 rfl rfl 2 (by decide) (hT _ bw_153) (fun _ h9 => h9) rfl dX5_read_33 ?_
  refine lv_aload_n hx hb dX5_read_36 rfl (lv_at hl 1 rfl) ?_
  refine lv_iload_n hx hb dX5_read_37 rfl (lv_at hl 2 rfl) ?_
  refine k_v (wr := [(xr, .inr (5, [.int 0, .int (-1), .ref tk, .ref la, .int 0, .int 0, .int 0])), (la, .inr (2, [.ref mea, .ref foa, .ref rea, .int 0, .ref d1a, .ref d2a, .int 9, .int 0, .ref d3a])), (mea, .inr (3, [.int 0, .ref m1a, .ref m2a, .ref m3a, .ref m4a])), (rea, .inr (6, [.int 0, .ref r1a, .ref r2a, .ref r3a, .ref r4a, .ref r5a, .ref r6a, .ref r7a])), (foa, .inr (0, [.int 0, .int 0, .ref f1a, .int 0, .int 0, .ref f2a, .ref f3a, .ref f4a])), (d3a, aI g 4 z0)]) (k_V (n := 2) ⟨hx, hb, hml, hown, hT⟩ hK hP hD [1, 2] rfl (by decide) (c_X10_open l g H.size tk tw xt) (gV bw_154 bw_155 bw_156 bw_142 bw_143) rfl rfl (by decide +kernel) ⟨by decide, by decide⟩ (ci := 10) (q0 := 0) rfl rfl (fun _ _ _ _ _ => trivial) (fun _ _ _ => trivial) rfl rfl hl.1 (Nat.le_of_ble_eq_true rfl) dX5_read_38 ⟨by decide, by decide⟩) hP hD hS hA [1, 2] [0, 3, 4, 5, 6, 7] rfl rfl (by decide) (by decide) (fun u H locs hw hP hD hS => ?_)
  have hP : va_P g.1 vwCl [(xr, .inr (5, [.int 0, .int (-1), .ref tk, .ref la, .int 0, .int 0, .int 0])), (la, .inr (2, [.ref mea, .ref foa, .ref rea, .int 0, .ref d1a, .ref d2a, .int 9, .int 0, .ref d3a])), (mea, .inr (3, [.int 0, .ref m1a, .ref m2a, .ref m3a, .ref m4a])), (rea, .inr (6, [.int 0, .ref r1a, .ref r2a, .ref r3a, .ref r4a, .ref r5a, .ref r6a, .ref r7a])), (foa, .inr (0, [.int 0, .int 0, .ref f1a, .int 0, .int 0, .ref f2a, .ref f3a, .ref f4a])), (d3a, aI g 4 z0), (xt, aB g 1600 z0), (tk, .inr (10, [.int 0, .int 0, .int 0, .long 0, .ref xt, .int 0, .int 0, .ref tw]))] H := hP
  have hD : va_D A [(xr, .inr (5, [.int 0, .int (-1), .ref tk, .ref la, .int 0, .int 0, .int 0])), (la, .inr (2, [.ref mea, .ref foa, .ref rea, .int 0, .ref d1a, .ref d2a, .int 9, .int 0, .ref d3a])), (mea, .inr (3, [.int 0, .ref m1a, .ref m2a, .ref m3a, .ref m4a])), (rea, .inr (6, [.int 0, .ref r1a, .ref r2a, .ref r3a, .ref r4a, .ref r5a, .ref r6a, .ref r7a])), (foa, .inr (0, [.int 0, .int 0, .ref f1a, .int 0, .int 0, .ref f2a, .ref f3a, .ref f4a])), (d3a, aI g 4 z0), (xt, aB g 1600 z0), (tk, .inr (10, [.int 0, .int 0, .int 0, .long 0, .ref xt, .int 0, .int 0, .ref tw]))] := hD
  refine lv_iconst (v := 0) hx hb dX5_read_41 (by decide) ?_
  refine lv_istore (lv' := [(4, .int 0), (0, .ref xr), (1, .ref xt), (2, .int 0), (3, .ref la)]) hx hb dX5_read_42 hl (by decide) rfl (fun ls hl => ?_)
  refine lv_iload hx hb dX5_read_44 (lv_at hl 0 rfl) ?_
  refine lv_sipush (v := 1600) hx hb dX5_read_46 (by decide) ?_
  refine lv_icmp_gt (tgt := 246) hx hb dX5_read_49 (by decide) (fun c9 => absurd c9 (by decide)) (fun _ => ?_)
  refine lv_aload_n hx hb dX5_read_52 rfl (lv_at hl 1 rfl) ?_
  refine va_get (D := g.1) (ci := 5) (v := .ref tk) (C := RX5) (T := TX5) (N := 7) hx hb hT inF_X5 hown hK.1 hP 0 rfl rfl 2 (by decide) (hT _ bw_153) (fun _ h9 => h9) rfl dX5_read_53 ?_
  refine va_get (D := g.1) (ci := 10) (v := .int 0) (C := RX10) (T := TX10) (N := 8) hx hb hT inF_X10 hown hK.1 hP 7 rfl rfl 0 (by decide) (hT _ bw_157) (fun _ h9 => h9) rfl dX5_read_56 ?_
  refine lv_if_eq (tgt := 246) hx hb dX5_read_59 (by decide) (fun _ => ?_) (fun c9 => absurd (by decide) c9)
  refine lv_iconst (v := 1) hx hb dX5_read_246 (by decide) ?_
  have hP9 : va_P g.1 vwCl [(xr, .inr (5, [.int 0, .int (-1), .ref tk, .ref la, .int 0, .int 0, .int 0])), (la, .inr (2, [.ref mea, .ref foa, .ref rea, .int 0, .ref d1a, .ref d2a, .int 9, .int 0, .ref d3a])), (mea, .inr (3, [.int 0, .ref m1a, .ref m2a, .ref m3a, .ref m4a])), (rea, .inr (6, [.int 0, .ref r1a, .ref r2a, .ref r3a, .ref r4a, .ref r5a, .ref r6a, .ref r7a])), (foa, .inr (0, [.int 0, .int 0, .ref f1a, .int 0, .int 0, .ref f2a, .ref f3a, .ref f4a])), (d3a, aI g 4 z0), (xt, aB g 1600 z0), (tk, .inr (10, [.int 0, .int 0, .int 0, .long 0, .ref xt, .int 0, .int 0, .ref tw]))] H := hP.sub [0, 1, 2, 3, 4, 5, 6, 7] rfl
  have hD9 : va_D A [(xr, .inr (5, [.int 0, .int (-1), .ref tk, .ref la, .int 0, .int 0, .int 0])), (la, .inr (2, [.ref mea, .ref foa, .ref rea, .int 0, .ref d1a, .ref d2a, .int 9, .int 0, .ref d3a])), (mea, .inr (3, [.int 0, .ref m1a, .ref m2a, .ref m3a, .ref m4a])), (rea, .inr (6, [.int 0, .ref r1a, .ref r2a, .ref r3a, .ref r4a, .ref r5a, .ref r6a, .ref r7a])), (foa, .inr (0, [.int 0, .int 0, .ref f1a, .int 0, .int 0, .ref f2a, .ref f3a, .ref f4a])), (d3a, aI g 4 z0), (xt, aB g 1600 z0), (tk, .inr (10, [.int 0, .int 0, .int 0, .long 0, .ref xt, .int 0, .int 0, .ref tw]))] := hD.sub [0, 1, 2, 3, 4, 5, 6, 7] (by decide) rfl
  exact W.zret (v := 1) (ty := .boolean) hx hb hr rfl (fun t ht hW => ⟨⟨1, (), rfl, rfl, by rw [ht]; exact hP9, by rw [hAe]; exact hD9⟩, hS.F ht⟩) hS.2.2 dX5_read_247
