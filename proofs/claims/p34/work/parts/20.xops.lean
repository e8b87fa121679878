theorem nar01 {r : Int32} (h : 0 ≤ r.toInt ∧ r.toInt ≤ 1) : narrow .boolean (.int r) = .int r := by
  have h2 : r = 0 ∨ r = 1 := by
    rcases (show r.toInt = 0 ∨ r.toInt = 1 by omega) with q | q
    · exact Or.inl (L_eq rfl (by decide : (0 : Int32).toInt = 0) q)
    · exact Or.inr (L_eq rfl (by decide : (1 : Int32).toInt = 1) q)
  rcases h2 with rfl | rfl <;> rfl
/-- what later answers, and the TIME behind it -/
def Fl (t b : Int32) : Int32 := if 0 ≤ b.toInt ∧ b.toInt ≤ 1000 ∧ t.toInt + b.toInt ≤ 100000 then t + b else -1
def Ft (t b : Int32) : Int32 := if 0 ≤ b.toInt ∧ b.toInt ≤ 1000 ∧ t.toInt + b.toInt ≤ 100000 then t + b else t

theorem bw_268 : Cond.code yX11_isSide cX11_isSide 1 (some .boolean) ∈ gT := gT_tb 923 (by decide +kernel) (by decide +kernel)
theorem dX11_isSide_0 : decode cX11_isSide 0 = .ok (.iload_n 0, 1) := by decide +kernel
theorem dX11_isSide_1 : decode cX11_isSide 1 = .ok (.ifCond .eq 8, 3) := by decide +kernel
theorem dX11_isSide_4 : decode cX11_isSide 4 = .ok (.iload_n 0, 1) := by decide +kernel
theorem dX11_isSide_5 : decode cX11_isSide 5 = .ok (.iconst 1, 1) := by decide +kernel
theorem dX11_isSide_6 : decode cX11_isSide 6 = .ok (.if_icmp .ne 7, 3) := by decide +kernel
theorem dX11_isSide_9 : decode cX11_isSide 9 = .ok (.iconst 1, 1) := by decide +kernel
theorem dX11_isSide_10 : decode cX11_isSide 10 = .ok (.goto 4, 3) := by decide +kernel
theorem dX11_isSide_13 : decode cX11_isSide 13 = .ok (.iconst 0, 1) := by decide +kernel
theorem dX11_isSide_14 : decode cX11_isSide 14 = .ok (.ireturn, 1) := by decide +kernel
set_option maxHeartbeats 4000000 in
set_option maxRecDepth 100000 in
theorem s_X11_isSide (l : Launch) (g : GG) (sz : Nat) (p0 : Int32) : Met l yX11_isSide (.code yX11_isSide cX11_isSide 1 (some .boolean) :: gT) ({ frames := 0, cells := 0, slots := 0, locals := 0 }) (va_Pc [.int p0] (Pst g sz [] nX)) (va_Qi (fun (r : Int32) => fun (_ : Unit) => (r = 1 ∧ (0 ≤ p0.toInt ∧ p0.toInt ≤ 1)) ∨ (r = 0)) (Qst g [] sz (fun _ => [])) (va_A [] sz)) 0 0 (va_A [] sz) := by
  refine Met.ofW (cc := cX11_isSide) (maxL := 1) (ret := (some .boolean)) (by decide) rfl ?_
  intro p e s m args below meth c s₁ B hml hv
  obtain ⟨rfl, hsz, hP, hK, hD0, hX⟩ := hv
  have hx := B.exec
  have hb := B.bytes
  have hr := B.returns
  have hT : ∀ w ∈ gT, w.before _ s = true := fun w h => atoms_spec (ws := .code yX11_isSide cX11_isSide 1 (some .boolean) :: gT) B.pre w (List.mem_cons_of_mem _ h)
  have hown : s.vm.findClass RX11 = some m.cls := findClass_of_methodNamed B.named
  have hlocks := B.notSynchronized
  subst hsz
  have hD := hD0
  generalize hAe : va_A [] s.heap.size = A at ⊢
  have hA : ∀ q : Nat, s.heap.size ≤ q → A q := fun q h => by rw [← hAe]; exact Or.inr h
  have hS : va_S A s.heap s.heap [] := va_S.rf
  have hl := lv_entry ([.int p0]) (n := 1) (Nat.le_of_ble_eq_true rfl)
  rw [lg_entry_eq]
  generalize (lg_sl ([.int p0]) ++ List.replicate (1 - (lg_sl ([.int p0])).length) Slot.unset).toArray = ls at hl ⊢
  have hl : lv_has ls 1 [(0, .int p0)] := hl
  refine p_nH (fun H hH => ?_)
  have hP : va_P g.1 vwCl [] H := by rw [hH]; exact hP
  have hS : va_S A s.heap H [] := by rw [hH]; exact hS
  refine lv_iload_n hx hb dX11_isSide_0 rfl (lv_at hl 0 rfl) ?_
  refine lv_if_eq (tgt := 9) hx hb dX11_isSide_1 (by decide) (fun c_1 => ?_) (fun c_1 => ?_)
  · have f_2 := E_eq (rfl : p0.toInt = _) (by decide : (0 : Int32).toInt = 0) c_1
    refine lv_iconst (v := 1) hx hb dX11_isSide_9 (by decide) ?_
    refine lv_goto (tgt := 14) hx hb dX11_isSide_10 (by decide) ?_
    have hP9 : va_P g.1 vwCl [] H := hP.sub [] rfl
    have hD9 : va_D A [] := ⟨fun i j p q h => by simp at h, fun k q h => by simp at h⟩
    exact W.zret (v := 1) (ty := .boolean) hx hb hr rfl (fun t ht hW => ⟨⟨1, (), rfl, (Or.inl ⟨rfl, by omega⟩), by rw [ht]; exact hP9, by rw [hAe]; exact hD9⟩, hS.F ht⟩) hS.2.2 dX11_isSide_14
  · have f_3 := E_ne (rfl : p0.toInt = _) (by decide : (0 : Int32).toInt = 0) c_1
    refine lv_iload_n hx hb dX11_isSide_4 rfl (lv_at hl 0 rfl) ?_
    refine lv_iconst (v := 1) hx hb dX11_isSide_5 (by decide) ?_
    refine lv_icmp_ne (tgt := 13) hx hb dX11_isSide_6 (by decide) (fun c_4 => ?_) (fun c_4 => ?_)
    · have f_5 := E_ne (rfl : p0.toInt = _) (by decide : (1 : Int32).toInt = 1) c_4
      refine lv_iconst (v := 0) hx hb dX11_isSide_13 (by decide) ?_
      have hP9 : va_P g.1 vwCl [] H := hP.sub [] rfl
      have hD9 : va_D A [] := ⟨fun i j p q h => by simp at h, fun k q h => by simp at h⟩
      exact W.zret (v := 0) (ty := .boolean) hx hb hr rfl (fun t ht hW => ⟨⟨0, (), rfl, (Or.inr (rfl)), by rw [ht]; exact hP9, by rw [hAe]; exact hD9⟩, hS.F ht⟩) hS.2.2 dX11_isSide_14
    · have f_6 := E_eq (rfl : p0.toInt = _) (by decide : (1 : Int32).toInt = 1) c_4
      refine lv_iconst (v := 1) hx hb dX11_isSide_9 (by decide) ?_
      refine lv_goto (tgt := 14) hx hb dX11_isSide_10 (by decide) ?_
      have hP9 : va_P g.1 vwCl [] H := hP.sub [] rfl
      have hD9 : va_D A [] := ⟨fun i j p q h => by simp at h, fun k q h => by simp at h⟩
      exact W.zret (v := 1) (ty := .boolean) hx hb hr rfl (fun t ht hW => ⟨⟨1, (), rfl, (Or.inl ⟨rfl, by omega⟩), by rw [ht]; exact hP9, by rw [hAe]; exact hD9⟩, hS.F ht⟩) hS.2.2 dX11_isSide_14

set_option maxRecDepth 20000 in
theorem inF_X11 : ∀ w ∈ u_ws RX11 TX11 14, w ∈ gT := gT_u [535, 537, 539, 541, 543, 545, 547, 549, 551, 553, 555, 557, 559, 561] (by decide +kernel) (by decide +kernel)
theorem bw_269 : Cond.fieldLink RX11 23 "DuelDelays" "land" "LDuelDelays$Land;" ∈ gT := gT_tb 524 (by decide +kernel) (by decide +kernel)
theorem bw_270 : Cond.fieldLink RX11 97 "DuelDelays$Land" "men" "LDuelDelays$Men;" ∈ gT := gT_tb 288 (by decide +kernel) (by decide +kernel)
theorem bw_271 : Cond.methodLink RX11 112 yX3_has ∈ gT := gT_tb 843 (by decide +kernel) (by decide +kernel)
theorem bw_272 : Cond.instanceMethod yX3_has ∈ gT := gT_tb 844 (by decide +kernel) (by decide +kernel)
theorem bw_273 : Cond.selects RX3 yX3_has yX3_has ∈ gT := gT_tb 845 (by decide +kernel) (by decide +kernel)
theorem bw_274 : Cond.initialized RX3 ∈ gT := gT_tb 9 (by decide +kernel) (by decide +kernel)
theorem bw_275 : Cond.fieldLink RX11 32 "DuelDelays" "states" "[LDuelDelays$State;" ∈ gT := gT_tb 526 (by decide +kernel) (by decide +kernel)
theorem bw_276 : Cond.fieldLink RX11 84 "DuelDelays" "current" "I" ∈ gT := gT_tb 527 (by decide +kernel) (by decide +kernel)
theorem bw_277 : Cond.methodLink RX11 116 yX9_isAlive ∈ gT := gT_tb 847 (by decide +kernel) (by decide +kernel)
theorem bw_278 : Cond.fieldLink RX11 119 "DuelDelays$State" "coins" "[I" ∈ gT := gT_tb 464 (by decide +kernel) (by decide +kernel)
theorem bw_279 : Cond.fieldLink RX11 123 "DuelDelays$Men" "fathers" "[I" ∈ gT := gT_tb 180 (by decide +kernel) (by decide +kernel)
theorem bw_280 : Cond.fieldLink RX11 126 "DuelDelays$Men" "dies" "[I" ∈ gT := gT_tb 173 (by decide +kernel) (by decide +kernel)
theorem bw_281 : Cond.fieldLink RX11 129 "DuelDelays$State" "rented" "[I" ∈ gT := gT_tb 466 (by decide +kernel) (by decide +kernel)
theorem bw_282 : Cond.code yX11_man cX11_man 4 (some .int) ∈ gT := gT_tb 842 (by decide +kernel) (by decide +kernel)
theorem dX11_man_0 : decode cX11_man 0 = .ok (.aload_n 0, 1) := by decide +kernel
theorem dX11_man_1 : decode cX11_man 1 = .ok (.getfield 23, 3) := by decide +kernel
theorem dX11_man_4 : decode cX11_man 4 = .ok (.getfield 97, 3) := by decide +kernel
theorem dX11_man_7 : decode cX11_man 7 = .ok (.iload_n 1, 1) := by decide +kernel
theorem dX11_man_8 : decode cX11_man 8 = .ok (.invokevirtual 112, 3) := by decide +kernel
theorem dX11_man_11 : decode cX11_man 11 = .ok (.ifCond .ne 6, 3) := by decide +kernel
theorem dX11_man_14 : decode cX11_man 14 = .ok (.bipush (-2), 2) := by decide +kernel
theorem dX11_man_16 : decode cX11_man 16 = .ok (.ireturn, 1) := by decide +kernel
theorem dX11_man_17 : decode cX11_man 17 = .ok (.aload_n 0, 1) := by decide +kernel
theorem dX11_man_18 : decode cX11_man 18 = .ok (.getfield 32, 3) := by decide +kernel
theorem dX11_man_21 : decode cX11_man 21 = .ok (.aload_n 0, 1) := by decide +kernel
theorem dX11_man_22 : decode cX11_man 22 = .ok (.getfield 84, 3) := by decide +kernel
theorem dX11_man_25 : decode cX11_man 25 = .ok (.aaload, 1) := by decide +kernel
theorem dX11_man_26 : decode cX11_man 26 = .ok (.astore_n 3, 1) := by decide +kernel
theorem dX11_man_27 : decode cX11_man 27 = .ok (.iload_n 2, 1) := by decide +kernel
theorem dX11_man_28 : decode cX11_man 28 = .ok (.tableswitch 90 0 4 #[36, 50, 57, 70, 83], 36) := by decide +kernel
theorem dX11_man_64 : decode cX11_man 64 = .ok (.aload_n 3, 1) := by decide +kernel
theorem dX11_man_65 : decode cX11_man 65 = .ok (.iload_n 1, 1) := by decide +kernel
theorem dX11_man_66 : decode cX11_man 66 = .ok (.invokevirtual 116, 3) := by decide +kernel
theorem dX11_man_69 : decode cX11_man 69 = .ok (.ifCond .eq 7, 3) := by decide +kernel
theorem dX11_man_72 : decode cX11_man 72 = .ok (.iconst 1, 1) := by decide +kernel
theorem dX11_man_73 : decode cX11_man 73 = .ok (.goto 4, 3) := by decide +kernel
theorem dX11_man_76 : decode cX11_man 76 = .ok (.iconst 0, 1) := by decide +kernel
theorem dX11_man_77 : decode cX11_man 77 = .ok (.ireturn, 1) := by decide +kernel
theorem dX11_man_78 : decode cX11_man 78 = .ok (.aload_n 3, 1) := by decide +kernel
theorem dX11_man_79 : decode cX11_man 79 = .ok (.getfield 119, 3) := by decide +kernel
theorem dX11_man_82 : decode cX11_man 82 = .ok (.iload_n 1, 1) := by decide +kernel
theorem dX11_man_83 : decode cX11_man 83 = .ok (.iaload, 1) := by decide +kernel
theorem dX11_man_84 : decode cX11_man 84 = .ok (.ireturn, 1) := by decide +kernel
theorem dX11_man_85 : decode cX11_man 85 = .ok (.aload_n 0, 1) := by decide +kernel
theorem dX11_man_86 : decode cX11_man 86 = .ok (.getfield 23, 3) := by decide +kernel
theorem dX11_man_89 : decode cX11_man 89 = .ok (.getfield 97, 3) := by decide +kernel
theorem dX11_man_92 : decode cX11_man 92 = .ok (.getfield 123, 3) := by decide +kernel
theorem dX11_man_95 : decode cX11_man 95 = .ok (.iload_n 1, 1) := by decide +kernel
theorem dX11_man_96 : decode cX11_man 96 = .ok (.iaload, 1) := by decide +kernel
theorem dX11_man_97 : decode cX11_man 97 = .ok (.ireturn, 1) := by decide +kernel
theorem dX11_man_98 : decode cX11_man 98 = .ok (.aload_n 0, 1) := by decide +kernel
theorem dX11_man_99 : decode cX11_man 99 = .ok (.getfield 23, 3) := by decide +kernel
theorem dX11_man_102 : decode cX11_man 102 = .ok (.getfield 97, 3) := by decide +kernel
theorem dX11_man_105 : decode cX11_man 105 = .ok (.getfield 126, 3) := by decide +kernel
theorem dX11_man_108 : decode cX11_man 108 = .ok (.iload_n 1, 1) := by decide +kernel
theorem dX11_man_109 : decode cX11_man 109 = .ok (.iaload, 1) := by decide +kernel
theorem dX11_man_110 : decode cX11_man 110 = .ok (.ireturn, 1) := by decide +kernel
theorem dX11_man_111 : decode cX11_man 111 = .ok (.aload_n 3, 1) := by decide +kernel
theorem dX11_man_112 : decode cX11_man 112 = .ok (.getfield 129, 3) := by decide +kernel
theorem dX11_man_115 : decode cX11_man 115 = .ok (.iload_n 1, 1) := by decide +kernel
theorem dX11_man_116 : decode cX11_man 116 = .ok (.iaload, 1) := by decide +kernel
theorem dX11_man_117 : decode cX11_man 117 = .ok (.ireturn, 1) := by decide +kernel
theorem dX11_man_118 : decode cX11_man 118 = .ok (.bipush (-2), 2) := by decide +kernel
theorem dX11_man_120 : decode cX11_man 120 = .ok (.ireturn, 1) := by decide +kernel
set_option maxHeartbeats 4000000 in
set_option maxRecDepth 100000 in
theorem s_X11_man (l : Launch) (g : GG) (sz : Nat) (x : Nat) (xtape : Nat) (xtapeLength : Int32) (xreader : Nat) (xland : Nat) (xspareLand : Nat) (xstates : Nat) (Fxstates : Nat → Option Nat) (xcurrent : Int32) (xnewest : Int32) (xboxes : Nat) (xfullBoxes : Int32) (xsearch : Nat) (xsights : Nat) (xparting : Nat) (xheap : Nat) (dduels : Int32) (dduelSides : Nat) (dduelMornings : Nat) (dhonour : Int32) (ddraw : Int32) (dusesOfKind : Nat) (dmen : Nat) (dmen_count : Int32) (dmen_names : Nat) (dmen_dies : Nat) (Fdmen_dies : Nat → Int32) (dmen_coins : Nat) (dmen_fathers : Nat) (Fdmen_fathers : Nat → Int32) (dformulas : Nat) (dreasons : Nat) (st : Nat) (sday : Int32) (sseed : Int32) (salive : Int32) (sstruck : Int32) (sopen : Int32) (sduels : Int32) (slines : Int32) (scoins : Nat) (Fscoins : Nat → Int32) (srented : Nat) (Fsrented : Nat → Int32) (smornings : Nat) (shonours : Nat) (sused : Nat) (ssides : Nat) (slog : Nat) (p0 : Int32) (p1 : Int32) (hh0 : 0 ≤ xtapeLength.toInt ∧ xtapeLength.toInt ≤ 1600) (hh1 : 0 ≤ xcurrent.toInt ∧ xcurrent.toInt ≤ 40) (hh2 : 0 ≤ xnewest.toInt ∧ xnewest.toInt ≤ 40) (hh3 : 0 ≤ dduels.toInt ∧ dduels.toInt ≤ 6) (hh5 : 0 ≤ ddraw.toInt ∧ ddraw.toInt ≤ 999) (hh6 : 0 ≤ dmen_count.toInt ∧ dmen_count.toInt ≤ 6) (hh15 : 0 ≤ sseed.toInt ∧ sseed.toInt ≤ 999) (hh16 : 0 ≤ sduels.toInt ∧ sduels.toInt ≤ 8) (hh17 : 0 ≤ slines.toInt ∧ slines.toInt ≤ 60) (ho : Fxstates xcurrent.toNatClampNeg = some st) : Met l yX11_man (.code yX11_man cX11_man 4 (some .int) :: gT) ({ frames := 1, cells := 0, slots := 0, locals := 21 }) (va_Pc [.ref x, .int p0, .int p1] (Pst g sz [(x, .inr (11, [.ref xtape, .int xtapeLength, .ref xreader, .ref xland, .ref xspareLand, .ref xstates, .int xcurrent, .int xnewest, .ref xboxes, .int xfullBoxes, .ref xsearch, .ref xsights, .ref xparting, .ref xheap])), (xstates, aO g 41 Fxstates), (xland, .inr (2, [.ref dmen, .ref dformulas, .ref dreasons, .int dduels, .ref dduelSides, .ref dduelMornings, .int dhonour, .int ddraw, .ref dusesOfKind])), (dmen, .inr (3, [.int dmen_count, .ref dmen_names, .ref dmen_dies, .ref dmen_coins, .ref dmen_fathers])), (dmen_dies, aI g 6 Fdmen_dies), (dmen_fathers, aI g 6 Fdmen_fathers), (st, .inr (9, [.int sday, .int sseed, .int salive, .int sstruck, .int sopen, .int sduels, .int slines, .ref scoins, .ref srented, .ref smornings, .ref shonours, .ref sused, .ref ssides, .ref slog])), (scoins, aI g 6 Fscoins), (srented, aI g 6 Fsrented)] nX)) (va_Qi (fun (r : Int32) => fun (_ : Unit) => True) (Qst g [] sz (fun _ => [])) (va_A [] sz)) 0 0 (va_A [] sz) := by
  refine Met.ofW (cc := cX11_man) (maxL := 4) (ret := (some .int)) (by decide) rfl ?_
  intro p e s m args below meth c s₁ B hml hv
  obtain ⟨rfl, hsz, hP, hK, hD0, hX⟩ := hv
  have hx := B.exec
  have hb := B.bytes
  have hr := B.returns
  have hT : ∀ w ∈ gT, w.before _ s = true := fun w h => atoms_spec (ws := .code yX11_man cX11_man 4 (some .int) :: gT) B.pre w (List.mem_cons_of_mem _ h)
  have hown : s.vm.findClass RX11 = some m.cls := findClass_of_methodNamed B.named
  have hlocks := B.notSynchronized
  subst hsz
  have hD := hD0
  generalize hAe : va_A [] s.heap.size = A at ⊢
  have hA : ∀ q : Nat, s.heap.size ≤ q → A q := fun q h => by rw [← hAe]; exact Or.inr h
  have hS : va_S A s.heap s.heap [] := va_S.rf
  have hl := lv_entry ([.ref x, .int p0, .int p1]) (n := 4) (Nat.le_of_ble_eq_true rfl)
  rw [lg_entry_eq]
  generalize (lg_sl ([.ref x, .int p0, .int p1]) ++ List.replicate (4 - (lg_sl ([.ref x, .int p0, .int p1])).length) Slot.unset).toArray = ls at hl ⊢
  have hl : lv_has ls 4 [(0, .ref x), (1, .int p0), (2, .int p1)] := hl
  refine p_nH (fun H hH => ?_)
  have hP : va_P g.1 vwCl [(x, .inr (11, [.ref xtape, .int xtapeLength, .ref xreader, .ref xland, .ref xspareLand, .ref xstates, .int xcurrent, .int xnewest, .ref xboxes, .int xfullBoxes, .ref xsearch, .ref xsights, .ref xparting, .ref xheap])), (xstates, aO g 41 Fxstates), (xland, .inr (2, [.ref dmen, .ref dformulas, .ref dreasons, .int dduels, .ref dduelSides, .ref dduelMornings, .int dhonour, .int ddraw, .ref dusesOfKind])), (dmen, .inr (3, [.int dmen_count, .ref dmen_names, .ref dmen_dies, .ref dmen_coins, .ref dmen_fathers])), (dmen_dies, aI g 6 Fdmen_dies), (dmen_fathers, aI g 6 Fdmen_fathers), (st, .inr (9, [.int sday, .int sseed, .int salive, .int sstruck, .int sopen, .int sduels, .int slines, .ref scoins, .ref srented, .ref smornings, .ref shonours, .ref sused, .ref ssides, .ref slog])), (scoins, aI g 6 Fscoins), (srented, aI g 6 Fsrented)] H := by rw [hH]; exact hP
  have hS : va_S A s.heap H [] := by rw [hH]; exact hS
  refine lv_aload_n hx hb dX11_man_0 rfl (lv_at hl 0 rfl) ?_
  refine va_get (D := g.1) (ci := 11) (v := .ref xland) (C := RX11) (T := TX11) (N := 14) hx hb hT inF_X11 hown hK.1 hP 0 rfl rfl 3 (by decide) (hT _ bw_269) (fun _ h9 => h9) rfl dX11_man_1 ?_
  refine va_get (D := g.1) (ci := 2) (v := .ref dmen) (C := RX2) (T := TX2) (N := 9) hx hb hT inF_X2 hown hK.1 hP 2 rfl rfl 0 (by decide) (hT _ bw_270) (fun _ h9 => h9) rfl dX11_man_4 ?_
  refine lv_iload_n hx hb dX11_man_7 rfl (lv_at hl 1 rfl) ?_
  refine k_iR (k_V (n := 1) ⟨hx, hb, hml, hown, hT⟩ hK hP hD [3] rfl (by decide +kernel) (s_X3_has l g H.size dmen dmen_count dmen_names dmen_dies dmen_coins dmen_fathers p0 (by first | with_reducible assumption | omega)) (gV bw_271 bw_272 bw_273 bw_274 bw_5) rfl rfl (by decide +kernel) ⟨by decide, by decide⟩ (ci := 3) (q0 := 0) rfl rfl (fun _ _ _ _ _ => trivial) (fun _ _ _ => trivial) rfl rfl hl.1 (Nat.le_of_ble_eq_true rfl) dX11_man_8 ⟨by decide, by decide⟩) hP hS hA (fun r_1 _ H locs hw0 hP hS => ?_)
  have hw : (r_1 = 1 ∧ (0 ≤ p0.toInt ∧ p0.toInt < dmen_count.toInt)) ∨ (r_1 = 0) := hw0
  clear hw0
  rcases hw with ⟨e_3, w_2⟩ | e_4
  · subst e_3
    refine lv_if_ne (tgt := 17) hx hb dX11_man_11 (by decide) (fun _ => ?_) (fun c9 => absurd c9 (by decide))
    refine lv_aload_n hx hb dX11_man_17 rfl (lv_at hl 0 rfl) ?_
    refine va_get (D := g.1) (ci := 11) (v := .ref xstates) (C := RX11) (T := TX11) (N := 14) hx hb hT inF_X11 hown hK.1 hP 0 rfl rfl 5 (by decide) (hT _ bw_275) (fun _ h9 => h9) rfl dX11_man_18 ?_
    refine lv_aload_n hx hb dX11_man_21 rfl (lv_at hl 0 rfl) ?_
    refine va_get (D := g.1) (ci := 11) (v := .int xcurrent) (C := RX11) (T := TX11) (N := 14) hx hb hT inF_X11 hown hK.1 hP 0 rfl rfl 6 (by decide) (hT _ bw_276) (fun _ h9 => h9) rfl dX11_man_22 ?_
    have h_5 : vp_in xcurrent 41 := vp_in_iff.mpr (by omega)
    refine va_aldq hx hb hK.1 hP 1 4 rfl rfl (i := xcurrent) h_5 dX11_man_25 ?_
    refine p_tr (x := st) (by rw [ho]; rfl) ?_
    refine lv_astore_n (lv' := [(3, .ref st), (0, .ref x), (1, .int p0), (2, .int p1)]) hx hb dX11_man_26 rfl hl (by decide) rfl (fun ls hl => ?_)
    refine lv_iload_n hx hb dX11_man_27 rfl (lv_at hl 3 rfl) ?_
    rcases tsplit p1 5 (by decide) with h_6 | ⟨j, hj, eh_6⟩
    · refine lv_tableOut (tgt := 118) hx hb dX11_man_28 (by omega) (by decide) ?_
      refine lv_bipush (v := (-2)) hx hb dX11_man_118 (by decide) ?_
      have hP9 : va_P g.1 vwCl [] H := hP.sub [] rfl
      have hD9 : va_D A [] := ⟨fun i j p q h => by simp at h, fun k q h => by simp at h⟩
      exact W.iret (v := (-2)) hx hb hr (fun t ht hW => ⟨⟨(-2), (), rfl, trivial, by rw [ht]; exact hP9, by rw [hAe]; exact hD9⟩, hS.F ht⟩) hS.2.2 dX11_man_120
    · rcases (show j = 0 ∨ j = 1 ∨ j = 2 ∨ j = 3 ∨ j = 4 by omega) with rfl | rfl | rfl | rfl | rfl
      · obtain rfl : p1 = 0 := eh_6
        refine lv_tableIn (tgt := 64) hx hb dX11_man_28 (by decide) (by decide) (off := 36) (by decide) (by decide) ?_
        refine lv_aload_n hx hb dX11_man_64 rfl (lv_at hl 0 rfl) ?_
        refine lv_iload_n hx hb dX11_man_65 rfl (lv_at hl 2 rfl) ?_
        refine k_iR (k_V (n := 1) ⟨hx, hb, hml, hown, hT⟩ hK hP hD [6] rfl (by decide +kernel) (s_X9_isAlive l g H.size st sday sseed salive sstruck sopen sduels slines scoins srented smornings shonours sused ssides slog p0 (by first | with_reducible assumption | omega) (by first | with_reducible assumption | omega) (by first | with_reducible assumption | omega)) (gV bw_277 bw_57 bw_58 bw_46 bw_28) rfl rfl (by decide +kernel) ⟨by decide, by decide⟩ (ci := 9) (q0 := 0) rfl rfl (fun _ _ _ _ _ => trivial) (fun _ _ _ => trivial) rfl rfl hl.1 (Nat.le_of_ble_eq_true rfl) dX11_man_66 ⟨by decide, by decide⟩) hP hS hA (fun r_7 _ H locs hw0 hP hS => ?_)
        have hw : 0 ≤ r_7.toInt ∧ r_7.toInt ≤ 1 := hw0
        clear hw0
        have w_8 := hw
        refine lv_if_eq (tgt := 76) hx hb dX11_man_69 (by decide) (fun c_9 => ?_) (fun c_9 => ?_)
        · have f_10 := E_eq (rfl : r_7.toInt = _) (by decide : (0 : Int32).toInt = 0) c_9
          refine lv_iconst (v := 0) hx hb dX11_man_76 (by decide) ?_
          have hP9 : va_P g.1 vwCl [] H := hP.sub [] rfl
          have hD9 : va_D A [] := ⟨fun i j p q h => by simp at h, fun k q h => by simp at h⟩
          exact W.iret (v := 0) hx hb hr (fun t ht hW => ⟨⟨0, (), rfl, trivial, by rw [ht]; exact hP9, by rw [hAe]; exact hD9⟩, hS.F ht⟩) hS.2.2 dX11_man_77
        · have f_11 := E_ne (rfl : r_7.toInt = _) (by decide : (0 : Int32).toInt = 0) c_9
          refine lv_iconst (v := 1) hx hb dX11_man_72 (by decide) ?_
          refine lv_goto (tgt := 77) hx hb dX11_man_73 (by decide) ?_
          have hP9 : va_P g.1 vwCl [] H := hP.sub [] rfl
          have hD9 : va_D A [] := ⟨fun i j p q h => by simp at h, fun k q h => by simp at h⟩
          exact W.iret (v := 1) hx hb hr (fun t ht hW => ⟨⟨1, (), rfl, trivial, by rw [ht]; exact hP9, by rw [hAe]; exact hD9⟩, hS.F ht⟩) hS.2.2 dX11_man_77
      · obtain rfl : p1 = 1 := eh_6
        refine lv_tableIn (tgt := 78) hx hb dX11_man_28 (by decide) (by decide) (off := 50) (by decide) (by decide) ?_
        refine lv_aload_n hx hb dX11_man_78 rfl (lv_at hl 0 rfl) ?_
        refine va_get (D := g.1) (ci := 9) (v := .ref scoins) (C := RX9) (T := TX9) (N := 14) hx hb hT inF_X9 hown hK.1 hP 6 rfl rfl 7 (by decide) (hT _ bw_278) (fun _ h9 => h9) rfl dX11_man_79 ?_
        refine lv_iload_n hx hb dX11_man_82 rfl (lv_at hl 2 rfl) ?_
        have h_12 : vp_in p0 6 := vp_in_iff.mpr (by omega)
        refine va_iald hx hb hK.1 hP 7 1 rfl rfl (i := p0) h_12 dX11_man_83 ?_
        refine lv_topi (fun x_13 ex_13 => ?_)
        have ux_13 := congrArg Int32.toInt ex_13
        have hP9 : va_P g.1 vwCl [] H := hP.sub [] rfl
        have hD9 : va_D A [] := ⟨fun i j p q h => by simp at h, fun k q h => by simp at h⟩
        exact W.iret (v := x_13) hx hb hr (fun t ht hW => ⟨⟨x_13, (), rfl, trivial, by rw [ht]; exact hP9, by rw [hAe]; exact hD9⟩, hS.F ht⟩) hS.2.2 dX11_man_84
      · obtain rfl : p1 = 2 := eh_6
        refine lv_tableIn (tgt := 85) hx hb dX11_man_28 (by decide) (by decide) (off := 57) (by decide) (by decide) ?_
        refine lv_aload_n hx hb dX11_man_85 rfl (lv_at hl 1 rfl) ?_
        refine va_get (D := g.1) (ci := 11) (v := .ref xland) (C := RX11) (T := TX11) (N := 14) hx hb hT inF_X11 hown hK.1 hP 0 rfl rfl 3 (by decide) (hT _ bw_269) (fun _ h9 => h9) rfl dX11_man_86 ?_
        refine va_get (D := g.1) (ci := 2) (v := .ref dmen) (C := RX2) (T := TX2) (N := 9) hx hb hT inF_X2 hown hK.1 hP 2 rfl rfl 0 (by decide) (hT _ bw_270) (fun _ h9 => h9) rfl dX11_man_89 ?_
        refine va_get (D := g.1) (ci := 3) (v := .ref dmen_fathers) (C := RX3) (T := TX3) (N := 5) hx hb hT inF_X3 hown hK.1 hP 3 rfl rfl 4 (by decide) (hT _ bw_279) (fun _ h9 => h9) rfl dX11_man_92 ?_
        refine lv_iload_n hx hb dX11_man_95 rfl (lv_at hl 2 rfl) ?_
        have h_14 : vp_in p0 6 := vp_in_iff.mpr (by omega)
        refine va_iald hx hb hK.1 hP 5 1 rfl rfl (i := p0) h_14 dX11_man_96 ?_
        refine lv_topi (fun x_15 ex_15 => ?_)
        have ux_15 := congrArg Int32.toInt ex_15
        have hP9 : va_P g.1 vwCl [] H := hP.sub [] rfl
        have hD9 : va_D A [] := ⟨fun i j p q h => by simp at h, fun k q h => by simp at h⟩
        exact W.iret (v := x_15) hx hb hr (fun t ht hW => ⟨⟨x_15, (), rfl, trivial, by rw [ht]; exact hP9, by rw [hAe]; exact hD9⟩, hS.F ht⟩) hS.2.2 dX11_man_97
      · obtain rfl : p1 = 3 := eh_6
        refine lv_tableIn (tgt := 98) hx hb dX11_man_28 (by decide) (by decide) (off := 70) (by decide) (by decide) ?_
        refine lv_aload_n hx hb dX11_man_98 rfl (lv_at hl 1 rfl) ?_
        refine va_get (D := g.1) (ci := 11) (v := .ref xland) (C := RX11) (T := TX11) (N := 14) hx hb hT inF_X11 hown hK.1 hP 0 rfl rfl 3 (by decide) (hT _ bw_269) (fun _ h9 => h9) rfl dX11_man_99 ?_
        refine va_get (D := g.1) (ci := 2) (v := .ref dmen) (C := RX2) (T := TX2) (N := 9) hx hb hT inF_X2 hown hK.1 hP 2 rfl rfl 0 (by decide) (hT _ bw_270) (fun _ h9 => h9) rfl dX11_man_102 ?_
        refine va_get (D := g.1) (ci := 3) (v := .ref dmen_dies) (C := RX3) (T := TX3) (N := 5) hx hb hT inF_X3 hown hK.1 hP 3 rfl rfl 2 (by decide) (hT _ bw_280) (fun _ h9 => h9) rfl dX11_man_105 ?_
        refine lv_iload_n hx hb dX11_man_108 rfl (lv_at hl 2 rfl) ?_
        have h_16 : vp_in p0 6 := vp_in_iff.mpr (by omega)
        refine va_iald hx hb hK.1 hP 4 1 rfl rfl (i := p0) h_16 dX11_man_109 ?_
        refine lv_topi (fun x_17 ex_17 => ?_)
        have ux_17 := congrArg Int32.toInt ex_17
        have hP9 : va_P g.1 vwCl [] H := hP.sub [] rfl
        have hD9 : va_D A [] := ⟨fun i j p q h => by simp at h, fun k q h => by simp at h⟩
        exact W.iret (v := x_17) hx hb hr (fun t ht hW => ⟨⟨x_17, (), rfl, trivial, by rw [ht]; exact hP9, by rw [hAe]; exact hD9⟩, hS.F ht⟩) hS.2.2 dX11_man_110
      · obtain rfl : p1 = 4 := eh_6
        refine lv_tableIn (tgt := 111) hx hb dX11_man_28 (by decide) (by decide) (off := 83) (by decide) (by decide) ?_
        refine lv_aload_n hx hb dX11_man_111 rfl (lv_at hl 0 rfl) ?_
        refine va_get (D := g.1) (ci := 9) (v := .ref srented) (C := RX9) (T := TX9) (N := 14) hx hb hT inF_X9 hown hK.1 hP 6 rfl rfl 8 (by decide) (hT _ bw_281) (fun _ h9 => h9) rfl dX11_man_112 ?_
        refine lv_iload_n hx hb dX11_man_115 rfl (lv_at hl 2 rfl) ?_
        have h_18 : vp_in p0 6 := vp_in_iff.mpr (by omega)
        refine va_iald hx hb hK.1 hP 8 1 rfl rfl (i := p0) h_18 dX11_man_116 ?_
        refine lv_topi (fun x_19 ex_19 => ?_)
        have ux_19 := congrArg Int32.toInt ex_19
        have hP9 : va_P g.1 vwCl [] H := hP.sub [] rfl
        have hD9 : va_D A [] := ⟨fun i j p q h => by simp at h, fun k q h => by simp at h⟩
        exact W.iret (v := x_19) hx hb hr (fun t ht hW => ⟨⟨x_19, (), rfl, trivial, by rw [ht]; exact hP9, by rw [hAe]; exact hD9⟩, hS.F ht⟩) hS.2.2 dX11_man_117
  · subst e_4
    refine lv_if_ne (tgt := 17) hx hb dX11_man_11 (by decide) (fun c9 => absurd (by decide) c9) (fun _ => ?_)
    refine lv_bipush (v := (-2)) hx hb dX11_man_14 (by decide) ?_
    have hP9 : va_P g.1 vwCl [] H := hP.sub [] rfl
    have hD9 : va_D A [] := ⟨fun i j p q h => by simp at h, fun k q h => by simp at h⟩
    exact W.iret (v := (-2)) hx hb hr (fun t ht hW => ⟨⟨(-2), (), rfl, trivial, by rw [ht]; exact hP9, by rw [hAe]; exact hD9⟩, hS.F ht⟩) hS.2.2 dX11_man_16

theorem bw_283 : Cond.methodLink RX11 132 yX9_hasDuel ∈ gT := gT_tb 855 (by decide +kernel) (by decide +kernel)
theorem bw_284 : Cond.instanceMethod yX9_hasDuel ∈ gT := gT_tb 856 (by decide +kernel) (by decide +kernel)
theorem bw_285 : Cond.selects RX9 yX9_hasDuel yX9_hasDuel ∈ gT := gT_tb 857 (by decide +kernel) (by decide +kernel)
theorem bw_286 : Cond.methodLink RX11 135 yX9_manOf ∈ gT := gT_tb 859 (by decide +kernel) (by decide +kernel)
theorem bw_287 : Cond.fieldLink RX11 139 "DuelDelays$State" "mornings" "[I" ∈ gT := gT_tb 470 (by decide +kernel) (by decide +kernel)
theorem bw_288 : Cond.fieldLink RX11 142 "DuelDelays$State" "honours" "[I" ∈ gT := gT_tb 472 (by decide +kernel) (by decide +kernel)
theorem bw_289 : Cond.methodLink RX11 145 yX9_isOpen ∈ gT := gT_tb 863 (by decide +kernel) (by decide +kernel)
theorem bw_290 : Cond.fieldLink RX11 148 "DuelDelays$State" "used" "[I" ∈ gT := gT_tb 475 (by decide +kernel) (by decide +kernel)
theorem bw_291 : Cond.methodLink RX11 151 yJ6_bitCount_0f7a4 ∈ gT := gT_tb 867 (by decide +kernel) (by decide +kernel)
theorem bw_292 : Cond.code yX11_duel cX11_duel 4 (some .int) ∈ gT := gT_tb 854 (by decide +kernel) (by decide +kernel)
theorem dX11_duel_0 : decode cX11_duel 0 = .ok (.aload_n 0, 1) := by decide +kernel
theorem dX11_duel_1 : decode cX11_duel 1 = .ok (.getfield 32, 3) := by decide +kernel
theorem dX11_duel_4 : decode cX11_duel 4 = .ok (.aload_n 0, 1) := by decide +kernel
theorem dX11_duel_5 : decode cX11_duel 5 = .ok (.getfield 84, 3) := by decide +kernel
theorem dX11_duel_8 : decode cX11_duel 8 = .ok (.aaload, 1) := by decide +kernel
theorem dX11_duel_9 : decode cX11_duel 9 = .ok (.astore_n 3, 1) := by decide +kernel
theorem dX11_duel_10 : decode cX11_duel 10 = .ok (.aload_n 3, 1) := by decide +kernel
theorem dX11_duel_11 : decode cX11_duel 11 = .ok (.iload_n 1, 1) := by decide +kernel
theorem dX11_duel_12 : decode cX11_duel 12 = .ok (.invokevirtual 132, 3) := by decide +kernel
theorem dX11_duel_15 : decode cX11_duel 15 = .ok (.ifCond .ne 6, 3) := by decide +kernel
theorem dX11_duel_18 : decode cX11_duel 18 = .ok (.bipush (-2), 2) := by decide +kernel
theorem dX11_duel_20 : decode cX11_duel 20 = .ok (.ireturn, 1) := by decide +kernel
theorem dX11_duel_21 : decode cX11_duel 21 = .ok (.iload_n 2, 1) := by decide +kernel
theorem dX11_duel_22 : decode cX11_duel 22 = .ok (.tableswitch 83 0 5 #[38, 38, 45, 52, 59, 73], 38) := by decide +kernel
theorem dX11_duel_60 : decode cX11_duel 60 = .ok (.aload_n 3, 1) := by decide +kernel
theorem dX11_duel_61 : decode cX11_duel 61 = .ok (.iload_n 1, 1) := by decide +kernel
theorem dX11_duel_62 : decode cX11_duel 62 = .ok (.iload_n 2, 1) := by decide +kernel
theorem dX11_duel_63 : decode cX11_duel 63 = .ok (.invokevirtual 135, 3) := by decide +kernel
theorem dX11_duel_66 : decode cX11_duel 66 = .ok (.ireturn, 1) := by decide +kernel
theorem dX11_duel_67 : decode cX11_duel 67 = .ok (.aload_n 3, 1) := by decide +kernel
theorem dX11_duel_68 : decode cX11_duel 68 = .ok (.getfield 139, 3) := by decide +kernel
theorem dX11_duel_71 : decode cX11_duel 71 = .ok (.iload_n 1, 1) := by decide +kernel
theorem dX11_duel_72 : decode cX11_duel 72 = .ok (.iaload, 1) := by decide +kernel
theorem dX11_duel_73 : decode cX11_duel 73 = .ok (.ireturn, 1) := by decide +kernel
theorem dX11_duel_74 : decode cX11_duel 74 = .ok (.aload_n 3, 1) := by decide +kernel
theorem dX11_duel_75 : decode cX11_duel 75 = .ok (.getfield 142, 3) := by decide +kernel
theorem dX11_duel_78 : decode cX11_duel 78 = .ok (.iload_n 1, 1) := by decide +kernel
theorem dX11_duel_79 : decode cX11_duel 79 = .ok (.iaload, 1) := by decide +kernel
theorem dX11_duel_80 : decode cX11_duel 80 = .ok (.ireturn, 1) := by decide +kernel
theorem dX11_duel_81 : decode cX11_duel 81 = .ok (.aload_n 3, 1) := by decide +kernel
theorem dX11_duel_82 : decode cX11_duel 82 = .ok (.iload_n 1, 1) := by decide +kernel
theorem dX11_duel_83 : decode cX11_duel 83 = .ok (.invokevirtual 145, 3) := by decide +kernel
theorem dX11_duel_86 : decode cX11_duel 86 = .ok (.ifCond .eq 7, 3) := by decide +kernel
theorem dX11_duel_89 : decode cX11_duel 89 = .ok (.iconst 1, 1) := by decide +kernel
theorem dX11_duel_90 : decode cX11_duel 90 = .ok (.goto 4, 3) := by decide +kernel
theorem dX11_duel_93 : decode cX11_duel 93 = .ok (.iconst 0, 1) := by decide +kernel
theorem dX11_duel_94 : decode cX11_duel 94 = .ok (.ireturn, 1) := by decide +kernel
theorem dX11_duel_95 : decode cX11_duel 95 = .ok (.aload_n 3, 1) := by decide +kernel
theorem dX11_duel_96 : decode cX11_duel 96 = .ok (.getfield 148, 3) := by decide +kernel
theorem dX11_duel_99 : decode cX11_duel 99 = .ok (.iload_n 1, 1) := by decide +kernel
theorem dX11_duel_100 : decode cX11_duel 100 = .ok (.iaload, 1) := by decide +kernel
theorem dX11_duel_101 : decode cX11_duel 101 = .ok (.invokestatic 151, 3) := by decide +kernel
theorem dX11_duel_104 : decode cX11_duel 104 = .ok (.ireturn, 1) := by decide +kernel
theorem dX11_duel_105 : decode cX11_duel 105 = .ok (.bipush (-2), 2) := by decide +kernel
theorem dX11_duel_107 : decode cX11_duel 107 = .ok (.ireturn, 1) := by decide +kernel
set_option maxHeartbeats 4000000 in
set_option maxRecDepth 100000 in
theorem s_X11_duel (l : Launch) (g : GG) (sz : Nat) (x : Nat) (xtape : Nat) (xtapeLength : Int32) (xreader : Nat) (xland : Nat) (xspareLand : Nat) (xstates : Nat) (Fxstates : Nat → Option Nat) (xcurrent : Int32) (xnewest : Int32) (xboxes : Nat) (xfullBoxes : Int32) (xsearch : Nat) (xsights : Nat) (xparting : Nat) (xheap : Nat) (st : Nat) (sday : Int32) (sseed : Int32) (salive : Int32) (sstruck : Int32) (sopen : Int32) (sduels : Int32) (slines : Int32) (scoins : Nat) (srented : Nat) (smornings : Nat) (Fsmornings : Nat → Int32) (shonours : Nat) (Fshonours : Nat → Int32) (sused : Nat) (Fsused : Nat → Int32) (ssides : Nat) (Fssides : Nat → Int32) (slog : Nat) (p0 : Int32) (p1 : Int32) (hh0 : 0 ≤ xtapeLength.toInt ∧ xtapeLength.toInt ≤ 1600) (hh1 : 0 ≤ xcurrent.toInt ∧ xcurrent.toInt ≤ 40) (hh2 : 0 ≤ xnewest.toInt ∧ xnewest.toInt ≤ 40) (hh15 : 0 ≤ sseed.toInt ∧ sseed.toInt ≤ 999) (hh16 : 0 ≤ sduels.toInt ∧ sduels.toInt ≤ 8) (hh17 : 0 ≤ slines.toInt ∧ slines.toInt ≤ 60) (hh18 : Rg 16 0 5 Fssides) (ho : Fxstates xcurrent.toNatClampNeg = some st) : Met l yX11_duel (.code yX11_duel cX11_duel 4 (some .int) :: gT) ({ frames := 1, cells := 0, slots := 0, locals := 22 }) (va_Pc [.ref x, .int p0, .int p1] (Pst g sz [(x, .inr (11, [.ref xtape, .int xtapeLength, .ref xreader, .ref xland, .ref xspareLand, .ref xstates, .int xcurrent, .int xnewest, .ref xboxes, .int xfullBoxes, .ref xsearch, .ref xsights, .ref xparting, .ref xheap])), (xstates, aO g 41 Fxstates), (st, .inr (9, [.int sday, .int sseed, .int salive, .int sstruck, .int sopen, .int sduels, .int slines, .ref scoins, .ref srented, .ref smornings, .ref shonours, .ref sused, .ref ssides, .ref slog])), (smornings, aI g 8 Fsmornings), (shonours, aI g 8 Fshonours), (sused, aI g 8 Fsused), (ssides, aI g 16 Fssides)] nX)) (va_Qi (fun (r : Int32) => fun (_ : Unit) => True) (Qst g [] sz (fun _ => [])) (va_A [] sz)) 0 0 (va_A [] sz) := by
  refine Met.ofW (cc := cX11_duel) (maxL := 4) (ret := (some .int)) (by decide) rfl ?_
  intro p e s m args below meth c s₁ B hml hv
  obtain ⟨rfl, hsz, hP, hK, hD0, hX⟩ := hv
  have hx := B.exec
  have hb := B.bytes
  have hr := B.returns
  have hT : ∀ w ∈ gT, w.before _ s = true := fun w h => atoms_spec (ws := .code yX11_duel cX11_duel 4 (some .int) :: gT) B.pre w (List.mem_cons_of_mem _ h)
  have hown : s.vm.findClass RX11 = some m.cls := findClass_of_methodNamed B.named
  have hlocks := B.notSynchronized
  subst hsz
  have hD := hD0
  generalize hAe : va_A [] s.heap.size = A at ⊢
  have hA : ∀ q : Nat, s.heap.size ≤ q → A q := fun q h => by rw [← hAe]; exact Or.inr h
  have hS : va_S A s.heap s.heap [] := va_S.rf
  have hl := lv_entry ([.ref x, .int p0, .int p1]) (n := 4) (Nat.le_of_ble_eq_true rfl)
  rw [lg_entry_eq]
  generalize (lg_sl ([.ref x, .int p0, .int p1]) ++ List.replicate (4 - (lg_sl ([.ref x, .int p0, .int p1])).length) Slot.unset).toArray = ls at hl ⊢
  have hl : lv_has ls 4 [(0, .ref x), (1, .int p0), (2, .int p1)] := hl
  refine p_nH (fun H hH => ?_)
  have hP : va_P g.1 vwCl [(x, .inr (11, [.ref xtape, .int xtapeLength, .ref xreader, .ref xland, .ref xspareLand, .ref xstates, .int xcurrent, .int xnewest, .ref xboxes, .int xfullBoxes, .ref xsearch, .ref xsights, .ref xparting, .ref xheap])), (xstates, aO g 41 Fxstates), (st, .inr (9, [.int sday, .int sseed, .int salive, .int sstruck, .int sopen, .int sduels, .int slines, .ref scoins, .ref srented, .ref smornings, .ref shonours, .ref sused, .ref ssides, .ref slog])), (smornings, aI g 8 Fsmornings), (shonours, aI g 8 Fshonours), (sused, aI g 8 Fsused), (ssides, aI g 16 Fssides)] H := by rw [hH]; exact hP
  have hS : va_S A s.heap H [] := by rw [hH]; exact hS
  refine lv_aload_n hx hb dX11_duel_0 rfl (lv_at hl 0 rfl) ?_
  refine va_get (D := g.1) (ci := 11) (v := .ref xstates) (C := RX11) (T := TX11) (N := 14) hx hb hT inF_X11 hown hK.1 hP 0 rfl rfl 5 (by decide) (hT _ bw_275) (fun _ h9 => h9) rfl dX11_duel_1 ?_
  refine lv_aload_n hx hb dX11_duel_4 rfl (lv_at hl 0 rfl) ?_
  refine va_get (D := g.1) (ci := 11) (v := .int xcurrent) (C := RX11) (T := TX11) (N := 14) hx hb hT inF_X11 hown hK.1 hP 0 rfl rfl 6 (by decide) (hT _ bw_276) (fun _ h9 => h9) rfl dX11_duel_5 ?_
  have h_1 : vp_in xcurrent 41 := vp_in_iff.mpr (by omega)
  refine va_aldq hx hb hK.1 hP 1 4 rfl rfl (i := xcurrent) h_1 dX11_duel_8 ?_
  refine p_tr (x := st) (by rw [ho]; rfl) ?_
  refine lv_astore_n (lv' := [(3, .ref st), (0, .ref x), (1, .int p0), (2, .int p1)]) hx hb dX11_duel_9 rfl hl (by decide) rfl (fun ls hl => ?_)
  refine lv_aload_n hx hb dX11_duel_10 rfl (lv_at hl 0 rfl) ?_
  refine lv_iload_n hx hb dX11_duel_11 rfl (lv_at hl 2 rfl) ?_
  refine k_iR (k_V (n := 1) ⟨hx, hb, hml, hown, hT⟩ hK hP hD [2] rfl (by decide +kernel) (s_X9_hasDuel l g H.size st sday sseed salive sstruck sopen sduels slines scoins srented smornings shonours sused ssides slog p0 (by first | with_reducible assumption | omega) (by first | with_reducible assumption | omega) (by first | with_reducible assumption | omega)) (gV bw_283 bw_284 bw_285 bw_46 bw_34) rfl rfl (by decide +kernel) ⟨by decide, by decide⟩ (ci := 9) (q0 := 0) rfl rfl (fun _ _ _ _ _ => trivial) (fun _ _ _ => trivial) rfl rfl hl.1 (Nat.le_of_ble_eq_true rfl) dX11_duel_12 ⟨by decide, by decide⟩) hP hS hA (fun r_2 _ H locs hw0 hP hS => ?_)
  have hw : (r_2 = 1 ∧ (0 ≤ p0.toInt ∧ p0.toInt < sduels.toInt)) ∨ (r_2 = 0) := hw0
  clear hw0
  rcases hw with ⟨e_4, w_3⟩ | e_5
  · subst e_4
    refine lv_if_ne (tgt := 21) hx hb dX11_duel_15 (by decide) (fun _ => ?_) (fun c9 => absurd c9 (by decide))
    refine lv_iload_n hx hb dX11_duel_21 rfl (lv_at hl 3 rfl) ?_
    rcases tsplit p1 6 (by decide) with h_6 | ⟨j, hj, eh_6⟩
    · refine lv_tableOut (tgt := 105) hx hb dX11_duel_22 (by omega) (by decide) ?_
      refine lv_bipush (v := (-2)) hx hb dX11_duel_105 (by decide) ?_
      have hP9 : va_P g.1 vwCl [] H := hP.sub [] rfl
      have hD9 : va_D A [] := ⟨fun i j p q h => by simp at h, fun k q h => by simp at h⟩
      exact W.iret (v := (-2)) hx hb hr (fun t ht hW => ⟨⟨(-2), (), rfl, trivial, by rw [ht]; exact hP9, by rw [hAe]; exact hD9⟩, hS.F ht⟩) hS.2.2 dX11_duel_107
    · rcases (show j = 0 ∨ j = 1 ∨ j = 2 ∨ j = 3 ∨ j = 4 ∨ j = 5 by omega) with rfl | rfl | rfl | rfl | rfl | rfl
      · obtain rfl : p1 = 0 := eh_6
        refine lv_tableIn (tgt := 60) hx hb dX11_duel_22 (by decide) (by decide) (off := 38) (by decide) (by decide) ?_
        refine lv_aload_n hx hb dX11_duel_60 rfl (lv_at hl 0 rfl) ?_
        refine lv_iload_n hx hb dX11_duel_61 rfl (lv_at hl 2 rfl) ?_
        refine lv_iload_n hx hb dX11_duel_62 rfl (lv_at hl 3 rfl) ?_
        refine k_iR (k_V (n := 2) ⟨hx, hb, hml, hown, hT⟩ hK hP hD [2, 6] rfl (by decide +kernel) (s_X9_manOf l g H.size st sday sseed salive sstruck sopen sduels slines scoins srented smornings shonours sused ssides Fssides slog p0 0 (by first | with_reducible assumption | omega) (by first | with_reducible assumption | omega) (by first | with_reducible assumption | omega) hh18 (by first | with_reducible assumption | omega) (by decide)) (gV bw_286 bw_76 bw_77 bw_46 bw_36) rfl rfl (by decide +kernel) ⟨by decide, by decide⟩ (ci := 9) (q0 := 0) rfl rfl (fun _ _ _ _ _ => trivial) (fun _ _ _ => trivial) rfl rfl hl.1 (Nat.le_of_ble_eq_true rfl) dX11_duel_63 ⟨by decide, by decide⟩) hP hS hA (fun r_7 _ H locs hw0 hP hS => ?_)
        have hw : 0 ≤ r_7.toInt ∧ r_7.toInt ≤ 5 := hw0
        clear hw0
        have w_8 := hw
        have hP9 : va_P g.1 vwCl [] H := hP.sub [] rfl
        have hD9 : va_D A [] := ⟨fun i j p q h => by simp at h, fun k q h => by simp at h⟩
        exact W.iret (v := r_7) hx hb hr (fun t ht hW => ⟨⟨r_7, (), rfl, trivial, by rw [ht]; exact hP9, by rw [hAe]; exact hD9⟩, hS.F ht⟩) hS.2.2 dX11_duel_66
      · obtain rfl : p1 = 1 := eh_6
        refine lv_tableIn (tgt := 60) hx hb dX11_duel_22 (by decide) (by decide) (off := 38) (by decide) (by decide) ?_
        refine lv_aload_n hx hb dX11_duel_60 rfl (lv_at hl 0 rfl) ?_
        refine lv_iload_n hx hb dX11_duel_61 rfl (lv_at hl 2 rfl) ?_
        refine lv_iload_n hx hb dX11_duel_62 rfl (lv_at hl 3 rfl) ?_
        refine k_iR (k_V (n := 2) ⟨hx, hb, hml, hown, hT⟩ hK hP hD [2, 6] rfl (by decide +kernel) (s_X9_manOf l g H.size st sday sseed salive sstruck sopen sduels slines scoins srented smornings shonours sused ssides Fssides slog p0 1 (by first | with_reducible assumption | omega) (by first | with_reducible assumption | omega) (by first | with_reducible assumption | omega) hh18 (by first | with_reducible assumption | omega) (by decide)) (gV bw_286 bw_76 bw_77 bw_46 bw_36) rfl rfl (by decide +kernel) ⟨by decide, by decide⟩ (ci := 9) (q0 := 0) rfl rfl (fun _ _ _ _ _ => trivial) (fun _ _ _ => trivial) rfl rfl hl.1 (Nat.le_of_ble_eq_true rfl) dX11_duel_63 ⟨by decide, by decide⟩) hP hS hA (fun r_9 _ H locs hw0 hP hS => ?_)
        have hw : 0 ≤ r_9.toInt ∧ r_9.toInt ≤ 5 := hw0
        clear hw0
        have w_10 := hw
        have hP9 : va_P g.1 vwCl [] H := hP.sub [] rfl
        have hD9 : va_D A [] := ⟨fun i j p q h => by simp at h, fun k q h => by simp at h⟩
        exact W.iret (v := r_9) hx hb hr (fun t ht hW => ⟨⟨r_9, (), rfl, trivial, by rw [ht]; exact hP9, by rw [hAe]; exact hD9⟩, hS.F ht⟩) hS.2.2 dX11_duel_66
      · obtain rfl : p1 = 2 := eh_6
        refine lv_tableIn (tgt := 67) hx hb dX11_duel_22 (by decide) (by decide) (off := 45) (by decide) (by decide) ?_
        refine lv_aload_n hx hb dX11_duel_67 rfl (lv_at hl 0 rfl) ?_
        refine va_get (D := g.1) (ci := 9) (v := .ref smornings) (C := RX9) (T := TX9) (N := 14) hx hb hT inF_X9 hown hK.1 hP 2 rfl rfl 9 (by decide) (hT _ bw_287) (fun _ h9 => h9) rfl dX11_duel_68 ?_
        refine lv_iload_n hx hb dX11_duel_71 rfl (lv_at hl 2 rfl) ?_
        have h_11 : vp_in p0 8 := vp_in_iff.mpr (by omega)
        refine va_iald hx hb hK.1 hP 3 1 rfl rfl (i := p0) h_11 dX11_duel_72 ?_
        refine lv_topi (fun x_12 ex_12 => ?_)
        have ux_12 := congrArg Int32.toInt ex_12
        have hP9 : va_P g.1 vwCl [] H := hP.sub [] rfl
        have hD9 : va_D A [] := ⟨fun i j p q h => by simp at h, fun k q h => by simp at h⟩
        exact W.iret (v := x_12) hx hb hr (fun t ht hW => ⟨⟨x_12, (), rfl, trivial, by rw [ht]; exact hP9, by rw [hAe]; exact hD9⟩, hS.F ht⟩) hS.2.2 dX11_duel_73
      · obtain rfl : p1 = 3 := eh_6
        refine lv_tableIn (tgt := 74) hx hb dX11_duel_22 (by decide) (by decide) (off := 52) (by decide) (by decide) ?_
        refine lv_aload_n hx hb dX11_duel_74 rfl (lv_at hl 0 rfl) ?_
        refine va_get (D := g.1) (ci := 9) (v := .ref shonours) (C := RX9) (T := TX9) (N := 14) hx hb hT inF_X9 hown hK.1 hP 2 rfl rfl 10 (by decide) (hT _ bw_288) (fun _ h9 => h9) rfl dX11_duel_75 ?_
        refine lv_iload_n hx hb dX11_duel_78 rfl (lv_at hl 2 rfl) ?_
        have h_13 : vp_in p0 8 := vp_in_iff.mpr (by omega)
        refine va_iald hx hb hK.1 hP 4 1 rfl rfl (i := p0) h_13 dX11_duel_79 ?_
        refine lv_topi (fun x_14 ex_14 => ?_)
        have ux_14 := congrArg Int32.toInt ex_14
        have hP9 : va_P g.1 vwCl [] H := hP.sub [] rfl
        have hD9 : va_D A [] := ⟨fun i j p q h => by simp at h, fun k q h => by simp at h⟩
        exact W.iret (v := x_14) hx hb hr (fun t ht hW => ⟨⟨x_14, (), rfl, trivial, by rw [ht]; exact hP9, by rw [hAe]; exact hD9⟩, hS.F ht⟩) hS.2.2 dX11_duel_80
      · obtain rfl : p1 = 4 := eh_6
        refine lv_tableIn (tgt := 81) hx hb dX11_duel_22 (by decide) (by decide) (off := 59) (by decide) (by decide) ?_
        refine lv_aload_n hx hb dX11_duel_81 rfl (lv_at hl 0 rfl) ?_
        refine lv_iload_n hx hb dX11_duel_82 rfl (lv_at hl 2 rfl) ?_
        refine k_iR (k_V (n := 1) ⟨hx, hb, hml, hown, hT⟩ hK hP hD [2] rfl (by decide +kernel) (s_X9_isOpen l g H.size st sday sseed salive sstruck sopen sduels slines scoins srented smornings shonours sused ssides slog p0 (by first | with_reducible assumption | omega) (by first | with_reducible assumption | omega) (by first | with_reducible assumption | omega)) (gV bw_289 bw_44 bw_45 bw_46 bw_32) rfl rfl (by decide +kernel) ⟨by decide, by decide⟩ (ci := 9) (q0 := 0) rfl rfl (fun _ _ _ _ _ => trivial) (fun _ _ _ => trivial) rfl rfl hl.1 (Nat.le_of_ble_eq_true rfl) dX11_duel_83 ⟨by decide, by decide⟩) hP hS hA (fun r_15 _ H locs hw0 hP hS => ?_)
        have hw : 0 ≤ r_15.toInt ∧ r_15.toInt ≤ 1 := hw0
        clear hw0
        have w_16 := hw
        refine lv_if_eq (tgt := 93) hx hb dX11_duel_86 (by decide) (fun c_17 => ?_) (fun c_17 => ?_)
        · have f_18 := E_eq (rfl : r_15.toInt = _) (by decide : (0 : Int32).toInt = 0) c_17
          refine lv_iconst (v := 0) hx hb dX11_duel_93 (by decide) ?_
          have hP9 : va_P g.1 vwCl [] H := hP.sub [] rfl
          have hD9 : va_D A [] := ⟨fun i j p q h => by simp at h, fun k q h => by simp at h⟩
          exact W.iret (v := 0) hx hb hr (fun t ht hW => ⟨⟨0, (), rfl, trivial, by rw [ht]; exact hP9, by rw [hAe]; exact hD9⟩, hS.F ht⟩) hS.2.2 dX11_duel_94
        · have f_19 := E_ne (rfl : r_15.toInt = _) (by decide : (0 : Int32).toInt = 0) c_17
          refine lv_iconst (v := 1) hx hb dX11_duel_89 (by decide) ?_
          refine lv_goto (tgt := 94) hx hb dX11_duel_90 (by decide) ?_
          have hP9 : va_P g.1 vwCl [] H := hP.sub [] rfl
          have hD9 : va_D A [] := ⟨fun i j p q h => by simp at h, fun k q h => by simp at h⟩
          exact W.iret (v := 1) hx hb hr (fun t ht hW => ⟨⟨1, (), rfl, trivial, by rw [ht]; exact hP9, by rw [hAe]; exact hD9⟩, hS.F ht⟩) hS.2.2 dX11_duel_94
      · obtain rfl : p1 = 5 := eh_6
        refine lv_tableIn (tgt := 95) hx hb dX11_duel_22 (by decide) (by decide) (off := 73) (by decide) (by decide) ?_
        refine lv_aload_n hx hb dX11_duel_95 rfl (lv_at hl 0 rfl) ?_
        refine va_get (D := g.1) (ci := 9) (v := .ref sused) (C := RX9) (T := TX9) (N := 14) hx hb hT inF_X9 hown hK.1 hP 2 rfl rfl 11 (by decide) (hT _ bw_290) (fun _ h9 => h9) rfl dX11_duel_96 ?_
        refine lv_iload_n hx hb dX11_duel_99 rfl (lv_at hl 2 rfl) ?_
        have h_20 : vp_in p0 8 := vp_in_iff.mpr (by omega)
        refine va_iald hx hb hK.1 hP 5 1 rfl rfl (i := p0) h_20 dX11_duel_100 ?_
        refine lv_topi (fun x_21 ex_21 => ?_)
        have ux_21 := congrArg Int32.toInt ex_21
        refine k_iR (k_S (n := 1) ⟨hx, hb, hml, hown, hT⟩ hK hP hD [] rfl (by decide +kernel) (s_J6_bitCount_0f7a4 l g H.size x_21) (gS bw_291 bw_64 bw_65 bw_26) rfl rfl (by decide +kernel) ⟨by decide, by decide⟩ (fun _ _ _ _ _ => trivial) (fun _ _ _ => trivial) rfl rfl hl.1 (Nat.le_of_ble_eq_true rfl) dX11_duel_101 ⟨by decide, by decide⟩) hP hS hA (fun r_22 _ H locs hw0 hP hS => ?_)
        have hw : 0 ≤ r_22.toInt ∧ r_22.toInt ≤ 63 := hw0
        clear hw0
        have w_23 := hw
        have hP9 : va_P g.1 vwCl [] H := hP.sub [] rfl
        have hD9 : va_D A [] := ⟨fun i j p q h => by simp at h, fun k q h => by simp at h⟩
        exact W.iret (v := r_22) hx hb hr (fun t ht hW => ⟨⟨r_22, (), rfl, trivial, by rw [ht]; exact hP9, by rw [hAe]; exact hD9⟩, hS.F ht⟩) hS.2.2 dX11_duel_104
  · subst e_5
    refine lv_if_ne (tgt := 21) hx hb dX11_duel_15 (by decide) (fun c9 => absurd (by decide) c9) (fun _ => ?_)
    refine lv_bipush (v := (-2)) hx hb dX11_duel_18 (by decide) ?_
    have hP9 : va_P g.1 vwCl [] H := hP.sub [] rfl
    have hD9 : va_D A [] := ⟨fun i j p q h => by simp at h, fun k q h => by simp at h⟩
    exact W.iret (v := (-2)) hx hb hr (fun t ht hW => ⟨⟨(-2), (), rfl, trivial, by rw [ht]; exact hP9, by rw [hAe]; exact hD9⟩, hS.F ht⟩) hS.2.2 dX11_duel_20

theorem bw_293 : Cond.fieldLink RX11 157 "DuelDelays$Land" "reasons" "LDuelDelays$Reasons;" ∈ gT := gT_tb 296 (by decide +kernel) (by decide +kernel)
theorem bw_294 : Cond.methodLink RX11 161 yX6_has ∈ gT := gT_tb 877 (by decide +kernel) (by decide +kernel)
theorem bw_295 : Cond.fieldLink RX11 164 "DuelDelays$Reasons" "kinds" "[I" ∈ gT := gT_tb 245 (by decide +kernel) (by decide +kernel)
theorem bw_296 : Cond.methodLink RX11 167 yX9_ownerOf ∈ gT := gT_tb 881 (by decide +kernel) (by decide +kernel)
theorem bw_297 : Cond.fieldLink RX11 171 "DuelDelays$Reasons" "froms" "[I" ∈ gT := gT_tb 254 (by decide +kernel) (by decide +kernel)
theorem bw_298 : Cond.fieldLink RX11 174 "DuelDelays$Reasons" "tos" "[I" ∈ gT := gT_tb 257 (by decide +kernel) (by decide +kernel)
theorem bw_299 : Cond.fieldLink RX11 177 "DuelDelays$Reasons" "rents" "[I" ∈ gT := gT_tb 260 (by decide +kernel) (by decide +kernel)
theorem bw_300 : Cond.fieldLink RX11 180 "DuelDelays$Reasons" "sorts" "[I" ∈ gT := gT_tb 265 (by decide +kernel) (by decide +kernel)
theorem bw_301 : Cond.methodLink RX11 183 yX9_isStruck ∈ gT := gT_tb 886 (by decide +kernel) (by decide +kernel)
theorem bw_302 : Cond.methodLink RX11 186 yX9_timesUsed ∈ gT := gT_tb 890 (by decide +kernel) (by decide +kernel)
theorem bw_303 : Cond.code yX11_reason cX11_reason 5 (some .int) ∈ gT := gT_tb 876 (by decide +kernel) (by decide +kernel)
theorem dX11_reason_0 : decode cX11_reason 0 = .ok (.aload_n 0, 1) := by decide +kernel
theorem dX11_reason_1 : decode cX11_reason 1 = .ok (.getfield 23, 3) := by decide +kernel
theorem dX11_reason_4 : decode cX11_reason 4 = .ok (.getfield 157, 3) := by decide +kernel
theorem dX11_reason_7 : decode cX11_reason 7 = .ok (.astore_n 3, 1) := by decide +kernel
theorem dX11_reason_8 : decode cX11_reason 8 = .ok (.aload_n 3, 1) := by decide +kernel
theorem dX11_reason_9 : decode cX11_reason 9 = .ok (.iload_n 1, 1) := by decide +kernel
theorem dX11_reason_10 : decode cX11_reason 10 = .ok (.invokevirtual 161, 3) := by decide +kernel
theorem dX11_reason_13 : decode cX11_reason 13 = .ok (.ifCond .ne 6, 3) := by decide +kernel
theorem dX11_reason_16 : decode cX11_reason 16 = .ok (.bipush (-2), 2) := by decide +kernel
theorem dX11_reason_18 : decode cX11_reason 18 = .ok (.ireturn, 1) := by decide +kernel
theorem dX11_reason_19 : decode cX11_reason 19 = .ok (.aload_n 0, 1) := by decide +kernel
theorem dX11_reason_20 : decode cX11_reason 20 = .ok (.getfield 32, 3) := by decide +kernel
theorem dX11_reason_23 : decode cX11_reason 23 = .ok (.aload_n 0, 1) := by decide +kernel
theorem dX11_reason_24 : decode cX11_reason 24 = .ok (.getfield 84, 3) := by decide +kernel
theorem dX11_reason_27 : decode cX11_reason 27 = .ok (.aaload, 1) := by decide +kernel
theorem dX11_reason_28 : decode cX11_reason 28 = .ok (.astore 4, 2) := by decide +kernel
theorem dX11_reason_30 : decode cX11_reason 30 = .ok (.iload_n 2, 1) := by decide +kernel
theorem dX11_reason_31 : decode cX11_reason 31 = .ok (.tableswitch 113 0 7 #[45, 52, 63, 70, 77, 84, 91, 106], 45) := by decide +kernel
theorem dX11_reason_76 : decode cX11_reason 76 = .ok (.aload_n 3, 1) := by decide +kernel
theorem dX11_reason_77 : decode cX11_reason 77 = .ok (.getfield 164, 3) := by decide +kernel
theorem dX11_reason_80 : decode cX11_reason 80 = .ok (.iload_n 1, 1) := by decide +kernel
theorem dX11_reason_81 : decode cX11_reason 81 = .ok (.iaload, 1) := by decide +kernel
theorem dX11_reason_82 : decode cX11_reason 82 = .ok (.ireturn, 1) := by decide +kernel
theorem dX11_reason_83 : decode cX11_reason 83 = .ok (.aload 4, 2) := by decide +kernel
theorem dX11_reason_85 : decode cX11_reason 85 = .ok (.aload_n 0, 1) := by decide +kernel
theorem dX11_reason_86 : decode cX11_reason 86 = .ok (.getfield 23, 3) := by decide +kernel
theorem dX11_reason_89 : decode cX11_reason 89 = .ok (.iload_n 1, 1) := by decide +kernel
theorem dX11_reason_90 : decode cX11_reason 90 = .ok (.invokevirtual 167, 3) := by decide +kernel
theorem dX11_reason_93 : decode cX11_reason 93 = .ok (.ireturn, 1) := by decide +kernel
theorem dX11_reason_94 : decode cX11_reason 94 = .ok (.aload_n 3, 1) := by decide +kernel
theorem dX11_reason_95 : decode cX11_reason 95 = .ok (.getfield 171, 3) := by decide +kernel
theorem dX11_reason_98 : decode cX11_reason 98 = .ok (.iload_n 1, 1) := by decide +kernel
theorem dX11_reason_99 : decode cX11_reason 99 = .ok (.iaload, 1) := by decide +kernel
theorem dX11_reason_100 : decode cX11_reason 100 = .ok (.ireturn, 1) := by decide +kernel
theorem dX11_reason_101 : decode cX11_reason 101 = .ok (.aload_n 3, 1) := by decide +kernel
theorem dX11_reason_102 : decode cX11_reason 102 = .ok (.getfield 174, 3) := by decide +kernel
theorem dX11_reason_105 : decode cX11_reason 105 = .ok (.iload_n 1, 1) := by decide +kernel
theorem dX11_reason_106 : decode cX11_reason 106 = .ok (.iaload, 1) := by decide +kernel
theorem dX11_reason_107 : decode cX11_reason 107 = .ok (.ireturn, 1) := by decide +kernel
theorem dX11_reason_108 : decode cX11_reason 108 = .ok (.aload_n 3, 1) := by decide +kernel
theorem dX11_reason_109 : decode cX11_reason 109 = .ok (.getfield 177, 3) := by decide +kernel
theorem dX11_reason_112 : decode cX11_reason 112 = .ok (.iload_n 1, 1) := by decide +kernel
theorem dX11_reason_113 : decode cX11_reason 113 = .ok (.iaload, 1) := by decide +kernel
theorem dX11_reason_114 : decode cX11_reason 114 = .ok (.ireturn, 1) := by decide +kernel
theorem dX11_reason_115 : decode cX11_reason 115 = .ok (.aload_n 3, 1) := by decide +kernel
theorem dX11_reason_116 : decode cX11_reason 116 = .ok (.getfield 180, 3) := by decide +kernel
theorem dX11_reason_119 : decode cX11_reason 119 = .ok (.iload_n 1, 1) := by decide +kernel
theorem dX11_reason_120 : decode cX11_reason 120 = .ok (.iaload, 1) := by decide +kernel
theorem dX11_reason_121 : decode cX11_reason 121 = .ok (.ireturn, 1) := by decide +kernel
theorem dX11_reason_122 : decode cX11_reason 122 = .ok (.aload 4, 2) := by decide +kernel
theorem dX11_reason_124 : decode cX11_reason 124 = .ok (.iload_n 1, 1) := by decide +kernel
theorem dX11_reason_125 : decode cX11_reason 125 = .ok (.invokevirtual 183, 3) := by decide +kernel
theorem dX11_reason_128 : decode cX11_reason 128 = .ok (.ifCond .eq 7, 3) := by decide +kernel
theorem dX11_reason_131 : decode cX11_reason 131 = .ok (.iconst 1, 1) := by decide +kernel
theorem dX11_reason_132 : decode cX11_reason 132 = .ok (.goto 4, 3) := by decide +kernel
theorem dX11_reason_135 : decode cX11_reason 135 = .ok (.iconst 0, 1) := by decide +kernel
theorem dX11_reason_136 : decode cX11_reason 136 = .ok (.ireturn, 1) := by decide +kernel
theorem dX11_reason_137 : decode cX11_reason 137 = .ok (.aload 4, 2) := by decide +kernel
theorem dX11_reason_139 : decode cX11_reason 139 = .ok (.iload_n 1, 1) := by decide +kernel
theorem dX11_reason_140 : decode cX11_reason 140 = .ok (.invokevirtual 186, 3) := by decide +kernel
theorem dX11_reason_143 : decode cX11_reason 143 = .ok (.ireturn, 1) := by decide +kernel
theorem dX11_reason_144 : decode cX11_reason 144 = .ok (.bipush (-2), 2) := by decide +kernel
theorem dX11_reason_146 : decode cX11_reason 146 = .ok (.ireturn, 1) := by decide +kernel
set_option maxHeartbeats 4000000 in
set_option maxRecDepth 100000 in
theorem s_X11_reason (l : Launch) (g : GG) (sz : Nat) (x : Nat) (xtape : Nat) (xtapeLength : Int32) (xreader : Nat) (xland : Nat) (xspareLand : Nat) (xstates : Nat) (Fxstates : Nat → Option Nat) (xcurrent : Int32) (xnewest : Int32) (xboxes : Nat) (xfullBoxes : Int32) (xsearch : Nat) (xsights : Nat) (xparting : Nat) (xheap : Nat) (dduels : Int32) (dduelSides : Nat) (dduelMornings : Nat) (dhonour : Int32) (ddraw : Int32) (dusesOfKind : Nat) (dmen : Nat) (dformulas : Nat) (dreasons : Nat) (dreasons_count : Int32) (dreasons_names : Nat) (dreasons_kinds : Nat) (Fdreasons_kinds : Nat → Int32) (dreasons_owners : Nat) (Fdreasons_owners : Nat → Int32) (dreasons_froms : Nat) (Fdreasons_froms : Nat → Int32) (dreasons_tos : Nat) (Fdreasons_tos : Nat → Int32) (dreasons_rents : Nat) (Fdreasons_rents : Nat → Int32) (dreasons_sorts : Nat) (Fdreasons_sorts : Nat → Int32) (st : Nat) (sday : Int32) (sseed : Int32) (salive : Int32) (sstruck : Int32) (sopen : Int32) (sduels : Int32) (slines : Int32) (scoins : Nat) (srented : Nat) (smornings : Nat) (shonours : Nat) (sused : Nat) (Fsused : Nat → Int32) (ssides : Nat) (slog : Nat) (p0 : Int32) (p1 : Int32) (hh0 : 0 ≤ xtapeLength.toInt ∧ xtapeLength.toInt ≤ 1600) (hh1 : 0 ≤ xcurrent.toInt ∧ xcurrent.toInt ≤ 40) (hh2 : 0 ≤ xnewest.toInt ∧ xnewest.toInt ≤ 40) (hh3 : 0 ≤ dduels.toInt ∧ dduels.toInt ≤ 6) (hh5 : 0 ≤ ddraw.toInt ∧ ddraw.toInt ≤ 999) (hh12 : 0 ≤ dreasons_count.toInt ∧ dreasons_count.toInt ≤ 8) (hh13 : Rg 8 0 3 Fdreasons_kinds) (hh14 : Rg 8 (-1) 5 Fdreasons_owners) (hh15 : 0 ≤ sseed.toInt ∧ sseed.toInt ≤ 999) (hh16 : 0 ≤ sduels.toInt ∧ sduels.toInt ≤ 8) (hh17 : 0 ≤ slines.toInt ∧ slines.toInt ≤ 60) (ho : Fxstates xcurrent.toNatClampNeg = some st) : Met l yX11_reason (.code yX11_reason cX11_reason 5 (some .int) :: gT) ({ frames := 2, cells := 0, slots := 0, locals := 45 }) (va_Pc [.ref x, .int p0, .int p1] (Pst g sz [(x, .inr (11, [.ref xtape, .int xtapeLength, .ref xreader, .ref xland, .ref xspareLand, .ref xstates, .int xcurrent, .int xnewest, .ref xboxes, .int xfullBoxes, .ref xsearch, .ref xsights, .ref xparting, .ref xheap])), (xstates, aO g 41 Fxstates), (xland, .inr (2, [.ref dmen, .ref dformulas, .ref dreasons, .int dduels, .ref dduelSides, .ref dduelMornings, .int dhonour, .int ddraw, .ref dusesOfKind])), (dreasons, .inr (6, [.int dreasons_count, .ref dreasons_names, .ref dreasons_kinds, .ref dreasons_owners, .ref dreasons_froms, .ref dreasons_tos, .ref dreasons_rents, .ref dreasons_sorts])), (dreasons_kinds, aI g 8 Fdreasons_kinds), (dreasons_owners, aI g 8 Fdreasons_owners), (dreasons_froms, aI g 8 Fdreasons_froms), (dreasons_tos, aI g 8 Fdreasons_tos), (dreasons_rents, aI g 8 Fdreasons_rents), (dreasons_sorts, aI g 8 Fdreasons_sorts), (st, .inr (9, [.int sday, .int sseed, .int salive, .int sstruck, .int sopen, .int sduels, .int slines, .ref scoins, .ref srented, .ref smornings, .ref shonours, .ref sused, .ref ssides, .ref slog])), (sused, aI g 8 Fsused)] nX)) (va_Qi (fun (r : Int32) => fun (_ : Unit) => True) (Qst g [] sz (fun _ => [])) (va_A [] sz)) 0 0 (va_A [] sz) := by
  refine Met.ofW (cc := cX11_reason) (maxL := 5) (ret := (some .int)) (by decide) rfl ?_
  intro p e s m args below meth c s₁ B hml hv
  obtain ⟨rfl, hsz, hP, hK, hD0, hX⟩ := hv
  have hx := B.exec
  have hb := B.bytes
  have hr := B.returns
  have hT : ∀ w ∈ gT, w.before _ s = true := fun w h => atoms_spec (ws := .code yX11_reason cX11_reason 5 (some .int) :: gT) B.pre w (List.mem_cons_of_mem _ h)
  have hown : s.vm.findClass RX11 = some m.cls := findClass_of_methodNamed B.named
  have hlocks := B.notSynchronized
  subst hsz
  have hD := hD0
  generalize hAe : va_A [] s.heap.size = A at ⊢
  have hA : ∀ q : Nat, s.heap.size ≤ q → A q := fun q h => by rw [← hAe]; exact Or.inr h
  have hS : va_S A s.heap s.heap [] := va_S.rf
  have hl := lv_entry ([.ref x, .int p0, .int p1]) (n := 5) (Nat.le_of_ble_eq_true rfl)
  rw [lg_entry_eq]
  generalize (lg_sl ([.ref x, .int p0, .int p1]) ++ List.replicate (5 - (lg_sl ([.ref x, .int p0, .int p1])).length) Slot.unset).toArray = ls at hl ⊢
  have hl : lv_has ls 5 [(0, .ref x), (1, .int p0), (2, .int p1)] := hl
  refine p_nH (fun H hH => ?_)
  have hP : va_P g.1 vwCl [(x, .inr (11, [.ref xtape, .int xtapeLength, .ref xreader, .ref xland, .ref xspareLand, .ref xstates, .int xcurrent, .int xnewest, .ref xboxes, .int xfullBoxes, .ref xsearch, .ref xsights, .ref xparting, .ref xheap])), (xstates, aO g 41 Fxstates), (xland, .inr (2, [.ref dmen, .ref dformulas, .ref dreasons, .int dduels, .ref dduelSides, .ref dduelMornings, .int dhonour, .int ddraw, .ref dusesOfKind])), (dreasons, .inr (6, [.int dreasons_count, .ref dreasons_names, .ref dreasons_kinds, .ref dreasons_owners, .ref dreasons_froms, .ref dreasons_tos, .ref dreasons_rents, .ref dreasons_sorts])), (dreasons_kinds, aI g 8 Fdreasons_kinds), (dreasons_owners, aI g 8 Fdreasons_owners), (dreasons_froms, aI g 8 Fdreasons_froms), (dreasons_tos, aI g 8 Fdreasons_tos), (dreasons_rents, aI g 8 Fdreasons_rents), (dreasons_sorts, aI g 8 Fdreasons_sorts), (st, .inr (9, [.int sday, .int sseed, .int salive, .int sstruck, .int sopen, .int sduels, .int slines, .ref scoins, .ref srented, .ref smornings, .ref shonours, .ref sused, .ref ssides, .ref slog])), (sused, aI g 8 Fsused)] H := by rw [hH]; exact hP
  have hS : va_S A s.heap H [] := by rw [hH]; exact hS
  refine lv_aload_n hx hb dX11_reason_0 rfl (lv_at hl 0 rfl) ?_
  refine va_get (D := g.1) (ci := 11) (v := .ref xland) (C := RX11) (T := TX11) (N := 14) hx hb hT inF_X11 hown hK.1 hP 0 rfl rfl 3 (by decide) (hT _ bw_269) (fun _ h9 => h9) rfl dX11_reason_1 ?_
  refine va_get (D := g.1) (ci := 2) (v := .ref dreasons) (C := RX2) (T := TX2) (N := 9) hx hb hT inF_X2 hown hK.1 hP 2 rfl rfl 2 (by decide) (hT _ bw_293) (fun _ h9 => h9) rfl dX11_reason_4 ?_
  refine lv_astore_n (lv' := [(3, .ref dreasons), (0, .ref x), (1, .int p0), (2, .int p1)]) hx hb dX11_reason_7 rfl hl (by decide) rfl (fun ls hl => ?_)
  refine lv_aload_n hx hb dX11_reason_8 rfl (lv_at hl 0 rfl) ?_
  refine lv_iload_n hx hb dX11_reason_9 rfl (lv_at hl 2 rfl) ?_
  refine k_iR (k_V (n := 1) ⟨hx, hb, hml, hown, hT⟩ hK hP hD [3] rfl (by decide +kernel) (s_X6_has l g H.size dreasons dreasons_count dreasons_names dreasons_kinds dreasons_owners dreasons_froms dreasons_tos dreasons_rents dreasons_sorts p0 (by first | with_reducible assumption | omega)) (gV bw_294 bw_237 bw_238 bw_185 bw_7) rfl rfl (by decide +kernel) ⟨by decide, by decide⟩ (ci := 6) (q0 := 0) rfl rfl (fun _ _ _ _ _ => trivial) (fun _ _ _ => trivial) rfl rfl hl.1 (Nat.le_of_ble_eq_true rfl) dX11_reason_10 ⟨by decide, by decide⟩) hP hS hA (fun r_1 _ H locs hw0 hP hS => ?_)
  have hw : (r_1 = 1 ∧ (0 ≤ p0.toInt ∧ p0.toInt < dreasons_count.toInt)) ∨ (r_1 = 0) := hw0
  clear hw0
  rcases hw with ⟨e_3, w_2⟩ | e_4
  · subst e_3
    refine lv_if_ne (tgt := 19) hx hb dX11_reason_13 (by decide) (fun _ => ?_) (fun c9 => absurd c9 (by decide))
    refine lv_aload_n hx hb dX11_reason_19 rfl (lv_at hl 1 rfl) ?_
    refine va_get (D := g.1) (ci := 11) (v := .ref xstates) (C := RX11) (T := TX11) (N := 14) hx hb hT inF_X11 hown hK.1 hP 0 rfl rfl 5 (by decide) (hT _ bw_275) (fun _ h9 => h9) rfl dX11_reason_20 ?_
    refine lv_aload_n hx hb dX11_reason_23 rfl (lv_at hl 1 rfl) ?_
    refine va_get (D := g.1) (ci := 11) (v := .int xcurrent) (C := RX11) (T := TX11) (N := 14) hx hb hT inF_X11 hown hK.1 hP 0 rfl rfl 6 (by decide) (hT _ bw_276) (fun _ h9 => h9) rfl dX11_reason_24 ?_
    have h_5 : vp_in xcurrent 41 := vp_in_iff.mpr (by omega)
    refine va_aldq hx hb hK.1 hP 1 4 rfl rfl (i := xcurrent) h_5 dX11_reason_27 ?_
    refine p_tr (x := st) (by rw [ho]; rfl) ?_
    refine lv_astore (lv' := [(4, .ref st), (3, .ref dreasons), (0, .ref x), (1, .int p0), (2, .int p1)]) hx hb dX11_reason_28 hl (by decide) rfl (fun ls hl => ?_)
    refine lv_iload_n hx hb dX11_reason_30 rfl (lv_at hl 4 rfl) ?_
    rcases tsplit p1 8 (by decide) with h_6 | ⟨j, hj, eh_6⟩
    · refine lv_tableOut (tgt := 144) hx hb dX11_reason_31 (by omega) (by decide) ?_
      refine lv_bipush (v := (-2)) hx hb dX11_reason_144 (by decide) ?_
      have hP9 : va_P g.1 vwCl [] H := hP.sub [] rfl
      have hD9 : va_D A [] := ⟨fun i j p q h => by simp at h, fun k q h => by simp at h⟩
      exact W.iret (v := (-2)) hx hb hr (fun t ht hW => ⟨⟨(-2), (), rfl, trivial, by rw [ht]; exact hP9, by rw [hAe]; exact hD9⟩, hS.F ht⟩) hS.2.2 dX11_reason_146
    · rcases (show j = 0 ∨ j = 1 ∨ j = 2 ∨ j = 3 ∨ j = 4 ∨ j = 5 ∨ j = 6 ∨ j = 7 by omega) with rfl | rfl | rfl | rfl | rfl | rfl | rfl | rfl
      · obtain rfl : p1 = 0 := eh_6
        refine lv_tableIn (tgt := 76) hx hb dX11_reason_31 (by decide) (by decide) (off := 45) (by decide) (by decide) ?_
        refine lv_aload_n hx hb dX11_reason_76 rfl (lv_at hl 1 rfl) ?_
        refine va_get (D := g.1) (ci := 6) (v := .ref dreasons_kinds) (C := RX6) (T := TX6) (N := 8) hx hb hT inF_X6 hown hK.1 hP 3 rfl rfl 2 (by decide) (hT _ bw_295) (fun _ h9 => h9) rfl dX11_reason_77 ?_
        refine lv_iload_n hx hb dX11_reason_80 rfl (lv_at hl 3 rfl) ?_
        have h_7 : vp_in p0 8 := vp_in_iff.mpr (by omega)
        refine va_iald hx hb hK.1 hP 4 1 rfl rfl (i := p0) h_7 dX11_reason_81 ?_
        refine lv_topi (fun x_8 ex_8 => ?_)
        have fx_8 : 0 ≤ x_8.toInt ∧ x_8.toInt ≤ 3 := Rg.rd hh13 h_7 ex_8
        have ux_8 := congrArg Int32.toInt ex_8
        have hP9 : va_P g.1 vwCl [] H := hP.sub [] rfl
        have hD9 : va_D A [] := ⟨fun i j p q h => by simp at h, fun k q h => by simp at h⟩
        exact W.iret (v := x_8) hx hb hr (fun t ht hW => ⟨⟨x_8, (), rfl, trivial, by rw [ht]; exact hP9, by rw [hAe]; exact hD9⟩, hS.F ht⟩) hS.2.2 dX11_reason_82
      · obtain rfl : p1 = 1 := eh_6
        refine lv_tableIn (tgt := 83) hx hb dX11_reason_31 (by decide) (by decide) (off := 52) (by decide) (by decide) ?_
        refine lv_aload hx hb dX11_reason_83 (lv_at hl 0 rfl) ?_
        refine lv_aload_n hx hb dX11_reason_85 rfl (lv_at hl 2 rfl) ?_
        refine va_get (D := g.1) (ci := 11) (v := .ref xland) (C := RX11) (T := TX11) (N := 14) hx hb hT inF_X11 hown hK.1 hP 0 rfl rfl 3 (by decide) (hT _ bw_269) (fun _ h9 => h9) rfl dX11_reason_86 ?_
        refine lv_iload_n hx hb dX11_reason_89 rfl (lv_at hl 3 rfl) ?_
        refine k_iR (k_V (n := 2) ⟨hx, hb, hml, hown, hT⟩ hK hP hD [10, 2, 3, 5] rfl (by decide +kernel) (s_X9_ownerOf l g H.size st sday sseed salive sstruck sopen sduels slines scoins srented smornings shonours sused ssides slog xland dduels dduelSides dduelMornings dhonour ddraw dusesOfKind dmen dformulas dreasons dreasons_count dreasons_names dreasons_kinds dreasons_owners Fdreasons_owners dreasons_froms dreasons_tos dreasons_rents dreasons_sorts p0 (by first | with_reducible assumption | omega) (by first | with_reducible assumption | omega) (by first | with_reducible assumption | omega) (by first | with_reducible assumption | omega) (by first | with_reducible assumption | omega) (by first | with_reducible assumption | omega) hh14 (by first | with_reducible assumption | omega)) (gV bw_296 bw_167 bw_168 bw_46 bw_69) rfl rfl (by decide +kernel) ⟨by decide, by decide⟩ (ci := 9) (q0 := 0) rfl rfl (fun _ _ _ _ _ => trivial) (fun _ _ _ => trivial) rfl rfl hl.1 (Nat.le_of_ble_eq_true rfl) dX11_reason_90 ⟨by decide, by decide⟩) hP hS hA (fun r_9 _ H locs hw0 hP hS => ?_)
        have hw : ((-1) ≤ r_9.toInt ∧ r_9.toInt ≤ 5) ∧ (r_9.toInt = -1 ∨ 0 ≤ (Fdreasons_owners p0.toNatClampNeg).toInt) := hw0
        clear hw0
        have w_10 := hw.1
        have w_11 := hw.2
        clear hw
        have hP9 : va_P g.1 vwCl [] H := hP.sub [] rfl
        have hD9 : va_D A [] := ⟨fun i j p q h => by simp at h, fun k q h => by simp at h⟩
        exact W.iret (v := r_9) hx hb hr (fun t ht hW => ⟨⟨r_9, (), rfl, trivial, by rw [ht]; exact hP9, by rw [hAe]; exact hD9⟩, hS.F ht⟩) hS.2.2 dX11_reason_93
      · obtain rfl : p1 = 2 := eh_6
        refine lv_tableIn (tgt := 94) hx hb dX11_reason_31 (by decide) (by decide) (off := 63) (by decide) (by decide) ?_
        refine lv_aload_n hx hb dX11_reason_94 rfl (lv_at hl 1 rfl) ?_
        refine va_get (D := g.1) (ci := 6) (v := .ref dreasons_froms) (C := RX6) (T := TX6) (N := 8) hx hb hT inF_X6 hown hK.1 hP 3 rfl rfl 4 (by decide) (hT _ bw_297) (fun _ h9 => h9) rfl dX11_reason_95 ?_
        refine lv_iload_n hx hb dX11_reason_98 rfl (lv_at hl 3 rfl) ?_
        have h_12 : vp_in p0 8 := vp_in_iff.mpr (by omega)
        refine va_iald hx hb hK.1 hP 6 1 rfl rfl (i := p0) h_12 dX11_reason_99 ?_
        refine lv_topi (fun x_13 ex_13 => ?_)
        have ux_13 := congrArg Int32.toInt ex_13
        have hP9 : va_P g.1 vwCl [] H := hP.sub [] rfl
        have hD9 : va_D A [] := ⟨fun i j p q h => by simp at h, fun k q h => by simp at h⟩
        exact W.iret (v := x_13) hx hb hr (fun t ht hW => ⟨⟨x_13, (), rfl, trivial, by rw [ht]; exact hP9, by rw [hAe]; exact hD9⟩, hS.F ht⟩) hS.2.2 dX11_reason_100
      · obtain rfl : p1 = 3 := eh_6
        refine lv_tableIn (tgt := 101) hx hb dX11_reason_31 (by decide) (by decide) (off := 70) (by decide) (by decide) ?_
        refine lv_aload_n hx hb dX11_reason_101 rfl (lv_at hl 1 rfl) ?_
        refine va_get (D := g.1) (ci := 6) (v := .ref dreasons_tos) (C := RX6) (T := TX6) (N := 8) hx hb hT inF_X6 hown hK.1 hP 3 rfl rfl 5 (by decide) (hT _ bw_298) (fun _ h9 => h9) rfl dX11_reason_102 ?_
        refine lv_iload_n hx hb dX11_reason_105 rfl (lv_at hl 3 rfl) ?_
        have h_14 : vp_in p0 8 := vp_in_iff.mpr (by omega)
        refine va_iald hx hb hK.1 hP 7 1 rfl rfl (i := p0) h_14 dX11_reason_106 ?_
        refine lv_topi (fun x_15 ex_15 => ?_)
        have ux_15 := congrArg Int32.toInt ex_15
        have hP9 : va_P g.1 vwCl [] H := hP.sub [] rfl
        have hD9 : va_D A [] := ⟨fun i j p q h => by simp at h, fun k q h => by simp at h⟩
        exact W.iret (v := x_15) hx hb hr (fun t ht hW => ⟨⟨x_15, (), rfl, trivial, by rw [ht]; exact hP9, by rw [hAe]; exact hD9⟩, hS.F ht⟩) hS.2.2 dX11_reason_107
      · obtain rfl : p1 = 4 := eh_6
        refine lv_tableIn (tgt := 108) hx hb dX11_reason_31 (by decide) (by decide) (off := 77) (by decide) (by decide) ?_
        refine lv_aload_n hx hb dX11_reason_108 rfl (lv_at hl 1 rfl) ?_
        refine va_get (D := g.1) (ci := 6) (v := .ref dreasons_rents) (C := RX6) (T := TX6) (N := 8) hx hb hT inF_X6 hown hK.1 hP 3 rfl rfl 6 (by decide) (hT _ bw_299) (fun _ h9 => h9) rfl dX11_reason_109 ?_
        refine lv_iload_n hx hb dX11_reason_112 rfl (lv_at hl 3 rfl) ?_
        have h_16 : vp_in p0 8 := vp_in_iff.mpr (by omega)
        refine va_iald hx hb hK.1 hP 8 1 rfl rfl (i := p0) h_16 dX11_reason_113 ?_
        refine lv_topi (fun x_17 ex_17 => ?_)
        have ux_17 := congrArg Int32.toInt ex_17
        have hP9 : va_P g.1 vwCl [] H := hP.sub [] rfl
        have hD9 : va_D A [] := ⟨fun i j p q h => by simp at h, fun k q h => by simp at h⟩
        exact W.iret (v := x_17) hx hb hr (fun t ht hW => ⟨⟨x_17, (), rfl, trivial, by rw [ht]; exact hP9, by rw [hAe]; exact hD9⟩, hS.F ht⟩) hS.2.2 dX11_reason_114
      · obtain rfl : p1 = 5 := eh_6
        refine lv_tableIn (tgt := 115) hx hb dX11_reason_31 (by decide) (by decide) (off := 84) (by decide) (by decide) ?_
        refine lv_aload_n hx hb dX11_reason_115 rfl (lv_at hl 1 rfl) ?_
        refine va_get (D := g.1) (ci := 6) (v := .ref dreasons_sorts) (C := RX6) (T := TX6) (N := 8) hx hb hT inF_X6 hown hK.1 hP 3 rfl rfl 7 (by decide) (hT _ bw_300) (fun _ h9 => h9) rfl dX11_reason_116 ?_
        refine lv_iload_n hx hb dX11_reason_119 rfl (lv_at hl 3 rfl) ?_
        have h_18 : vp_in p0 8 := vp_in_iff.mpr (by omega)
        refine va_iald hx hb hK.1 hP 9 1 rfl rfl (i := p0) h_18 dX11_reason_120 ?_
        refine lv_topi (fun x_19 ex_19 => ?_)
        have ux_19 := congrArg Int32.toInt ex_19
        have hP9 : va_P g.1 vwCl [] H := hP.sub [] rfl
        have hD9 : va_D A [] := ⟨fun i j p q h => by simp at h, fun k q h => by simp at h⟩
        exact W.iret (v := x_19) hx hb hr (fun t ht hW => ⟨⟨x_19, (), rfl, trivial, by rw [ht]; exact hP9, by rw [hAe]; exact hD9⟩, hS.F ht⟩) hS.2.2 dX11_reason_121
      · obtain rfl : p1 = 6 := eh_6
        refine lv_tableIn (tgt := 122) hx hb dX11_reason_31 (by decide) (by decide) (off := 91) (by decide) (by decide) ?_
        refine lv_aload hx hb dX11_reason_122 (lv_at hl 0 rfl) ?_
        refine lv_iload_n hx hb dX11_reason_124 rfl (lv_at hl 3 rfl) ?_
        refine k_iR (k_V (n := 1) ⟨hx, hb, hml, hown, hT⟩ hK hP hD [10] rfl (by decide +kernel) (s_X9_isStruck l g H.size st sday sseed salive sstruck sopen sduels slines scoins srented smornings shonours sused ssides slog p0 (by first | with_reducible assumption | omega) (by first | with_reducible assumption | omega) (by first | with_reducible assumption | omega)) (gV bw_301 bw_175 bw_176 bw_46 bw_30) rfl rfl (by decide +kernel) ⟨by decide, by decide⟩ (ci := 9) (q0 := 0) rfl rfl (fun _ _ _ _ _ => trivial) (fun _ _ _ => trivial) rfl rfl hl.1 (Nat.le_of_ble_eq_true rfl) dX11_reason_125 ⟨by decide, by decide⟩) hP hS hA (fun r_20 _ H locs hw0 hP hS => ?_)
        have hw : 0 ≤ r_20.toInt ∧ r_20.toInt ≤ 1 := hw0
        clear hw0
        have w_21 := hw
        refine lv_if_eq (tgt := 135) hx hb dX11_reason_128 (by decide) (fun c_22 => ?_) (fun c_22 => ?_)
        · have f_23 := E_eq (rfl : r_20.toInt = _) (by decide : (0 : Int32).toInt = 0) c_22
          refine lv_iconst (v := 0) hx hb dX11_reason_135 (by decide) ?_
          have hP9 : va_P g.1 vwCl [] H := hP.sub [] rfl
          have hD9 : va_D A [] := ⟨fun i j p q h => by simp at h, fun k q h => by simp at h⟩
          exact W.iret (v := 0) hx hb hr (fun t ht hW => ⟨⟨0, (), rfl, trivial, by rw [ht]; exact hP9, by rw [hAe]; exact hD9⟩, hS.F ht⟩) hS.2.2 dX11_reason_136
        · have f_24 := E_ne (rfl : r_20.toInt = _) (by decide : (0 : Int32).toInt = 0) c_22
          refine lv_iconst (v := 1) hx hb dX11_reason_131 (by decide) ?_
          refine lv_goto (tgt := 136) hx hb dX11_reason_132 (by decide) ?_
          have hP9 : va_P g.1 vwCl [] H := hP.sub [] rfl
          have hD9 : va_D A [] := ⟨fun i j p q h => by simp at h, fun k q h => by simp at h⟩
          exact W.iret (v := 1) hx hb hr (fun t ht hW => ⟨⟨1, (), rfl, trivial, by rw [ht]; exact hP9, by rw [hAe]; exact hD9⟩, hS.F ht⟩) hS.2.2 dX11_reason_136
      · obtain rfl : p1 = 7 := eh_6
        refine lv_tableIn (tgt := 137) hx hb dX11_reason_31 (by decide) (by decide) (off := 106) (by decide) (by decide) ?_
        refine lv_aload hx hb dX11_reason_137 (lv_at hl 0 rfl) ?_
        refine lv_iload_n hx hb dX11_reason_139 rfl (lv_at hl 3 rfl) ?_
        refine k_iR (k_V (n := 1) ⟨hx, hb, hml, hown, hT⟩ hK hP hD [10, 11] rfl (by decide +kernel) (s_X9_timesUsed l g H.size st sday sseed salive sstruck sopen sduels slines scoins srented smornings shonours sused Fsused ssides slog p0 (by first | with_reducible assumption | omega) (by first | with_reducible assumption | omega) (by first | with_reducible assumption | omega)) (gV bw_302 bw_179 bw_180 bw_46 bw_66) rfl rfl (by decide +kernel) ⟨by decide, by decide⟩ (ci := 9) (q0 := 0) rfl rfl (fun _ _ _ _ _ => trivial) (fun _ _ _ => trivial) rfl rfl hl.1 (Nat.le_of_ble_eq_true rfl) dX11_reason_140 ⟨by decide, by decide⟩) hP hS hA (fun r_25 _ H locs hw0 hP hS => ?_)
        have hP9 : va_P g.1 vwCl [] H := hP.sub [] rfl
        have hD9 : va_D A [] := ⟨fun i j p q h => by simp at h, fun k q h => by simp at h⟩
        exact W.iret (v := r_25) hx hb hr (fun t ht hW => ⟨⟨r_25, (), rfl, trivial, by rw [ht]; exact hP9, by rw [hAe]; exact hD9⟩, hS.F ht⟩) hS.2.2 dX11_reason_143
  · subst e_4
    refine lv_if_ne (tgt := 19) hx hb dX11_reason_13 (by decide) (fun c9 => absurd (by decide) c9) (fun _ => ?_)
    refine lv_bipush (v := (-2)) hx hb dX11_reason_16 (by decide) ?_
    have hP9 : va_P g.1 vwCl [] H := hP.sub [] rfl
    have hD9 : va_D A [] := ⟨fun i j p q h => by simp at h, fun k q h => by simp at h⟩
    exact W.iret (v := (-2)) hx hb hr (fun t ht hW => ⟨⟨(-2), (), rfl, trivial, by rw [ht]; exact hP9, by rw [hAe]; exact hD9⟩, hS.F ht⟩) hS.2.2 dX11_reason_18

theorem bw_304 : Cond.methodLink RX11 189 yX2_worthOf ∈ gT := gT_tb 900 (by decide +kernel) (by decide +kernel)
theorem bw_305 : Cond.code yX11_worth cX11_worth 5 (some .int) ∈ gT := gT_tb 899 (by decide +kernel) (by decide +kernel)
theorem dX11_worth_0 : decode cX11_worth 0 = .ok (.aload_n 0, 1) := by decide +kernel
theorem dX11_worth_1 : decode cX11_worth 1 = .ok (.getfield 32, 3) := by decide +kernel
theorem dX11_worth_4 : decode cX11_worth 4 = .ok (.aload_n 0, 1) := by decide +kernel
theorem dX11_worth_5 : decode cX11_worth 5 = .ok (.getfield 84, 3) := by decide +kernel
theorem dX11_worth_8 : decode cX11_worth 8 = .ok (.aaload, 1) := by decide +kernel
theorem dX11_worth_9 : decode cX11_worth 9 = .ok (.astore 4, 2) := by decide +kernel
theorem dX11_worth_11 : decode cX11_worth 11 = .ok (.aload 4, 2) := by decide +kernel
theorem dX11_worth_13 : decode cX11_worth 13 = .ok (.iload_n 1, 1) := by decide +kernel
theorem dX11_worth_14 : decode cX11_worth 14 = .ok (.invokevirtual 132, 3) := by decide +kernel
theorem dX11_worth_17 : decode cX11_worth 17 = .ok (.ifCond .eq 28, 3) := by decide +kernel
theorem dX11_worth_20 : decode cX11_worth 20 = .ok (.aload_n 0, 1) := by decide +kernel
theorem dX11_worth_21 : decode cX11_worth 21 = .ok (.getfield 23, 3) := by decide +kernel
theorem dX11_worth_24 : decode cX11_worth 24 = .ok (.getfield 157, 3) := by decide +kernel
theorem dX11_worth_27 : decode cX11_worth 27 = .ok (.iload_n 2, 1) := by decide +kernel
theorem dX11_worth_28 : decode cX11_worth 28 = .ok (.invokevirtual 161, 3) := by decide +kernel
theorem dX11_worth_31 : decode cX11_worth 31 = .ok (.ifCond .eq 14, 3) := by decide +kernel
theorem dX11_worth_34 : decode cX11_worth 34 = .ok (.iload_n 3, 1) := by decide +kernel
theorem dX11_worth_35 : decode cX11_worth 35 = .ok (.ifCond .lt 10, 3) := by decide +kernel
theorem dX11_worth_38 : decode cX11_worth 38 = .ok (.iload_n 3, 1) := by decide +kernel
theorem dX11_worth_39 : decode cX11_worth 39 = .ok (.sipush 9999, 3) := by decide +kernel
theorem dX11_worth_42 : decode cX11_worth 42 = .ok (.if_icmp .le 5, 3) := by decide +kernel
theorem dX11_worth_45 : decode cX11_worth 45 = .ok (.iconst (-1), 1) := by decide +kernel
theorem dX11_worth_46 : decode cX11_worth 46 = .ok (.ireturn, 1) := by decide +kernel
theorem dX11_worth_47 : decode cX11_worth 47 = .ok (.aload_n 0, 1) := by decide +kernel
theorem dX11_worth_48 : decode cX11_worth 48 = .ok (.getfield 23, 3) := by decide +kernel
theorem dX11_worth_51 : decode cX11_worth 51 = .ok (.aload_n 0, 1) := by decide +kernel
theorem dX11_worth_52 : decode cX11_worth 52 = .ok (.getfield 23, 3) := by decide +kernel
theorem dX11_worth_55 : decode cX11_worth 55 = .ok (.getfield 157, 3) := by decide +kernel
theorem dX11_worth_58 : decode cX11_worth 58 = .ok (.getfield 164, 3) := by decide +kernel
theorem dX11_worth_61 : decode cX11_worth 61 = .ok (.iload_n 2, 1) := by decide +kernel
theorem dX11_worth_62 : decode cX11_worth 62 = .ok (.iaload, 1) := by decide +kernel
theorem dX11_worth_63 : decode cX11_worth 63 = .ok (.aload 4, 2) := by decide +kernel
theorem dX11_worth_65 : decode cX11_worth 65 = .ok (.getfield 148, 3) := by decide +kernel
theorem dX11_worth_68 : decode cX11_worth 68 = .ok (.iload_n 1, 1) := by decide +kernel
theorem dX11_worth_69 : decode cX11_worth 69 = .ok (.iaload, 1) := by decide +kernel
theorem dX11_worth_70 : decode cX11_worth 70 = .ok (.iload_n 3, 1) := by decide +kernel
theorem dX11_worth_71 : decode cX11_worth 71 = .ok (.invokevirtual 189, 3) := by decide +kernel
theorem dX11_worth_74 : decode cX11_worth 74 = .ok (.ireturn, 1) := by decide +kernel
set_option maxHeartbeats 4000000 in
set_option maxRecDepth 100000 in
theorem s_X11_worth (l : Launch) (g : GG) (sz : Nat) (x : Nat) (xtape : Nat) (xtapeLength : Int32) (xreader : Nat) (xland : Nat) (xspareLand : Nat) (xstates : Nat) (Fxstates : Nat → Option Nat) (xcurrent : Int32) (xnewest : Int32) (xboxes : Nat) (xfullBoxes : Int32) (xsearch : Nat) (xsights : Nat) (xparting : Nat) (xheap : Nat) (dduels : Int32) (dduelSides : Nat) (dduelMornings : Nat) (dhonour : Int32) (ddraw : Int32) (dusesOfKind : Nat) (FdusesOfKind : Nat → Int32) (dmen : Nat) (dformulas : Nat) (dformulas_count : Int32) (dformulas_units : Int32) (dformulas_names : Nat) (dformulas_unitsOfThis : Int32) (dformulas_length : Int32) (dformulas_starts : Nat) (Fdformulas_starts : Nat → Int32) (dformulas_steps : Nat) (Fdformulas_steps : Nat → Int32) (dformulas_stack : Nat) (Fdformulas_stack : Nat → Int32) (dreasons : Nat) (dreasons_count : Int32) (dreasons_names : Nat) (dreasons_kinds : Nat) (Fdreasons_kinds : Nat → Int32) (dreasons_owners : Nat) (dreasons_froms : Nat) (dreasons_tos : Nat) (dreasons_rents : Nat) (dreasons_sorts : Nat) (st : Nat) (sday : Int32) (sseed : Int32) (salive : Int32) (sstruck : Int32) (sopen : Int32) (sduels : Int32) (slines : Int32) (scoins : Nat) (srented : Nat) (smornings : Nat) (shonours : Nat) (sused : Nat) (Fsused : Nat → Int32) (ssides : Nat) (slog : Nat) (p0 : Int32) (p1 : Int32) (p2 : Int32) (hh0 : 0 ≤ xtapeLength.toInt ∧ xtapeLength.toInt ≤ 1600) (hh1 : 0 ≤ xcurrent.toInt ∧ xcurrent.toInt ≤ 40) (hh2 : 0 ≤ xnewest.toInt ∧ xnewest.toInt ≤ 40) (hh3 : 0 ≤ dduels.toInt ∧ dduels.toInt ≤ 6) (hh5 : 0 ≤ ddraw.toInt ∧ ddraw.toInt ≤ 999) (hh7 : 0 ≤ dformulas_count.toInt ∧ dformulas_count.toInt ≤ 4) (hh8 : 0 ≤ dformulas_units.toInt ∧ dformulas_units.toInt ≤ 60) (hh9 : 0 ≤ dformulas_unitsOfThis.toInt ∧ dformulas_unitsOfThis.toInt ≤ 30) (hh10 : 0 ≤ dformulas_length.toInt ∧ dformulas_length.toInt ≤ 640) (hh11 : Rg 5 0 640 Fdformulas_starts) (hh12 : 0 ≤ dreasons_count.toInt ∧ dreasons_count.toInt ≤ 8) (hh13 : Rg 8 0 3 Fdreasons_kinds) (hh15 : 0 ≤ sseed.toInt ∧ sseed.toInt ≤ 999) (hh16 : 0 ≤ sduels.toInt ∧ sduels.toInt ≤ 8) (hh17 : 0 ≤ slines.toInt ∧ slines.toInt ≤ 60) (ho : Fxstates xcurrent.toNatClampNeg = some st) : Met l yX11_worth (.code yX11_worth cX11_worth 5 (some .int) :: gT) ({ frames := 3, cells := 0, slots := 0, locals := 85 }) (va_Pc [.ref x, .int p0, .int p1, .int p2] (Pst g sz [(x, .inr (11, [.ref xtape, .int xtapeLength, .ref xreader, .ref xland, .ref xspareLand, .ref xstates, .int xcurrent, .int xnewest, .ref xboxes, .int xfullBoxes, .ref xsearch, .ref xsights, .ref xparting, .ref xheap])), (xstates, aO g 41 Fxstates), (xland, .inr (2, [.ref dmen, .ref dformulas, .ref dreasons, .int dduels, .ref dduelSides, .ref dduelMornings, .int dhonour, .int ddraw, .ref dusesOfKind])), (dusesOfKind, aI g 4 FdusesOfKind), (dformulas, .inr (0, [.int dformulas_count, .int dformulas_units, .ref dformulas_names, .int dformulas_unitsOfThis, .int dformulas_length, .ref dformulas_starts, .ref dformulas_steps, .ref dformulas_stack])), (dformulas_starts, aI g 5 Fdformulas_starts), (dformulas_steps, aI g 640 Fdformulas_steps), (dformulas_stack, aI g 32 Fdformulas_stack), (dreasons, .inr (6, [.int dreasons_count, .ref dreasons_names, .ref dreasons_kinds, .ref dreasons_owners, .ref dreasons_froms, .ref dreasons_tos, .ref dreasons_rents, .ref dreasons_sorts])), (dreasons_kinds, aI g 8 Fdreasons_kinds), (st, .inr (9, [.int sday, .int sseed, .int salive, .int sstruck, .int sopen, .int sduels, .int slines, .ref scoins, .ref srented, .ref smornings, .ref shonours, .ref sused, .ref ssides, .ref slog])), (sused, aI g 8 Fsused)] nX)) (va_Qi (fun (r : Int32) => fun (o0_F : (Nat → Int32)) => (-1) ≤ r.toInt ∧ r.toInt ≤ 365) (Qst g [(x, .inr (11, [.ref xtape, .int xtapeLength, .ref xreader, .ref xland, .ref xspareLand, .ref xstates, .int xcurrent, .int xnewest, .ref xboxes, .int xfullBoxes, .ref xsearch, .ref xsights, .ref xparting, .ref xheap])), (xstates, aO g 41 Fxstates), (xland, .inr (2, [.ref dmen, .ref dformulas, .ref dreasons, .int dduels, .ref dduelSides, .ref dduelMornings, .int dhonour, .int ddraw, .ref dusesOfKind])), (dusesOfKind, aI g 4 FdusesOfKind), (dformulas, .inr (0, [.int dformulas_count, .int dformulas_units, .ref dformulas_names, .int dformulas_unitsOfThis, .int dformulas_length, .ref dformulas_starts, .ref dformulas_steps, .ref dformulas_stack])), (dformulas_starts, aI g 5 Fdformulas_starts), (dformulas_steps, aI g 640 Fdformulas_steps), (dformulas_stack, aI g 32 Fdformulas_stack), (dreasons, .inr (6, [.int dreasons_count, .ref dreasons_names, .ref dreasons_kinds, .ref dreasons_owners, .ref dreasons_froms, .ref dreasons_tos, .ref dreasons_rents, .ref dreasons_sorts])), (dreasons_kinds, aI g 8 Fdreasons_kinds), (st, .inr (9, [.int sday, .int sseed, .int salive, .int sstruck, .int sopen, .int sduels, .int slines, .ref scoins, .ref srented, .ref smornings, .ref shonours, .ref sused, .ref ssides, .ref slog])), (sused, aI g 8 Fsused)] sz (fun (o0_F : (Nat → Int32)) => [(x, .inr (11, [.ref xtape, .int xtapeLength, .ref xreader, .ref xland, .ref xspareLand, .ref xstates, .int xcurrent, .int xnewest, .ref xboxes, .int xfullBoxes, .ref xsearch, .ref xsights, .ref xparting, .ref xheap])), (xstates, aO g 41 Fxstates), (xland, .inr (2, [.ref dmen, .ref dformulas, .ref dreasons, .int dduels, .ref dduelSides, .ref dduelMornings, .int dhonour, .int ddraw, .ref dusesOfKind])), (dusesOfKind, aI g 4 FdusesOfKind), (dformulas, .inr (0, [.int dformulas_count, .int dformulas_units, .ref dformulas_names, .int dformulas_unitsOfThis, .int dformulas_length, .ref dformulas_starts, .ref dformulas_steps, .ref dformulas_stack])), (dformulas_starts, aI g 5 Fdformulas_starts), (dformulas_steps, aI g 640 Fdformulas_steps), (dformulas_stack, aI g 32 o0_F), (dreasons, .inr (6, [.int dreasons_count, .ref dreasons_names, .ref dreasons_kinds, .ref dreasons_owners, .ref dreasons_froms, .ref dreasons_tos, .ref dreasons_rents, .ref dreasons_sorts])), (dreasons_kinds, aI g 8 Fdreasons_kinds), (st, .inr (9, [.int sday, .int sseed, .int salive, .int sstruck, .int sopen, .int sduels, .int slines, .ref scoins, .ref srented, .ref smornings, .ref shonours, .ref sused, .ref ssides, .ref slog])), (sused, aI g 8 Fsused)])) (va_A [(x, .inr (11, [.ref xtape, .int xtapeLength, .ref xreader, .ref xland, .ref xspareLand, .ref xstates, .int xcurrent, .int xnewest, .ref xboxes, .int xfullBoxes, .ref xsearch, .ref xsights, .ref xparting, .ref xheap])), (xstates, aO g 41 Fxstates), (xland, .inr (2, [.ref dmen, .ref dformulas, .ref dreasons, .int dduels, .ref dduelSides, .ref dduelMornings, .int dhonour, .int ddraw, .ref dusesOfKind])), (dusesOfKind, aI g 4 FdusesOfKind), (dformulas, .inr (0, [.int dformulas_count, .int dformulas_units, .ref dformulas_names, .int dformulas_unitsOfThis, .int dformulas_length, .ref dformulas_starts, .ref dformulas_steps, .ref dformulas_stack])), (dformulas_starts, aI g 5 Fdformulas_starts), (dformulas_steps, aI g 640 Fdformulas_steps), (dformulas_stack, aI g 32 Fdformulas_stack), (dreasons, .inr (6, [.int dreasons_count, .ref dreasons_names, .ref dreasons_kinds, .ref dreasons_owners, .ref dreasons_froms, .ref dreasons_tos, .ref dreasons_rents, .ref dreasons_sorts])), (dreasons_kinds, aI g 8 Fdreasons_kinds), (st, .inr (9, [.int sday, .int sseed, .int salive, .int sstruck, .int sopen, .int sduels, .int slines, .ref scoins, .ref srented, .ref smornings, .ref shonours, .ref sused, .ref ssides, .ref slog])), (sused, aI g 8 Fsused)] sz)) 0 0 (va_A [(x, .inr (11, [.ref xtape, .int xtapeLength, .ref xreader, .ref xland, .ref xspareLand, .ref xstates, .int xcurrent, .int xnewest, .ref xboxes, .int xfullBoxes, .ref xsearch, .ref xsights, .ref xparting, .ref xheap])), (xstates, aO g 41 Fxstates), (xland, .inr (2, [.ref dmen, .ref dformulas, .ref dreasons, .int dduels, .ref dduelSides, .ref dduelMornings, .int dhonour, .int ddraw, .ref dusesOfKind])), (dusesOfKind, aI g 4 FdusesOfKind), (dformulas, .inr (0, [.int dformulas_count, .int dformulas_units, .ref dformulas_names, .int dformulas_unitsOfThis, .int dformulas_length, .ref dformulas_starts, .ref dformulas_steps, .ref dformulas_stack])), (dformulas_starts, aI g 5 Fdformulas_starts), (dformulas_steps, aI g 640 Fdformulas_steps), (dformulas_stack, aI g 32 Fdformulas_stack), (dreasons, .inr (6, [.int dreasons_count, .ref dreasons_names, .ref dreasons_kinds, .ref dreasons_owners, .ref dreasons_froms, .ref dreasons_tos, .ref dreasons_rents, .ref dreasons_sorts])), (dreasons_kinds, aI g 8 Fdreasons_kinds), (st, .inr (9, [.int sday, .int sseed, .int salive, .int sstruck, .int sopen, .int sduels, .int slines, .ref scoins, .ref srented, .ref smornings, .ref shonours, .ref sused, .ref ssides, .ref slog])), (sused, aI g 8 Fsused)] sz) := by
  refine Met.ofW (cc := cX11_worth) (maxL := 5) (ret := (some .int)) (by decide) rfl ?_
  intro p e s m args below meth c s₁ B hml hv
  obtain ⟨rfl, hsz, hP, hK, hD0, hX⟩ := hv
  have hx := B.exec
  have hb := B.bytes
  have hr := B.returns
  have hT : ∀ w ∈ gT, w.before _ s = true := fun w h => atoms_spec (ws := .code yX11_worth cX11_worth 5 (some .int) :: gT) B.pre w (List.mem_cons_of_mem _ h)
  have hown : s.vm.findClass RX11 = some m.cls := findClass_of_methodNamed B.named
  have hlocks := B.notSynchronized
  subst hsz
  have hD := hD0.self (sz := s.heap.size)
  generalize hAe : va_A [(x, .inr (11, [.ref xtape, .int xtapeLength, .ref xreader, .ref xland, .ref xspareLand, .ref xstates, .int xcurrent, .int xnewest, .ref xboxes, .int xfullBoxes, .ref xsearch, .ref xsights, .ref xparting, .ref xheap])), (xstates, aO g 41 Fxstates), (xland, .inr (2, [.ref dmen, .ref dformulas, .ref dreasons, .int dduels, .ref dduelSides, .ref dduelMornings, .int dhonour, .int ddraw, .ref dusesOfKind])), (dusesOfKind, aI g 4 FdusesOfKind), (dformulas, .inr (0, [.int dformulas_count, .int dformulas_units, .ref dformulas_names, .int dformulas_unitsOfThis, .int dformulas_length, .ref dformulas_starts, .ref dformulas_steps, .ref dformulas_stack])), (dformulas_starts, aI g 5 Fdformulas_starts), (dformulas_steps, aI g 640 Fdformulas_steps), (dformulas_stack, aI g 32 Fdformulas_stack), (dreasons, .inr (6, [.int dreasons_count, .ref dreasons_names, .ref dreasons_kinds, .ref dreasons_owners, .ref dreasons_froms, .ref dreasons_tos, .ref dreasons_rents, .ref dreasons_sorts])), (dreasons_kinds, aI g 8 Fdreasons_kinds), (st, .inr (9, [.int sday, .int sseed, .int salive, .int sstruck, .int sopen, .int sduels, .int slines, .ref scoins, .ref srented, .ref smornings, .ref shonours, .ref sused, .ref ssides, .ref slog])), (sused, aI g 8 Fsused)] s.heap.size = A at hD ⊢
  have hA : ∀ q : Nat, s.heap.size ≤ q → A q := fun q h => by rw [← hAe]; exact Or.inr h
  have hS : va_S A s.heap s.heap [] := va_S.rf
  have hl := lv_entry ([.ref x, .int p0, .int p1, .int p2]) (n := 5) (Nat.le_of_ble_eq_true rfl)
  rw [lg_entry_eq]
  generalize (lg_sl ([.ref x, .int p0, .int p1, .int p2]) ++ List.replicate (5 - (lg_sl ([.ref x, .int p0, .int p1, .int p2])).length) Slot.unset).toArray = ls at hl ⊢
  have hl : lv_has ls 5 [(0, .ref x), (1, .int p0), (2, .int p1), (3, .int p2)] := hl
  refine p_nH (fun H hH => ?_)
  have hP : va_P g.1 vwCl [(x, .inr (11, [.ref xtape, .int xtapeLength, .ref xreader, .ref xland, .ref xspareLand, .ref xstates, .int xcurrent, .int xnewest, .ref xboxes, .int xfullBoxes, .ref xsearch, .ref xsights, .ref xparting, .ref xheap])), (xstates, aO g 41 Fxstates), (xland, .inr (2, [.ref dmen, .ref dformulas, .ref dreasons, .int dduels, .ref dduelSides, .ref dduelMornings, .int dhonour, .int ddraw, .ref dusesOfKind])), (dusesOfKind, aI g 4 FdusesOfKind), (dformulas, .inr (0, [.int dformulas_count, .int dformulas_units, .ref dformulas_names, .int dformulas_unitsOfThis, .int dformulas_length, .ref dformulas_starts, .ref dformulas_steps, .ref dformulas_stack])), (dformulas_starts, aI g 5 Fdformulas_starts), (dformulas_steps, aI g 640 Fdformulas_steps), (dformulas_stack, aI g 32 Fdformulas_stack), (dreasons, .inr (6, [.int dreasons_count, .ref dreasons_names, .ref dreasons_kinds, .ref dreasons_owners, .ref dreasons_froms, .ref dreasons_tos, .ref dreasons_rents, .ref dreasons_sorts])), (dreasons_kinds, aI g 8 Fdreasons_kinds), (st, .inr (9, [.int sday, .int sseed, .int salive, .int sstruck, .int sopen, .int sduels, .int slines, .ref scoins, .ref srented, .ref smornings, .ref shonours, .ref sused, .ref ssides, .ref slog])), (sused, aI g 8 Fsused)] H := by rw [hH]; exact hP
  have hS : va_S A s.heap H [] := by rw [hH]; exact hS
  refine lv_aload_n hx hb dX11_worth_0 rfl (lv_at hl 0 rfl) ?_
  refine va_get (D := g.1) (ci := 11) (v := .ref xstates) (C := RX11) (T := TX11) (N := 14) hx hb hT inF_X11 hown hK.1 hP 0 rfl rfl 5 (by decide) (hT _ bw_275) (fun _ h9 => h9) rfl dX11_worth_1 ?_
  refine lv_aload_n hx hb dX11_worth_4 rfl (lv_at hl 0 rfl) ?_
  refine va_get (D := g.1) (ci := 11) (v := .int xcurrent) (C := RX11) (T := TX11) (N := 14) hx hb hT inF_X11 hown hK.1 hP 0 rfl rfl 6 (by decide) (hT _ bw_276) (fun _ h9 => h9) rfl dX11_worth_5 ?_
  have h_1 : vp_in xcurrent 41 := vp_in_iff.mpr (by omega)
  refine va_aldq hx hb hK.1 hP 1 4 rfl rfl (i := xcurrent) h_1 dX11_worth_8 ?_
  refine p_tr (x := st) (by rw [ho]; rfl) ?_
  refine lv_astore (lv' := [(4, .ref st), (0, .ref x), (1, .int p0), (2, .int p1), (3, .int p2)]) hx hb dX11_worth_9 hl (by decide) rfl (fun ls hl => ?_)
  refine lv_aload hx hb dX11_worth_11 (lv_at hl 0 rfl) ?_
  refine lv_iload_n hx hb dX11_worth_13 rfl (lv_at hl 2 rfl) ?_
  refine k_iR (k_V (n := 1) ⟨hx, hb, hml, hown, hT⟩ hK hP hD [10] rfl (by decide +kernel) (s_X9_hasDuel l g H.size st sday sseed salive sstruck sopen sduels slines scoins srented smornings shonours sused ssides slog p0 (by first | with_reducible assumption | omega) (by first | with_reducible assumption | omega) (by first | with_reducible assumption | omega)) (gV bw_283 bw_284 bw_285 bw_46 bw_34) rfl rfl (by decide +kernel) ⟨by decide, by decide⟩ (ci := 9) (q0 := 0) rfl rfl (fun _ _ _ _ _ => trivial) (fun _ _ _ => trivial) rfl rfl hl.1 (Nat.le_of_ble_eq_true rfl) dX11_worth_14 ⟨by decide, by decide⟩) hP hS hA (fun r_2 _ H locs hw0 hP hS => ?_)
  have hw : (r_2 = 1 ∧ (0 ≤ p0.toInt ∧ p0.toInt < sduels.toInt)) ∨ (r_2 = 0) := hw0
  clear hw0
  rcases hw with ⟨e_4, w_3⟩ | e_5
  · subst e_4
    refine lv_if_eq (tgt := 45) hx hb dX11_worth_17 (by decide) (fun c9 => absurd c9 (by decide)) (fun _ => ?_)
    refine lv_aload_n hx hb dX11_worth_20 rfl (lv_at hl 1 rfl) ?_
    refine va_get (D := g.1) (ci := 11) (v := .ref xland) (C := RX11) (T := TX11) (N := 14) hx hb hT inF_X11 hown hK.1 hP 0 rfl rfl 3 (by decide) (hT _ bw_269) (fun _ h9 => h9) rfl dX11_worth_21 ?_
    refine va_get (D := g.1) (ci := 2) (v := .ref dreasons) (C := RX2) (T := TX2) (N := 9) hx hb hT inF_X2 hown hK.1 hP 2 rfl rfl 2 (by decide) (hT _ bw_293) (fun _ h9 => h9) rfl dX11_worth_24 ?_
    refine lv_iload_n hx hb dX11_worth_27 rfl (lv_at hl 3 rfl) ?_
    refine k_iR (k_V (n := 1) ⟨hx, hb, hml, hown, hT⟩ hK hP hD [8] rfl (by decide +kernel) (s_X6_has l g H.size dreasons dreasons_count dreasons_names dreasons_kinds dreasons_owners dreasons_froms dreasons_tos dreasons_rents dreasons_sorts p1 (by first | with_reducible assumption | omega)) (gV bw_294 bw_237 bw_238 bw_185 bw_7) rfl rfl (by decide +kernel) ⟨by decide, by decide⟩ (ci := 6) (q0 := 0) rfl rfl (fun _ _ _ _ _ => trivial) (fun _ _ _ => trivial) rfl rfl hl.1 (Nat.le_of_ble_eq_true rfl) dX11_worth_28 ⟨by decide, by decide⟩) hP hS hA (fun r_6 _ H locs hw0 hP hS => ?_)
    have hw : (r_6 = 1 ∧ (0 ≤ p1.toInt ∧ p1.toInt < dreasons_count.toInt)) ∨ (r_6 = 0) := hw0
    clear hw0
    rcases hw with ⟨e_8, w_7⟩ | e_9
    · subst e_8
      refine lv_if_eq (tgt := 45) hx hb dX11_worth_31 (by decide) (fun c9 => absurd c9 (by decide)) (fun _ => ?_)
      refine lv_iload_n hx hb dX11_worth_34 rfl (lv_at hl 4 rfl) ?_
      refine lv_if_lt (tgt := 45) hx hb dX11_worth_35 (by decide) (fun c_10 => ?_) (fun c_10 => ?_)
      · have f_11 := E_lt (rfl : p2.toInt = _) (by decide : (0 : Int32).toInt = 0) c_10
        refine lv_iconst (v := (-1)) hx hb dX11_worth_45 (by decide) ?_
        have hP9 : va_P g.1 vwCl [(x, .inr (11, [.ref xtape, .int xtapeLength, .ref xreader, .ref xland, .ref xspareLand, .ref xstates, .int xcurrent, .int xnewest, .ref xboxes, .int xfullBoxes, .ref xsearch, .ref xsights, .ref xparting, .ref xheap])), (xstates, aO g 41 Fxstates), (xland, .inr (2, [.ref dmen, .ref dformulas, .ref dreasons, .int dduels, .ref dduelSides, .ref dduelMornings, .int dhonour, .int ddraw, .ref dusesOfKind])), (dusesOfKind, aI g 4 FdusesOfKind), (dformulas, .inr (0, [.int dformulas_count, .int dformulas_units, .ref dformulas_names, .int dformulas_unitsOfThis, .int dformulas_length, .ref dformulas_starts, .ref dformulas_steps, .ref dformulas_stack])), (dformulas_starts, aI g 5 Fdformulas_starts), (dformulas_steps, aI g 640 Fdformulas_steps), (dformulas_stack, aI g 32 Fdformulas_stack), (dreasons, .inr (6, [.int dreasons_count, .ref dreasons_names, .ref dreasons_kinds, .ref dreasons_owners, .ref dreasons_froms, .ref dreasons_tos, .ref dreasons_rents, .ref dreasons_sorts])), (dreasons_kinds, aI g 8 Fdreasons_kinds), (st, .inr (9, [.int sday, .int sseed, .int salive, .int sstruck, .int sopen, .int sduels, .int slines, .ref scoins, .ref srented, .ref smornings, .ref shonours, .ref sused, .ref ssides, .ref slog])), (sused, aI g 8 Fsused)] H := hP.sub [0, 1, 2, 3, 4, 5, 6, 7, 8, 9, 10, 11] rfl
        have hD9 : va_D A [(x, .inr (11, [.ref xtape, .int xtapeLength, .ref xreader, .ref xland, .ref xspareLand, .ref xstates, .int xcurrent, .int xnewest, .ref xboxes, .int xfullBoxes, .ref xsearch, .ref xsights, .ref xparting, .ref xheap])), (xstates, aO g 41 Fxstates), (xland, .inr (2, [.ref dmen, .ref dformulas, .ref dreasons, .int dduels, .ref dduelSides, .ref dduelMornings, .int dhonour, .int ddraw, .ref dusesOfKind])), (dusesOfKind, aI g 4 FdusesOfKind), (dformulas, .inr (0, [.int dformulas_count, .int dformulas_units, .ref dformulas_names, .int dformulas_unitsOfThis, .int dformulas_length, .ref dformulas_starts, .ref dformulas_steps, .ref dformulas_stack])), (dformulas_starts, aI g 5 Fdformulas_starts), (dformulas_steps, aI g 640 Fdformulas_steps), (dformulas_stack, aI g 32 Fdformulas_stack), (dreasons, .inr (6, [.int dreasons_count, .ref dreasons_names, .ref dreasons_kinds, .ref dreasons_owners, .ref dreasons_froms, .ref dreasons_tos, .ref dreasons_rents, .ref dreasons_sorts])), (dreasons_kinds, aI g 8 Fdreasons_kinds), (st, .inr (9, [.int sday, .int sseed, .int salive, .int sstruck, .int sopen, .int sduels, .int slines, .ref scoins, .ref srented, .ref smornings, .ref shonours, .ref sused, .ref ssides, .ref slog])), (sused, aI g 8 Fsused)] := hD.sub [0, 1, 2, 3, 4, 5, 6, 7, 8, 9, 10, 11] (by decide +kernel) rfl
        exact W.iret (v := (-1)) hx hb hr (fun t ht hW => ⟨⟨(-1), Fdformulas_stack, rfl, ⟨by decide, by decide⟩, by rw [ht]; exact hP9, by rw [hAe]; exact hD9⟩, hS.F ht⟩) hS.2.2 dX11_worth_46
      · have f_12 := E_nlt (rfl : p2.toInt = _) (by decide : (0 : Int32).toInt = 0) c_10
        refine lv_iload_n hx hb dX11_worth_38 rfl (lv_at hl 4 rfl) ?_
        refine lv_sipush (v := 9999) hx hb dX11_worth_39 (by decide) ?_
        refine lv_icmp_le (tgt := 47) hx hb dX11_worth_42 (by decide) (fun c_13 => ?_) (fun c_13 => ?_)
        · have f_14 := E_le (rfl : p2.toInt = _) (by decide : (9999 : Int32).toInt = 9999) c_13
          refine lv_aload_n hx hb dX11_worth_47 rfl (lv_at hl 1 rfl) ?_
          refine va_get (D := g.1) (ci := 11) (v := .ref xland) (C := RX11) (T := TX11) (N := 14) hx hb hT inF_X11 hown hK.1 hP 0 rfl rfl 3 (by decide) (hT _ bw_269) (fun _ h9 => h9) rfl dX11_worth_48 ?_
          refine lv_aload_n hx hb dX11_worth_51 rfl (lv_at hl 1 rfl) ?_
          refine va_get (D := g.1) (ci := 11) (v := .ref xland) (C := RX11) (T := TX11) (N := 14) hx hb hT inF_X11 hown hK.1 hP 0 rfl rfl 3 (by decide) (hT _ bw_269) (fun _ h9 => h9) rfl dX11_worth_52 ?_
          refine va_get (D := g.1) (ci := 2) (v := .ref dreasons) (C := RX2) (T := TX2) (N := 9) hx hb hT inF_X2 hown hK.1 hP 2 rfl rfl 2 (by decide) (hT _ bw_293) (fun _ h9 => h9) rfl dX11_worth_55 ?_
          refine va_get (D := g.1) (ci := 6) (v := .ref dreasons_kinds) (C := RX6) (T := TX6) (N := 8) hx hb hT inF_X6 hown hK.1 hP 8 rfl rfl 2 (by decide) (hT _ bw_295) (fun _ h9 => h9) rfl dX11_worth_58 ?_
          refine lv_iload_n hx hb dX11_worth_61 rfl (lv_at hl 3 rfl) ?_
          have h_15 : vp_in p1 8 := vp_in_iff.mpr (by omega)
          refine va_iald hx hb hK.1 hP 9 1 rfl rfl (i := p1) h_15 dX11_worth_62 ?_
          refine lv_topi (fun x_16 ex_16 => ?_)
          have fx_16 : 0 ≤ x_16.toInt ∧ x_16.toInt ≤ 3 := Rg.rd hh13 h_15 ex_16
          have ux_16 := congrArg Int32.toInt ex_16
          refine lv_aload hx hb dX11_worth_63 (lv_at hl 0 rfl) ?_
          refine va_get (D := g.1) (ci := 9) (v := .ref sused) (C := RX9) (T := TX9) (N := 14) hx hb hT inF_X9 hown hK.1 hP 10 rfl rfl 11 (by decide) (hT _ bw_290) (fun _ h9 => h9) rfl dX11_worth_65 ?_
          refine lv_iload_n hx hb dX11_worth_68 rfl (lv_at hl 2 rfl) ?_
          have h_17 : vp_in p0 8 := vp_in_iff.mpr (by omega)
          refine va_iald hx hb hK.1 hP 11 1 rfl rfl (i := p0) h_17 dX11_worth_69 ?_
          refine lv_topi (fun x_18 ex_18 => ?_)
          have ux_18 := congrArg Int32.toInt ex_18
          refine lv_iload_n hx hb dX11_worth_70 rfl (lv_at hl 4 rfl) ?_
          refine k_i (wr := [(x, .inr (11, [.ref xtape, .int xtapeLength, .ref xreader, .ref xland, .ref xspareLand, .ref xstates, .int xcurrent, .int xnewest, .ref xboxes, .int xfullBoxes, .ref xsearch, .ref xsights, .ref xparting, .ref xheap])), (xstates, aO g 41 Fxstates), (dreasons, .inr (6, [.int dreasons_count, .ref dreasons_names, .ref dreasons_kinds, .ref dreasons_owners, .ref dreasons_froms, .ref dreasons_tos, .ref dreasons_rents, .ref dreasons_sorts])), (dreasons_kinds, aI g 8 Fdreasons_kinds), (st, .inr (9, [.int sday, .int sseed, .int salive, .int sstruck, .int sopen, .int sduels, .int slines, .ref scoins, .ref srented, .ref smornings, .ref shonours, .ref sused, .ref ssides, .ref slog])), (sused, aI g 8 Fsused)]) (k_V (n := 3) ⟨hx, hb, hml, hown, hT⟩ hK hP hD [2, 3, 4, 5, 6, 7] rfl (by decide +kernel) (s_X2_worthOf l g H.size xland dduels dduelSides dduelMornings dhonour ddraw dusesOfKind FdusesOfKind dmen dformulas dformulas_count dformulas_units dformulas_names dformulas_unitsOfThis dformulas_length dformulas_starts Fdformulas_starts dformulas_steps Fdformulas_steps dformulas_stack Fdformulas_stack dreasons x_16 x_18 p2 (by first | with_reducible assumption | omega) (by first | with_reducible assumption | omega) (by first | with_reducible assumption | omega) (by first | with_reducible assumption | omega) (by first | with_reducible assumption | omega) (by first | with_reducible assumption | omega) hh11 (by first | with_reducible assumption | omega)) (gV bw_304 bw_200 bw_201 bw_202 bw_165) rfl rfl (by decide +kernel) ⟨by decide, by decide⟩ (ci := 2) (q0 := 0) rfl rfl (fun _ _ _ _ _ => trivial) (fun _ _ _ => trivial) rfl rfl hl.1 (Nat.le_of_ble_eq_true rfl) dX11_worth_71 ⟨by decide, by decide⟩) hP hD hS hA [2, 3, 4, 5, 6, 7] [0, 1, 8, 9, 10, 11] rfl rfl (by decide +kernel) (by decide +kernel) (fun r_19 => fun f_20 H locs hw0 hP hD hS => ?_)
          have hP : va_P g.1 vwCl [(x, .inr (11, [.ref xtape, .int xtapeLength, .ref xreader, .ref xland, .ref xspareLand, .ref xstates, .int xcurrent, .int xnewest, .ref xboxes, .int xfullBoxes, .ref xsearch, .ref xsights, .ref xparting, .ref xheap])), (xstates, aO g 41 Fxstates), (dreasons, .inr (6, [.int dreasons_count, .ref dreasons_names, .ref dreasons_kinds, .ref dreasons_owners, .ref dreasons_froms, .ref dreasons_tos, .ref dreasons_rents, .ref dreasons_sorts])), (dreasons_kinds, aI g 8 Fdreasons_kinds), (st, .inr (9, [.int sday, .int sseed, .int salive, .int sstruck, .int sopen, .int sduels, .int slines, .ref scoins, .ref srented, .ref smornings, .ref shonours, .ref sused, .ref ssides, .ref slog])), (sused, aI g 8 Fsused), (xland, .inr (2, [.ref dmen, .ref dformulas, .ref dreasons, .int dduels, .ref dduelSides, .ref dduelMornings, .int dhonour, .int ddraw, .ref dusesOfKind])), (dusesOfKind, aI g 4 FdusesOfKind), (dformulas, .inr (0, [.int dformulas_count, .int dformulas_units, .ref dformulas_names, .int dformulas_unitsOfThis, .int dformulas_length, .ref dformulas_starts, .ref dformulas_steps, .ref dformulas_stack])), (dformulas_starts, aI g 5 Fdformulas_starts), (dformulas_steps, aI g 640 Fdformulas_steps), (dformulas_stack, aI g 32 f_20)] H := hP
          have hD : va_D A [(x, .inr (11, [.ref xtape, .int xtapeLength, .ref xreader, .ref xland, .ref xspareLand, .ref xstates, .int xcurrent, .int xnewest, .ref xboxes, .int xfullBoxes, .ref xsearch, .ref xsights, .ref xparting, .ref xheap])), (xstates, aO g 41 Fxstates), (dreasons, .inr (6, [.int dreasons_count, .ref dreasons_names, .ref dreasons_kinds, .ref dreasons_owners, .ref dreasons_froms, .ref dreasons_tos, .ref dreasons_rents, .ref dreasons_sorts])), (dreasons_kinds, aI g 8 Fdreasons_kinds), (st, .inr (9, [.int sday, .int sseed, .int salive, .int sstruck, .int sopen, .int sduels, .int slines, .ref scoins, .ref srented, .ref smornings, .ref shonours, .ref sused, .ref ssides, .ref slog])), (sused, aI g 8 Fsused), (xland, .inr (2, [.ref dmen, .ref dformulas, .ref dreasons, .int dduels, .ref dduelSides, .ref dduelMornings, .int dhonour, .int ddraw, .ref dusesOfKind])), (dusesOfKind, aI g 4 FdusesOfKind), (dformulas, .inr (0, [.int dformulas_count, .int dformulas_units, .ref dformulas_names, .int dformulas_unitsOfThis, .int dformulas_length, .ref dformulas_starts, .ref dformulas_steps, .ref dformulas_stack])), (dformulas_starts, aI g 5 Fdformulas_starts), (dformulas_steps, aI g 640 Fdformulas_steps), (dformulas_stack, aI g 32 f_20)] := hD
          have hw : 1 ≤ r_19.toInt ∧ r_19.toInt ≤ 365 := hw0
          clear hw0
          have w_21 := hw
          have hP9 : va_P g.1 vwCl [(x, .inr (11, [.ref xtape, .int xtapeLength, .ref xreader, .ref xland, .ref xspareLand, .ref xstates, .int xcurrent, .int xnewest, .ref xboxes, .int xfullBoxes, .ref xsearch, .ref xsights, .ref xparting, .ref xheap])), (xstates, aO g 41 Fxstates), (xland, .inr (2, [.ref dmen, .ref dformulas, .ref dreasons, .int dduels, .ref dduelSides, .ref dduelMornings, .int dhonour, .int ddraw, .ref dusesOfKind])), (dusesOfKind, aI g 4 FdusesOfKind), (dformulas, .inr (0, [.int dformulas_count, .int dformulas_units, .ref dformulas_names, .int dformulas_unitsOfThis, .int dformulas_length, .ref dformulas_starts, .ref dformulas_steps, .ref dformulas_stack])), (dformulas_starts, aI g 5 Fdformulas_starts), (dformulas_steps, aI g 640 Fdformulas_steps), (dformulas_stack, aI g 32 f_20), (dreasons, .inr (6, [.int dreasons_count, .ref dreasons_names, .ref dreasons_kinds, .ref dreasons_owners, .ref dreasons_froms, .ref dreasons_tos, .ref dreasons_rents, .ref dreasons_sorts])), (dreasons_kinds, aI g 8 Fdreasons_kinds), (st, .inr (9, [.int sday, .int sseed, .int salive, .int sstruck, .int sopen, .int sduels, .int slines, .ref scoins, .ref srented, .ref smornings, .ref shonours, .ref sused, .ref ssides, .ref slog])), (sused, aI g 8 Fsused)] H := hP.sub [0, 1, 6, 7, 8, 9, 10, 11, 2, 3, 4, 5] rfl
          have hD9 : va_D A [(x, .inr (11, [.ref xtape, .int xtapeLength, .ref xreader, .ref xland, .ref xspareLand, .ref xstates, .int xcurrent, .int xnewest, .ref xboxes, .int xfullBoxes, .ref xsearch, .ref xsights, .ref xparting, .ref xheap])), (xstates, aO g 41 Fxstates), (xland, .inr (2, [.ref dmen, .ref dformulas, .ref dreasons, .int dduels, .ref dduelSides, .ref dduelMornings, .int dhonour, .int ddraw, .ref dusesOfKind])), (dusesOfKind, aI g 4 FdusesOfKind), (dformulas, .inr (0, [.int dformulas_count, .int dformulas_units, .ref dformulas_names, .int dformulas_unitsOfThis, .int dformulas_length, .ref dformulas_starts, .ref dformulas_steps, .ref dformulas_stack])), (dformulas_starts, aI g 5 Fdformulas_starts), (dformulas_steps, aI g 640 Fdformulas_steps), (dformulas_stack, aI g 32 f_20), (dreasons, .inr (6, [.int dreasons_count, .ref dreasons_names, .ref dreasons_kinds, .ref dreasons_owners, .ref dreasons_froms, .ref dreasons_tos, .ref dreasons_rents, .ref dreasons_sorts])), (dreasons_kinds, aI g 8 Fdreasons_kinds), (st, .inr (9, [.int sday, .int sseed, .int salive, .int sstruck, .int sopen, .int sduels, .int slines, .ref scoins, .ref srented, .ref smornings, .ref shonours, .ref sused, .ref ssides, .ref slog])), (sused, aI g 8 Fsused)] := hD.sub [0, 1, 6, 7, 8, 9, 10, 11, 2, 3, 4, 5] (by decide +kernel) rfl
          exact W.iret (v := r_19) hx hb hr (fun t ht hW => ⟨⟨r_19, f_20, rfl, (by first | with_reducible assumption | omega), by rw [ht]; exact hP9, by rw [hAe]; exact hD9⟩, hS.F ht⟩) hS.2.2 dX11_worth_74
        · have f_22 := E_nle (rfl : p2.toInt = _) (by decide : (9999 : Int32).toInt = 9999) c_13
          refine lv_iconst (v := (-1)) hx hb dX11_worth_45 (by decide) ?_
          have hP9 : va_P g.1 vwCl [(x, .inr (11, [.ref xtape, .int xtapeLength, .ref xreader, .ref xland, .ref xspareLand, .ref xstates, .int xcurrent, .int xnewest, .ref xboxes, .int xfullBoxes, .ref xsearch, .ref xsights, .ref xparting, .ref xheap])), (xstates, aO g 41 Fxstates), (xland, .inr (2, [.ref dmen, .ref dformulas, .ref dreasons, .int dduels, .ref dduelSides, .ref dduelMornings, .int dhonour, .int ddraw, .ref dusesOfKind])), (dusesOfKind, aI g 4 FdusesOfKind), (dformulas, .inr (0, [.int dformulas_count, .int dformulas_units, .ref dformulas_names, .int dformulas_unitsOfThis, .int dformulas_length, .ref dformulas_starts, .ref dformulas_steps, .ref dformulas_stack])), (dformulas_starts, aI g 5 Fdformulas_starts), (dformulas_steps, aI g 640 Fdformulas_steps), (dformulas_stack, aI g 32 Fdformulas_stack), (dreasons, .inr (6, [.int dreasons_count, .ref dreasons_names, .ref dreasons_kinds, .ref dreasons_owners, .ref dreasons_froms, .ref dreasons_tos, .ref dreasons_rents, .ref dreasons_sorts])), (dreasons_kinds, aI g 8 Fdreasons_kinds), (st, .inr (9, [.int sday, .int sseed, .int salive, .int sstruck, .int sopen, .int sduels, .int slines, .ref scoins, .ref srented, .ref smornings, .ref shonours, .ref sused, .ref ssides, .ref slog])), (sused, aI g 8 Fsused)] H := hP.sub [0, 1, 2, 3, 4, 5, 6, 7, 8, 9, 10, 11] rfl
          have hD9 : va_D A [(x, .inr (11, [.ref xtape, .int xtapeLength, .ref xreader, .ref xland, .ref xspareLand, .ref xstates, .int xcurrent, .int xnewest, .ref xboxes, .int xfullBoxes, .ref xsearch, .ref xsights, .ref xparting, .ref xheap])), (xstates, aO g 41 Fxstates), (xland, .inr (2, [.ref dmen, .ref dformulas, .ref dreasons, .int dduels, .ref dduelSides, .ref dduelMornings, .int dhonour, .int ddraw, .ref dusesOfKind])), (dusesOfKind, aI g 4 FdusesOfKind), (dformulas, .inr (0, [.int dformulas_count, .int dformulas_units, .ref dformulas_names, .int dformulas_unitsOfThis, .int dformulas_length, .ref dformulas_starts, .ref dformulas_steps, .ref dformulas_stack])), (dformulas_starts, aI g 5 Fdformulas_starts), (dformulas_steps, aI g 640 Fdformulas_steps), (dformulas_stack, aI g 32 Fdformulas_stack), (dreasons, .inr (6, [.int dreasons_count, .ref dreasons_names, .ref dreasons_kinds, .ref dreasons_owners, .ref dreasons_froms, .ref dreasons_tos, .ref dreasons_rents, .ref dreasons_sorts])), (dreasons_kinds, aI g 8 Fdreasons_kinds), (st, .inr (9, [.int sday, .int sseed, .int salive, .int sstruck, .int sopen, .int sduels, .int slines, .ref scoins, .ref srented, .ref smornings, .ref shonours, .ref sused, .ref ssides, .ref slog])), (sused, aI g 8 Fsused)] := hD.sub [0, 1, 2, 3, 4, 5, 6, 7, 8, 9, 10, 11] (by decide +kernel) rfl
          exact W.iret (v := (-1)) hx hb hr (fun t ht hW => ⟨⟨(-1), Fdformulas_stack, rfl, ⟨by decide, by decide⟩, by rw [ht]; exact hP9, by rw [hAe]; exact hD9⟩, hS.F ht⟩) hS.2.2 dX11_worth_46
    · subst e_9
      refine lv_if_eq (tgt := 45) hx hb dX11_worth_31 (by decide) (fun _ => ?_) (fun c9 => absurd (by decide) c9)
      refine lv_iconst (v := (-1)) hx hb dX11_worth_45 (by decide) ?_
      have hP9 : va_P g.1 vwCl [(x, .inr (11, [.ref xtape, .int xtapeLength, .ref xreader, .ref xland, .ref xspareLand, .ref xstates, .int xcurrent, .int xnewest, .ref xboxes, .int xfullBoxes, .ref xsearch, .ref xsights, .ref xparting, .ref xheap])), (xstates, aO g 41 Fxstates), (xland, .inr (2, [.ref dmen, .ref dformulas, .ref dreasons, .int dduels, .ref dduelSides, .ref dduelMornings, .int dhonour, .int ddraw, .ref dusesOfKind])), (dusesOfKind, aI g 4 FdusesOfKind), (dformulas, .inr (0, [.int dformulas_count, .int dformulas_units, .ref dformulas_names, .int dformulas_unitsOfThis, .int dformulas_length, .ref dformulas_starts, .ref dformulas_steps, .ref dformulas_stack])), (dformulas_starts, aI g 5 Fdformulas_starts), (dformulas_steps, aI g 640 Fdformulas_steps), (dformulas_stack, aI g 32 Fdformulas_stack), (dreasons, .inr (6, [.int dreasons_count, .ref dreasons_names, .ref dreasons_kinds, .ref dreasons_owners, .ref dreasons_froms, .ref dreasons_tos, .ref dreasons_rents, .ref dreasons_sorts])), (dreasons_kinds, aI g 8 Fdreasons_kinds), (st, .inr (9, [.int sday, .int sseed, .int salive, .int sstruck, .int sopen, .int sduels, .int slines, .ref scoins, .ref srented, .ref smornings, .ref shonours, .ref sused, .ref ssides, .ref slog])), (sused, aI g 8 Fsused)] H := hP.sub [0, 1, 2, 3, 4, 5, 6, 7, 8, 9, 10, 11] rfl
      have hD9 : va_D A [(x, .inr (11, [.ref xtape, .int xtapeLength, .ref xreader, .ref xland, .ref xspareLand, .ref xstates, .int xcurrent, .int xnewest, .ref xboxes, .int xfullBoxes, .ref xsearch, .ref xsights, .ref xparting, .ref xheap])), (xstates, aO g 41 Fxstates), (xland, .inr (2, [.ref dmen, .ref dformulas, .ref dreasons, .int dduels, .ref dduelSides, .ref dduelMornings, .int dhonour, .int ddraw, .ref dusesOfKind])), (dusesOfKind, aI g 4 FdusesOfKind), (dformulas, .inr (0, [.int dformulas_count, .int dformulas_units, .ref dformulas_names, .int dformulas_unitsOfThis, .int dformulas_length, .ref dformulas_starts, .ref dformulas_steps, .ref dformulas_stack])), (dformulas_starts, aI g 5 Fdformulas_starts), (dformulas_steps, aI g 640 Fdformulas_steps), (dformulas_stack, aI g 32 Fdformulas_stack), (dreasons, .inr (6, [.int dreasons_count, .ref dreasons_names, .ref dreasons_kinds, .ref dreasons_owners, .ref dreasons_froms, .ref dreasons_tos, .ref dreasons_rents, .ref dreasons_sorts])), (dreasons_kinds, aI g 8 Fdreasons_kinds), (st, .inr (9, [.int sday, .int sseed, .int salive, .int sstruck, .int sopen, .int sduels, .int slines, .ref scoins, .ref srented, .ref smornings, .ref shonours, .ref sused, .ref ssides, .ref slog])), (sused, aI g 8 Fsused)] := hD.sub [0, 1, 2, 3, 4, 5, 6, 7, 8, 9, 10, 11] (by decide +kernel) rfl
      exact W.iret (v := (-1)) hx hb hr (fun t ht hW => ⟨⟨(-1), Fdformulas_stack, rfl, ⟨by decide, by decide⟩, by rw [ht]; exact hP9, by rw [hAe]; exact hD9⟩, hS.F ht⟩) hS.2.2 dX11_worth_46
  · subst e_5
    refine lv_if_eq (tgt := 45) hx hb dX11_worth_17 (by decide) (fun _ => ?_) (fun c9 => absurd (by decide) c9)
    refine lv_iconst (v := (-1)) hx hb dX11_worth_45 (by decide) ?_
    have hP9 : va_P g.1 vwCl [(x, .inr (11, [.ref xtape, .int xtapeLength, .ref xreader, .ref xland, .ref xspareLand, .ref xstates, .int xcurrent, .int xnewest, .ref xboxes, .int xfullBoxes, .ref xsearch, .ref xsights, .ref xparting, .ref xheap])), (xstates, aO g 41 Fxstates), (xland, .inr (2, [.ref dmen, .ref dformulas, .ref dreasons, .int dduels, .ref dduelSides, .ref dduelMornings, .int dhonour, .int ddraw, .ref dusesOfKind])), (dusesOfKind, aI g 4 FdusesOfKind), (dformulas, .inr (0, [.int dformulas_count, .int dformulas_units, .ref dformulas_names, .int dformulas_unitsOfThis, .int dformulas_length, .ref dformulas_starts, .ref dformulas_steps, .ref dformulas_stack])), (dformulas_starts, aI g 5 Fdformulas_starts), (dformulas_steps, aI g 640 Fdformulas_steps), (dformulas_stack, aI g 32 Fdformulas_stack), (dreasons, .inr (6, [.int dreasons_count, .ref dreasons_names, .ref dreasons_kinds, .ref dreasons_owners, .ref dreasons_froms, .ref dreasons_tos, .ref dreasons_rents, .ref dreasons_sorts])), (dreasons_kinds, aI g 8 Fdreasons_kinds), (st, .inr (9, [.int sday, .int sseed, .int salive, .int sstruck, .int sopen, .int sduels, .int slines, .ref scoins, .ref srented, .ref smornings, .ref shonours, .ref sused, .ref ssides, .ref slog])), (sused, aI g 8 Fsused)] H := hP.sub [0, 1, 2, 3, 4, 5, 6, 7, 8, 9, 10, 11] rfl
    have hD9 : va_D A [(x, .inr (11, [.ref xtape, .int xtapeLength, .ref xreader, .ref xland, .ref xspareLand, .ref xstates, .int xcurrent, .int xnewest, .ref xboxes, .int xfullBoxes, .ref xsearch, .ref xsights, .ref xparting, .ref xheap])), (xstates, aO g 41 Fxstates), (xland, .inr (2, [.ref dmen, .ref dformulas, .ref dreasons, .int dduels, .ref dduelSides, .ref dduelMornings, .int dhonour, .int ddraw, .ref dusesOfKind])), (dusesOfKind, aI g 4 FdusesOfKind), (dformulas, .inr (0, [.int dformulas_count, .int dformulas_units, .ref dformulas_names, .int dformulas_unitsOfThis, .int dformulas_length, .ref dformulas_starts, .ref dformulas_steps, .ref dformulas_stack])), (dformulas_starts, aI g 5 Fdformulas_starts), (dformulas_steps, aI g 640 Fdformulas_steps), (dformulas_stack, aI g 32 Fdformulas_stack), (dreasons, .inr (6, [.int dreasons_count, .ref dreasons_names, .ref dreasons_kinds, .ref dreasons_owners, .ref dreasons_froms, .ref dreasons_tos, .ref dreasons_rents, .ref dreasons_sorts])), (dreasons_kinds, aI g 8 Fdreasons_kinds), (st, .inr (9, [.int sday, .int sseed, .int salive, .int sstruck, .int sopen, .int sduels, .int slines, .ref scoins, .ref srented, .ref smornings, .ref shonours, .ref sused, .ref ssides, .ref slog])), (sused, aI g 8 Fsused)] := hD.sub [0, 1, 2, 3, 4, 5, 6, 7, 8, 9, 10, 11] (by decide +kernel) rfl
    exact W.iret (v := (-1)) hx hb hr (fun t ht hW => ⟨⟨(-1), Fdformulas_stack, rfl, ⟨by decide, by decide⟩, by rw [ht]; exact hP9, by rw [hAe]; exact hD9⟩, hS.F ht⟩) hS.2.2 dX11_worth_46

theorem bw_306 : Cond.methodLink RX11 193 yX11_isSide ∈ gT := gT_tb 921 (by decide +kernel) (by decide +kernel)
theorem bw_307 : Cond.static yX11_isSide ∈ gT := gT_tb 922 (by decide +kernel) (by decide +kernel)
theorem bw_308 : Cond.initialized yX11_isSide.cls ∈ gT := gT_tb 1 (by decide +kernel) (by decide +kernel)
theorem bw_309 : Cond.methodLink RX11 196 yX9_usable ∈ gT := gT_tb 924 (by decide +kernel) (by decide +kernel)
theorem bw_310 : Cond.instanceMethod yX9_usable ∈ gT := gT_tb 925 (by decide +kernel) (by decide +kernel)
theorem bw_311 : Cond.selects RX9 yX9_usable yX9_usable ∈ gT := gT_tb 926 (by decide +kernel) (by decide +kernel)
theorem bw_312 : Cond.code yX11_may cX11_may 4 (some .int) ∈ gT := gT_tb 920 (by decide +kernel) (by decide +kernel)
theorem dX11_may_0 : decode cX11_may 0 = .ok (.aload_n 0, 1) := by decide +kernel
theorem dX11_may_1 : decode cX11_may 1 = .ok (.getfield 32, 3) := by decide +kernel
theorem dX11_may_4 : decode cX11_may 4 = .ok (.aload_n 0, 1) := by decide +kernel
theorem dX11_may_5 : decode cX11_may 5 = .ok (.getfield 84, 3) := by decide +kernel
theorem dX11_may_8 : decode cX11_may 8 = .ok (.aaload, 1) := by decide +kernel
theorem dX11_may_9 : decode cX11_may 9 = .ok (.astore_n 3, 1) := by decide +kernel
theorem dX11_may_10 : decode cX11_may 10 = .ok (.aload_n 3, 1) := by decide +kernel
theorem dX11_may_11 : decode cX11_may 11 = .ok (.iload_n 1, 1) := by decide +kernel
theorem dX11_may_12 : decode cX11_may 12 = .ok (.invokevirtual 132, 3) := by decide +kernel
theorem dX11_may_15 : decode cX11_may 15 = .ok (.ifCond .eq 10, 3) := by decide +kernel
theorem dX11_may_18 : decode cX11_may 18 = .ok (.iload_n 2, 1) := by decide +kernel
theorem dX11_may_19 : decode cX11_may 19 = .ok (.invokestatic 193, 3) := by decide +kernel
theorem dX11_may_22 : decode cX11_may 22 = .ok (.ifCond .ne 5, 3) := by decide +kernel
theorem dX11_may_25 : decode cX11_may 25 = .ok (.iconst (-1), 1) := by decide +kernel
theorem dX11_may_26 : decode cX11_may 26 = .ok (.ireturn, 1) := by decide +kernel
theorem dX11_may_27 : decode cX11_may 27 = .ok (.aload_n 3, 1) := by decide +kernel
theorem dX11_may_28 : decode cX11_may 28 = .ok (.aload_n 0, 1) := by decide +kernel
theorem dX11_may_29 : decode cX11_may 29 = .ok (.getfield 23, 3) := by decide +kernel
theorem dX11_may_32 : decode cX11_may 32 = .ok (.iload_n 1, 1) := by decide +kernel
theorem dX11_may_33 : decode cX11_may 33 = .ok (.iload_n 2, 1) := by decide +kernel
theorem dX11_may_34 : decode cX11_may 34 = .ok (.invokevirtual 196, 3) := by decide +kernel
theorem dX11_may_37 : decode cX11_may 37 = .ok (.ireturn, 1) := by decide +kernel
set_option maxHeartbeats 4000000 in
set_option maxRecDepth 100000 in
theorem s_X11_may (l : Launch) (g : GG) (sz : Nat) (x : Nat) (xtape : Nat) (xtapeLength : Int32) (xreader : Nat) (xland : Nat) (xspareLand : Nat) (xstates : Nat) (Fxstates : Nat → Option Nat) (xcurrent : Int32) (xnewest : Int32) (xboxes : Nat) (xfullBoxes : Int32) (xsearch : Nat) (xsights : Nat) (xparting : Nat) (xheap : Nat) (dduels : Int32) (dduelSides : Nat) (dduelMornings : Nat) (dhonour : Int32) (ddraw : Int32) (dusesOfKind : Nat) (dmen : Nat) (dmen_count : Int32) (dmen_names : Nat) (dmen_dies : Nat) (Fdmen_dies : Nat → Int32) (dmen_coins : Nat) (dmen_fathers : Nat) (dformulas : Nat) (dreasons : Nat) (dreasons_count : Int32) (dreasons_names : Nat) (dreasons_kinds : Nat) (dreasons_owners : Nat) (Fdreasons_owners : Nat → Int32) (dreasons_froms : Nat) (Fdreasons_froms : Nat → Int32) (dreasons_tos : Nat) (Fdreasons_tos : Nat → Int32) (dreasons_rents : Nat) (dreasons_sorts : Nat) (Fdreasons_sorts : Nat → Int32) (st : Nat) (sday : Int32) (sseed : Int32) (salive : Int32) (sstruck : Int32) (sopen : Int32) (sduels : Int32) (slines : Int32) (scoins : Nat) (srented : Nat) (Fsrented : Nat → Int32) (smornings : Nat) (Fsmornings : Nat → Int32) (shonours : Nat) (sused : Nat) (Fsused : Nat → Int32) (ssides : Nat) (Fssides : Nat → Int32) (slog : Nat) (p0 : Int32) (p1 : Int32) (hh0 : 0 ≤ xtapeLength.toInt ∧ xtapeLength.toInt ≤ 1600) (hh1 : 0 ≤ xcurrent.toInt ∧ xcurrent.toInt ≤ 40) (hh2 : 0 ≤ xnewest.toInt ∧ xnewest.toInt ≤ 40) (hh3 : 0 ≤ dduels.toInt ∧ dduels.toInt ≤ 6) (hh5 : 0 ≤ ddraw.toInt ∧ ddraw.toInt ≤ 999) (hh6 : 0 ≤ dmen_count.toInt ∧ dmen_count.toInt ≤ 6) (hh12 : 0 ≤ dreasons_count.toInt ∧ dreasons_count.toInt ≤ 8) (hh14 : Rg 8 (-1) 5 Fdreasons_owners) (hh15 : 0 ≤ sseed.toInt ∧ sseed.toInt ≤ 999) (hh16 : 0 ≤ sduels.toInt ∧ sduels.toInt ≤ 8) (hh17 : 0 ≤ slines.toInt ∧ slines.toInt ≤ 60) (hh18 : Rg 16 0 5 Fssides) (ho : Fxstates xcurrent.toNatClampNeg = some st) : Met l yX11_may (.code yX11_may cX11_may 4 (some .int) :: gT) ({ frames := 6, cells := 0, slots := 0, locals := 141 }) (va_Pc [.ref x, .int p0, .int p1] (Pst g sz [(x, .inr (11, [.ref xtape, .int xtapeLength, .ref xreader, .ref xland, .ref xspareLand, .ref xstates, .int xcurrent, .int xnewest, .ref xboxes, .int xfullBoxes, .ref xsearch, .ref xsights, .ref xparting, .ref xheap])), (xstates, aO g 41 Fxstates), (xland, .inr (2, [.ref dmen, .ref dformulas, .ref dreasons, .int dduels, .ref dduelSides, .ref dduelMornings, .int dhonour, .int ddraw, .ref dusesOfKind])), (dmen, .inr (3, [.int dmen_count, .ref dmen_names, .ref dmen_dies, .ref dmen_coins, .ref dmen_fathers])), (dmen_dies, aI g 6 Fdmen_dies), (dreasons, .inr (6, [.int dreasons_count, .ref dreasons_names, .ref dreasons_kinds, .ref dreasons_owners, .ref dreasons_froms, .ref dreasons_tos, .ref dreasons_rents, .ref dreasons_sorts])), (dreasons_owners, aI g 8 Fdreasons_owners), (dreasons_froms, aI g 8 Fdreasons_froms), (dreasons_tos, aI g 8 Fdreasons_tos), (dreasons_sorts, aI g 8 Fdreasons_sorts), (st, .inr (9, [.int sday, .int sseed, .int salive, .int sstruck, .int sopen, .int sduels, .int slines, .ref scoins, .ref srented, .ref smornings, .ref shonours, .ref sused, .ref ssides, .ref slog])), (srented, aI g 6 Fsrented), (smornings, aI g 8 Fsmornings), (sused, aI g 8 Fsused), (ssides, aI g 16 Fssides)] nX)) (va_Qi (fun (r : Int32) => fun (_ : Unit) => True) (Qst g [] sz (fun _ => [])) (va_A [] sz)) 0 0 (va_A [] sz) := by
  refine Met.ofW (cc := cX11_may) (maxL := 4) (ret := (some .int)) (by decide) rfl ?_
  intro p e s m args below meth c s₁ B hml hv
  obtain ⟨rfl, hsz, hP, hK, hD0, hX⟩ := hv
  have hx := B.exec
  have hb := B.bytes
  have hr := B.returns
  have hT : ∀ w ∈ gT, w.before _ s = true := fun w h => atoms_spec (ws := .code yX11_may cX11_may 4 (some .int) :: gT) B.pre w (List.mem_cons_of_mem _ h)
  have hown : s.vm.findClass RX11 = some m.cls := findClass_of_methodNamed B.named
  have hlocks := B.notSynchronized
  subst hsz
  have hD := hD0
  generalize hAe : va_A [] s.heap.size = A at ⊢
  have hA : ∀ q : Nat, s.heap.size ≤ q → A q := fun q h => by rw [← hAe]; exact Or.inr h
  have hS : va_S A s.heap s.heap [] := va_S.rf
  have hl := lv_entry ([.ref x, .int p0, .int p1]) (n := 4) (Nat.le_of_ble_eq_true rfl)
  rw [lg_entry_eq]
  generalize (lg_sl ([.ref x, .int p0, .int p1]) ++ List.replicate (4 - (lg_sl ([.ref x, .int p0, .int p1])).length) Slot.unset).toArray = ls at hl ⊢
  have hl : lv_has ls 4 [(0, .ref x), (1, .int p0), (2, .int p1)] := hl
  refine p_nH (fun H hH => ?_)
  have hP : va_P g.1 vwCl [(x, .inr (11, [.ref xtape, .int xtapeLength, .ref xreader, .ref xland, .ref xspareLand, .ref xstates, .int xcurrent, .int xnewest, .ref xboxes, .int xfullBoxes, .ref xsearch, .ref xsights, .ref xparting, .ref xheap])), (xstates, aO g 41 Fxstates), (xland, .inr (2, [.ref dmen, .ref dformulas, .ref dreasons, .int dduels, .ref dduelSides, .ref dduelMornings, .int dhonour, .int ddraw, .ref dusesOfKind])), (dmen, .inr (3, [.int dmen_count, .ref dmen_names, .ref dmen_dies, .ref dmen_coins, .ref dmen_fathers])), (dmen_dies, aI g 6 Fdmen_dies), (dreasons, .inr (6, [.int dreasons_count, .ref dreasons_names, .ref dreasons_kinds, .ref dreasons_owners, .ref dreasons_froms, .ref dreasons_tos, .ref dreasons_rents, .ref dreasons_sorts])), (dreasons_owners, aI g 8 Fdreasons_owners), (dreasons_froms, aI g 8 Fdreasons_froms), (dreasons_tos, aI g 8 Fdreasons_tos), (dreasons_sorts, aI g 8 Fdreasons_sorts), (st, .inr (9, [.int sday, .int sseed, .int salive, .int sstruck, .int sopen, .int sduels, .int slines, .ref scoins, .ref srented, .ref smornings, .ref shonours, .ref sused, .ref ssides, .ref slog])), (srented, aI g 6 Fsrented), (smornings, aI g 8 Fsmornings), (sused, aI g 8 Fsused), (ssides, aI g 16 Fssides)] H := by rw [hH]; exact hP
  have hS : va_S A s.heap H [] := by rw [hH]; exact hS
  refine lv_aload_n hx hb dX11_may_0 rfl (lv_at hl 0 rfl) ?_
  refine va_get (D := g.1) (ci := 11) (v := .ref xstates) (C := RX11) (T := TX11) (N := 14) hx hb hT inF_X11 hown hK.1 hP 0 rfl rfl 5 (by decide) (hT _ bw_275) (fun _ h9 => h9) rfl dX11_may_1 ?_
  refine lv_aload_n hx hb dX11_may_4 rfl (lv_at hl 0 rfl) ?_
  refine va_get (D := g.1) (ci := 11) (v := .int xcurrent) (C := RX11) (T := TX11) (N := 14) hx hb hT inF_X11 hown hK.1 hP 0 rfl rfl 6 (by decide) (hT _ bw_276) (fun _ h9 => h9) rfl dX11_may_5 ?_
  have h_1 : vp_in xcurrent 41 := vp_in_iff.mpr (by omega)
  refine va_aldq hx hb hK.1 hP 1 4 rfl rfl (i := xcurrent) h_1 dX11_may_8 ?_
  refine p_tr (x := st) (by rw [ho]; rfl) ?_
  refine lv_astore_n (lv' := [(3, .ref st), (0, .ref x), (1, .int p0), (2, .int p1)]) hx hb dX11_may_9 rfl hl (by decide) rfl (fun ls hl => ?_)
  refine lv_aload_n hx hb dX11_may_10 rfl (lv_at hl 0 rfl) ?_
  refine lv_iload_n hx hb dX11_may_11 rfl (lv_at hl 2 rfl) ?_
  refine k_iR (k_V (n := 1) ⟨hx, hb, hml, hown, hT⟩ hK hP hD [10] rfl (by decide +kernel) (s_X9_hasDuel l g H.size st sday sseed salive sstruck sopen sduels slines scoins srented smornings shonours sused ssides slog p0 (by first | with_reducible assumption | omega) (by first | with_reducible assumption | omega) (by first | with_reducible assumption | omega)) (gV bw_283 bw_284 bw_285 bw_46 bw_34) rfl rfl (by decide +kernel) ⟨by decide, by decide⟩ (ci := 9) (q0 := 0) rfl rfl (fun _ _ _ _ _ => trivial) (fun _ _ _ => trivial) rfl rfl hl.1 (Nat.le_of_ble_eq_true rfl) dX11_may_12 ⟨by decide, by decide⟩) hP hS hA (fun r_2 _ H locs hw0 hP hS => ?_)
  have hw : (r_2 = 1 ∧ (0 ≤ p0.toInt ∧ p0.toInt < sduels.toInt)) ∨ (r_2 = 0) := hw0
  clear hw0
  rcases hw with ⟨e_4, w_3⟩ | e_5
  · subst e_4
    refine lv_if_eq (tgt := 25) hx hb dX11_may_15 (by decide) (fun c9 => absurd c9 (by decide)) (fun _ => ?_)
    refine lv_iload_n hx hb dX11_may_18 rfl (lv_at hl 3 rfl) ?_
    refine k_iR (k_S (n := 1) ⟨hx, hb, hml, hown, hT⟩ hK hP hD [] rfl (by decide +kernel) (s_X11_isSide l g H.size p1) (gS bw_306 bw_307 bw_308 bw_268) rfl rfl (by decide +kernel) ⟨by decide, by decide⟩ (fun _ _ _ _ _ => trivial) (fun _ _ _ => trivial) rfl rfl hl.1 (Nat.le_of_ble_eq_true rfl) dX11_may_19 ⟨by decide, by decide⟩) hP hS hA (fun r_6 _ H locs hw0 hP hS => ?_)
    have hw : (r_6 = 1 ∧ (0 ≤ p1.toInt ∧ p1.toInt ≤ 1)) ∨ (r_6 = 0) := hw0
    clear hw0
    rcases hw with ⟨e_8, w_7⟩ | e_9
    · subst e_8
      refine lv_if_ne (tgt := 27) hx hb dX11_may_22 (by decide) (fun _ => ?_) (fun c9 => absurd c9 (by decide))
      refine lv_aload_n hx hb dX11_may_27 rfl (lv_at hl 0 rfl) ?_
      refine lv_aload_n hx hb dX11_may_28 rfl (lv_at hl 1 rfl) ?_
      refine va_get (D := g.1) (ci := 11) (v := .ref xland) (C := RX11) (T := TX11) (N := 14) hx hb hT inF_X11 hown hK.1 hP 0 rfl rfl 3 (by decide) (hT _ bw_269) (fun _ h9 => h9) rfl dX11_may_29 ?_
      refine lv_iload_n hx hb dX11_may_32 rfl (lv_at hl 2 rfl) ?_
      refine lv_iload_n hx hb dX11_may_33 rfl (lv_at hl 3 rfl) ?_
      refine k_iR (k_V (n := 3) ⟨hx, hb, hml, hown, hT⟩ hK hP hD [10, 11, 12, 13, 14, 2, 3, 4, 5, 6, 7, 8, 9] rfl (by decide +kernel) (s_X9_usable l g H.size st sday sseed salive sstruck sopen sduels slines scoins srented Fsrented smornings Fsmornings shonours sused Fsused ssides Fssides slog xland dduels dduelSides dduelMornings dhonour ddraw dusesOfKind dmen dmen_count dmen_names dmen_dies Fdmen_dies dmen_coins dmen_fathers dformulas dreasons dreasons_count dreasons_names dreasons_kinds dreasons_owners Fdreasons_owners dreasons_froms Fdreasons_froms dreasons_tos Fdreasons_tos dreasons_rents dreasons_sorts Fdreasons_sorts p0 p1 (by first | with_reducible assumption | omega) (by first | with_reducible assumption | omega) (by first | with_reducible assumption | omega) hh18 (by first | with_reducible assumption | omega) (by first | with_reducible assumption | omega) (by first | with_reducible assumption | omega) (by first | with_reducible assumption | omega) hh14 (by first | with_reducible assumption | omega) (by first | with_reducible assumption | omega)) (gV bw_309 bw_310 bw_311 bw_46 bw_197) rfl rfl (by decide +kernel) ⟨by decide, by decide⟩ (ci := 9) (q0 := 0) rfl rfl (fun _ _ _ _ _ => trivial) (fun _ _ _ => trivial) rfl rfl hl.1 (Nat.le_of_ble_eq_true rfl) dX11_may_34 ⟨by decide, by decide⟩) hP hS hA (fun r_10 _ H locs hw0 hP hS => ?_)
      have hP9 : va_P g.1 vwCl [] H := hP.sub [] rfl
      have hD9 : va_D A [] := ⟨fun i j p q h => by simp at h, fun k q h => by simp at h⟩
      exact W.iret (v := r_10) hx hb hr (fun t ht hW => ⟨⟨r_10, (), rfl, trivial, by rw [ht]; exact hP9, by rw [hAe]; exact hD9⟩, hS.F ht⟩) hS.2.2 dX11_may_37
    · subst e_9
      refine lv_if_ne (tgt := 27) hx hb dX11_may_22 (by decide) (fun c9 => absurd (by decide) c9) (fun _ => ?_)
      refine lv_iconst (v := (-1)) hx hb dX11_may_25 (by decide) ?_
      have hP9 : va_P g.1 vwCl [] H := hP.sub [] rfl
      have hD9 : va_D A [] := ⟨fun i j p q h => by simp at h, fun k q h => by simp at h⟩
      exact W.iret (v := (-1)) hx hb hr (fun t ht hW => ⟨⟨(-1), (), rfl, trivial, by rw [ht]; exact hP9, by rw [hAe]; exact hD9⟩, hS.F ht⟩) hS.2.2 dX11_may_26
  · subst e_5
    refine lv_if_eq (tgt := 25) hx hb dX11_may_15 (by decide) (fun _ => ?_) (fun c9 => absurd (by decide) c9)
    refine lv_iconst (v := (-1)) hx hb dX11_may_25 (by decide) ?_
    have hP9 : va_P g.1 vwCl [] H := hP.sub [] rfl
    have hD9 : va_D A [] := ⟨fun i j p q h => by simp at h, fun k q h => by simp at h⟩
    exact W.iret (v := (-1)) hx hb hr (fun t ht hW => ⟨⟨(-1), (), rfl, trivial, by rw [ht]; exact hP9, by rw [hAe]; exact hD9⟩, hS.F ht⟩) hS.2.2 dX11_may_26

theorem bw_313 : Cond.methodLink RX11 200 yX9_firstOpen ∈ gT := gT_tb 957 (by decide +kernel) (by decide +kernel)
theorem bw_314 : Cond.instanceMethod yX9_firstOpen ∈ gT := gT_tb 958 (by decide +kernel) (by decide +kernel)
theorem bw_315 : Cond.selects RX9 yX9_firstOpen yX9_firstOpen ∈ gT := gT_tb 959 (by decide +kernel) (by decide +kernel)
theorem bw_316 : Cond.code yX11_next cX11_next 4 (some .int) ∈ gT := gT_tb 956 (by decide +kernel) (by decide +kernel)
theorem dX11_next_0 : decode cX11_next 0 = .ok (.aload_n 0, 1) := by decide +kernel
theorem dX11_next_1 : decode cX11_next 1 = .ok (.getfield 32, 3) := by decide +kernel
theorem dX11_next_4 : decode cX11_next 4 = .ok (.aload_n 0, 1) := by decide +kernel
theorem dX11_next_5 : decode cX11_next 5 = .ok (.getfield 84, 3) := by decide +kernel
theorem dX11_next_8 : decode cX11_next 8 = .ok (.aaload, 1) := by decide +kernel
theorem dX11_next_9 : decode cX11_next 9 = .ok (.astore_n 2, 1) := by decide +kernel
theorem dX11_next_10 : decode cX11_next 10 = .ok (.aload_n 2, 1) := by decide +kernel
theorem dX11_next_11 : decode cX11_next 11 = .ok (.invokevirtual 200, 3) := by decide +kernel
theorem dX11_next_14 : decode cX11_next 14 = .ok (.istore_n 3, 1) := by decide +kernel
theorem dX11_next_15 : decode cX11_next 15 = .ok (.iload_n 3, 1) := by decide +kernel
theorem dX11_next_16 : decode cX11_next 16 = .ok (.iconst (-1), 1) := by decide +kernel
theorem dX11_next_17 : decode cX11_next 17 = .ok (.if_icmp .ne 5, 3) := by decide +kernel
theorem dX11_next_20 : decode cX11_next 20 = .ok (.iconst (-1), 1) := by decide +kernel
theorem dX11_next_21 : decode cX11_next 21 = .ok (.ireturn, 1) := by decide +kernel
theorem dX11_next_22 : decode cX11_next 22 = .ok (.iload_n 1, 1) := by decide +kernel
theorem dX11_next_23 : decode cX11_next 23 = .ok (.lookupswitch 34 #[(0, 25), (1, 32)], 25) := by decide +kernel
theorem dX11_next_48 : decode cX11_next 48 = .ok (.aload_n 2, 1) := by decide +kernel
theorem dX11_next_49 : decode cX11_next 49 = .ok (.getfield 139, 3) := by decide +kernel
theorem dX11_next_52 : decode cX11_next 52 = .ok (.iload_n 3, 1) := by decide +kernel
theorem dX11_next_53 : decode cX11_next 53 = .ok (.iaload, 1) := by decide +kernel
theorem dX11_next_54 : decode cX11_next 54 = .ok (.ireturn, 1) := by decide +kernel
theorem dX11_next_55 : decode cX11_next 55 = .ok (.iload_n 3, 1) := by decide +kernel
theorem dX11_next_56 : decode cX11_next 56 = .ok (.ireturn, 1) := by decide +kernel
theorem dX11_next_57 : decode cX11_next 57 = .ok (.iconst (-1), 1) := by decide +kernel
theorem dX11_next_58 : decode cX11_next 58 = .ok (.ireturn, 1) := by decide +kernel
set_option maxHeartbeats 4000000 in
set_option maxRecDepth 100000 in
theorem s_X11_next (l : Launch) (g : GG) (sz : Nat) (x : Nat) (xtape : Nat) (xtapeLength : Int32) (xreader : Nat) (xland : Nat) (xspareLand : Nat) (xstates : Nat) (Fxstates : Nat → Option Nat) (xcurrent : Int32) (xnewest : Int32) (xboxes : Nat) (xfullBoxes : Int32) (xsearch : Nat) (xsights : Nat) (xparting : Nat) (xheap : Nat) (st : Nat) (sday : Int32) (sseed : Int32) (salive : Int32) (sstruck : Int32) (sopen : Int32) (sduels : Int32) (slines : Int32) (scoins : Nat) (srented : Nat) (smornings : Nat) (Fsmornings : Nat → Int32) (shonours : Nat) (sused : Nat) (ssides : Nat) (slog : Nat) (p0 : Int32) (hh0 : 0 ≤ xtapeLength.toInt ∧ xtapeLength.toInt ≤ 1600) (hh1 : 0 ≤ xcurrent.toInt ∧ xcurrent.toInt ≤ 40) (hh2 : 0 ≤ xnewest.toInt ∧ xnewest.toInt ≤ 40) (hh15 : 0 ≤ sseed.toInt ∧ sseed.toInt ≤ 999) (hh16 : 0 ≤ sduels.toInt ∧ sduels.toInt ≤ 8) (hh17 : 0 ≤ slines.toInt ∧ slines.toInt ≤ 60) (ho : Fxstates xcurrent.toNatClampNeg = some st) : Met l yX11_next (.code yX11_next cX11_next 4 (some .int) :: gT) ({ frames := 2, cells := 0, slots := 0, locals := 43 }) (va_Pc [.ref x, .int p0] (Pst g sz [(x, .inr (11, [.ref xtape, .int xtapeLength, .ref xreader, .ref xland, .ref xspareLand, .ref xstates, .int xcurrent, .int xnewest, .ref xboxes, .int xfullBoxes, .ref xsearch, .ref xsights, .ref xparting, .ref xheap])), (xstates, aO g 41 Fxstates), (st, .inr (9, [.int sday, .int sseed, .int salive, .int sstruck, .int sopen, .int sduels, .int slines, .ref scoins, .ref srented, .ref smornings, .ref shonours, .ref sused, .ref ssides, .ref slog])), (smornings, aI g 8 Fsmornings)] nX)) (va_Qi (fun (r : Int32) => fun (_ : Unit) => True) (Qst g [] sz (fun _ => [])) (va_A [] sz)) 0 0 (va_A [] sz) := by
  refine Met.ofW (cc := cX11_next) (maxL := 4) (ret := (some .int)) (by decide) rfl ?_
  intro p e s m args below meth c s₁ B hml hv
  obtain ⟨rfl, hsz, hP, hK, hD0, hX⟩ := hv
  have hx := B.exec
  have hb := B.bytes
  have hr := B.returns
  have hT : ∀ w ∈ gT, w.before _ s = true := fun w h => atoms_spec (ws := .code yX11_next cX11_next 4 (some .int) :: gT) B.pre w (List.mem_cons_of_mem _ h)
  have hown : s.vm.findClass RX11 = some m.cls := findClass_of_methodNamed B.named
  have hlocks := B.notSynchronized
  subst hsz
  have hD := hD0
  generalize hAe : va_A [] s.heap.size = A at ⊢
  have hA : ∀ q : Nat, s.heap.size ≤ q → A q := fun q h => by rw [← hAe]; exact Or.inr h
  have hS : va_S A s.heap s.heap [] := va_S.rf
  have hl := lv_entry ([.ref x, .int p0]) (n := 4) (Nat.le_of_ble_eq_true rfl)
  rw [lg_entry_eq]
  generalize (lg_sl ([.ref x, .int p0]) ++ List.replicate (4 - (lg_sl ([.ref x, .int p0])).length) Slot.unset).toArray = ls at hl ⊢
  have hl : lv_has ls 4 [(0, .ref x), (1, .int p0)] := hl
  refine p_nH (fun H hH => ?_)
  have hP : va_P g.1 vwCl [(x, .inr (11, [.ref xtape, .int xtapeLength, .ref xreader, .ref xland, .ref xspareLand, .ref xstates, .int xcurrent, .int xnewest, .ref xboxes, .int xfullBoxes, .ref xsearch, .ref xsights, .ref xparting, .ref xheap])), (xstates, aO g 41 Fxstates), (st, .inr (9, [.int sday, .int sseed, .int salive, .int sstruck, .int sopen, .int sduels, .int slines, .ref scoins, .ref srented, .ref smornings, .ref shonours, .ref sused, .ref ssides, .ref slog])), (smornings, aI g 8 Fsmornings)] H := by rw [hH]; exact hP
  have hS : va_S A s.heap H [] := by rw [hH]; exact hS
  refine lv_aload_n hx hb dX11_next_0 rfl (lv_at hl 0 rfl) ?_
  refine va_get (D := g.1) (ci := 11) (v := .ref xstates) (C := RX11) (T := TX11) (N := 14) hx hb hT inF_X11 hown hK.1 hP 0 rfl rfl 5 (by decide) (hT _ bw_275) (fun _ h9 => h9) rfl dX11_next_1 ?_
  refine lv_aload_n hx hb dX11_next_4 rfl (lv_at hl 0 rfl) ?_
  refine va_get (D := g.1) (ci := 11) (v := .int xcurrent) (C := RX11) (T := TX11) (N := 14) hx hb hT inF_X11 hown hK.1 hP 0 rfl rfl 6 (by decide) (hT _ bw_276) (fun _ h9 => h9) rfl dX11_next_5 ?_
  have h_1 : vp_in xcurrent 41 := vp_in_iff.mpr (by omega)
  refine va_aldq hx hb hK.1 hP 1 4 rfl rfl (i := xcurrent) h_1 dX11_next_8 ?_
  refine p_tr (x := st) (by rw [ho]; rfl) ?_
  refine lv_astore_n (lv' := [(2, .ref st), (0, .ref x), (1, .int p0)]) hx hb dX11_next_9 rfl hl (by decide) rfl (fun ls hl => ?_)
  refine lv_aload_n hx hb dX11_next_10 rfl (lv_at hl 0 rfl) ?_
  refine k_iR (k_V (n := 0) ⟨hx, hb, hml, hown, hT⟩ hK hP hD [2, 3] rfl (by decide +kernel) (s_X9_firstOpen l g H.size st sday sseed salive sstruck sopen sduels slines scoins srented smornings Fsmornings shonours sused ssides slog (by first | with_reducible assumption | omega) (by first | with_reducible assumption | omega) (by first | with_reducible assumption | omega)) (gV bw_313 bw_314 bw_315 bw_46 bw_52) rfl rfl (by decide +kernel) ⟨by decide, by decide⟩ (ci := 9) (q0 := 0) rfl rfl (fun _ _ _ _ _ => trivial) (fun _ _ _ => trivial) rfl rfl hl.1 (Nat.le_of_ble_eq_true rfl) dX11_next_11 ⟨by decide, by decide⟩) hP hS hA (fun r_2 _ H locs hw0 hP hS => ?_)
  have hw : (-1) ≤ r_2.toInt ∧ r_2.toInt ≤ 7 := hw0
  clear hw0
  have w_3 := hw
  refine lv_istore_n (lv' := [(3, .int r_2), (2, .ref st), (0, .ref x), (1, .int p0)]) hx hb dX11_next_14 rfl hl (by decide) rfl (fun ls hl => ?_)
  refine lv_iload_n hx hb dX11_next_15 rfl (lv_at hl 0 rfl) ?_
  refine lv_iconst (v := (-1)) hx hb dX11_next_16 (by decide) ?_
  refine lv_icmp_ne (tgt := 22) hx hb dX11_next_17 (by decide) (fun c_4 => ?_) (fun c_4 => ?_)
  · have f_5 := E_ne (rfl : r_2.toInt = _) (by decide : ((-1) : Int32).toInt = (-1)) c_4
    refine lv_iload_n hx hb dX11_next_22 rfl (lv_at hl 3 rfl) ?_
    rcases tsplit p0 2 (by decide) with h_6 | ⟨j, hj, eh_6⟩
    · refine lv_lookup (tgt := 57) hx hb dX11_next_23 (by decide) (off := 34) (by have k0 : ¬ (0 : Int) = p0.toInt := (by omega); have k1 : ¬ (1 : Int) = p0.toInt := (by omega); simp [Op.lookupswitch.offset, k0, k1]) (by decide) ?_
      refine lv_iconst (v := (-1)) hx hb dX11_next_57 (by decide) ?_
      have hP9 : va_P g.1 vwCl [] H := hP.sub [] rfl
      have hD9 : va_D A [] := ⟨fun i j p q h => by simp at h, fun k q h => by simp at h⟩
      exact W.iret (v := (-1)) hx hb hr (fun t ht hW => ⟨⟨(-1), (), rfl, trivial, by rw [ht]; exact hP9, by rw [hAe]; exact hD9⟩, hS.F ht⟩) hS.2.2 dX11_next_58
    · rcases (show j = 0 ∨ j = 1 by omega) with rfl | rfl
      · obtain rfl : p0 = 0 := eh_6
        refine lv_lookup (tgt := 48) hx hb dX11_next_23 (by decide) (off := 25) (by decide) (by decide) ?_
        refine lv_aload_n hx hb dX11_next_48 rfl (lv_at hl 1 rfl) ?_
        refine va_get (D := g.1) (ci := 9) (v := .ref smornings) (C := RX9) (T := TX9) (N := 14) hx hb hT inF_X9 hown hK.1 hP 2 rfl rfl 9 (by decide) (hT _ bw_287) (fun _ h9 => h9) rfl dX11_next_49 ?_
        refine lv_iload_n hx hb dX11_next_52 rfl (lv_at hl 0 rfl) ?_
        have h_7 : vp_in r_2 8 := vp_in_iff.mpr (by omega)
        refine va_iald hx hb hK.1 hP 3 1 rfl rfl (i := r_2) h_7 dX11_next_53 ?_
        refine lv_topi (fun x_8 ex_8 => ?_)
        have ux_8 := congrArg Int32.toInt ex_8
        have hP9 : va_P g.1 vwCl [] H := hP.sub [] rfl
        have hD9 : va_D A [] := ⟨fun i j p q h => by simp at h, fun k q h => by simp at h⟩
        exact W.iret (v := x_8) hx hb hr (fun t ht hW => ⟨⟨x_8, (), rfl, trivial, by rw [ht]; exact hP9, by rw [hAe]; exact hD9⟩, hS.F ht⟩) hS.2.2 dX11_next_54
      · obtain rfl : p0 = 1 := eh_6
        refine lv_lookup (tgt := 55) hx hb dX11_next_23 (by decide) (off := 32) (by decide) (by decide) ?_
        refine lv_iload_n hx hb dX11_next_55 rfl (lv_at hl 0 rfl) ?_
        have hP9 : va_P g.1 vwCl [] H := hP.sub [] rfl
        have hD9 : va_D A [] := ⟨fun i j p q h => by simp at h, fun k q h => by simp at h⟩
        exact W.iret (v := r_2) hx hb hr (fun t ht hW => ⟨⟨r_2, (), rfl, trivial, by rw [ht]; exact hP9, by rw [hAe]; exact hD9⟩, hS.F ht⟩) hS.2.2 dX11_next_56
  · have f_9 := E_eq (rfl : r_2.toInt = _) (by decide : ((-1) : Int32).toInt = (-1)) c_4
    refine lv_iconst (v := (-1)) hx hb dX11_next_20 (by decide) ?_
    have hP9 : va_P g.1 vwCl [] H := hP.sub [] rfl
    have hD9 : va_D A [] := ⟨fun i j p q h => by simp at h, fun k q h => by simp at h⟩
    exact W.iret (v := (-1)) hx hb hr (fun t ht hW => ⟨⟨(-1), (), rfl, trivial, by rw [ht]; exact hP9, by rw [hAe]; exact hD9⟩, hS.F ht⟩) hS.2.2 dX11_next_21

theorem bw_317 : Cond.methodLink RX11 204 yX9_heirOf ∈ gT := gT_tb 965 (by decide +kernel) (by decide +kernel)
theorem bw_318 : Cond.code yX11_heir cX11_heir 2 (some .int) ∈ gT := gT_tb 964 (by decide +kernel) (by decide +kernel)
theorem dX11_heir_0 : decode cX11_heir 0 = .ok (.aload_n 0, 1) := by decide +kernel
theorem dX11_heir_1 : decode cX11_heir 1 = .ok (.getfield 23, 3) := by decide +kernel
theorem dX11_heir_4 : decode cX11_heir 4 = .ok (.getfield 97, 3) := by decide +kernel
theorem dX11_heir_7 : decode cX11_heir 7 = .ok (.iload_n 1, 1) := by decide +kernel
theorem dX11_heir_8 : decode cX11_heir 8 = .ok (.invokevirtual 112, 3) := by decide +kernel
theorem dX11_heir_11 : decode cX11_heir 11 = .ok (.ifCond .eq 23, 3) := by decide +kernel
theorem dX11_heir_14 : decode cX11_heir 14 = .ok (.aload_n 0, 1) := by decide +kernel
theorem dX11_heir_15 : decode cX11_heir 15 = .ok (.getfield 32, 3) := by decide +kernel
theorem dX11_heir_18 : decode cX11_heir 18 = .ok (.aload_n 0, 1) := by decide +kernel
theorem dX11_heir_19 : decode cX11_heir 19 = .ok (.getfield 84, 3) := by decide +kernel
theorem dX11_heir_22 : decode cX11_heir 22 = .ok (.aaload, 1) := by decide +kernel
theorem dX11_heir_23 : decode cX11_heir 23 = .ok (.aload_n 0, 1) := by decide +kernel
theorem dX11_heir_24 : decode cX11_heir 24 = .ok (.getfield 23, 3) := by decide +kernel
theorem dX11_heir_27 : decode cX11_heir 27 = .ok (.iload_n 1, 1) := by decide +kernel
theorem dX11_heir_28 : decode cX11_heir 28 = .ok (.invokevirtual 204, 3) := by decide +kernel
theorem dX11_heir_31 : decode cX11_heir 31 = .ok (.goto 4, 3) := by decide +kernel
theorem dX11_heir_34 : decode cX11_heir 34 = .ok (.iconst (-1), 1) := by decide +kernel
theorem dX11_heir_35 : decode cX11_heir 35 = .ok (.ireturn, 1) := by decide +kernel
set_option maxHeartbeats 4000000 in
set_option maxRecDepth 100000 in
theorem s_X11_heir (l : Launch) (g : GG) (sz : Nat) (x : Nat) (xtape : Nat) (xtapeLength : Int32) (xreader : Nat) (xland : Nat) (xspareLand : Nat) (xstates : Nat) (Fxstates : Nat → Option Nat) (xcurrent : Int32) (xnewest : Int32) (xboxes : Nat) (xfullBoxes : Int32) (xsearch : Nat) (xsights : Nat) (xparting : Nat) (xheap : Nat) (dduels : Int32) (dduelSides : Nat) (dduelMornings : Nat) (dhonour : Int32) (ddraw : Int32) (dusesOfKind : Nat) (dmen : Nat) (dmen_count : Int32) (dmen_names : Nat) (dmen_dies : Nat) (dmen_coins : Nat) (dmen_fathers : Nat) (Fdmen_fathers : Nat → Int32) (dformulas : Nat) (dreasons : Nat) (st : Nat) (sday : Int32) (sseed : Int32) (salive : Int32) (sstruck : Int32) (sopen : Int32) (sduels : Int32) (slines : Int32) (scoins : Nat) (srented : Nat) (smornings : Nat) (shonours : Nat) (sused : Nat) (ssides : Nat) (slog : Nat) (p0 : Int32) (hh0 : 0 ≤ xtapeLength.toInt ∧ xtapeLength.toInt ≤ 1600) (hh1 : 0 ≤ xcurrent.toInt ∧ xcurrent.toInt ≤ 40) (hh2 : 0 ≤ xnewest.toInt ∧ xnewest.toInt ≤ 40) (hh3 : 0 ≤ dduels.toInt ∧ dduels.toInt ≤ 6) (hh5 : 0 ≤ ddraw.toInt ∧ ddraw.toInt ≤ 999) (hh6 : 0 ≤ dmen_count.toInt ∧ dmen_count.toInt ≤ 6) (hh15 : 0 ≤ sseed.toInt ∧ sseed.toInt ≤ 999) (hh16 : 0 ≤ sduels.toInt ∧ sduels.toInt ≤ 8) (hh17 : 0 ≤ slines.toInt ∧ slines.toInt ≤ 60) (ho : Fxstates xcurrent.toNatClampNeg = some st) : Met l yX11_heir (.code yX11_heir cX11_heir 2 (some .int) :: gT) ({ frames := 2, cells := 0, slots := 0, locals := 44 }) (va_Pc [.ref x, .int p0] (Pst g sz [(x, .inr (11, [.ref xtape, .int xtapeLength, .ref xreader, .ref xland, .ref xspareLand, .ref xstates, .int xcurrent, .int xnewest, .ref xboxes, .int xfullBoxes, .ref xsearch, .ref xsights, .ref xparting, .ref xheap])), (xstates, aO g 41 Fxstates), (xland, .inr (2, [.ref dmen, .ref dformulas, .ref dreasons, .int dduels, .ref dduelSides, .ref dduelMornings, .int dhonour, .int ddraw, .ref dusesOfKind])), (dmen, .inr (3, [.int dmen_count, .ref dmen_names, .ref dmen_dies, .ref dmen_coins, .ref dmen_fathers])), (dmen_fathers, aI g 6 Fdmen_fathers), (st, .inr (9, [.int sday, .int sseed, .int salive, .int sstruck, .int sopen, .int sduels, .int slines, .ref scoins, .ref srented, .ref smornings, .ref shonours, .ref sused, .ref ssides, .ref slog]))] nX)) (va_Qi (fun (r : Int32) => fun (_ : Unit) => (-1) ≤ r.toInt ∧ r.toInt ≤ 5) (Qst g [] sz (fun _ => [])) (va_A [] sz)) 0 0 (va_A [] sz) := by
  refine Met.ofW (cc := cX11_heir) (maxL := 2) (ret := (some .int)) (by decide) rfl ?_
  intro p e s m args below meth c s₁ B hml hv
  obtain ⟨rfl, hsz, hP, hK, hD0, hX⟩ := hv
  have hx := B.exec
  have hb := B.bytes
  have hr := B.returns
  have hT : ∀ w ∈ gT, w.before _ s = true := fun w h => atoms_spec (ws := .code yX11_heir cX11_heir 2 (some .int) :: gT) B.pre w (List.mem_cons_of_mem _ h)
  have hown : s.vm.findClass RX11 = some m.cls := findClass_of_methodNamed B.named
  have hlocks := B.notSynchronized
  subst hsz
  have hD := hD0
  generalize hAe : va_A [] s.heap.size = A at ⊢
  have hA : ∀ q : Nat, s.heap.size ≤ q → A q := fun q h => by rw [← hAe]; exact Or.inr h
  have hS : va_S A s.heap s.heap [] := va_S.rf
  have hl := lv_entry ([.ref x, .int p0]) (n := 2) (Nat.le_of_ble_eq_true rfl)
  rw [lg_entry_eq]
  generalize (lg_sl ([.ref x, .int p0]) ++ List.replicate (2 - (lg_sl ([.ref x, .int p0])).length) Slot.unset).toArray = ls at hl ⊢
  have hl : lv_has ls 2 [(0, .ref x), (1, .int p0)] := hl
  refine p_nH (fun H hH => ?_)
  have hP : va_P g.1 vwCl [(x, .inr (11, [.ref xtape, .int xtapeLength, .ref xreader, .ref xland, .ref xspareLand, .ref xstates, .int xcurrent, .int xnewest, .ref xboxes, .int xfullBoxes, .ref xsearch, .ref xsights, .ref xparting, .ref xheap])), (xstates, aO g 41 Fxstates), (xland, .inr (2, [.ref dmen, .ref dformulas, .ref dreasons, .int dduels, .ref dduelSides, .ref dduelMornings, .int dhonour, .int ddraw, .ref dusesOfKind])), (dmen, .inr (3, [.int dmen_count, .ref dmen_names, .ref dmen_dies, .ref dmen_coins, .ref dmen_fathers])), (dmen_fathers, aI g 6 Fdmen_fathers), (st, .inr (9, [.int sday, .int sseed, .int salive, .int sstruck, .int sopen, .int sduels, .int slines, .ref scoins, .ref srented, .ref smornings, .ref shonours, .ref sused, .ref ssides, .ref slog]))] H := by rw [hH]; exact hP
  have hS : va_S A s.heap H [] := by rw [hH]; exact hS
  refine lv_aload_n hx hb dX11_heir_0 rfl (lv_at hl 0 rfl) ?_
  refine va_get (D := g.1) (ci := 11) (v := .ref xland) (C := RX11) (T := TX11) (N := 14) hx hb hT inF_X11 hown hK.1 hP 0 rfl rfl 3 (by decide) (hT _ bw_269) (fun _ h9 => h9) rfl dX11_heir_1 ?_
  refine va_get (D := g.1) (ci := 2) (v := .ref dmen) (C := RX2) (T := TX2) (N := 9) hx hb hT inF_X2 hown hK.1 hP 2 rfl rfl 0 (by decide) (hT _ bw_270) (fun _ h9 => h9) rfl dX11_heir_4 ?_
  refine lv_iload_n hx hb dX11_heir_7 rfl (lv_at hl 1 rfl) ?_
  refine k_iR (k_V (n := 1) ⟨hx, hb, hml, hown, hT⟩ hK hP hD [3] rfl (by decide +kernel) (s_X3_has l g H.size dmen dmen_count dmen_names dmen_dies dmen_coins dmen_fathers p0 (by first | with_reducible assumption | omega)) (gV bw_271 bw_272 bw_273 bw_274 bw_5) rfl rfl (by decide +kernel) ⟨by decide, by decide⟩ (ci := 3) (q0 := 0) rfl rfl (fun _ _ _ _ _ => trivial) (fun _ _ _ => trivial) rfl rfl hl.1 (Nat.le_of_ble_eq_true rfl) dX11_heir_8 ⟨by decide, by decide⟩) hP hS hA (fun r_1 _ H locs hw0 hP hS => ?_)
  have hw : (r_1 = 1 ∧ (0 ≤ p0.toInt ∧ p0.toInt < dmen_count.toInt)) ∨ (r_1 = 0) := hw0
  clear hw0
  rcases hw with ⟨e_3, w_2⟩ | e_4
  · subst e_3
    refine lv_if_eq (tgt := 34) hx hb dX11_heir_11 (by decide) (fun c9 => absurd c9 (by decide)) (fun _ => ?_)
    refine lv_aload_n hx hb dX11_heir_14 rfl (lv_at hl 0 rfl) ?_
    refine va_get (D := g.1) (ci := 11) (v := .ref xstates) (C := RX11) (T := TX11) (N := 14) hx hb hT inF_X11 hown hK.1 hP 0 rfl rfl 5 (by decide) (hT _ bw_275) (fun _ h9 => h9) rfl dX11_heir_15 ?_
    refine lv_aload_n hx hb dX11_heir_18 rfl (lv_at hl 0 rfl) ?_
    refine va_get (D := g.1) (ci := 11) (v := .int xcurrent) (C := RX11) (T := TX11) (N := 14) hx hb hT inF_X11 hown hK.1 hP 0 rfl rfl 6 (by decide) (hT _ bw_276) (fun _ h9 => h9) rfl dX11_heir_19 ?_
    have h_5 : vp_in xcurrent 41 := vp_in_iff.mpr (by omega)
    refine va_aldq hx hb hK.1 hP 1 4 rfl rfl (i := xcurrent) h_5 dX11_heir_22 ?_
    refine p_tr (x := st) (by rw [ho]; rfl) ?_
    refine lv_aload_n hx hb dX11_heir_23 rfl (lv_at hl 0 rfl) ?_
    refine va_get (D := g.1) (ci := 11) (v := .ref xland) (C := RX11) (T := TX11) (N := 14) hx hb hT inF_X11 hown hK.1 hP 0 rfl rfl 3 (by decide) (hT _ bw_269) (fun _ h9 => h9) rfl dX11_heir_24 ?_
    refine lv_iload_n hx hb dX11_heir_27 rfl (lv_at hl 1 rfl) ?_
    refine k_iR (k_V (n := 2) ⟨hx, hb, hml, hown, hT⟩ hK hP hD [5, 2, 3, 4] rfl (by decide +kernel) (s_X9_heirOf l g H.size st sday sseed salive sstruck sopen sduels slines scoins srented smornings shonours sused ssides slog xland dduels dduelSides dduelMornings dhonour ddraw dusesOfKind dmen dmen_count dmen_names dmen_dies dmen_coins dmen_fathers Fdmen_fathers dformulas dreasons p0 (by first | with_reducible assumption | omega) (by first | with_reducible assumption | omega) (by first | with_reducible assumption | omega) (by first | with_reducible assumption | omega) (by first | with_reducible assumption | omega) (by first | with_reducible assumption | omega)) (gV bw_317 bw_73 bw_74 bw_46 bw_59) rfl rfl (by decide +kernel) ⟨by decide, by decide⟩ (ci := 9) (q0 := 0) rfl rfl (fun _ _ _ _ _ => trivial) (fun _ _ _ => trivial) rfl rfl hl.1 (Nat.le_of_ble_eq_true rfl) dX11_heir_28 ⟨by decide, by decide⟩) hP hS hA (fun r_6 _ H locs hw0 hP hS => ?_)
    have hw : (-1) ≤ r_6.toInt ∧ r_6.toInt ≤ 5 := hw0
    clear hw0
    have w_7 := hw
    refine lv_goto (tgt := 35) hx hb dX11_heir_31 (by decide) ?_
    have hP9 : va_P g.1 vwCl [] H := hP.sub [] rfl
    have hD9 : va_D A [] := ⟨fun i j p q h => by simp at h, fun k q h => by simp at h⟩
    exact W.iret (v := r_6) hx hb hr (fun t ht hW => ⟨⟨r_6, (), rfl, (by first | with_reducible assumption | omega), by rw [ht]; exact hP9, by rw [hAe]; exact hD9⟩, hS.F ht⟩) hS.2.2 dX11_heir_35
  · subst e_4
    refine lv_if_eq (tgt := 34) hx hb dX11_heir_11 (by decide) (fun _ => ?_) (fun c9 => absurd (by decide) c9)
    refine lv_iconst (v := (-1)) hx hb dX11_heir_34 (by decide) ?_
    have hP9 : va_P g.1 vwCl [] H := hP.sub [] rfl
    have hD9 : va_D A [] := ⟨fun i j p q h => by simp at h, fun k q h => by simp at h⟩
    exact W.iret (v := (-1)) hx hb hr (fun t ht hW => ⟨⟨(-1), (), rfl, ⟨by decide, by decide⟩, by rw [ht]; exact hP9, by rw [hAe]; exact hD9⟩, hS.F ht⟩) hS.2.2 dX11_heir_35

theorem bw_319 : Cond.methodLink RX11 290 yX9_clashes ∈ gT := gT_tb 1174 (by decide +kernel) (by decide +kernel)
theorem bw_320 : Cond.code yX11_clash cX11_clash 3 (some .int) ∈ gT := gT_tb 1173 (by decide +kernel) (by decide +kernel)
theorem dX11_clash_0 : decode cX11_clash 0 = .ok (.aload_n 0, 1) := by decide +kernel
theorem dX11_clash_1 : decode cX11_clash 1 = .ok (.getfield 23, 3) := by decide +kernel
theorem dX11_clash_4 : decode cX11_clash 4 = .ok (.getfield 97, 3) := by decide +kernel
theorem dX11_clash_7 : decode cX11_clash 7 = .ok (.iload_n 1, 1) := by decide +kernel
theorem dX11_clash_8 : decode cX11_clash 8 = .ok (.invokevirtual 112, 3) := by decide +kernel
theorem dX11_clash_11 : decode cX11_clash 11 = .ok (.ifCond .ne 5, 3) := by decide +kernel
theorem dX11_clash_14 : decode cX11_clash 14 = .ok (.iconst (-1), 1) := by decide +kernel
theorem dX11_clash_15 : decode cX11_clash 15 = .ok (.ireturn, 1) := by decide +kernel
theorem dX11_clash_16 : decode cX11_clash 16 = .ok (.aload_n 0, 1) := by decide +kernel
theorem dX11_clash_17 : decode cX11_clash 17 = .ok (.getfield 32, 3) := by decide +kernel
theorem dX11_clash_20 : decode cX11_clash 20 = .ok (.aload_n 0, 1) := by decide +kernel
theorem dX11_clash_21 : decode cX11_clash 21 = .ok (.getfield 84, 3) := by decide +kernel
theorem dX11_clash_24 : decode cX11_clash 24 = .ok (.aaload, 1) := by decide +kernel
theorem dX11_clash_25 : decode cX11_clash 25 = .ok (.astore_n 2, 1) := by decide +kernel
theorem dX11_clash_26 : decode cX11_clash 26 = .ok (.aload_n 2, 1) := by decide +kernel
theorem dX11_clash_27 : decode cX11_clash 27 = .ok (.iload_n 1, 1) := by decide +kernel
theorem dX11_clash_28 : decode cX11_clash 28 = .ok (.aload_n 2, 1) := by decide +kernel
theorem dX11_clash_29 : decode cX11_clash 29 = .ok (.getfield 139, 3) := by decide +kernel
theorem dX11_clash_32 : decode cX11_clash 32 = .ok (.invokevirtual 290, 3) := by decide +kernel
theorem dX11_clash_35 : decode cX11_clash 35 = .ok (.ireturn, 1) := by decide +kernel
set_option maxHeartbeats 4000000 in
set_option maxRecDepth 100000 in
theorem s_X11_clash (l : Launch) (g : GG) (sz : Nat) (x : Nat) (xtape : Nat) (xtapeLength : Int32) (xreader : Nat) (xland : Nat) (xspareLand : Nat) (xstates : Nat) (Fxstates : Nat → Option Nat) (xcurrent : Int32) (xnewest : Int32) (xboxes : Nat) (xfullBoxes : Int32) (xsearch : Nat) (xsights : Nat) (xparting : Nat) (xheap : Nat) (dduels : Int32) (dduelSides : Nat) (dduelMornings : Nat) (dhonour : Int32) (ddraw : Int32) (dusesOfKind : Nat) (dmen : Nat) (dmen_count : Int32) (dmen_names : Nat) (dmen_dies : Nat) (dmen_coins : Nat) (dmen_fathers : Nat) (dformulas : Nat) (dreasons : Nat) (st : Nat) (sday : Int32) (sseed : Int32) (salive : Int32) (sstruck : Int32) (sopen : Int32) (sduels : Int32) (slines : Int32) (scoins : Nat) (srented : Nat) (smornings : Nat) (Fsmornings : Nat → Int32) (shonours : Nat) (sused : Nat) (ssides : Nat) (Fssides : Nat → Int32) (slog : Nat) (p0 : Int32) (hh0 : 0 ≤ xtapeLength.toInt ∧ xtapeLength.toInt ≤ 1600) (hh1 : 0 ≤ xcurrent.toInt ∧ xcurrent.toInt ≤ 40) (hh2 : 0 ≤ xnewest.toInt ∧ xnewest.toInt ≤ 40) (hh3 : 0 ≤ dduels.toInt ∧ dduels.toInt ≤ 6) (hh5 : 0 ≤ ddraw.toInt ∧ ddraw.toInt ≤ 999) (hh6 : 0 ≤ dmen_count.toInt ∧ dmen_count.toInt ≤ 6) (hh15 : 0 ≤ sseed.toInt ∧ sseed.toInt ≤ 999) (hh16 : 0 ≤ sduels.toInt ∧ sduels.toInt ≤ 8) (hh17 : 0 ≤ slines.toInt ∧ slines.toInt ≤ 60) (hh18 : Rg 16 0 5 Fssides) (ho : Fxstates xcurrent.toNatClampNeg = some st) : Met l yX11_clash (.code yX11_clash cX11_clash 3 (some .int) :: gT) ({ frames := 3, cells := 0, slots := 0, locals := 71 }) (va_Pc [.ref x, .int p0] (Pst g sz [(x, .inr (11, [.ref xtape, .int xtapeLength, .ref xreader, .ref xland, .ref xspareLand, .ref xstates, .int xcurrent, .int xnewest, .ref xboxes, .int xfullBoxes, .ref xsearch, .ref xsights, .ref xparting, .ref xheap])), (xstates, aO g 41 Fxstates), (xland, .inr (2, [.ref dmen, .ref dformulas, .ref dreasons, .int dduels, .ref dduelSides, .ref dduelMornings, .int dhonour, .int ddraw, .ref dusesOfKind])), (dmen, .inr (3, [.int dmen_count, .ref dmen_names, .ref dmen_dies, .ref dmen_coins, .ref dmen_fathers])), (st, .inr (9, [.int sday, .int sseed, .int salive, .int sstruck, .int sopen, .int sduels, .int slines, .ref scoins, .ref srented, .ref smornings, .ref shonours, .ref sused, .ref ssides, .ref slog])), (smornings, aI g 8 Fsmornings), (ssides, aI g 16 Fssides)] nX)) (va_Qi (fun (r : Int32) => fun (_ : Unit) => True) (Qst g [] sz (fun _ => [])) (va_A [] sz)) 0 0 (va_A [] sz) := by
  refine Met.ofW (cc := cX11_clash) (maxL := 3) (ret := (some .int)) (by decide) rfl ?_
  intro p e s m args below meth c s₁ B hml hv
  obtain ⟨rfl, hsz, hP, hK, hD0, hX⟩ := hv
  have hx := B.exec
  have hb := B.bytes
  have hr := B.returns
  have hT : ∀ w ∈ gT, w.before _ s = true := fun w h => atoms_spec (ws := .code yX11_clash cX11_clash 3 (some .int) :: gT) B.pre w (List.mem_cons_of_mem _ h)
  have hown : s.vm.findClass RX11 = some m.cls := findClass_of_methodNamed B.named
  have hlocks := B.notSynchronized
  subst hsz
  have hD := hD0
  generalize hAe : va_A [] s.heap.size = A at ⊢
  have hA : ∀ q : Nat, s.heap.size ≤ q → A q := fun q h => by rw [← hAe]; exact Or.inr h
  have hS : va_S A s.heap s.heap [] := va_S.rf
  have hl := lv_entry ([.ref x, .int p0]) (n := 3) (Nat.le_of_ble_eq_true rfl)
  rw [lg_entry_eq]
  generalize (lg_sl ([.ref x, .int p0]) ++ List.replicate (3 - (lg_sl ([.ref x, .int p0])).length) Slot.unset).toArray = ls at hl ⊢
  have hl : lv_has ls 3 [(0, .ref x), (1, .int p0)] := hl
  refine p_nH (fun H hH => ?_)
  have hP : va_P g.1 vwCl [(x, .inr (11, [.ref xtape, .int xtapeLength, .ref xreader, .ref xland, .ref xspareLand, .ref xstates, .int xcurrent, .int xnewest, .ref xboxes, .int xfullBoxes, .ref xsearch, .ref xsights, .ref xparting, .ref xheap])), (xstates, aO g 41 Fxstates), (xland, .inr (2, [.ref dmen, .ref dformulas, .ref dreasons, .int dduels, .ref dduelSides, .ref dduelMornings, .int dhonour, .int ddraw, .ref dusesOfKind])), (dmen, .inr (3, [.int dmen_count, .ref dmen_names, .ref dmen_dies, .ref dmen_coins, .ref dmen_fathers])), (st, .inr (9, [.int sday, .int sseed, .int salive, .int sstruck, .int sopen, .int sduels, .int slines, .ref scoins, .ref srented, .ref smornings, .ref shonours, .ref sused, .ref ssides, .ref slog])), (smornings, aI g 8 Fsmornings), (ssides, aI g 16 Fssides)] H := by rw [hH]; exact hP
  have hS : va_S A s.heap H [] := by rw [hH]; exact hS
  refine lv_aload_n hx hb dX11_clash_0 rfl (lv_at hl 0 rfl) ?_
  refine va_get (D := g.1) (ci := 11) (v := .ref xland) (C := RX11) (T := TX11) (N := 14) hx hb hT inF_X11 hown hK.1 hP 0 rfl rfl 3 (by decide) (hT _ bw_269) (fun _ h9 => h9) rfl dX11_clash_1 ?_
  refine va_get (D := g.1) (ci := 2) (v := .ref dmen) (C := RX2) (T := TX2) (N := 9) hx hb hT inF_X2 hown hK.1 hP 2 rfl rfl 0 (by decide) (hT _ bw_270) (fun _ h9 => h9) rfl dX11_clash_4 ?_
  refine lv_iload_n hx hb dX11_clash_7 rfl (lv_at hl 1 rfl) ?_
  refine k_iR (k_V (n := 1) ⟨hx, hb, hml, hown, hT⟩ hK hP hD [3] rfl (by decide +kernel) (s_X3_has l g H.size dmen dmen_count dmen_names dmen_dies dmen_coins dmen_fathers p0 (by first | with_reducible assumption | omega)) (gV bw_271 bw_272 bw_273 bw_274 bw_5) rfl rfl (by decide +kernel) ⟨by decide, by decide⟩ (ci := 3) (q0 := 0) rfl rfl (fun _ _ _ _ _ => trivial) (fun _ _ _ => trivial) rfl rfl hl.1 (Nat.le_of_ble_eq_true rfl) dX11_clash_8 ⟨by decide, by decide⟩) hP hS hA (fun r_1 _ H locs hw0 hP hS => ?_)
  have hw : (r_1 = 1 ∧ (0 ≤ p0.toInt ∧ p0.toInt < dmen_count.toInt)) ∨ (r_1 = 0) := hw0
  clear hw0
  rcases hw with ⟨e_3, w_2⟩ | e_4
  · subst e_3
    refine lv_if_ne (tgt := 16) hx hb dX11_clash_11 (by decide) (fun _ => ?_) (fun c9 => absurd c9 (by decide))
    refine lv_aload_n hx hb dX11_clash_16 rfl (lv_at hl 0 rfl) ?_
    refine va_get (D := g.1) (ci := 11) (v := .ref xstates) (C := RX11) (T := TX11) (N := 14) hx hb hT inF_X11 hown hK.1 hP 0 rfl rfl 5 (by decide) (hT _ bw_275) (fun _ h9 => h9) rfl dX11_clash_17 ?_
    refine lv_aload_n hx hb dX11_clash_20 rfl (lv_at hl 0 rfl) ?_
    refine va_get (D := g.1) (ci := 11) (v := .int xcurrent) (C := RX11) (T := TX11) (N := 14) hx hb hT inF_X11 hown hK.1 hP 0 rfl rfl 6 (by decide) (hT _ bw_276) (fun _ h9 => h9) rfl dX11_clash_21 ?_
    have h_5 : vp_in xcurrent 41 := vp_in_iff.mpr (by omega)
    refine va_aldq hx hb hK.1 hP 1 4 rfl rfl (i := xcurrent) h_5 dX11_clash_24 ?_
    refine p_tr (x := st) (by rw [ho]; rfl) ?_
    refine lv_astore_n (lv' := [(2, .ref st), (0, .ref x), (1, .int p0)]) hx hb dX11_clash_25 rfl hl (by decide) rfl (fun ls hl => ?_)
    refine lv_aload_n hx hb dX11_clash_26 rfl (lv_at hl 0 rfl) ?_
    refine lv_iload_n hx hb dX11_clash_27 rfl (lv_at hl 2 rfl) ?_
    refine lv_aload_n hx hb dX11_clash_28 rfl (lv_at hl 0 rfl) ?_
    refine va_get (D := g.1) (ci := 9) (v := .ref smornings) (C := RX9) (T := TX9) (N := 14) hx hb hT inF_X9 hown hK.1 hP 4 rfl rfl 9 (by decide) (hT _ bw_287) (fun _ h9 => h9) rfl dX11_clash_29 ?_
    refine k_iR (k_V (n := 2) ⟨hx, hb, hml, hown, hT⟩ hK hP hD [4, 6, 5] rfl (by decide +kernel) (s_X9_clashes l g H.size st sday sseed salive sstruck sopen sduels slines scoins srented smornings shonours sused ssides Fssides slog smornings Fsmornings p0 (by first | with_reducible assumption | omega) (by first | with_reducible assumption | omega) (by first | with_reducible assumption | omega) hh18) (gV bw_319 bw_223 bw_224 bw_46 bw_86) rfl rfl (by decide +kernel) ⟨by decide, by decide⟩ (ci := 9) (q0 := 0) rfl rfl (fun _ _ _ _ _ => trivial) (fun _ _ _ => trivial) rfl rfl hl.1 (Nat.le_of_ble_eq_true rfl) dX11_clash_32 ⟨by decide, by decide⟩) hP hS hA (fun r_6 _ H locs hw0 hP hS => ?_)
    have hP9 : va_P g.1 vwCl [] H := hP.sub [] rfl
    have hD9 : va_D A [] := ⟨fun i j p q h => by simp at h, fun k q h => by simp at h⟩
    exact W.iret (v := r_6) hx hb hr (fun t ht hW => ⟨⟨r_6, (), rfl, trivial, by rw [ht]; exact hP9, by rw [hAe]; exact hD9⟩, hS.F ht⟩) hS.2.2 dX11_clash_35
  · subst e_4
    refine lv_if_ne (tgt := 16) hx hb dX11_clash_11 (by decide) (fun c9 => absurd (by decide) c9) (fun _ => ?_)
    refine lv_iconst (v := (-1)) hx hb dX11_clash_14 (by decide) ?_
    have hP9 : va_P g.1 vwCl [] H := hP.sub [] rfl
    have hD9 : va_D A [] := ⟨fun i j p q h => by simp at h, fun k q h => by simp at h⟩
    exact W.iret (v := (-1)) hx hb hr (fun t ht hW => ⟨⟨(-1), (), rfl, trivial, by rw [ht]; exact hP9, by rw [hAe]; exact hD9⟩, hS.F ht⟩) hS.2.2 dX11_clash_15

theorem bw_321 : Cond.fieldLink RX11 311 "DuelDelays$State" "lines" "I" ∈ gT := gT_tb 462 (by decide +kernel) (by decide +kernel)
theorem bw_322 : Cond.methodLink RX11 314 yX9_lineOf ∈ gT := gT_tb 1238 (by decide +kernel) (by decide +kernel)
theorem bw_323 : Cond.instanceMethod yX9_lineOf ∈ gT := gT_tb 1239 (by decide +kernel) (by decide +kernel)
theorem bw_324 : Cond.selects RX9 yX9_lineOf yX9_lineOf ∈ gT := gT_tb 1240 (by decide +kernel) (by decide +kernel)
theorem bw_325 : Cond.code yX11_log cX11_log 4 (some .int) ∈ gT := gT_tb 1237 (by decide +kernel) (by decide +kernel)
theorem dX11_log_0 : decode cX11_log 0 = .ok (.aload_n 0, 1) := by decide +kernel
theorem dX11_log_1 : decode cX11_log 1 = .ok (.getfield 32, 3) := by decide +kernel
theorem dX11_log_4 : decode cX11_log 4 = .ok (.aload_n 0, 1) := by decide +kernel
theorem dX11_log_5 : decode cX11_log 5 = .ok (.getfield 84, 3) := by decide +kernel
theorem dX11_log_8 : decode cX11_log 8 = .ok (.aaload, 1) := by decide +kernel
theorem dX11_log_9 : decode cX11_log 9 = .ok (.astore_n 3, 1) := by decide +kernel
theorem dX11_log_10 : decode cX11_log 10 = .ok (.iload_n 1, 1) := by decide +kernel
theorem dX11_log_11 : decode cX11_log 11 = .ok (.ifCond .lt 20, 3) := by decide +kernel
theorem dX11_log_14 : decode cX11_log 14 = .ok (.iload_n 1, 1) := by decide +kernel
theorem dX11_log_15 : decode cX11_log 15 = .ok (.aload_n 3, 1) := by decide +kernel
theorem dX11_log_16 : decode cX11_log 16 = .ok (.getfield 311, 3) := by decide +kernel
theorem dX11_log_19 : decode cX11_log 19 = .ok (.if_icmp .ge 12, 3) := by decide +kernel
theorem dX11_log_22 : decode cX11_log 22 = .ok (.iload_n 2, 1) := by decide +kernel
theorem dX11_log_23 : decode cX11_log 23 = .ok (.ifCond .lt 8, 3) := by decide +kernel
theorem dX11_log_26 : decode cX11_log 26 = .ok (.iload_n 2, 1) := by decide +kernel
theorem dX11_log_27 : decode cX11_log 27 = .ok (.iconst 4, 1) := by decide +kernel
theorem dX11_log_28 : decode cX11_log 28 = .ok (.if_icmp .le 5, 3) := by decide +kernel
theorem dX11_log_31 : decode cX11_log 31 = .ok (.iconst (-1), 1) := by decide +kernel
theorem dX11_log_32 : decode cX11_log 32 = .ok (.ireturn, 1) := by decide +kernel
theorem dX11_log_33 : decode cX11_log 33 = .ok (.aload_n 3, 1) := by decide +kernel
theorem dX11_log_34 : decode cX11_log 34 = .ok (.iload_n 1, 1) := by decide +kernel
theorem dX11_log_35 : decode cX11_log 35 = .ok (.iload_n 2, 1) := by decide +kernel
theorem dX11_log_36 : decode cX11_log 36 = .ok (.invokevirtual 314, 3) := by decide +kernel
theorem dX11_log_39 : decode cX11_log 39 = .ok (.ireturn, 1) := by decide +kernel
set_option maxHeartbeats 4000000 in
set_option maxRecDepth 100000 in
theorem s_X11_log (l : Launch) (g : GG) (sz : Nat) (x : Nat) (xtape : Nat) (xtapeLength : Int32) (xreader : Nat) (xland : Nat) (xspareLand : Nat) (xstates : Nat) (Fxstates : Nat → Option Nat) (xcurrent : Int32) (xnewest : Int32) (xboxes : Nat) (xfullBoxes : Int32) (xsearch : Nat) (xsights : Nat) (xparting : Nat) (xheap : Nat) (st : Nat) (sday : Int32) (sseed : Int32) (salive : Int32) (sstruck : Int32) (sopen : Int32) (sduels : Int32) (slines : Int32) (scoins : Nat) (srented : Nat) (smornings : Nat) (shonours : Nat) (sused : Nat) (ssides : Nat) (slog : Nat) (Fslog : Nat → Int32) (p0 : Int32) (p1 : Int32) (hh0 : 0 ≤ xtapeLength.toInt ∧ xtapeLength.toInt ≤ 1600) (hh1 : 0 ≤ xcurrent.toInt ∧ xcurrent.toInt ≤ 40) (hh2 : 0 ≤ xnewest.toInt ∧ xnewest.toInt ≤ 40) (hh15 : 0 ≤ sseed.toInt ∧ sseed.toInt ≤ 999) (hh16 : 0 ≤ sduels.toInt ∧ sduels.toInt ≤ 8) (hh17 : 0 ≤ slines.toInt ∧ slines.toInt ≤ 60) (ho : Fxstates xcurrent.toNatClampNeg = some st) : Met l yX11_log (.code yX11_log cX11_log 4 (some .int) :: gT) ({ frames := 1, cells := 0, slots := 0, locals := 23 }) (va_Pc [.ref x, .int p0, .int p1] (Pst g sz [(x, .inr (11, [.ref xtape, .int xtapeLength, .ref xreader, .ref xland, .ref xspareLand, .ref xstates, .int xcurrent, .int xnewest, .ref xboxes, .int xfullBoxes, .ref xsearch, .ref xsights, .ref xparting, .ref xheap])), (xstates, aO g 41 Fxstates), (st, .inr (9, [.int sday, .int sseed, .int salive, .int sstruck, .int sopen, .int sduels, .int slines, .ref scoins, .ref srented, .ref smornings, .ref shonours, .ref sused, .ref ssides, .ref slog])), (slog, aI g 60 Fslog)] nX)) (va_Qi (fun (r : Int32) => fun (_ : Unit) => (-1) ≤ r.toInt ∧ r.toInt ≤ 16383) (Qst g [] sz (fun _ => [])) (va_A [] sz)) 0 0 (va_A [] sz) := by
  refine Met.ofW (cc := cX11_log) (maxL := 4) (ret := (some .int)) (by decide) rfl ?_
  intro p e s m args below meth c s₁ B hml hv
  obtain ⟨rfl, hsz, hP, hK, hD0, hX⟩ := hv
  have hx := B.exec
  have hb := B.bytes
  have hr := B.returns
  have hT : ∀ w ∈ gT, w.before _ s = true := fun w h => atoms_spec (ws := .code yX11_log cX11_log 4 (some .int) :: gT) B.pre w (List.mem_cons_of_mem _ h)
  have hown : s.vm.findClass RX11 = some m.cls := findClass_of_methodNamed B.named
  have hlocks := B.notSynchronized
  subst hsz
  have hD := hD0
  generalize hAe : va_A [] s.heap.size = A at ⊢
  have hA : ∀ q : Nat, s.heap.size ≤ q → A q := fun q h => by rw [← hAe]; exact Or.inr h
  have hS : va_S A s.heap s.heap [] := va_S.rf
  have hl := lv_entry ([.ref x, .int p0, .int p1]) (n := 4) (Nat.le_of_ble_eq_true rfl)
  rw [lg_entry_eq]
  generalize (lg_sl ([.ref x, .int p0, .int p1]) ++ List.replicate (4 - (lg_sl ([.ref x, .int p0, .int p1])).length) Slot.unset).toArray = ls at hl ⊢
  have hl : lv_has ls 4 [(0, .ref x), (1, .int p0), (2, .int p1)] := hl
  refine p_nH (fun H hH => ?_)
  have hP : va_P g.1 vwCl [(x, .inr (11, [.ref xtape, .int xtapeLength, .ref xreader, .ref xland, .ref xspareLand, .ref xstates, .int xcurrent, .int xnewest, .ref xboxes, .int xfullBoxes, .ref xsearch, .ref xsights, .ref xparting, .ref xheap])), (xstates, aO g 41 Fxstates), (st, .inr (9, [.int sday, .int sseed, .int salive, .int sstruck, .int sopen, .int sduels, .int slines, .ref scoins, .ref srented, .ref smornings, .ref shonours, .ref sused, .ref ssides, .ref slog])), (slog, aI g 60 Fslog)] H := by rw [hH]; exact hP
  have hS : va_S A s.heap H [] := by rw [hH]; exact hS
  refine lv_aload_n hx hb dX11_log_0 rfl (lv_at hl 0 rfl) ?_
  refine va_get (D := g.1) (ci := 11) (v := .ref xstates) (C := RX11) (T := TX11) (N := 14) hx hb hT inF_X11 hown hK.1 hP 0 rfl rfl 5 (by decide) (hT _ bw_275) (fun _ h9 => h9) rfl dX11_log_1 ?_
  refine lv_aload_n hx hb dX11_log_4 rfl (lv_at hl 0 rfl) ?_
  refine va_get (D := g.1) (ci := 11) (v := .int xcurrent) (C := RX11) (T := TX11) (N := 14) hx hb hT inF_X11 hown hK.1 hP 0 rfl rfl 6 (by decide) (hT _ bw_276) (fun _ h9 => h9) rfl dX11_log_5 ?_
  have h_1 : vp_in xcurrent 41 := vp_in_iff.mpr (by omega)
  refine va_aldq hx hb hK.1 hP 1 4 rfl rfl (i := xcurrent) h_1 dX11_log_8 ?_
  refine p_tr (x := st) (by rw [ho]; rfl) ?_
  refine lv_astore_n (lv' := [(3, .ref st), (0, .ref x), (1, .int p0), (2, .int p1)]) hx hb dX11_log_9 rfl hl (by decide) rfl (fun ls hl => ?_)
  refine lv_iload_n hx hb dX11_log_10 rfl (lv_at hl 2 rfl) ?_
  refine lv_if_lt (tgt := 31) hx hb dX11_log_11 (by decide) (fun c_2 => ?_) (fun c_2 => ?_)
  · have f_3 := E_lt (rfl : p0.toInt = _) (by decide : (0 : Int32).toInt = 0) c_2
    refine lv_iconst (v := (-1)) hx hb dX11_log_31 (by decide) ?_
    have hP9 : va_P g.1 vwCl [] H := hP.sub [] rfl
    have hD9 : va_D A [] := ⟨fun i j p q h => by simp at h, fun k q h => by simp at h⟩
    exact W.iret (v := (-1)) hx hb hr (fun t ht hW => ⟨⟨(-1), (), rfl, ⟨by decide, by decide⟩, by rw [ht]; exact hP9, by rw [hAe]; exact hD9⟩, hS.F ht⟩) hS.2.2 dX11_log_32
  · have f_4 := E_nlt (rfl : p0.toInt = _) (by decide : (0 : Int32).toInt = 0) c_2
    refine lv_iload_n hx hb dX11_log_14 rfl (lv_at hl 2 rfl) ?_
    refine lv_aload_n hx hb dX11_log_15 rfl (lv_at hl 0 rfl) ?_
    refine va_get (D := g.1) (ci := 9) (v := .int slines) (C := RX9) (T := TX9) (N := 14) hx hb hT inF_X9 hown hK.1 hP 2 rfl rfl 6 (by decide) (hT _ bw_321) (fun _ h9 => h9) rfl dX11_log_16 ?_
    refine lv_icmp_ge (tgt := 31) hx hb dX11_log_19 (by decide) (fun c_5 => ?_) (fun c_5 => ?_)
    · have f_6 := E_le (rfl : slines.toInt = _) (rfl : p0.toInt = _) c_5
      refine lv_iconst (v := (-1)) hx hb dX11_log_31 (by decide) ?_
      have hP9 : va_P g.1 vwCl [] H := hP.sub [] rfl
      have hD9 : va_D A [] := ⟨fun i j p q h => by simp at h, fun k q h => by simp at h⟩
      exact W.iret (v := (-1)) hx hb hr (fun t ht hW => ⟨⟨(-1), (), rfl, ⟨by decide, by decide⟩, by rw [ht]; exact hP9, by rw [hAe]; exact hD9⟩, hS.F ht⟩) hS.2.2 dX11_log_32
    · have f_7 := E_nle (rfl : slines.toInt = _) (rfl : p0.toInt = _) c_5
      refine lv_iload_n hx hb dX11_log_22 rfl (lv_at hl 3 rfl) ?_
      refine lv_if_lt (tgt := 31) hx hb dX11_log_23 (by decide) (fun c_8 => ?_) (fun c_8 => ?_)
      · have f_9 := E_lt (rfl : p1.toInt = _) (by decide : (0 : Int32).toInt = 0) c_8
        refine lv_iconst (v := (-1)) hx hb dX11_log_31 (by decide) ?_
        have hP9 : va_P g.1 vwCl [] H := hP.sub [] rfl
        have hD9 : va_D A [] := ⟨fun i j p q h => by simp at h, fun k q h => by simp at h⟩
        exact W.iret (v := (-1)) hx hb hr (fun t ht hW => ⟨⟨(-1), (), rfl, ⟨by decide, by decide⟩, by rw [ht]; exact hP9, by rw [hAe]; exact hD9⟩, hS.F ht⟩) hS.2.2 dX11_log_32
      · have f_10 := E_nlt (rfl : p1.toInt = _) (by decide : (0 : Int32).toInt = 0) c_8
        refine lv_iload_n hx hb dX11_log_26 rfl (lv_at hl 3 rfl) ?_
        refine lv_iconst (v := 4) hx hb dX11_log_27 (by decide) ?_
        refine lv_icmp_le (tgt := 33) hx hb dX11_log_28 (by decide) (fun c_11 => ?_) (fun c_11 => ?_)
        · have f_12 := E_le (rfl : p1.toInt = _) (by decide : (4 : Int32).toInt = 4) c_11
          refine lv_aload_n hx hb dX11_log_33 rfl (lv_at hl 0 rfl) ?_
          refine lv_iload_n hx hb dX11_log_34 rfl (lv_at hl 2 rfl) ?_
          refine lv_iload_n hx hb dX11_log_35 rfl (lv_at hl 3 rfl) ?_
          refine k_iR (k_V (n := 2) ⟨hx, hb, hml, hown, hT⟩ hK hP hD [2, 3] rfl (by decide +kernel) (s_X9_lineOf l g H.size st sday sseed salive sstruck sopen sduels slines scoins srented smornings shonours sused ssides slog Fslog p0 p1 (by first | with_reducible assumption | omega) (by first | with_reducible assumption | omega) (by first | with_reducible assumption | omega) (by first | with_reducible assumption | omega)) (gV bw_322 bw_323 bw_324 bw_46 bw_39) rfl rfl (by decide +kernel) ⟨by decide, by decide⟩ (ci := 9) (q0 := 0) rfl rfl (fun _ _ _ _ _ => trivial) (fun _ _ _ => trivial) rfl rfl hl.1 (Nat.le_of_ble_eq_true rfl) dX11_log_36 ⟨by decide, by decide⟩) hP hS hA (fun r_13 _ H locs hw0 hP hS => ?_)
          have hw : 0 ≤ r_13.toInt ∧ r_13.toInt ≤ 16383 := hw0
          clear hw0
          have w_14 := hw
          have hP9 : va_P g.1 vwCl [] H := hP.sub [] rfl
          have hD9 : va_D A [] := ⟨fun i j p q h => by simp at h, fun k q h => by simp at h⟩
          exact W.iret (v := r_13) hx hb hr (fun t ht hW => ⟨⟨r_13, (), rfl, (by first | with_reducible assumption | omega), by rw [ht]; exact hP9, by rw [hAe]; exact hD9⟩, hS.F ht⟩) hS.2.2 dX11_log_39
        · have f_15 := E_nle (rfl : p1.toInt = _) (by decide : (4 : Int32).toInt = 4) c_11
          refine lv_iconst (v := (-1)) hx hb dX11_log_31 (by decide) ?_
          have hP9 : va_P g.1 vwCl [] H := hP.sub [] rfl
          have hD9 : va_D A [] := ⟨fun i j p q h => by simp at h, fun k q h => by simp at h⟩
          exact W.iret (v := (-1)) hx hb hr (fun t ht hW => ⟨⟨(-1), (), rfl, ⟨by decide, by decide⟩, by rw [ht]; exact hP9, by rw [hAe]; exact hD9⟩, hS.F ht⟩) hS.2.2 dX11_log_32

theorem bw_326 : Cond.fieldLink RX11 101 "DuelDelays$Men" "count" "I" ∈ gT := gT_tb 167 (by decide +kernel) (by decide +kernel)
theorem bw_327 : Cond.fieldLink RX11 331 "DuelDelays$Land" "formulas" "LDuelDelays$Formulas;" ∈ gT := gT_tb 291 (by decide +kernel) (by decide +kernel)
theorem bw_328 : Cond.fieldLink RX11 335 "DuelDelays$Formulas" "count" "I" ∈ gT := gT_tb 202 (by decide +kernel) (by decide +kernel)
theorem bw_329 : Cond.fieldLink RX11 338 "DuelDelays$Reasons" "count" "I" ∈ gT := gT_tb 240 (by decide +kernel) (by decide +kernel)
theorem bw_330 : Cond.fieldLink RX11 207 "DuelDelays$State" "duels" "I" ∈ gT := gT_tb 460 (by decide +kernel) (by decide +kernel)
theorem bw_331 : Cond.fieldLink RX11 243 "DuelDelays$State" "day" "I" ∈ gT := gT_tb 449 (by decide +kernel) (by decide +kernel)
theorem bw_332 : Cond.fieldLink RX11 339 "DuelDelays$State" "seed" "I" ∈ gT := gT_tb 451 (by decide +kernel) (by decide +kernel)
theorem bw_333 : Cond.fieldLink RX11 342 "DuelDelays$State" "alive" "I" ∈ gT := gT_tb 453 (by decide +kernel) (by decide +kernel)
theorem bw_334 : Cond.fieldLink RX11 345 "DuelDelays$State" "open" "I" ∈ gT := gT_tb 457 (by decide +kernel) (by decide +kernel)
theorem bw_335 : Cond.fieldLink RX11 87 "DuelDelays" "newest" "I" ∈ gT := gT_tb 528 (by decide +kernel) (by decide +kernel)
theorem bw_336 : Cond.fieldLink RX11 49 "DuelDelays" "sights" "LDuelDelays$Sights;" ∈ gT := gT_tb 532 (by decide +kernel) (by decide +kernel)
theorem bw_337 : Cond.fieldLink RX11 348 "DuelDelays$Sights" "count" "I" ∈ gT := gT_tb 389 (by decide +kernel) (by decide +kernel)
theorem bw_338 : Cond.fieldLink RX11 323 "DuelDelays$Sights" "time" "I" ∈ gT := gT_tb 387 (by decide +kernel) (by decide +kernel)
theorem bw_339 : Cond.fieldLink RX11 72 "DuelDelays" "tapeLength" "I" ∈ gT := gT_tb 522 (by decide +kernel) (by decide +kernel)
theorem bw_340 : Cond.fieldLink RX11 349 "DuelDelays$Formulas" "units" "I" ∈ gT := gT_tb 204 (by decide +kernel) (by decide +kernel)
theorem bw_341 : Cond.fieldLink RX11 63 "DuelDelays" "heap" "LDuelDelays$Heap;" ∈ gT := gT_tb 534 (by decide +kernel) (by decide +kernel)
theorem bw_342 : Cond.fieldLink RX11 307 "DuelDelays$Heap" "count" "I" ∈ gT := gT_tb 435 (by decide +kernel) (by decide +kernel)
theorem bw_343 : Cond.code yX11_about cX11_about 3 (some .int) ∈ gT := gT_tb 1286 (by decide +kernel) (by decide +kernel)
theorem dX11_about_0 : decode cX11_about 0 = .ok (.aload_n 0, 1) := by decide +kernel
theorem dX11_about_1 : decode cX11_about 1 = .ok (.getfield 32, 3) := by decide +kernel
theorem dX11_about_4 : decode cX11_about 4 = .ok (.aload_n 0, 1) := by decide +kernel
theorem dX11_about_5 : decode cX11_about 5 = .ok (.getfield 84, 3) := by decide +kernel
theorem dX11_about_8 : decode cX11_about 8 = .ok (.aaload, 1) := by decide +kernel
theorem dX11_about_9 : decode cX11_about 9 = .ok (.astore_n 2, 1) := by decide +kernel
theorem dX11_about_10 : decode cX11_about 10 = .ok (.iload_n 1, 1) := by decide +kernel
theorem dX11_about_11 : decode cX11_about 11 = .ok (.tableswitch 198 0 15 #[77, 88, 99, 110, 115, 120, 125, 130, 138, 143, 148, 158, 166, 174, 179, 190], 77) := by decide +kernel
theorem dX11_about_88 : decode cX11_about 88 = .ok (.aload_n 0, 1) := by decide +kernel
theorem dX11_about_89 : decode cX11_about 89 = .ok (.getfield 23, 3) := by decide +kernel
theorem dX11_about_92 : decode cX11_about 92 = .ok (.getfield 97, 3) := by decide +kernel
theorem dX11_about_95 : decode cX11_about 95 = .ok (.getfield 101, 3) := by decide +kernel
theorem dX11_about_98 : decode cX11_about 98 = .ok (.ireturn, 1) := by decide +kernel
theorem dX11_about_99 : decode cX11_about 99 = .ok (.aload_n 0, 1) := by decide +kernel
theorem dX11_about_100 : decode cX11_about 100 = .ok (.getfield 23, 3) := by decide +kernel
theorem dX11_about_103 : decode cX11_about 103 = .ok (.getfield 331, 3) := by decide +kernel
theorem dX11_about_106 : decode cX11_about 106 = .ok (.getfield 335, 3) := by decide +kernel
theorem dX11_about_109 : decode cX11_about 109 = .ok (.ireturn, 1) := by decide +kernel
theorem dX11_about_110 : decode cX11_about 110 = .ok (.aload_n 0, 1) := by decide +kernel
theorem dX11_about_111 : decode cX11_about 111 = .ok (.getfield 23, 3) := by decide +kernel
theorem dX11_about_114 : decode cX11_about 114 = .ok (.getfield 157, 3) := by decide +kernel
theorem dX11_about_117 : decode cX11_about 117 = .ok (.getfield 338, 3) := by decide +kernel
theorem dX11_about_120 : decode cX11_about 120 = .ok (.ireturn, 1) := by decide +kernel
theorem dX11_about_121 : decode cX11_about 121 = .ok (.aload_n 2, 1) := by decide +kernel
theorem dX11_about_122 : decode cX11_about 122 = .ok (.getfield 207, 3) := by decide +kernel
theorem dX11_about_125 : decode cX11_about 125 = .ok (.ireturn, 1) := by decide +kernel
theorem dX11_about_126 : decode cX11_about 126 = .ok (.aload_n 2, 1) := by decide +kernel
theorem dX11_about_127 : decode cX11_about 127 = .ok (.getfield 243, 3) := by decide +kernel
theorem dX11_about_130 : decode cX11_about 130 = .ok (.ireturn, 1) := by decide +kernel
theorem dX11_about_131 : decode cX11_about 131 = .ok (.aload_n 2, 1) := by decide +kernel
theorem dX11_about_132 : decode cX11_about 132 = .ok (.getfield 339, 3) := by decide +kernel
theorem dX11_about_135 : decode cX11_about 135 = .ok (.ireturn, 1) := by decide +kernel
theorem dX11_about_136 : decode cX11_about 136 = .ok (.aload_n 2, 1) := by decide +kernel
theorem dX11_about_137 : decode cX11_about 137 = .ok (.getfield 342, 3) := by decide +kernel
theorem dX11_about_140 : decode cX11_about 140 = .ok (.ireturn, 1) := by decide +kernel
theorem dX11_about_141 : decode cX11_about 141 = .ok (.aload_n 2, 1) := by decide +kernel
theorem dX11_about_142 : decode cX11_about 142 = .ok (.getfield 345, 3) := by decide +kernel
theorem dX11_about_145 : decode cX11_about 145 = .ok (.invokestatic 151, 3) := by decide +kernel
theorem dX11_about_148 : decode cX11_about 148 = .ok (.ireturn, 1) := by decide +kernel
theorem dX11_about_149 : decode cX11_about 149 = .ok (.aload_n 2, 1) := by decide +kernel
theorem dX11_about_150 : decode cX11_about 150 = .ok (.getfield 311, 3) := by decide +kernel
theorem dX11_about_153 : decode cX11_about 153 = .ok (.ireturn, 1) := by decide +kernel
theorem dX11_about_154 : decode cX11_about 154 = .ok (.aload_n 0, 1) := by decide +kernel
theorem dX11_about_155 : decode cX11_about 155 = .ok (.getfield 84, 3) := by decide +kernel
theorem dX11_about_158 : decode cX11_about 158 = .ok (.ireturn, 1) := by decide +kernel
theorem dX11_about_159 : decode cX11_about 159 = .ok (.aload_n 0, 1) := by decide +kernel
theorem dX11_about_160 : decode cX11_about 160 = .ok (.getfield 87, 3) := by decide +kernel
theorem dX11_about_163 : decode cX11_about 163 = .ok (.aload_n 0, 1) := by decide +kernel
theorem dX11_about_164 : decode cX11_about 164 = .ok (.getfield 84, 3) := by decide +kernel
theorem dX11_about_167 : decode cX11_about 167 = .ok (.isub, 1) := by decide +kernel
theorem dX11_about_168 : decode cX11_about 168 = .ok (.ireturn, 1) := by decide +kernel
theorem dX11_about_169 : decode cX11_about 169 = .ok (.aload_n 0, 1) := by decide +kernel
theorem dX11_about_170 : decode cX11_about 170 = .ok (.getfield 49, 3) := by decide +kernel
theorem dX11_about_173 : decode cX11_about 173 = .ok (.getfield 348, 3) := by decide +kernel
theorem dX11_about_176 : decode cX11_about 176 = .ok (.ireturn, 1) := by decide +kernel
theorem dX11_about_177 : decode cX11_about 177 = .ok (.aload_n 0, 1) := by decide +kernel
theorem dX11_about_178 : decode cX11_about 178 = .ok (.getfield 49, 3) := by decide +kernel
theorem dX11_about_181 : decode cX11_about 181 = .ok (.getfield 323, 3) := by decide +kernel
theorem dX11_about_184 : decode cX11_about 184 = .ok (.ireturn, 1) := by decide +kernel
theorem dX11_about_185 : decode cX11_about 185 = .ok (.aload_n 0, 1) := by decide +kernel
theorem dX11_about_186 : decode cX11_about 186 = .ok (.getfield 72, 3) := by decide +kernel
theorem dX11_about_189 : decode cX11_about 189 = .ok (.ireturn, 1) := by decide +kernel
theorem dX11_about_190 : decode cX11_about 190 = .ok (.aload_n 0, 1) := by decide +kernel
theorem dX11_about_191 : decode cX11_about 191 = .ok (.getfield 23, 3) := by decide +kernel
theorem dX11_about_194 : decode cX11_about 194 = .ok (.getfield 331, 3) := by decide +kernel
theorem dX11_about_197 : decode cX11_about 197 = .ok (.getfield 349, 3) := by decide +kernel
theorem dX11_about_200 : decode cX11_about 200 = .ok (.ireturn, 1) := by decide +kernel
theorem dX11_about_201 : decode cX11_about 201 = .ok (.aload_n 0, 1) := by decide +kernel
theorem dX11_about_202 : decode cX11_about 202 = .ok (.getfield 63, 3) := by decide +kernel
theorem dX11_about_205 : decode cX11_about 205 = .ok (.getfield 307, 3) := by decide +kernel
theorem dX11_about_208 : decode cX11_about 208 = .ok (.ireturn, 1) := by decide +kernel
theorem dX11_about_209 : decode cX11_about 209 = .ok (.iconst (-1), 1) := by decide +kernel
theorem dX11_about_210 : decode cX11_about 210 = .ok (.ireturn, 1) := by decide +kernel
set_option maxHeartbeats 4000000 in
set_option maxRecDepth 100000 in
theorem s_X11_about (l : Launch) (g : GG) (sz : Nat) (x : Nat) (xtape : Nat) (xtapeLength : Int32) (xreader : Nat) (xland : Nat) (xspareLand : Nat) (xstates : Nat) (Fxstates : Nat → Option Nat) (xcurrent : Int32) (xnewest : Int32) (xboxes : Nat) (xfullBoxes : Int32) (xsearch : Nat) (xsights : Nat) (xparting : Nat) (xheap : Nat) (dduels : Int32) (dduelSides : Nat) (dduelMornings : Nat) (dhonour : Int32) (ddraw : Int32) (dusesOfKind : Nat) (dmen : Nat) (dmen_count : Int32) (dmen_names : Nat) (dmen_dies : Nat) (dmen_coins : Nat) (dmen_fathers : Nat) (dformulas : Nat) (dformulas_count : Int32) (dformulas_units : Int32) (dformulas_names : Nat) (dformulas_unitsOfThis : Int32) (dformulas_length : Int32) (dformulas_starts : Nat) (dformulas_steps : Nat) (dformulas_stack : Nat) (dreasons : Nat) (dreasons_count : Int32) (dreasons_names : Nat) (dreasons_kinds : Nat) (dreasons_owners : Nat) (dreasons_froms : Nat) (dreasons_tos : Nat) (dreasons_rents : Nat) (dreasons_sorts : Nat) (st : Nat) (sday : Int32) (sseed : Int32) (salive : Int32) (sstruck : Int32) (sopen : Int32) (sduels : Int32) (slines : Int32) (scoins : Nat) (srented : Nat) (smornings : Nat) (shonours : Nat) (sused : Nat) (ssides : Nat) (slog : Nat) (gtime : Int32) (gcount : Int32) (greasons : Nat) (gdays : Nat) (gtoldAt : Nat) (guntoldAt : Nat) (ecount : Int32) (enumbers : Nat) (p0 : Int32) (hh0 : 0 ≤ xtapeLength.toInt ∧ xtapeLength.toInt ≤ 1600) (hh1 : 0 ≤ xcurrent.toInt ∧ xcurrent.toInt ≤ 40) (hh2 : 0 ≤ xnewest.toInt ∧ xnewest.toInt ≤ 40) (hh3 : 0 ≤ dduels.toInt ∧ dduels.toInt ≤ 6) (hh5 : 0 ≤ ddraw.toInt ∧ ddraw.toInt ≤ 999) (hh6 : 0 ≤ dmen_count.toInt ∧ dmen_count.toInt ≤ 6) (hh7 : 0 ≤ dformulas_count.toInt ∧ dformulas_count.toInt ≤ 4) (hh8 : 0 ≤ dformulas_units.toInt ∧ dformulas_units.toInt ≤ 60) (hh9 : 0 ≤ dformulas_unitsOfThis.toInt ∧ dformulas_unitsOfThis.toInt ≤ 30) (hh10 : 0 ≤ dformulas_length.toInt ∧ dformulas_length.toInt ≤ 640) (hh12 : 0 ≤ dreasons_count.toInt ∧ dreasons_count.toInt ≤ 8) (hh15 : 0 ≤ sseed.toInt ∧ sseed.toInt ≤ 999) (hh16 : 0 ≤ sduels.toInt ∧ sduels.toInt ≤ 8) (hh17 : 0 ≤ slines.toInt ∧ slines.toInt ≤ 60) (hh19 : 0 ≤ gtime.toInt ∧ gtime.toInt ≤ 100000) (hh20 : 0 ≤ gcount.toInt ∧ gcount.toInt ≤ 30) (hh21 : 0 ≤ ecount.toInt ∧ ecount.toInt ≤ 16) (ho : Fxstates xcurrent.toNatClampNeg = some st) : Met l yX11_about (.code yX11_about cX11_about 3 (some .int) :: gT) ({ frames := 1, cells := 0, slots := 0, locals := 20 }) (va_Pc [.ref x, .int p0] (Pst g sz [(x, .inr (11, [.ref xtape, .int xtapeLength, .ref xreader, .ref xland, .ref xspareLand, .ref xstates, .int xcurrent, .int xnewest, .ref xboxes, .int xfullBoxes, .ref xsearch, .ref xsights, .ref xparting, .ref xheap])), (xstates, aO g 41 Fxstates), (xland, .inr (2, [.ref dmen, .ref dformulas, .ref dreasons, .int dduels, .ref dduelSides, .ref dduelMornings, .int dhonour, .int ddraw, .ref dusesOfKind])), (dmen, .inr (3, [.int dmen_count, .ref dmen_names, .ref dmen_dies, .ref dmen_coins, .ref dmen_fathers])), (dformulas, .inr (0, [.int dformulas_count, .int dformulas_units, .ref dformulas_names, .int dformulas_unitsOfThis, .int dformulas_length, .ref dformulas_starts, .ref dformulas_steps, .ref dformulas_stack])), (dreasons, .inr (6, [.int dreasons_count, .ref dreasons_names, .ref dreasons_kinds, .ref dreasons_owners, .ref dreasons_froms, .ref dreasons_tos, .ref dreasons_rents, .ref dreasons_sorts])), (st, .inr (9, [.int sday, .int sseed, .int salive, .int sstruck, .int sopen, .int sduels, .int slines, .ref scoins, .ref srented, .ref smornings, .ref shonours, .ref sused, .ref ssides, .ref slog])), (xsights, .inr (8, [.int gtime, .int gcount, .ref greasons, .ref gdays, .ref gtoldAt, .ref guntoldAt])), (xheap, .inr (1, [.int ecount, .ref enumbers]))] nX)) (va_Qi (fun (r : Int32) => fun (_ : Unit) => True) (Qst g [] sz (fun _ => [])) (va_A [] sz)) 0 0 (va_A [] sz) := by
  refine Met.ofW (cc := cX11_about) (maxL := 3) (ret := (some .int)) (by decide) rfl ?_
  intro p e s m args below meth c s₁ B hml hv
  obtain ⟨rfl, hsz, hP, hK, hD0, hX⟩ := hv
  have hx := B.exec
  have hb := B.bytes
  have hr := B.returns
  have hT : ∀ w ∈ gT, w.before _ s = true := fun w h => atoms_spec (ws := .code yX11_about cX11_about 3 (some .int) :: gT) B.pre w (List.mem_cons_of_mem _ h)
  have hown : s.vm.findClass RX11 = some m.cls := findClass_of_methodNamed B.named
  have hlocks := B.notSynchronized
  subst hsz
  have hD := hD0
  generalize hAe : va_A [] s.heap.size = A at ⊢
  have hA : ∀ q : Nat, s.heap.size ≤ q → A q := fun q h => by rw [← hAe]; exact Or.inr h
  have hS : va_S A s.heap s.heap [] := va_S.rf
  have hl := lv_entry ([.ref x, .int p0]) (n := 3) (Nat.le_of_ble_eq_true rfl)
  rw [lg_entry_eq]
  generalize (lg_sl ([.ref x, .int p0]) ++ List.replicate (3 - (lg_sl ([.ref x, .int p0])).length) Slot.unset).toArray = ls at hl ⊢
  have hl : lv_has ls 3 [(0, .ref x), (1, .int p0)] := hl
  refine p_nH (fun H hH => ?_)
  have hP : va_P g.1 vwCl [(x, .inr (11, [.ref xtape, .int xtapeLength, .ref xreader, .ref xland, .ref xspareLand, .ref xstates, .int xcurrent, .int xnewest, .ref xboxes, .int xfullBoxes, .ref xsearch, .ref xsights, .ref xparting, .ref xheap])), (xstates, aO g 41 Fxstates), (xland, .inr (2, [.ref dmen, .ref dformulas, .ref dreasons, .int dduels, .ref dduelSides, .ref dduelMornings, .int dhonour, .int ddraw, .ref dusesOfKind])), (dmen, .inr (3, [.int dmen_count, .ref dmen_names, .ref dmen_dies, .ref dmen_coins, .ref dmen_fathers])), (dformulas, .inr (0, [.int dformulas_count, .int dformulas_units, .ref dformulas_names, .int dformulas_unitsOfThis, .int dformulas_length, .ref dformulas_starts, .ref dformulas_steps, .ref dformulas_stack])), (dreasons, .inr (6, [.int dreasons_count, .ref dreasons_names, .ref dreasons_kinds, .ref dreasons_owners, .ref dreasons_froms, .ref dreasons_tos, .ref dreasons_rents, .ref dreasons_sorts])), (st, .inr (9, [.int sday, .int sseed, .int salive, .int sstruck, .int sopen, .int sduels, .int slines, .ref scoins, .ref srented, .ref smornings, .ref shonours, .ref sused, .ref ssides, .ref slog])), (xsights, .inr (8, [.int gtime, .int gcount, .ref greasons, .ref gdays, .ref gtoldAt, .ref guntoldAt])), (xheap, .inr (1, [.int ecount, .ref enumbers]))] H := by rw [hH]; exact hP
  have hS : va_S A s.heap H [] := by rw [hH]; exact hS
  refine lv_aload_n hx hb dX11_about_0 rfl (lv_at hl 0 rfl) ?_
  refine va_get (D := g.1) (ci := 11) (v := .ref xstates) (C := RX11) (T := TX11) (N := 14) hx hb hT inF_X11 hown hK.1 hP 0 rfl rfl 5 (by decide) (hT _ bw_275) (fun _ h9 => h9) rfl dX11_about_1 ?_
  refine lv_aload_n hx hb dX11_about_4 rfl (lv_at hl 0 rfl) ?_
  refine va_get (D := g.1) (ci := 11) (v := .int xcurrent) (C := RX11) (T := TX11) (N := 14) hx hb hT inF_X11 hown hK.1 hP 0 rfl rfl 6 (by decide) (hT _ bw_276) (fun _ h9 => h9) rfl dX11_about_5 ?_
  have h_1 : vp_in xcurrent 41 := vp_in_iff.mpr (by omega)
  refine va_aldq hx hb hK.1 hP 1 4 rfl rfl (i := xcurrent) h_1 dX11_about_8 ?_
  refine p_tr (x := st) (by rw [ho]; rfl) ?_
  refine lv_astore_n (lv' := [(2, .ref st), (0, .ref x), (1, .int p0)]) hx hb dX11_about_9 rfl hl (by decide) rfl (fun ls hl => ?_)
  refine lv_iload_n hx hb dX11_about_10 rfl (lv_at hl 2 rfl) ?_
  rcases tsplit p0 16 (by decide) with h_2 | ⟨j, hj, eh_2⟩
  · refine lv_tableOut (tgt := 209) hx hb dX11_about_11 (by omega) (by decide) ?_
    refine lv_iconst (v := (-1)) hx hb dX11_about_209 (by decide) ?_
    have hP9 : va_P g.1 vwCl [] H := hP.sub [] rfl
    have hD9 : va_D A [] := ⟨fun i j p q h => by simp at h, fun k q h => by simp at h⟩
    exact W.iret (v := (-1)) hx hb hr (fun t ht hW => ⟨⟨(-1), (), rfl, trivial, by rw [ht]; exact hP9, by rw [hAe]; exact hD9⟩, hS.F ht⟩) hS.2.2 dX11_about_210
  · rcases (show j = 0 ∨ j = 1 ∨ j = 2 ∨ j = 3 ∨ j = 4 ∨ j = 5 ∨ j = 6 ∨ j = 7 ∨ j = 8 ∨ j = 9 ∨ j = 10 ∨ j = 11 ∨ j = 12 ∨ j = 13 ∨ j = 14 ∨ j = 15 by omega) with rfl | rfl | rfl | rfl | rfl | rfl | rfl | rfl | rfl | rfl | rfl | rfl | rfl | rfl | rfl | rfl
    · obtain rfl : p0 = 0 := eh_2
      refine lv_tableIn (tgt := 88) hx hb dX11_about_11 (by decide) (by decide) (off := 77) (by decide) (by decide) ?_
      refine lv_aload_n hx hb dX11_about_88 rfl (lv_at hl 1 rfl) ?_
      refine va_get (D := g.1) (ci := 11) (v := .ref xland) (C := RX11) (T := TX11) (N := 14) hx hb hT inF_X11 hown hK.1 hP 0 rfl rfl 3 (by decide) (hT _ bw_269) (fun _ h9 => h9) rfl dX11_about_89 ?_
      refine va_get (D := g.1) (ci := 2) (v := .ref dmen) (C := RX2) (T := TX2) (N := 9) hx hb hT inF_X2 hown hK.1 hP 2 rfl rfl 0 (by decide) (hT _ bw_270) (fun _ h9 => h9) rfl dX11_about_92 ?_
      refine va_get (D := g.1) (ci := 3) (v := .int dmen_count) (C := RX3) (T := TX3) (N := 5) hx hb hT inF_X3 hown hK.1 hP 3 rfl rfl 0 (by decide) (hT _ bw_326) (fun _ h9 => h9) rfl dX11_about_95 ?_
      have hP9 : va_P g.1 vwCl [] H := hP.sub [] rfl
      have hD9 : va_D A [] := ⟨fun i j p q h => by simp at h, fun k q h => by simp at h⟩
      exact W.iret (v := dmen_count) hx hb hr (fun t ht hW => ⟨⟨dmen_count, (), rfl, trivial, by rw [ht]; exact hP9, by rw [hAe]; exact hD9⟩, hS.F ht⟩) hS.2.2 dX11_about_98
    · obtain rfl : p0 = 1 := eh_2
      refine lv_tableIn (tgt := 99) hx hb dX11_about_11 (by decide) (by decide) (off := 88) (by decide) (by decide) ?_
      refine lv_aload_n hx hb dX11_about_99 rfl (lv_at hl 1 rfl) ?_
      refine va_get (D := g.1) (ci := 11) (v := .ref xland) (C := RX11) (T := TX11) (N := 14) hx hb hT inF_X11 hown hK.1 hP 0 rfl rfl 3 (by decide) (hT _ bw_269) (fun _ h9 => h9) rfl dX11_about_100 ?_
      refine va_get (D := g.1) (ci := 2) (v := .ref dformulas) (C := RX2) (T := TX2) (N := 9) hx hb hT inF_X2 hown hK.1 hP 2 rfl rfl 1 (by decide) (hT _ bw_327) (fun _ h9 => h9) rfl dX11_about_103 ?_
      refine va_get (D := g.1) (ci := 0) (v := .int dformulas_count) (C := RX0) (T := TX0) (N := 8) hx hb hT inF_X0 hown hK.1 hP 4 rfl rfl 0 (by decide) (hT _ bw_328) (fun _ h9 => h9) rfl dX11_about_106 ?_
      have hP9 : va_P g.1 vwCl [] H := hP.sub [] rfl
      have hD9 : va_D A [] := ⟨fun i j p q h => by simp at h, fun k q h => by simp at h⟩
      exact W.iret (v := dformulas_count) hx hb hr (fun t ht hW => ⟨⟨dformulas_count, (), rfl, trivial, by rw [ht]; exact hP9, by rw [hAe]; exact hD9⟩, hS.F ht⟩) hS.2.2 dX11_about_109
    · obtain rfl : p0 = 2 := eh_2
      refine lv_tableIn (tgt := 110) hx hb dX11_about_11 (by decide) (by decide) (off := 99) (by decide) (by decide) ?_
      refine lv_aload_n hx hb dX11_about_110 rfl (lv_at hl 1 rfl) ?_
      refine va_get (D := g.1) (ci := 11) (v := .ref xland) (C := RX11) (T := TX11) (N := 14) hx hb hT inF_X11 hown hK.1 hP 0 rfl rfl 3 (by decide) (hT _ bw_269) (fun _ h9 => h9) rfl dX11_about_111 ?_
      refine va_get (D := g.1) (ci := 2) (v := .ref dreasons) (C := RX2) (T := TX2) (N := 9) hx hb hT inF_X2 hown hK.1 hP 2 rfl rfl 2 (by decide) (hT _ bw_293) (fun _ h9 => h9) rfl dX11_about_114 ?_
      refine va_get (D := g.1) (ci := 6) (v := .int dreasons_count) (C := RX6) (T := TX6) (N := 8) hx hb hT inF_X6 hown hK.1 hP 5 rfl rfl 0 (by decide) (hT _ bw_329) (fun _ h9 => h9) rfl dX11_about_117 ?_
      have hP9 : va_P g.1 vwCl [] H := hP.sub [] rfl
      have hD9 : va_D A [] := ⟨fun i j p q h => by simp at h, fun k q h => by simp at h⟩
      exact W.iret (v := dreasons_count) hx hb hr (fun t ht hW => ⟨⟨dreasons_count, (), rfl, trivial, by rw [ht]; exact hP9, by rw [hAe]; exact hD9⟩, hS.F ht⟩) hS.2.2 dX11_about_120
    · obtain rfl : p0 = 3 := eh_2
      refine lv_tableIn (tgt := 121) hx hb dX11_about_11 (by decide) (by decide) (off := 110) (by decide) (by decide) ?_
      refine lv_aload_n hx hb dX11_about_121 rfl (lv_at hl 0 rfl) ?_
      refine va_get (D := g.1) (ci := 9) (v := .int sduels) (C := RX9) (T := TX9) (N := 14) hx hb hT inF_X9 hown hK.1 hP 6 rfl rfl 5 (by decide) (hT _ bw_330) (fun _ h9 => h9) rfl dX11_about_122 ?_
      have hP9 : va_P g.1 vwCl [] H := hP.sub [] rfl
      have hD9 : va_D A [] := ⟨fun i j p q h => by simp at h, fun k q h => by simp at h⟩
      exact W.iret (v := sduels) hx hb hr (fun t ht hW => ⟨⟨sduels, (), rfl, trivial, by rw [ht]; exact hP9, by rw [hAe]; exact hD9⟩, hS.F ht⟩) hS.2.2 dX11_about_125
    · obtain rfl : p0 = 4 := eh_2
      refine lv_tableIn (tgt := 126) hx hb dX11_about_11 (by decide) (by decide) (off := 115) (by decide) (by decide) ?_
      refine lv_aload_n hx hb dX11_about_126 rfl (lv_at hl 0 rfl) ?_
      refine va_get (D := g.1) (ci := 9) (v := .int sday) (C := RX9) (T := TX9) (N := 14) hx hb hT inF_X9 hown hK.1 hP 6 rfl rfl 0 (by decide) (hT _ bw_331) (fun _ h9 => h9) rfl dX11_about_127 ?_
      have hP9 : va_P g.1 vwCl [] H := hP.sub [] rfl
      have hD9 : va_D A [] := ⟨fun i j p q h => by simp at h, fun k q h => by simp at h⟩
      exact W.iret (v := sday) hx hb hr (fun t ht hW => ⟨⟨sday, (), rfl, trivial, by rw [ht]; exact hP9, by rw [hAe]; exact hD9⟩, hS.F ht⟩) hS.2.2 dX11_about_130
    · obtain rfl : p0 = 5 := eh_2
      refine lv_tableIn (tgt := 131) hx hb dX11_about_11 (by decide) (by decide) (off := 120) (by decide) (by decide) ?_
      refine lv_aload_n hx hb dX11_about_131 rfl (lv_at hl 0 rfl) ?_
      refine va_get (D := g.1) (ci := 9) (v := .int sseed) (C := RX9) (T := TX9) (N := 14) hx hb hT inF_X9 hown hK.1 hP 6 rfl rfl 1 (by decide) (hT _ bw_332) (fun _ h9 => h9) rfl dX11_about_132 ?_
      have hP9 : va_P g.1 vwCl [] H := hP.sub [] rfl
      have hD9 : va_D A [] := ⟨fun i j p q h => by simp at h, fun k q h => by simp at h⟩
      exact W.iret (v := sseed) hx hb hr (fun t ht hW => ⟨⟨sseed, (), rfl, trivial, by rw [ht]; exact hP9, by rw [hAe]; exact hD9⟩, hS.F ht⟩) hS.2.2 dX11_about_135
    · obtain rfl : p0 = 6 := eh_2
      refine lv_tableIn (tgt := 136) hx hb dX11_about_11 (by decide) (by decide) (off := 125) (by decide) (by decide) ?_
      refine lv_aload_n hx hb dX11_about_136 rfl (lv_at hl 0 rfl) ?_
      refine va_get (D := g.1) (ci := 9) (v := .int salive) (C := RX9) (T := TX9) (N := 14) hx hb hT inF_X9 hown hK.1 hP 6 rfl rfl 2 (by decide) (hT _ bw_333) (fun _ h9 => h9) rfl dX11_about_137 ?_
      have hP9 : va_P g.1 vwCl [] H := hP.sub [] rfl
      have hD9 : va_D A [] := ⟨fun i j p q h => by simp at h, fun k q h => by simp at h⟩
      exact W.iret (v := salive) hx hb hr (fun t ht hW => ⟨⟨salive, (), rfl, trivial, by rw [ht]; exact hP9, by rw [hAe]; exact hD9⟩, hS.F ht⟩) hS.2.2 dX11_about_140
    · obtain rfl : p0 = 7 := eh_2
      refine lv_tableIn (tgt := 141) hx hb dX11_about_11 (by decide) (by decide) (off := 130) (by decide) (by decide) ?_
      refine lv_aload_n hx hb dX11_about_141 rfl (lv_at hl 0 rfl) ?_
      refine va_get (D := g.1) (ci := 9) (v := .int sopen) (C := RX9) (T := TX9) (N := 14) hx hb hT inF_X9 hown hK.1 hP 6 rfl rfl 4 (by decide) (hT _ bw_334) (fun _ h9 => h9) rfl dX11_about_142 ?_
      refine k_iR (k_S (n := 1) ⟨hx, hb, hml, hown, hT⟩ hK hP hD [] rfl (by decide +kernel) (s_J6_bitCount_0f7a4 l g H.size sopen) (gS bw_291 bw_64 bw_65 bw_26) rfl rfl (by decide +kernel) ⟨by decide, by decide⟩ (fun _ _ _ _ _ => trivial) (fun _ _ _ => trivial) rfl rfl hl.1 (Nat.le_of_ble_eq_true rfl) dX11_about_145 ⟨by decide, by decide⟩) hP hS hA (fun r_3 _ H locs hw0 hP hS => ?_)
      have hw : 0 ≤ r_3.toInt ∧ r_3.toInt ≤ 63 := hw0
      clear hw0
      have w_4 := hw
      have hP9 : va_P g.1 vwCl [] H := hP.sub [] rfl
      have hD9 : va_D A [] := ⟨fun i j p q h => by simp at h, fun k q h => by simp at h⟩
      exact W.iret (v := r_3) hx hb hr (fun t ht hW => ⟨⟨r_3, (), rfl, trivial, by rw [ht]; exact hP9, by rw [hAe]; exact hD9⟩, hS.F ht⟩) hS.2.2 dX11_about_148
    · obtain rfl : p0 = 8 := eh_2
      refine lv_tableIn (tgt := 149) hx hb dX11_about_11 (by decide) (by decide) (off := 138) (by decide) (by decide) ?_
      refine lv_aload_n hx hb dX11_about_149 rfl (lv_at hl 0 rfl) ?_
      refine va_get (D := g.1) (ci := 9) (v := .int slines) (C := RX9) (T := TX9) (N := 14) hx hb hT inF_X9 hown hK.1 hP 6 rfl rfl 6 (by decide) (hT _ bw_321) (fun _ h9 => h9) rfl dX11_about_150 ?_
      have hP9 : va_P g.1 vwCl [] H := hP.sub [] rfl
      have hD9 : va_D A [] := ⟨fun i j p q h => by simp at h, fun k q h => by simp at h⟩
      exact W.iret (v := slines) hx hb hr (fun t ht hW => ⟨⟨slines, (), rfl, trivial, by rw [ht]; exact hP9, by rw [hAe]; exact hD9⟩, hS.F ht⟩) hS.2.2 dX11_about_153
    · obtain rfl : p0 = 9 := eh_2
      refine lv_tableIn (tgt := 154) hx hb dX11_about_11 (by decide) (by decide) (off := 143) (by decide) (by decide) ?_
      refine lv_aload_n hx hb dX11_about_154 rfl (lv_at hl 1 rfl) ?_
      refine va_get (D := g.1) (ci := 11) (v := .int xcurrent) (C := RX11) (T := TX11) (N := 14) hx hb hT inF_X11 hown hK.1 hP 0 rfl rfl 6 (by decide) (hT _ bw_276) (fun _ h9 => h9) rfl dX11_about_155 ?_
      have hP9 : va_P g.1 vwCl [] H := hP.sub [] rfl
      have hD9 : va_D A [] := ⟨fun i j p q h => by simp at h, fun k q h => by simp at h⟩
      exact W.iret (v := xcurrent) hx hb hr (fun t ht hW => ⟨⟨xcurrent, (), rfl, trivial, by rw [ht]; exact hP9, by rw [hAe]; exact hD9⟩, hS.F ht⟩) hS.2.2 dX11_about_158
    · obtain rfl : p0 = 10 := eh_2
      refine lv_tableIn (tgt := 159) hx hb dX11_about_11 (by decide) (by decide) (off := 148) (by decide) (by decide) ?_
      refine lv_aload_n hx hb dX11_about_159 rfl (lv_at hl 1 rfl) ?_
      refine va_get (D := g.1) (ci := 11) (v := .int xnewest) (C := RX11) (T := TX11) (N := 14) hx hb hT inF_X11 hown hK.1 hP 0 rfl rfl 7 (by decide) (hT _ bw_335) (fun _ h9 => h9) rfl dX11_about_160 ?_
      refine lv_aload_n hx hb dX11_about_163 rfl (lv_at hl 1 rfl) ?_
      refine va_get (D := g.1) (ci := 11) (v := .int xcurrent) (C := RX11) (T := TX11) (N := 14) hx hb hT inF_X11 hown hK.1 hP 0 rfl rfl 6 (by decide) (hT _ bw_276) (fun _ h9 => h9) rfl dX11_about_164 ?_
      refine lv_isub hx hb dX11_about_167 ?_
      refine lv_topi (fun x_5 ex_5 => ?_)
      have fx_5 : x_5.toInt = xnewest.toInt - xcurrent.toInt := by rw [ex_5]; exact I_sub rfl rfl (by omega) (by omega)
      have hP9 : va_P g.1 vwCl [] H := hP.sub [] rfl
      have hD9 : va_D A [] := ⟨fun i j p q h => by simp at h, fun k q h => by simp at h⟩
      exact W.iret (v := x_5) hx hb hr (fun t ht hW => ⟨⟨x_5, (), rfl, trivial, by rw [ht]; exact hP9, by rw [hAe]; exact hD9⟩, hS.F ht⟩) hS.2.2 dX11_about_168
    · obtain rfl : p0 = 11 := eh_2
      refine lv_tableIn (tgt := 169) hx hb dX11_about_11 (by decide) (by decide) (off := 158) (by decide) (by decide) ?_
      refine lv_aload_n hx hb dX11_about_169 rfl (lv_at hl 1 rfl) ?_
      refine va_get (D := g.1) (ci := 11) (v := .ref xsights) (C := RX11) (T := TX11) (N := 14) hx hb hT inF_X11 hown hK.1 hP 0 rfl rfl 11 (by decide) (hT _ bw_336) (fun _ h9 => h9) rfl dX11_about_170 ?_
      refine va_get (D := g.1) (ci := 8) (v := .int gcount) (C := RX8) (T := TX8) (N := 6) hx hb hT inF_X8 hown hK.1 hP 7 rfl rfl 1 (by decide) (hT _ bw_337) (fun _ h9 => h9) rfl dX11_about_173 ?_
      have hP9 : va_P g.1 vwCl [] H := hP.sub [] rfl
      have hD9 : va_D A [] := ⟨fun i j p q h => by simp at h, fun k q h => by simp at h⟩
      exact W.iret (v := gcount) hx hb hr (fun t ht hW => ⟨⟨gcount, (), rfl, trivial, by rw [ht]; exact hP9, by rw [hAe]; exact hD9⟩, hS.F ht⟩) hS.2.2 dX11_about_176
    · obtain rfl : p0 = 12 := eh_2
      refine lv_tableIn (tgt := 177) hx hb dX11_about_11 (by decide) (by decide) (off := 166) (by decide) (by decide) ?_
      refine lv_aload_n hx hb dX11_about_177 rfl (lv_at hl 1 rfl) ?_
      refine va_get (D := g.1) (ci := 11) (v := .ref xsights) (C := RX11) (T := TX11) (N := 14) hx hb hT inF_X11 hown hK.1 hP 0 rfl rfl 11 (by decide) (hT _ bw_336) (fun _ h9 => h9) rfl dX11_about_178 ?_
      refine va_get (D := g.1) (ci := 8) (v := .int gtime) (C := RX8) (T := TX8) (N := 6) hx hb hT inF_X8 hown hK.1 hP 7 rfl rfl 0 (by decide) (hT _ bw_338) (fun _ h9 => h9) rfl dX11_about_181 ?_
      have hP9 : va_P g.1 vwCl [] H := hP.sub [] rfl
      have hD9 : va_D A [] := ⟨fun i j p q h => by simp at h, fun k q h => by simp at h⟩
      exact W.iret (v := gtime) hx hb hr (fun t ht hW => ⟨⟨gtime, (), rfl, trivial, by rw [ht]; exact hP9, by rw [hAe]; exact hD9⟩, hS.F ht⟩) hS.2.2 dX11_about_184
    · obtain rfl : p0 = 13 := eh_2
      refine lv_tableIn (tgt := 185) hx hb dX11_about_11 (by decide) (by decide) (off := 174) (by decide) (by decide) ?_
      refine lv_aload_n hx hb dX11_about_185 rfl (lv_at hl 1 rfl) ?_
      refine va_get (D := g.1) (ci := 11) (v := .int xtapeLength) (C := RX11) (T := TX11) (N := 14) hx hb hT inF_X11 hown hK.1 hP 0 rfl rfl 1 (by decide) (hT _ bw_339) (fun _ h9 => h9) rfl dX11_about_186 ?_
      have hP9 : va_P g.1 vwCl [] H := hP.sub [] rfl
      have hD9 : va_D A [] := ⟨fun i j p q h => by simp at h, fun k q h => by simp at h⟩
      exact W.iret (v := xtapeLength) hx hb hr (fun t ht hW => ⟨⟨xtapeLength, (), rfl, trivial, by rw [ht]; exact hP9, by rw [hAe]; exact hD9⟩, hS.F ht⟩) hS.2.2 dX11_about_189
    · obtain rfl : p0 = 14 := eh_2
      refine lv_tableIn (tgt := 190) hx hb dX11_about_11 (by decide) (by decide) (off := 179) (by decide) (by decide) ?_
      refine lv_aload_n hx hb dX11_about_190 rfl (lv_at hl 1 rfl) ?_
      refine va_get (D := g.1) (ci := 11) (v := .ref xland) (C := RX11) (T := TX11) (N := 14) hx hb hT inF_X11 hown hK.1 hP 0 rfl rfl 3 (by decide) (hT _ bw_269) (fun _ h9 => h9) rfl dX11_about_191 ?_
      refine va_get (D := g.1) (ci := 2) (v := .ref dformulas) (C := RX2) (T := TX2) (N := 9) hx hb hT inF_X2 hown hK.1 hP 2 rfl rfl 1 (by decide) (hT _ bw_327) (fun _ h9 => h9) rfl dX11_about_194 ?_
      refine va_get (D := g.1) (ci := 0) (v := .int dformulas_units) (C := RX0) (T := TX0) (N := 8) hx hb hT inF_X0 hown hK.1 hP 4 rfl rfl 1 (by decide) (hT _ bw_340) (fun _ h9 => h9) rfl dX11_about_197 ?_
      have hP9 : va_P g.1 vwCl [] H := hP.sub [] rfl
      have hD9 : va_D A [] := ⟨fun i j p q h => by simp at h, fun k q h => by simp at h⟩
      exact W.iret (v := dformulas_units) hx hb hr (fun t ht hW => ⟨⟨dformulas_units, (), rfl, trivial, by rw [ht]; exact hP9, by rw [hAe]; exact hD9⟩, hS.F ht⟩) hS.2.2 dX11_about_200
    · obtain rfl : p0 = 15 := eh_2
      refine lv_tableIn (tgt := 201) hx hb dX11_about_11 (by decide) (by decide) (off := 190) (by decide) (by decide) ?_
      refine lv_aload_n hx hb dX11_about_201 rfl (lv_at hl 1 rfl) ?_
      refine va_get (D := g.1) (ci := 11) (v := .ref xheap) (C := RX11) (T := TX11) (N := 14) hx hb hT inF_X11 hown hK.1 hP 0 rfl rfl 13 (by decide) (hT _ bw_341) (fun _ h9 => h9) rfl dX11_about_202 ?_
      refine va_get (D := g.1) (ci := 1) (v := .int ecount) (C := RX1) (T := TX1) (N := 2) hx hb hT inF_X1 hown hK.1 hP 8 rfl rfl 0 (by decide) (hT _ bw_342) (fun _ h9 => h9) rfl dX11_about_205 ?_
      have hP9 : va_P g.1 vwCl [] H := hP.sub [] rfl
      have hD9 : va_D A [] := ⟨fun i j p q h => by simp at h, fun k q h => by simp at h⟩
      exact W.iret (v := ecount) hx hb hr (fun t ht hW => ⟨⟨ecount, (), rfl, trivial, by rw [ht]; exact hP9, by rw [hAe]; exact hD9⟩, hS.F ht⟩) hS.2.2 dX11_about_208

theorem bw_344 : Cond.methodLink RX11 210 yX9_sideOf ∈ gT := gT_tb 973 (by decide +kernel) (by decide +kernel)
theorem bw_345 : Cond.code yX11_his cX11_his 6 (some .int) ∈ gT := gT_tb 972 (by decide +kernel) (by decide +kernel)
theorem dX11_his_0 : decode cX11_his 0 = .ok (.aload_n 0, 1) := by decide +kernel
theorem dX11_his_1 : decode cX11_his 1 = .ok (.getfield 23, 3) := by decide +kernel
theorem dX11_his_4 : decode cX11_his 4 = .ok (.getfield 97, 3) := by decide +kernel
theorem dX11_his_7 : decode cX11_his 7 = .ok (.iload_n 1, 1) := by decide +kernel
theorem dX11_his_8 : decode cX11_his 8 = .ok (.invokevirtual 112, 3) := by decide +kernel
theorem dX11_his_11 : decode cX11_his 11 = .ok (.ifCond .ne 5, 3) := by decide +kernel
theorem dX11_his_14 : decode cX11_his 14 = .ok (.iconst (-1), 1) := by decide +kernel
theorem dX11_his_15 : decode cX11_his 15 = .ok (.ireturn, 1) := by decide +kernel
theorem dX11_his_16 : decode cX11_his 16 = .ok (.aload_n 0, 1) := by decide +kernel
theorem dX11_his_17 : decode cX11_his 17 = .ok (.getfield 32, 3) := by decide +kernel
theorem dX11_his_20 : decode cX11_his 20 = .ok (.aload_n 0, 1) := by decide +kernel
theorem dX11_his_21 : decode cX11_his 21 = .ok (.getfield 84, 3) := by decide +kernel
theorem dX11_his_24 : decode cX11_his 24 = .ok (.aaload, 1) := by decide +kernel
theorem dX11_his_25 : decode cX11_his 25 = .ok (.astore_n 2, 1) := by decide +kernel
theorem dX11_his_26 : decode cX11_his 26 = .ok (.iconst 0, 1) := by decide +kernel
theorem dX11_his_27 : decode cX11_his 27 = .ok (.istore_n 3, 1) := by decide +kernel
theorem dX11_his_28 : decode cX11_his 28 = .ok (.iconst 0, 1) := by decide +kernel
theorem dX11_his_29 : decode cX11_his 29 = .ok (.istore 4, 2) := by decide +kernel
theorem dX11_his_31 : decode cX11_his 31 = .ok (.iload 4, 2) := by decide +kernel
theorem dX11_his_33 : decode cX11_his 33 = .ok (.aload_n 2, 1) := by decide +kernel
theorem dX11_his_34 : decode cX11_his 34 = .ok (.getfield 207, 3) := by decide +kernel
theorem dX11_his_37 : decode cX11_his 37 = .ok (.if_icmp .ge 39, 3) := by decide +kernel
theorem dX11_his_40 : decode cX11_his 40 = .ok (.aload_n 2, 1) := by decide +kernel
theorem dX11_his_41 : decode cX11_his 41 = .ok (.iload 4, 2) := by decide +kernel
theorem dX11_his_43 : decode cX11_his 43 = .ok (.iload_n 1, 1) := by decide +kernel
theorem dX11_his_44 : decode cX11_his 44 = .ok (.invokevirtual 210, 3) := by decide +kernel
theorem dX11_his_47 : decode cX11_his 47 = .ok (.istore 5, 2) := by decide +kernel
theorem dX11_his_49 : decode cX11_his 49 = .ok (.iload 5, 2) := by decide +kernel
theorem dX11_his_51 : decode cX11_his 51 = .ok (.iconst (-1), 1) := by decide +kernel
theorem dX11_his_52 : decode cX11_his 52 = .ok (.if_icmp .eq 18, 3) := by decide +kernel
theorem dX11_his_55 : decode cX11_his 55 = .ok (.iload_n 3, 1) := by decide +kernel
theorem dX11_his_56 : decode cX11_his 56 = .ok (.aload_n 2, 1) := by decide +kernel
theorem dX11_his_57 : decode cX11_his 57 = .ok (.aload_n 0, 1) := by decide +kernel
theorem dX11_his_58 : decode cX11_his 58 = .ok (.getfield 23, 3) := by decide +kernel
theorem dX11_his_61 : decode cX11_his 61 = .ok (.iload 4, 2) := by decide +kernel
theorem dX11_his_63 : decode cX11_his 63 = .ok (.iload 5, 2) := by decide +kernel
theorem dX11_his_65 : decode cX11_his 65 = .ok (.invokevirtual 196, 3) := by decide +kernel
theorem dX11_his_68 : decode cX11_his 68 = .ok (.ior, 1) := by decide +kernel
theorem dX11_his_69 : decode cX11_his 69 = .ok (.istore_n 3, 1) := by decide +kernel
theorem dX11_his_70 : decode cX11_his 70 = .ok (.iinc 4 1, 3) := by decide +kernel
theorem dX11_his_73 : decode cX11_his 73 = .ok (.goto (-42), 3) := by decide +kernel
theorem dX11_his_76 : decode cX11_his 76 = .ok (.iload_n 3, 1) := by decide +kernel
theorem dX11_his_77 : decode cX11_his 77 = .ok (.ireturn, 1) := by decide +kernel
set_option maxHeartbeats 4000000 in
set_option maxRecDepth 100000 in
theorem s_X11_his (l : Launch) (g : GG) (sz : Nat) (x : Nat) (xtape : Nat) (xtapeLength : Int32) (xreader : Nat) (xland : Nat) (xspareLand : Nat) (xstates : Nat) (Fxstates : Nat → Option Nat) (xcurrent : Int32) (xnewest : Int32) (xboxes : Nat) (xfullBoxes : Int32) (xsearch : Nat) (xsights : Nat) (xparting : Nat) (xheap : Nat) (dduels : Int32) (dduelSides : Nat) (dduelMornings : Nat) (dhonour : Int32) (ddraw : Int32) (dusesOfKind : Nat) (dmen : Nat) (dmen_count : Int32) (dmen_names : Nat) (dmen_dies : Nat) (Fdmen_dies : Nat → Int32) (dmen_coins : Nat) (dmen_fathers : Nat) (dformulas : Nat) (dreasons : Nat) (dreasons_count : Int32) (dreasons_names : Nat) (dreasons_kinds : Nat) (dreasons_owners : Nat) (Fdreasons_owners : Nat → Int32) (dreasons_froms : Nat) (Fdreasons_froms : Nat → Int32) (dreasons_tos : Nat) (Fdreasons_tos : Nat → Int32) (dreasons_rents : Nat) (dreasons_sorts : Nat) (Fdreasons_sorts : Nat → Int32) (st : Nat) (sday : Int32) (sseed : Int32) (salive : Int32) (sstruck : Int32) (sopen : Int32) (sduels : Int32) (slines : Int32) (scoins : Nat) (srented : Nat) (Fsrented : Nat → Int32) (smornings : Nat) (Fsmornings : Nat → Int32) (shonours : Nat) (sused : Nat) (Fsused : Nat → Int32) (ssides : Nat) (Fssides : Nat → Int32) (slog : Nat) (p0 : Int32) (hh0 : 0 ≤ xtapeLength.toInt ∧ xtapeLength.toInt ≤ 1600) (hh1 : 0 ≤ xcurrent.toInt ∧ xcurrent.toInt ≤ 40) (hh2 : 0 ≤ xnewest.toInt ∧ xnewest.toInt ≤ 40) (hh3 : 0 ≤ dduels.toInt ∧ dduels.toInt ≤ 6) (hh5 : 0 ≤ ddraw.toInt ∧ ddraw.toInt ≤ 999) (hh6 : 0 ≤ dmen_count.toInt ∧ dmen_count.toInt ≤ 6) (hh12 : 0 ≤ dreasons_count.toInt ∧ dreasons_count.toInt ≤ 8) (hh14 : Rg 8 (-1) 5 Fdreasons_owners) (hh15 : 0 ≤ sseed.toInt ∧ sseed.toInt ≤ 999) (hh16 : 0 ≤ sduels.toInt ∧ sduels.toInt ≤ 8) (hh17 : 0 ≤ slines.toInt ∧ slines.toInt ≤ 60) (hh18 : Rg 16 0 5 Fssides) (ho : Fxstates xcurrent.toNatClampNeg = some st) : Met l yX11_his (.code yX11_his cX11_his 6 (some .int) :: gT) ({ frames := 6, cells := 0, slots := 0, locals := 141 }) (va_Pc [.ref x, .int p0] (Pst g sz [(x, .inr (11, [.ref xtape, .int xtapeLength, .ref xreader, .ref xland, .ref xspareLand, .ref xstates, .int xcurrent, .int xnewest, .ref xboxes, .int xfullBoxes, .ref xsearch, .ref xsights, .ref xparting, .ref xheap])), (xstates, aO g 41 Fxstates), (xland, .inr (2, [.ref dmen, .ref dformulas, .ref dreasons, .int dduels, .ref dduelSides, .ref dduelMornings, .int dhonour, .int ddraw, .ref dusesOfKind])), (dmen, .inr (3, [.int dmen_count, .ref dmen_names, .ref dmen_dies, .ref dmen_coins, .ref dmen_fathers])), (dmen_dies, aI g 6 Fdmen_dies), (dreasons, .inr (6, [.int dreasons_count, .ref dreasons_names, .ref dreasons_kinds, .ref dreasons_owners, .ref dreasons_froms, .ref dreasons_tos, .ref dreasons_rents, .ref dreasons_sorts])), (dreasons_owners, aI g 8 Fdreasons_owners), (dreasons_froms, aI g 8 Fdreasons_froms), (dreasons_tos, aI g 8 Fdreasons_tos), (dreasons_sorts, aI g 8 Fdreasons_sorts), (st, .inr (9, [.int sday, .int sseed, .int salive, .int sstruck, .int sopen, .int sduels, .int slines, .ref scoins, .ref srented, .ref smornings, .ref shonours, .ref sused, .ref ssides, .ref slog])), (srented, aI g 6 Fsrented), (smornings, aI g 8 Fsmornings), (sused, aI g 8 Fsused), (ssides, aI g 16 Fssides)] nX)) (va_Qi (fun (r : Int32) => fun (_ : Unit) => True) (Qst g [] sz (fun _ => [])) (va_A [] sz)) 0 0 (va_A [] sz) := by
  refine Met.ofW (cc := cX11_his) (maxL := 6) (ret := (some .int)) (by decide) rfl ?_
  intro p e s m args below meth c s₁ B hml hv
  obtain ⟨rfl, hsz, hP, hK, hD0, hX⟩ := hv
  have hx := B.exec
  have hb := B.bytes
  have hr := B.returns
  have hT : ∀ w ∈ gT, w.before _ s = true := fun w h => atoms_spec (ws := .code yX11_his cX11_his 6 (some .int) :: gT) B.pre w (List.mem_cons_of_mem _ h)
  have hown : s.vm.findClass RX11 = some m.cls := findClass_of_methodNamed B.named
  have hlocks := B.notSynchronized
  subst hsz
  have hD := hD0
  generalize hAe : va_A [] s.heap.size = A at ⊢
  have hA : ∀ q : Nat, s.heap.size ≤ q → A q := fun q h => by rw [← hAe]; exact Or.inr h
  have hS : va_S A s.heap s.heap [] := va_S.rf
  have hl := lv_entry ([.ref x, .int p0]) (n := 6) (Nat.le_of_ble_eq_true rfl)
  rw [lg_entry_eq]
  generalize (lg_sl ([.ref x, .int p0]) ++ List.replicate (6 - (lg_sl ([.ref x, .int p0])).length) Slot.unset).toArray = ls at hl ⊢
  have hl : lv_has ls 6 [(0, .ref x), (1, .int p0)] := hl
  refine p_nH (fun H hH => ?_)
  have hP : va_P g.1 vwCl [(x, .inr (11, [.ref xtape, .int xtapeLength, .ref xreader, .ref xland, .ref xspareLand, .ref xstates, .int xcurrent, .int xnewest, .ref xboxes, .int xfullBoxes, .ref xsearch, .ref xsights, .ref xparting, .ref xheap])), (xstates, aO g 41 Fxstates), (xland, .inr (2, [.ref dmen, .ref dformulas, .ref dreasons, .int dduels, .ref dduelSides, .ref dduelMornings, .int dhonour, .int ddraw, .ref dusesOfKind])), (dmen, .inr (3, [.int dmen_count, .ref dmen_names, .ref dmen_dies, .ref dmen_coins, .ref dmen_fathers])), (dmen_dies, aI g 6 Fdmen_dies), (dreasons, .inr (6, [.int dreasons_count, .ref dreasons_names, .ref dreasons_kinds, .ref dreasons_owners, .ref dreasons_froms, .ref dreasons_tos, .ref dreasons_rents, .ref dreasons_sorts])), (dreasons_owners, aI g 8 Fdreasons_owners), (dreasons_froms, aI g 8 Fdreasons_froms), (dreasons_tos, aI g 8 Fdreasons_tos), (dreasons_sorts, aI g 8 Fdreasons_sorts), (st, .inr (9, [.int sday, .int sseed, .int salive, .int sstruck, .int sopen, .int sduels, .int slines, .ref scoins, .ref srented, .ref smornings, .ref shonours, .ref sused, .ref ssides, .ref slog])), (srented, aI g 6 Fsrented), (smornings, aI g 8 Fsmornings), (sused, aI g 8 Fsused), (ssides, aI g 16 Fssides)] H := by rw [hH]; exact hP
  have hS : va_S A s.heap H [] := by rw [hH]; exact hS
  refine lv_aload_n hx hb dX11_his_0 rfl (lv_at hl 0 rfl) ?_
  refine va_get (D := g.1) (ci := 11) (v := .ref xland) (C := RX11) (T := TX11) (N := 14) hx hb hT inF_X11 hown hK.1 hP 0 rfl rfl 3 (by decide) (hT _ bw_269) (fun _ h9 => h9) rfl dX11_his_1 ?_
  refine va_get (D := g.1) (ci := 2) (v := .ref dmen) (C := RX2) (T := TX2) (N := 9) hx hb hT inF_X2 hown hK.1 hP 2 rfl rfl 0 (by decide) (hT _ bw_270) (fun _ h9 => h9) rfl dX11_his_4 ?_
  refine lv_iload_n hx hb dX11_his_7 rfl (lv_at hl 1 rfl) ?_
  refine k_iR (k_V (n := 1) ⟨hx, hb, hml, hown, hT⟩ hK hP hD [3] rfl (by decide +kernel) (s_X3_has l g H.size dmen dmen_count dmen_names dmen_dies dmen_coins dmen_fathers p0 (by first | with_reducible assumption | omega)) (gV bw_271 bw_272 bw_273 bw_274 bw_5) rfl rfl (by decide +kernel) ⟨by decide, by decide⟩ (ci := 3) (q0 := 0) rfl rfl (fun _ _ _ _ _ => trivial) (fun _ _ _ => trivial) rfl rfl hl.1 (Nat.le_of_ble_eq_true rfl) dX11_his_8 ⟨by decide, by decide⟩) hP hS hA (fun r_1 _ H locs hw0 hP hS => ?_)
  have hw : (r_1 = 1 ∧ (0 ≤ p0.toInt ∧ p0.toInt < dmen_count.toInt)) ∨ (r_1 = 0) := hw0
  clear hw0
  rcases hw with ⟨e_3, w_2⟩ | e_4
  · subst e_3
    refine lv_if_ne (tgt := 16) hx hb dX11_his_11 (by decide) (fun _ => ?_) (fun c9 => absurd c9 (by decide))
    refine lv_aload_n hx hb dX11_his_16 rfl (lv_at hl 0 rfl) ?_
    refine va_get (D := g.1) (ci := 11) (v := .ref xstates) (C := RX11) (T := TX11) (N := 14) hx hb hT inF_X11 hown hK.1 hP 0 rfl rfl 5 (by decide) (hT _ bw_275) (fun _ h9 => h9) rfl dX11_his_17 ?_
    refine lv_aload_n hx hb dX11_his_20 rfl (lv_at hl 0 rfl) ?_
    refine va_get (D := g.1) (ci := 11) (v := .int xcurrent) (C := RX11) (T := TX11) (N := 14) hx hb hT inF_X11 hown hK.1 hP 0 rfl rfl 6 (by decide) (hT _ bw_276) (fun _ h9 => h9) rfl dX11_his_21 ?_
    have h_5 : vp_in xcurrent 41 := vp_in_iff.mpr (by omega)
    refine va_aldq hx hb hK.1 hP 1 4 rfl rfl (i := xcurrent) h_5 dX11_his_24 ?_
    refine p_tr (x := st) (by rw [ho]; rfl) ?_
    refine lv_astore_n (lv' := [(2, .ref st), (0, .ref x), (1, .int p0)]) hx hb dX11_his_25 rfl hl (by decide) rfl (fun ls hl => ?_)
    refine lv_iconst (v := 0) hx hb dX11_his_26 (by decide) ?_
    refine lv_istore_n (lv' := [(3, .int 0), (2, .ref st), (0, .ref x), (1, .int p0)]) hx hb dX11_his_27 rfl hl (by decide) rfl (fun ls hl => ?_)
    refine lv_iconst (v := 0) hx hb dX11_his_28 (by decide) ?_
    refine lv_istore (lv' := [(4, .int 0), (3, .int 0), (2, .ref st), (0, .ref x), (1, .int p0)]) hx hb dX11_his_29 hl (by decide) rfl (fun ls hl => ?_)
    refine k_floop 31 (fun n H locs ls => ∃ (L_6 : Int32) (L_7 : Int32), (0 ≤ L_6.toInt ∧ L_6.toInt ≤ 8) ∧ 8 - L_6.toInt ≤ (n : Int) ∧ va_P g.1 vwCl [(x, .inr (11, [.ref xtape, .int xtapeLength, .ref xreader, .ref xland, .ref xspareLand, .ref xstates, .int xcurrent, .int xnewest, .ref xboxes, .int xfullBoxes, .ref xsearch, .ref xsights, .ref xparting, .ref xheap])), (xstates, aO g 41 Fxstates), (xland, .inr (2, [.ref dmen, .ref dformulas, .ref dreasons, .int dduels, .ref dduelSides, .ref dduelMornings, .int dhonour, .int ddraw, .ref dusesOfKind])), (dmen, .inr (3, [.int dmen_count, .ref dmen_names, .ref dmen_dies, .ref dmen_coins, .ref dmen_fathers])), (dmen_dies, aI g 6 Fdmen_dies), (dreasons, .inr (6, [.int dreasons_count, .ref dreasons_names, .ref dreasons_kinds, .ref dreasons_owners, .ref dreasons_froms, .ref dreasons_tos, .ref dreasons_rents, .ref dreasons_sorts])), (dreasons_owners, aI g 8 Fdreasons_owners), (dreasons_froms, aI g 8 Fdreasons_froms), (dreasons_tos, aI g 8 Fdreasons_tos), (dreasons_sorts, aI g 8 Fdreasons_sorts), (st, .inr (9, [.int sday, .int sseed, .int salive, .int sstruck, .int sopen, .int sduels, .int slines, .ref scoins, .ref srented, .ref smornings, .ref shonours, .ref sused, .ref ssides, .ref slog])), (srented, aI g 6 Fsrented), (smornings, aI g 8 Fsmornings), (sused, aI g 8 Fsused), (ssides, aI g 16 Fssides)] H ∧ va_S A s.heap H locs ∧ lv_has ls 6 [(4, .int L_6), (3, .int L_7), (2, .ref st), (0, .ref x), (1, .int p0)]) (fun n H locs ls hI ih => ?_) ((8 - 0 : Int)).toNat ⟨0, 0, by decide, by have k0 : (0 : Int32).toInt = 0 := (by decide); omega, hP, hS, hl⟩
    refine hI.elim (fun L_6 hI => hI.elim (fun L_7 hI => ?_))
    have g_8 := hI.1
    have hm_9 := hI.2.1
    have hP := hI.2.2.1
    have hS := hI.2.2.2.1
    have hl := hI.2.2.2.2
    clear hI
    refine lv_iload hx hb dX11_his_31 (lv_at hl 0 rfl) ?_
    refine lv_aload_n hx hb dX11_his_33 rfl (lv_at hl 2 rfl) ?_
    refine va_get (D := g.1) (ci := 9) (v := .int sduels) (C := RX9) (T := TX9) (N := 14) hx hb hT inF_X9 hown hK.1 hP 10 rfl rfl 5 (by decide) (hT _ bw_330) (fun _ h9 => h9) rfl dX11_his_34 ?_
    refine lv_icmp_ge (tgt := 76) hx hb dX11_his_37 (by decide) (fun c_10 => ?_) (fun c_10 => ?_)
    · have f_11 := E_le (rfl : sduels.toInt = _) (rfl : L_6.toInt = _) c_10
      refine lv_iload_n hx hb dX11_his_76 rfl (lv_at hl 1 rfl) ?_
      have hP9 : va_P g.1 vwCl [] H := hP.sub [] rfl
      have hD9 : va_D A [] := ⟨fun i j p q h => by simp at h, fun k q h => by simp at h⟩
      exact W.iret (v := L_7) hx hb hr (fun t ht hW => ⟨⟨L_7, (), rfl, trivial, by rw [ht]; exact hP9, by rw [hAe]; exact hD9⟩, hS.F ht⟩) hS.2.2 dX11_his_77
    · have f_12 := E_nle (rfl : sduels.toInt = _) (rfl : L_6.toInt = _) c_10
      refine lv_aload_n hx hb dX11_his_40 rfl (lv_at hl 2 rfl) ?_
      refine lv_iload hx hb dX11_his_41 (lv_at hl 0 rfl) ?_
      refine lv_iload_n hx hb dX11_his_43 rfl (lv_at hl 4 rfl) ?_
      refine k_iR (k_V (n := 2) ⟨hx, hb, hml, hown, hT⟩ hK hP hD [10, 14] rfl (by decide +kernel) (s_X9_sideOf l g H.size st sday sseed salive sstruck sopen sduels slines scoins srented smornings shonours sused ssides Fssides slog L_6 p0 (by first | with_reducible assumption | omega) (by first | with_reducible assumption | omega) (by first | with_reducible assumption | omega) hh18 (by first | with_reducible assumption | omega)) (gV bw_344 bw_48 bw_49 bw_46 bw_37) rfl rfl (by decide +kernel) ⟨by decide, by decide⟩ (ci := 9) (q0 := 0) rfl rfl (fun _ _ _ _ _ => trivial) (fun _ _ _ => trivial) rfl rfl hl.1 (Nat.le_of_ble_eq_true rfl) dX11_his_44 ⟨by decide, by decide⟩) hP hS hA (fun r_13 _ H locs hw0 hP hS => ?_)
      have hw : (-1) ≤ r_13.toInt ∧ r_13.toInt ≤ 1 := hw0
      clear hw0
      have w_14 := hw
      refine lv_istore (lv' := [(5, .int r_13), (4, .int L_6), (3, .int L_7), (2, .ref st), (0, .ref x), (1, .int p0)]) hx hb dX11_his_47 hl (by decide) rfl (fun ls hl => ?_)
      refine lv_iload hx hb dX11_his_49 (lv_at hl 0 rfl) ?_
      refine lv_iconst (v := (-1)) hx hb dX11_his_51 (by decide) ?_
      refine lv_icmp_eq (tgt := 70) hx hb dX11_his_52 (by decide) (fun c_15 => ?_) (fun c_15 => ?_)
      · have f_16 := E_eq (rfl : r_13.toInt = _) (by decide : ((-1) : Int32).toInt = (-1)) c_15
        obtain ⟨x_17, ex_17⟩ : ∃ y : Int32, y = L_6 + 1 := ⟨_, rfl⟩
        have fx_17 : x_17.toInt = L_6.toInt + 1 := by rw [ex_17]; exact I_add rfl (by decide) (by omega) (by omega)
        refine lv_iinc (v := x_17) (lv' := [(4, .int x_17), (5, .int r_13), (3, .int L_7), (2, .ref st), (0, .ref x), (1, .int p0)]) hx hb dX11_his_70 hl (k := 1) rfl (by rw [ex_17]; rfl) (by decide) rfl (fun ls hl => ?_)
        refine lv_goto (tgt := 31) hx hb dX11_his_73 (by decide) ?_
        exact ih (n - 1) (by omega) H locs ls ⟨x_17, L_7, (by first | with_reducible assumption | omega), by omega, hP.sub [0, 1, 2, 3, 4, 5, 6, 7, 8, 9, 10, 11, 12, 13, 14] rfl, hS, lv_sub hl [0, 2, 3, 4, 5] rfl⟩
      · have f_18 := E_ne (rfl : r_13.toInt = _) (by decide : ((-1) : Int32).toInt = (-1)) c_15
        refine lv_iload_n hx hb dX11_his_55 rfl (lv_at hl 2 rfl) ?_
        refine lv_aload_n hx hb dX11_his_56 rfl (lv_at hl 3 rfl) ?_
        refine lv_aload_n hx hb dX11_his_57 rfl (lv_at hl 4 rfl) ?_
        refine va_get (D := g.1) (ci := 11) (v := .ref xland) (C := RX11) (T := TX11) (N := 14) hx hb hT inF_X11 hown hK.1 hP 0 rfl rfl 3 (by decide) (hT _ bw_269) (fun _ h9 => h9) rfl dX11_his_58 ?_
        refine lv_iload hx hb dX11_his_61 (lv_at hl 1 rfl) ?_
        refine lv_iload hx hb dX11_his_63 (lv_at hl 0 rfl) ?_
        refine k_iR (k_V (n := 3) ⟨hx, hb, hml, hown, hT⟩ hK hP hD [10, 11, 12, 13, 14, 2, 3, 4, 5, 6, 7, 8, 9] rfl (by decide +kernel) (s_X9_usable l g H.size st sday sseed salive sstruck sopen sduels slines scoins srented Fsrented smornings Fsmornings shonours sused Fsused ssides Fssides slog xland dduels dduelSides dduelMornings dhonour ddraw dusesOfKind dmen dmen_count dmen_names dmen_dies Fdmen_dies dmen_coins dmen_fathers dformulas dreasons dreasons_count dreasons_names dreasons_kinds dreasons_owners Fdreasons_owners dreasons_froms Fdreasons_froms dreasons_tos Fdreasons_tos dreasons_rents dreasons_sorts Fdreasons_sorts L_6 r_13 (by first | with_reducible assumption | omega) (by first | with_reducible assumption | omega) (by first | with_reducible assumption | omega) hh18 (by first | with_reducible assumption | omega) (by first | with_reducible assumption | omega) (by first | with_reducible assumption | omega) (by first | with_reducible assumption | omega) hh14 (by first | with_reducible assumption | omega) (by first | with_reducible assumption | omega)) (gV bw_309 bw_310 bw_311 bw_46 bw_197) rfl rfl (by decide +kernel) ⟨by decide, by decide⟩ (ci := 9) (q0 := 0) rfl rfl (fun _ _ _ _ _ => trivial) (fun _ _ _ => trivial) rfl rfl hl.1 (Nat.le_of_ble_eq_true rfl) dX11_his_65 ⟨by decide, by decide⟩) hP hS hA (fun r_19 _ H locs hw0 hP hS => ?_)
        refine lv_ior hx hb dX11_his_68 ?_
        refine lv_topi (fun x_20 ex_20 => ?_)
        refine lv_istore_n (lv' := [(3, .int x_20), (5, .int r_13), (4, .int L_6), (2, .ref st), (0, .ref x), (1, .int p0)]) hx hb dX11_his_69 rfl hl (by decide) rfl (fun ls hl => ?_)
        obtain ⟨x_21, ex_21⟩ : ∃ y : Int32, y = L_6 + 1 := ⟨_, rfl⟩
        have fx_21 : x_21.toInt = L_6.toInt + 1 := by rw [ex_21]; exact I_add rfl (by decide) (by omega) (by omega)
        refine lv_iinc (v := x_21) (lv' := [(4, .int x_21), (3, .int x_20), (5, .int r_13), (2, .ref st), (0, .ref x), (1, .int p0)]) hx hb dX11_his_70 hl (k := 2) rfl (by rw [ex_21]; rfl) (by decide) rfl (fun ls hl => ?_)
        refine lv_goto (tgt := 31) hx hb dX11_his_73 (by decide) ?_
        exact ih (n - 1) (by omega) H locs ls ⟨x_21, x_20, (by first | with_reducible assumption | omega), by omega, hP.sub [0, 1, 2, 3, 4, 5, 6, 7, 8, 9, 10, 11, 12, 13, 14] rfl, hS, lv_sub hl [0, 1, 3, 4, 5] rfl⟩
  · subst e_4
    refine lv_if_ne (tgt := 16) hx hb dX11_his_11 (by decide) (fun c9 => absurd (by decide) c9) (fun _ => ?_)
    refine lv_iconst (v := (-1)) hx hb dX11_his_14 (by decide) ?_
    have hP9 : va_P g.1 vwCl [] H := hP.sub [] rfl
    have hD9 : va_D A [] := ⟨fun i j p q h => by simp at h, fun k q h => by simp at h⟩
    exact W.iret (v := (-1)) hx hb hr (fun t ht hW => ⟨⟨(-1), (), rfl, trivial, by rw [ht]; exact hP9, by rw [hAe]; exact hD9⟩, hS.F ht⟩) hS.2.2 dX11_his_15

theorem bw_346 : Cond.fieldLink RX11 308 "DuelDelays$Heap" "numbers" "[I" ∈ gT := gT_tb 437 (by decide +kernel) (by decide +kernel)
theorem bw_347 : Cond.code yX11_lies cX11_lies 2 (some .int) ∈ gT := gT_tb 1233 (by decide +kernel) (by decide +kernel)
theorem dX11_lies_0 : decode cX11_lies 0 = .ok (.iload_n 1, 1) := by decide +kernel
theorem dX11_lies_1 : decode cX11_lies 1 = .ok (.ifCond .lt 26, 3) := by decide +kernel
theorem dX11_lies_4 : decode cX11_lies 4 = .ok (.iload_n 1, 1) := by decide +kernel
theorem dX11_lies_5 : decode cX11_lies 5 = .ok (.aload_n 0, 1) := by decide +kernel
theorem dX11_lies_6 : decode cX11_lies 6 = .ok (.getfield 63, 3) := by decide +kernel
theorem dX11_lies_9 : decode cX11_lies 9 = .ok (.getfield 307, 3) := by decide +kernel
theorem dX11_lies_12 : decode cX11_lies 12 = .ok (.if_icmp .ge 15, 3) := by decide +kernel
theorem dX11_lies_15 : decode cX11_lies 15 = .ok (.aload_n 0, 1) := by decide +kernel
theorem dX11_lies_16 : decode cX11_lies 16 = .ok (.getfield 63, 3) := by decide +kernel
theorem dX11_lies_19 : decode cX11_lies 19 = .ok (.getfield 308, 3) := by decide +kernel
theorem dX11_lies_22 : decode cX11_lies 22 = .ok (.iload_n 1, 1) := by decide +kernel
theorem dX11_lies_23 : decode cX11_lies 23 = .ok (.iaload, 1) := by decide +kernel
theorem dX11_lies_24 : decode cX11_lies 24 = .ok (.goto 4, 3) := by decide +kernel
theorem dX11_lies_27 : decode cX11_lies 27 = .ok (.iconst (-1), 1) := by decide +kernel
theorem dX11_lies_28 : decode cX11_lies 28 = .ok (.ireturn, 1) := by decide +kernel
set_option maxHeartbeats 4000000 in
set_option maxRecDepth 100000 in
theorem s_X11_lies (l : Launch) (g : GG) (sz : Nat) (x : Nat) (xtape : Nat) (xtapeLength : Int32) (xreader : Nat) (xland : Nat) (xspareLand : Nat) (xstates : Nat) (xcurrent : Int32) (xnewest : Int32) (xboxes : Nat) (xfullBoxes : Int32) (xsearch : Nat) (xsights : Nat) (xparting : Nat) (xheap : Nat) (ecount : Int32) (enumbers : Nat) (Fenumbers : Nat → Int32) (p0 : Int32) (hh0 : 0 ≤ xtapeLength.toInt ∧ xtapeLength.toInt ≤ 1600) (hh1 : 0 ≤ xcurrent.toInt ∧ xcurrent.toInt ≤ 40) (hh2 : 0 ≤ xnewest.toInt ∧ xnewest.toInt ≤ 40) (hh21 : 0 ≤ ecount.toInt ∧ ecount.toInt ≤ 16) : Met l yX11_lies (.code yX11_lies cX11_lies 2 (some .int) :: gT) ({ frames := 0, cells := 0, slots := 0, locals := 0 }) (va_Pc [.ref x, .int p0] (Pst g sz [(x, .inr (11, [.ref xtape, .int xtapeLength, .ref xreader, .ref xland, .ref xspareLand, .ref xstates, .int xcurrent, .int xnewest, .ref xboxes, .int xfullBoxes, .ref xsearch, .ref xsights, .ref xparting, .ref xheap])), (xheap, .inr (1, [.int ecount, .ref enumbers])), (enumbers, aI g 16 Fenumbers)] nX)) (va_Qi (fun (r : Int32) => fun (_ : Unit) => True) (Qst g [] sz (fun _ => [])) (va_A [] sz)) 0 0 (va_A [] sz) := by
  refine Met.ofW (cc := cX11_lies) (maxL := 2) (ret := (some .int)) (by decide) rfl ?_
  intro p e s m args below meth c s₁ B hml hv
  obtain ⟨rfl, hsz, hP, hK, hD0, hX⟩ := hv
  have hx := B.exec
  have hb := B.bytes
  have hr := B.returns
  have hT : ∀ w ∈ gT, w.before _ s = true := fun w h => atoms_spec (ws := .code yX11_lies cX11_lies 2 (some .int) :: gT) B.pre w (List.mem_cons_of_mem _ h)
  have hown : s.vm.findClass RX11 = some m.cls := findClass_of_methodNamed B.named
  have hlocks := B.notSynchronized
  subst hsz
  have hD := hD0
  generalize hAe : va_A [] s.heap.size = A at ⊢
  have hA : ∀ q : Nat, s.heap.size ≤ q → A q := fun q h => by rw [← hAe]; exact Or.inr h
  have hS : va_S A s.heap s.heap [] := va_S.rf
  have hl := lv_entry ([.ref x, .int p0]) (n := 2) (Nat.le_of_ble_eq_true rfl)
  rw [lg_entry_eq]
  generalize (lg_sl ([.ref x, .int p0]) ++ List.replicate (2 - (lg_sl ([.ref x, .int p0])).length) Slot.unset).toArray = ls at hl ⊢
  have hl : lv_has ls 2 [(0, .ref x), (1, .int p0)] := hl
  refine p_nH (fun H hH => ?_)
  have hP : va_P g.1 vwCl [(x, .inr (11, [.ref xtape, .int xtapeLength, .ref xreader, .ref xland, .ref xspareLand, .ref xstates, .int xcurrent, .int xnewest, .ref xboxes, .int xfullBoxes, .ref xsearch, .ref xsights, .ref xparting, .ref xheap])), (xheap, .inr (1, [.int ecount, .ref enumbers])), (enumbers, aI g 16 Fenumbers)] H := by rw [hH]; exact hP
  have hS : va_S A s.heap H [] := by rw [hH]; exact hS
  refine lv_iload_n hx hb dX11_lies_0 rfl (lv_at hl 1 rfl) ?_
  refine lv_if_lt (tgt := 27) hx hb dX11_lies_1 (by decide) (fun c_1 => ?_) (fun c_1 => ?_)
  · have f_2 := E_lt (rfl : p0.toInt = _) (by decide : (0 : Int32).toInt = 0) c_1
    refine lv_iconst (v := (-1)) hx hb dX11_lies_27 (by decide) ?_
    have hP9 : va_P g.1 vwCl [] H := hP.sub [] rfl
    have hD9 : va_D A [] := ⟨fun i j p q h => by simp at h, fun k q h => by simp at h⟩
    exact W.iret (v := (-1)) hx hb hr (fun t ht hW => ⟨⟨(-1), (), rfl, trivial, by rw [ht]; exact hP9, by rw [hAe]; exact hD9⟩, hS.F ht⟩) hS.2.2 dX11_lies_28
  · have f_3 := E_nlt (rfl : p0.toInt = _) (by decide : (0 : Int32).toInt = 0) c_1
    refine lv_iload_n hx hb dX11_lies_4 rfl (lv_at hl 1 rfl) ?_
    refine lv_aload_n hx hb dX11_lies_5 rfl (lv_at hl 0 rfl) ?_
    refine va_get (D := g.1) (ci := 11) (v := .ref xheap) (C := RX11) (T := TX11) (N := 14) hx hb hT inF_X11 hown hK.1 hP 0 rfl rfl 13 (by decide) (hT _ bw_341) (fun _ h9 => h9) rfl dX11_lies_6 ?_
    refine va_get (D := g.1) (ci := 1) (v := .int ecount) (C := RX1) (T := TX1) (N := 2) hx hb hT inF_X1 hown hK.1 hP 1 rfl rfl 0 (by decide) (hT _ bw_342) (fun _ h9 => h9) rfl dX11_lies_9 ?_
    refine lv_icmp_ge (tgt := 27) hx hb dX11_lies_12 (by decide) (fun c_4 => ?_) (fun c_4 => ?_)
    · have f_5 := E_le (rfl : ecount.toInt = _) (rfl : p0.toInt = _) c_4
      refine lv_iconst (v := (-1)) hx hb dX11_lies_27 (by decide) ?_
      have hP9 : va_P g.1 vwCl [] H := hP.sub [] rfl
      have hD9 : va_D A [] := ⟨fun i j p q h => by simp at h, fun k q h => by simp at h⟩
      exact W.iret (v := (-1)) hx hb hr (fun t ht hW => ⟨⟨(-1), (), rfl, trivial, by rw [ht]; exact hP9, by rw [hAe]; exact hD9⟩, hS.F ht⟩) hS.2.2 dX11_lies_28
    · have f_6 := E_nle (rfl : ecount.toInt = _) (rfl : p0.toInt = _) c_4
      refine lv_aload_n hx hb dX11_lies_15 rfl (lv_at hl 0 rfl) ?_
      refine va_get (D := g.1) (ci := 11) (v := .ref xheap) (C := RX11) (T := TX11) (N := 14) hx hb hT inF_X11 hown hK.1 hP 0 rfl rfl 13 (by decide) (hT _ bw_341) (fun _ h9 => h9) rfl dX11_lies_16 ?_
      refine va_get (D := g.1) (ci := 1) (v := .ref enumbers) (C := RX1) (T := TX1) (N := 2) hx hb hT inF_X1 hown hK.1 hP 1 rfl rfl 1 (by decide) (hT _ bw_346) (fun _ h9 => h9) rfl dX11_lies_19 ?_
      refine lv_iload_n hx hb dX11_lies_22 rfl (lv_at hl 1 rfl) ?_
      have h_7 : vp_in p0 16 := vp_in_iff.mpr (by omega)
      refine va_iald hx hb hK.1 hP 2 1 rfl rfl (i := p0) h_7 dX11_lies_23 ?_
      refine lv_topi (fun x_8 ex_8 => ?_)
      have ux_8 := congrArg Int32.toInt ex_8
      refine lv_goto (tgt := 28) hx hb dX11_lies_24 (by decide) ?_
      have hP9 : va_P g.1 vwCl [] H := hP.sub [] rfl
      have hD9 : va_D A [] := ⟨fun i j p q h => by simp at h, fun k q h => by simp at h⟩
      exact W.iret (v := x_8) hx hb hr (fun t ht hW => ⟨⟨x_8, (), rfl, trivial, by rw [ht]; exact hP9, by rw [hAe]; exact hD9⟩, hS.F ht⟩) hS.2.2 dX11_lies_28

theorem bw_348 : Cond.methodLink RX11 317 yX8_tell ∈ gT := gT_tb 1250 (by decide +kernel) (by decide +kernel)
theorem bw_349 : Cond.instanceMethod yX8_tell ∈ gT := gT_tb 1251 (by decide +kernel) (by decide +kernel)
theorem bw_350 : Cond.selects RX8 yX8_tell yX8_tell ∈ gT := gT_tb 1252 (by decide +kernel) (by decide +kernel)
theorem bw_351 : Cond.initialized RX8 ∈ gT := gT_tb 13 (by decide +kernel) (by decide +kernel)
theorem bw_352 : Cond.code yX11_sight cX11_sight 3 (some .int) ∈ gT := gT_tb 1249 (by decide +kernel) (by decide +kernel)
theorem dX11_sight_0 : decode cX11_sight 0 = .ok (.aload_n 0, 1) := by decide +kernel
theorem dX11_sight_1 : decode cX11_sight 1 = .ok (.getfield 23, 3) := by decide +kernel
theorem dX11_sight_4 : decode cX11_sight 4 = .ok (.getfield 157, 3) := by decide +kernel
theorem dX11_sight_7 : decode cX11_sight 7 = .ok (.iload_n 1, 1) := by decide +kernel
theorem dX11_sight_8 : decode cX11_sight 8 = .ok (.invokevirtual 161, 3) := by decide +kernel
theorem dX11_sight_11 : decode cX11_sight 11 = .ok (.ifCond .eq 14, 3) := by decide +kernel
theorem dX11_sight_14 : decode cX11_sight 14 = .ok (.iload_n 2, 1) := by decide +kernel
theorem dX11_sight_15 : decode cX11_sight 15 = .ok (.ifCond .lt 10, 3) := by decide +kernel
theorem dX11_sight_18 : decode cX11_sight 18 = .ok (.iload_n 2, 1) := by decide +kernel
theorem dX11_sight_19 : decode cX11_sight 19 = .ok (.sipush 9000, 3) := by decide +kernel
theorem dX11_sight_22 : decode cX11_sight 22 = .ok (.if_icmp .le 5, 3) := by decide +kernel
theorem dX11_sight_25 : decode cX11_sight 25 = .ok (.iconst (-1), 1) := by decide +kernel
theorem dX11_sight_26 : decode cX11_sight 26 = .ok (.ireturn, 1) := by decide +kernel
theorem dX11_sight_27 : decode cX11_sight 27 = .ok (.aload_n 0, 1) := by decide +kernel
theorem dX11_sight_28 : decode cX11_sight 28 = .ok (.getfield 49, 3) := by decide +kernel
theorem dX11_sight_31 : decode cX11_sight 31 = .ok (.iload_n 1, 1) := by decide +kernel
theorem dX11_sight_32 : decode cX11_sight 32 = .ok (.iload_n 2, 1) := by decide +kernel
theorem dX11_sight_33 : decode cX11_sight 33 = .ok (.invokevirtual 317, 3) := by decide +kernel
theorem dX11_sight_36 : decode cX11_sight 36 = .ok (.ireturn, 1) := by decide +kernel
set_option maxHeartbeats 4000000 in
set_option maxRecDepth 100000 in
theorem s_X11_sight (l : Launch) (g : GG) (sz : Nat) (x : Nat) (xtape : Nat) (xtapeLength : Int32) (xreader : Nat) (xland : Nat) (xspareLand : Nat) (xstates : Nat) (xcurrent : Int32) (xnewest : Int32) (xboxes : Nat) (xfullBoxes : Int32) (xsearch : Nat) (xsights : Nat) (xparting : Nat) (xheap : Nat) (dduels : Int32) (dduelSides : Nat) (dduelMornings : Nat) (dhonour : Int32) (ddraw : Int32) (dusesOfKind : Nat) (dmen : Nat) (dformulas : Nat) (dreasons : Nat) (dreasons_count : Int32) (dreasons_names : Nat) (dreasons_kinds : Nat) (dreasons_owners : Nat) (dreasons_froms : Nat) (dreasons_tos : Nat) (dreasons_rents : Nat) (dreasons_sorts : Nat) (gtime : Int32) (gcount : Int32) (greasons : Nat) (Fgreasons : Nat → Int32) (gdays : Nat) (Fgdays : Nat → Int32) (gtoldAt : Nat) (FgtoldAt : Nat → Int32) (guntoldAt : Nat) (FguntoldAt : Nat → Int32) (p0 : Int32) (p1 : Int32) (hh0 : 0 ≤ xtapeLength.toInt ∧ xtapeLength.toInt ≤ 1600) (hh1 : 0 ≤ xcurrent.toInt ∧ xcurrent.toInt ≤ 40) (hh2 : 0 ≤ xnewest.toInt ∧ xnewest.toInt ≤ 40) (hh3 : 0 ≤ dduels.toInt ∧ dduels.toInt ≤ 6) (hh5 : 0 ≤ ddraw.toInt ∧ ddraw.toInt ≤ 999) (hh12 : 0 ≤ dreasons_count.toInt ∧ dreasons_count.toInt ≤ 8) (hh19 : 0 ≤ gtime.toInt ∧ gtime.toInt ≤ 100000) (hh20 : 0 ≤ gcount.toInt ∧ gcount.toInt ≤ 30) : Met l yX11_sight (.code yX11_sight cX11_sight 3 (some .int) :: gT) ({ frames := 1, cells := 0, slots := 0, locals := 22 }) (va_Pc [.ref x, .int p0, .int p1] (Pst g sz [(x, .inr (11, [.ref xtape, .int xtapeLength, .ref xreader, .ref xland, .ref xspareLand, .ref xstates, .int xcurrent, .int xnewest, .ref xboxes, .int xfullBoxes, .ref xsearch, .ref xsights, .ref xparting, .ref xheap])), (xland, .inr (2, [.ref dmen, .ref dformulas, .ref dreasons, .int dduels, .ref dduelSides, .ref dduelMornings, .int dhonour, .int ddraw, .ref dusesOfKind])), (dreasons, .inr (6, [.int dreasons_count, .ref dreasons_names, .ref dreasons_kinds, .ref dreasons_owners, .ref dreasons_froms, .ref dreasons_tos, .ref dreasons_rents, .ref dreasons_sorts])), (xsights, .inr (8, [.int gtime, .int gcount, .ref greasons, .ref gdays, .ref gtoldAt, .ref guntoldAt])), (greasons, aI g 30 Fgreasons), (gdays, aI g 30 Fgdays), (gtoldAt, aI g 30 FgtoldAt), (guntoldAt, aI g 30 FguntoldAt)] nX)) (va_Qi (fun (r : Int32) => fun ((o0_count, o1_F, o2_F, o3_F, o4_F) : Int32 × (Nat → Int32) × (Nat → Int32) × (Nat → Int32) × (Nat → Int32)) => ((-1) ≤ r.toInt ∧ r.toInt ≤ 29) ∧ (0 ≤ o0_count.toInt ∧ o0_count.toInt ≤ 30)) (Qst g [(x, .inr (11, [.ref xtape, .int xtapeLength, .ref xreader, .ref xland, .ref xspareLand, .ref xstates, .int xcurrent, .int xnewest, .ref xboxes, .int xfullBoxes, .ref xsearch, .ref xsights, .ref xparting, .ref xheap])), (xland, .inr (2, [.ref dmen, .ref dformulas, .ref dreasons, .int dduels, .ref dduelSides, .ref dduelMornings, .int dhonour, .int ddraw, .ref dusesOfKind])), (dreasons, .inr (6, [.int dreasons_count, .ref dreasons_names, .ref dreasons_kinds, .ref dreasons_owners, .ref dreasons_froms, .ref dreasons_tos, .ref dreasons_rents, .ref dreasons_sorts])), (xsights, .inr (8, [.int gtime, .int gcount, .ref greasons, .ref gdays, .ref gtoldAt, .ref guntoldAt])), (greasons, aI g 30 Fgreasons), (gdays, aI g 30 Fgdays), (gtoldAt, aI g 30 FgtoldAt), (guntoldAt, aI g 30 FguntoldAt)] sz (fun ((o0_count, o1_F, o2_F, o3_F, o4_F) : Int32 × (Nat → Int32) × (Nat → Int32) × (Nat → Int32) × (Nat → Int32)) => [(x, .inr (11, [.ref xtape, .int xtapeLength, .ref xreader, .ref xland, .ref xspareLand, .ref xstates, .int xcurrent, .int xnewest, .ref xboxes, .int xfullBoxes, .ref xsearch, .ref xsights, .ref xparting, .ref xheap])), (xland, .inr (2, [.ref dmen, .ref dformulas, .ref dreasons, .int dduels, .ref dduelSides, .ref dduelMornings, .int dhonour, .int ddraw, .ref dusesOfKind])), (dreasons, .inr (6, [.int dreasons_count, .ref dreasons_names, .ref dreasons_kinds, .ref dreasons_owners, .ref dreasons_froms, .ref dreasons_tos, .ref dreasons_rents, .ref dreasons_sorts])), (xsights, .inr (8, [.int gtime, .int o0_count, .ref greasons, .ref gdays, .ref gtoldAt, .ref guntoldAt])), (greasons, aI g 30 o1_F), (gdays, aI g 30 o2_F), (gtoldAt, aI g 30 o3_F), (guntoldAt, aI g 30 o4_F)])) (va_A [(x, .inr (11, [.ref xtape, .int xtapeLength, .ref xreader, .ref xland, .ref xspareLand, .ref xstates, .int xcurrent, .int xnewest, .ref xboxes, .int xfullBoxes, .ref xsearch, .ref xsights, .ref xparting, .ref xheap])), (xland, .inr (2, [.ref dmen, .ref dformulas, .ref dreasons, .int dduels, .ref dduelSides, .ref dduelMornings, .int dhonour, .int ddraw, .ref dusesOfKind])), (dreasons, .inr (6, [.int dreasons_count, .ref dreasons_names, .ref dreasons_kinds, .ref dreasons_owners, .ref dreasons_froms, .ref dreasons_tos, .ref dreasons_rents, .ref dreasons_sorts])), (xsights, .inr (8, [.int gtime, .int gcount, .ref greasons, .ref gdays, .ref gtoldAt, .ref guntoldAt])), (greasons, aI g 30 Fgreasons), (gdays, aI g 30 Fgdays), (gtoldAt, aI g 30 FgtoldAt), (guntoldAt, aI g 30 FguntoldAt)] sz)) 0 0 (va_A [(x, .inr (11, [.ref xtape, .int xtapeLength, .ref xreader, .ref xland, .ref xspareLand, .ref xstates, .int xcurrent, .int xnewest, .ref xboxes, .int xfullBoxes, .ref xsearch, .ref xsights, .ref xparting, .ref xheap])), (xland, .inr (2, [.ref dmen, .ref dformulas, .ref dreasons, .int dduels, .ref dduelSides, .ref dduelMornings, .int dhonour, .int ddraw, .ref dusesOfKind])), (dreasons, .inr (6, [.int dreasons_count, .ref dreasons_names, .ref dreasons_kinds, .ref dreasons_owners, .ref dreasons_froms, .ref dreasons_tos, .ref dreasons_rents, .ref dreasons_sorts])), (xsights, .inr (8, [.int gtime, .int gcount, .ref greasons, .ref gdays, .ref gtoldAt, .ref guntoldAt])), (greasons, aI g 30 Fgreasons), (gdays, aI g 30 Fgdays), (gtoldAt, aI g 30 FgtoldAt), (guntoldAt, aI g 30 FguntoldAt)] sz) := by
  refine Met.ofW (cc := cX11_sight) (maxL := 3) (ret := (some .int)) (by decide) rfl ?_
  intro p e s m args below meth c s₁ B hml hv
  obtain ⟨rfl, hsz, hP, hK, hD0, hX⟩ := hv
  have hx := B.exec
  have hb := B.bytes
  have hr := B.returns
  have hT : ∀ w ∈ gT, w.before _ s = true := fun w h => atoms_spec (ws := .code yX11_sight cX11_sight 3 (some .int) :: gT) B.pre w (List.mem_cons_of_mem _ h)
  have hown : s.vm.findClass RX11 = some m.cls := findClass_of_methodNamed B.named
  have hlocks := B.notSynchronized
  subst hsz
  have hD := hD0.self (sz := s.heap.size)
  generalize hAe : va_A [(x, .inr (11, [.ref xtape, .int xtapeLength, .ref xreader, .ref xland, .ref xspareLand, .ref xstates, .int xcurrent, .int xnewest, .ref xboxes, .int xfullBoxes, .ref xsearch, .ref xsights, .ref xparting, .ref xheap])), (xland, .inr (2, [.ref dmen, .ref dformulas, .ref dreasons, .int dduels, .ref dduelSides, .ref dduelMornings, .int dhonour, .int ddraw, .ref dusesOfKind])), (dreasons, .inr (6, [.int dreasons_count, .ref dreasons_names, .ref dreasons_kinds, .ref dreasons_owners, .ref dreasons_froms, .ref dreasons_tos, .ref dreasons_rents, .ref dreasons_sorts])), (xsights, .inr (8, [.int gtime, .int gcount, .ref greasons, .ref gdays, .ref gtoldAt, .ref guntoldAt])), (greasons, aI g 30 Fgreasons), (gdays, aI g 30 Fgdays), (gtoldAt, aI g 30 FgtoldAt), (guntoldAt, aI g 30 FguntoldAt)] s.heap.size = A at hD ⊢
  have hA : ∀ q : Nat, s.heap.size ≤ q → A q := fun q h => by rw [← hAe]; exact Or.inr h
  have hS : va_S A s.heap s.heap [] := va_S.rf
  have hl := lv_entry ([.ref x, .int p0, .int p1]) (n := 3) (Nat.le_of_ble_eq_true rfl)
  rw [lg_entry_eq]
  generalize (lg_sl ([.ref x, .int p0, .int p1]) ++ List.replicate (3 - (lg_sl ([.ref x, .int p0, .int p1])).length) Slot.unset).toArray = ls at hl ⊢
  have hl : lv_has ls 3 [(0, .ref x), (1, .int p0), (2, .int p1)] := hl
  refine p_nH (fun H hH => ?_)
  have hP : va_P g.1 vwCl [(x, .inr (11, [.ref xtape, .int xtapeLength, .ref xreader, .ref xland, .ref xspareLand, .ref xstates, .int xcurrent, .int xnewest, .ref xboxes, .int xfullBoxes, .ref xsearch, .ref xsights, .ref xparting, .ref xheap])), (xland, .inr (2, [.ref dmen, .ref dformulas, .ref dreasons, .int dduels, .ref dduelSides, .ref dduelMornings, .int dhonour, .int ddraw, .ref dusesOfKind])), (dreasons, .inr (6, [.int dreasons_count, .ref dreasons_names, .ref dreasons_kinds, .ref dreasons_owners, .ref dreasons_froms, .ref dreasons_tos, .ref dreasons_rents, .ref dreasons_sorts])), (xsights, .inr (8, [.int gtime, .int gcount, .ref greasons, .ref gdays, .ref gtoldAt, .ref guntoldAt])), (greasons, aI g 30 Fgreasons), (gdays, aI g 30 Fgdays), (gtoldAt, aI g 30 FgtoldAt), (guntoldAt, aI g 30 FguntoldAt)] H := by rw [hH]; exact hP
  have hS : va_S A s.heap H [] := by rw [hH]; exact hS
  refine lv_aload_n hx hb dX11_sight_0 rfl (lv_at hl 0 rfl) ?_
  refine va_get (D := g.1) (ci := 11) (v := .ref xland) (C := RX11) (T := TX11) (N := 14) hx hb hT inF_X11 hown hK.1 hP 0 rfl rfl 3 (by decide) (hT _ bw_269) (fun _ h9 => h9) rfl dX11_sight_1 ?_
  refine va_get (D := g.1) (ci := 2) (v := .ref dreasons) (C := RX2) (T := TX2) (N := 9) hx hb hT inF_X2 hown hK.1 hP 1 rfl rfl 2 (by decide) (hT _ bw_293) (fun _ h9 => h9) rfl dX11_sight_4 ?_
  refine lv_iload_n hx hb dX11_sight_7 rfl (lv_at hl 1 rfl) ?_
  refine k_iR (k_V (n := 1) ⟨hx, hb, hml, hown, hT⟩ hK hP hD [2] rfl (by decide +kernel) (s_X6_has l g H.size dreasons dreasons_count dreasons_names dreasons_kinds dreasons_owners dreasons_froms dreasons_tos dreasons_rents dreasons_sorts p0 (by first | with_reducible assumption | omega)) (gV bw_294 bw_237 bw_238 bw_185 bw_7) rfl rfl (by decide +kernel) ⟨by decide, by decide⟩ (ci := 6) (q0 := 0) rfl rfl (fun _ _ _ _ _ => trivial) (fun _ _ _ => trivial) rfl rfl hl.1 (Nat.le_of_ble_eq_true rfl) dX11_sight_8 ⟨by decide, by decide⟩) hP hS hA (fun r_1 _ H locs hw0 hP hS => ?_)
  have hw : (r_1 = 1 ∧ (0 ≤ p0.toInt ∧ p0.toInt < dreasons_count.toInt)) ∨ (r_1 = 0) := hw0
  clear hw0
  rcases hw with ⟨e_3, w_2⟩ | e_4
  · subst e_3
    refine lv_if_eq (tgt := 25) hx hb dX11_sight_11 (by decide) (fun c9 => absurd c9 (by decide)) (fun _ => ?_)
    refine lv_iload_n hx hb dX11_sight_14 rfl (lv_at hl 2 rfl) ?_
    refine lv_if_lt (tgt := 25) hx hb dX11_sight_15 (by decide) (fun c_5 => ?_) (fun c_5 => ?_)
    · have f_6 := E_lt (rfl : p1.toInt = _) (by decide : (0 : Int32).toInt = 0) c_5
      refine lv_iconst (v := (-1)) hx hb dX11_sight_25 (by decide) ?_
      have hP9 : va_P g.1 vwCl [(x, .inr (11, [.ref xtape, .int xtapeLength, .ref xreader, .ref xland, .ref xspareLand, .ref xstates, .int xcurrent, .int xnewest, .ref xboxes, .int xfullBoxes, .ref xsearch, .ref xsights, .ref xparting, .ref xheap])), (xland, .inr (2, [.ref dmen, .ref dformulas, .ref dreasons, .int dduels, .ref dduelSides, .ref dduelMornings, .int dhonour, .int ddraw, .ref dusesOfKind])), (dreasons, .inr (6, [.int dreasons_count, .ref dreasons_names, .ref dreasons_kinds, .ref dreasons_owners, .ref dreasons_froms, .ref dreasons_tos, .ref dreasons_rents, .ref dreasons_sorts])), (xsights, .inr (8, [.int gtime, .int gcount, .ref greasons, .ref gdays, .ref gtoldAt, .ref guntoldAt])), (greasons, aI g 30 Fgreasons), (gdays, aI g 30 Fgdays), (gtoldAt, aI g 30 FgtoldAt), (guntoldAt, aI g 30 FguntoldAt)] H := hP.sub [0, 1, 2, 3, 4, 5, 6, 7] rfl
      have hD9 : va_D A [(x, .inr (11, [.ref xtape, .int xtapeLength, .ref xreader, .ref xland, .ref xspareLand, .ref xstates, .int xcurrent, .int xnewest, .ref xboxes, .int xfullBoxes, .ref xsearch, .ref xsights, .ref xparting, .ref xheap])), (xland, .inr (2, [.ref dmen, .ref dformulas, .ref dreasons, .int dduels, .ref dduelSides, .ref dduelMornings, .int dhonour, .int ddraw, .ref dusesOfKind])), (dreasons, .inr (6, [.int dreasons_count, .ref dreasons_names, .ref dreasons_kinds, .ref dreasons_owners, .ref dreasons_froms, .ref dreasons_tos, .ref dreasons_rents, .ref dreasons_sorts])), (xsights, .inr (8, [.int gtime, .int gcount, .ref greasons, .ref gdays, .ref gtoldAt, .ref guntoldAt])), (greasons, aI g 30 Fgreasons), (gdays, aI g 30 Fgdays), (gtoldAt, aI g 30 FgtoldAt), (guntoldAt, aI g 30 FguntoldAt)] := hD.sub [0, 1, 2, 3, 4, 5, 6, 7] (by decide +kernel) rfl
      exact W.iret (v := (-1)) hx hb hr (fun t ht hW => ⟨⟨(-1), (gcount, Fgreasons, Fgdays, FgtoldAt, FguntoldAt), rfl, ⟨⟨by decide, by decide⟩, (by first | with_reducible assumption | omega)⟩, by rw [ht]; exact hP9, by rw [hAe]; exact hD9⟩, hS.F ht⟩) hS.2.2 dX11_sight_26
    · have f_7 := E_nlt (rfl : p1.toInt = _) (by decide : (0 : Int32).toInt = 0) c_5
      refine lv_iload_n hx hb dX11_sight_18 rfl (lv_at hl 2 rfl) ?_
      refine lv_sipush (v := 9000) hx hb dX11_sight_19 (by decide) ?_
      refine lv_icmp_le (tgt := 27) hx hb dX11_sight_22 (by decide) (fun c_8 => ?_) (fun c_8 => ?_)
      · have f_9 := E_le (rfl : p1.toInt = _) (by decide : (9000 : Int32).toInt = 9000) c_8
        refine lv_aload_n hx hb dX11_sight_27 rfl (lv_at hl 0 rfl) ?_
        refine va_get (D := g.1) (ci := 11) (v := .ref xsights) (C := RX11) (T := TX11) (N := 14) hx hb hT inF_X11 hown hK.1 hP 0 rfl rfl 11 (by decide) (hT _ bw_336) (fun _ h9 => h9) rfl dX11_sight_28 ?_
        refine lv_iload_n hx hb dX11_sight_31 rfl (lv_at hl 1 rfl) ?_
        refine lv_iload_n hx hb dX11_sight_32 rfl (lv_at hl 2 rfl) ?_
        refine k_i (wr := [(x, .inr (11, [.ref xtape, .int xtapeLength, .ref xreader, .ref xland, .ref xspareLand, .ref xstates, .int xcurrent, .int xnewest, .ref xboxes, .int xfullBoxes, .ref xsearch, .ref xsights, .ref xparting, .ref xheap])), (xland, .inr (2, [.ref dmen, .ref dformulas, .ref dreasons, .int dduels, .ref dduelSides, .ref dduelMornings, .int dhonour, .int ddraw, .ref dusesOfKind])), (dreasons, .inr (6, [.int dreasons_count, .ref dreasons_names, .ref dreasons_kinds, .ref dreasons_owners, .ref dreasons_froms, .ref dreasons_tos, .ref dreasons_rents, .ref dreasons_sorts]))]) (k_V (n := 2) ⟨hx, hb, hml, hown, hT⟩ hK hP hD [3, 4, 5, 6, 7] rfl (by decide +kernel) (s_X8_tell l g H.size xsights gtime gcount greasons Fgreasons gdays Fgdays gtoldAt FgtoldAt guntoldAt FguntoldAt p0 p1 (by first | with_reducible assumption | omega) (by first | with_reducible assumption | omega)) (gV bw_348 bw_349 bw_350 bw_351 bw_20) rfl rfl (by decide +kernel) ⟨by decide, by decide⟩ (ci := 8) (q0 := 0) rfl rfl (fun _ _ _ _ _ => trivial) (fun _ _ _ => trivial) rfl rfl hl.1 (Nat.le_of_ble_eq_true rfl) dX11_sight_33 ⟨by decide, by decide⟩) hP hD hS hA [3, 4, 5, 6, 7] [0, 1, 2] rfl rfl (by decide +kernel) (by decide +kernel) (fun r_10 => pr_all fun y_11 => pr_all fun f_12 => pr_all fun f_13 => pr_all fun f_14 => fun f_15 H locs hw0 hP hD hS => ?_)
        have hP : va_P g.1 vwCl [(x, .inr (11, [.ref xtape, .int xtapeLength, .ref xreader, .ref xland, .ref xspareLand, .ref xstates, .int xcurrent, .int xnewest, .ref xboxes, .int xfullBoxes, .ref xsearch, .ref xsights, .ref xparting, .ref xheap])), (xland, .inr (2, [.ref dmen, .ref dformulas, .ref dreasons, .int dduels, .ref dduelSides, .ref dduelMornings, .int dhonour, .int ddraw, .ref dusesOfKind])), (dreasons, .inr (6, [.int dreasons_count, .ref dreasons_names, .ref dreasons_kinds, .ref dreasons_owners, .ref dreasons_froms, .ref dreasons_tos, .ref dreasons_rents, .ref dreasons_sorts])), (xsights, .inr (8, [.int gtime, .int y_11, .ref greasons, .ref gdays, .ref gtoldAt, .ref guntoldAt])), (greasons, aI g 30 f_12), (gdays, aI g 30 f_13), (gtoldAt, aI g 30 f_14), (guntoldAt, aI g 30 f_15)] H := hP
        have hD : va_D A [(x, .inr (11, [.ref xtape, .int xtapeLength, .ref xreader, .ref xland, .ref xspareLand, .ref xstates, .int xcurrent, .int xnewest, .ref xboxes, .int xfullBoxes, .ref xsearch, .ref xsights, .ref xparting, .ref xheap])), (xland, .inr (2, [.ref dmen, .ref dformulas, .ref dreasons, .int dduels, .ref dduelSides, .ref dduelMornings, .int dhonour, .int ddraw, .ref dusesOfKind])), (dreasons, .inr (6, [.int dreasons_count, .ref dreasons_names, .ref dreasons_kinds, .ref dreasons_owners, .ref dreasons_froms, .ref dreasons_tos, .ref dreasons_rents, .ref dreasons_sorts])), (xsights, .inr (8, [.int gtime, .int y_11, .ref greasons, .ref gdays, .ref gtoldAt, .ref guntoldAt])), (greasons, aI g 30 f_12), (gdays, aI g 30 f_13), (gtoldAt, aI g 30 f_14), (guntoldAt, aI g 30 f_15)] := hD
        have hw : ((-1) ≤ r_10.toInt ∧ r_10.toInt ≤ 29) ∧ (0 ≤ y_11.toInt ∧ y_11.toInt ≤ 30) := hw0
        clear hw0
        have w_16 := hw.1
        have w_17 := hw.2
        clear hw
        have hP9 : va_P g.1 vwCl [(x, .inr (11, [.ref xtape, .int xtapeLength, .ref xreader, .ref xland, .ref xspareLand, .ref xstates, .int xcurrent, .int xnewest, .ref xboxes, .int xfullBoxes, .ref xsearch, .ref xsights, .ref xparting, .ref xheap])), (xland, .inr (2, [.ref dmen, .ref dformulas, .ref dreasons, .int dduels, .ref dduelSides, .ref dduelMornings, .int dhonour, .int ddraw, .ref dusesOfKind])), (dreasons, .inr (6, [.int dreasons_count, .ref dreasons_names, .ref dreasons_kinds, .ref dreasons_owners, .ref dreasons_froms, .ref dreasons_tos, .ref dreasons_rents, .ref dreasons_sorts])), (xsights, .inr (8, [.int gtime, .int y_11, .ref greasons, .ref gdays, .ref gtoldAt, .ref guntoldAt])), (greasons, aI g 30 f_12), (gdays, aI g 30 f_13), (gtoldAt, aI g 30 f_14), (guntoldAt, aI g 30 f_15)] H := hP.sub [0, 1, 2, 3, 4, 5, 6, 7] rfl
        have hD9 : va_D A [(x, .inr (11, [.ref xtape, .int xtapeLength, .ref xreader, .ref xland, .ref xspareLand, .ref xstates, .int xcurrent, .int xnewest, .ref xboxes, .int xfullBoxes, .ref xsearch, .ref xsights, .ref xparting, .ref xheap])), (xland, .inr (2, [.ref dmen, .ref dformulas, .ref dreasons, .int dduels, .ref dduelSides, .ref dduelMornings, .int dhonour, .int ddraw, .ref dusesOfKind])), (dreasons, .inr (6, [.int dreasons_count, .ref dreasons_names, .ref dreasons_kinds, .ref dreasons_owners, .ref dreasons_froms, .ref dreasons_tos, .ref dreasons_rents, .ref dreasons_sorts])), (xsights, .inr (8, [.int gtime, .int y_11, .ref greasons, .ref gdays, .ref gtoldAt, .ref guntoldAt])), (greasons, aI g 30 f_12), (gdays, aI g 30 f_13), (gtoldAt, aI g 30 f_14), (guntoldAt, aI g 30 f_15)] := hD.sub [0, 1, 2, 3, 4, 5, 6, 7] (by decide +kernel) rfl
        exact W.iret (v := r_10) hx hb hr (fun t ht hW => ⟨⟨r_10, (y_11, f_12, f_13, f_14, f_15), rfl, ⟨(by first | with_reducible assumption | omega), (by first | with_reducible assumption | omega)⟩, by rw [ht]; exact hP9, by rw [hAe]; exact hD9⟩, hS.F ht⟩) hS.2.2 dX11_sight_36
      · have f_18 := E_nle (rfl : p1.toInt = _) (by decide : (9000 : Int32).toInt = 9000) c_8
        refine lv_iconst (v := (-1)) hx hb dX11_sight_25 (by decide) ?_
        have hP9 : va_P g.1 vwCl [(x, .inr (11, [.ref xtape, .int xtapeLength, .ref xreader, .ref xland, .ref xspareLand, .ref xstates, .int xcurrent, .int xnewest, .ref xboxes, .int xfullBoxes, .ref xsearch, .ref xsights, .ref xparting, .ref xheap])), (xland, .inr (2, [.ref dmen, .ref dformulas, .ref dreasons, .int dduels, .ref dduelSides, .ref dduelMornings, .int dhonour, .int ddraw, .ref dusesOfKind])), (dreasons, .inr (6, [.int dreasons_count, .ref dreasons_names, .ref dreasons_kinds, .ref dreasons_owners, .ref dreasons_froms, .ref dreasons_tos, .ref dreasons_rents, .ref dreasons_sorts])), (xsights, .inr (8, [.int gtime, .int gcount, .ref greasons, .ref gdays, .ref gtoldAt, .ref guntoldAt])), (greasons, aI g 30 Fgreasons), (gdays, aI g 30 Fgdays), (gtoldAt, aI g 30 FgtoldAt), (guntoldAt, aI g 30 FguntoldAt)] H := hP.sub [0, 1, 2, 3, 4, 5, 6, 7] rfl
        have hD9 : va_D A [(x, .inr (11, [.ref xtape, .int xtapeLength, .ref xreader, .ref xland, .ref xspareLand, .ref xstates, .int xcurrent, .int xnewest, .ref xboxes, .int xfullBoxes, .ref xsearch, .ref xsights, .ref xparting, .ref xheap])), (xland, .inr (2, [.ref dmen, .ref dformulas, .ref dreasons, .int dduels, .ref dduelSides, .ref dduelMornings, .int dhonour, .int ddraw, .ref dusesOfKind])), (dreasons, .inr (6, [.int dreasons_count, .ref dreasons_names, .ref dreasons_kinds, .ref dreasons_owners, .ref dreasons_froms, .ref dreasons_tos, .ref dreasons_rents, .ref dreasons_sorts])), (xsights, .inr (8, [.int gtime, .int gcount, .ref greasons, .ref gdays, .ref gtoldAt, .ref guntoldAt])), (greasons, aI g 30 Fgreasons), (gdays, aI g 30 Fgdays), (gtoldAt, aI g 30 FgtoldAt), (guntoldAt, aI g 30 FguntoldAt)] := hD.sub [0, 1, 2, 3, 4, 5, 6, 7] (by decide +kernel) rfl
        exact W.iret (v := (-1)) hx hb hr (fun t ht hW => ⟨⟨(-1), (gcount, Fgreasons, Fgdays, FgtoldAt, FguntoldAt), rfl, ⟨⟨by decide, by decide⟩, (by first | with_reducible assumption | omega)⟩, by rw [ht]; exact hP9, by rw [hAe]; exact hD9⟩, hS.F ht⟩) hS.2.2 dX11_sight_26
  · subst e_4
    refine lv_if_eq (tgt := 25) hx hb dX11_sight_11 (by decide) (fun _ => ?_) (fun c9 => absurd (by decide) c9)
    refine lv_iconst (v := (-1)) hx hb dX11_sight_25 (by decide) ?_
    have hP9 : va_P g.1 vwCl [(x, .inr (11, [.ref xtape, .int xtapeLength, .ref xreader, .ref xland, .ref xspareLand, .ref xstates, .int xcurrent, .int xnewest, .ref xboxes, .int xfullBoxes, .ref xsearch, .ref xsights, .ref xparting, .ref xheap])), (xland, .inr (2, [.ref dmen, .ref dformulas, .ref dreasons, .int dduels, .ref dduelSides, .ref dduelMornings, .int dhonour, .int ddraw, .ref dusesOfKind])), (dreasons, .inr (6, [.int dreasons_count, .ref dreasons_names, .ref dreasons_kinds, .ref dreasons_owners, .ref dreasons_froms, .ref dreasons_tos, .ref dreasons_rents, .ref dreasons_sorts])), (xsights, .inr (8, [.int gtime, .int gcount, .ref greasons, .ref gdays, .ref gtoldAt, .ref guntoldAt])), (greasons, aI g 30 Fgreasons), (gdays, aI g 30 Fgdays), (gtoldAt, aI g 30 FgtoldAt), (guntoldAt, aI g 30 FguntoldAt)] H := hP.sub [0, 1, 2, 3, 4, 5, 6, 7] rfl
    have hD9 : va_D A [(x, .inr (11, [.ref xtape, .int xtapeLength, .ref xreader, .ref xland, .ref xspareLand, .ref xstates, .int xcurrent, .int xnewest, .ref xboxes, .int xfullBoxes, .ref xsearch, .ref xsights, .ref xparting, .ref xheap])), (xland, .inr (2, [.ref dmen, .ref dformulas, .ref dreasons, .int dduels, .ref dduelSides, .ref dduelMornings, .int dhonour, .int ddraw, .ref dusesOfKind])), (dreasons, .inr (6, [.int dreasons_count, .ref dreasons_names, .ref dreasons_kinds, .ref dreasons_owners, .ref dreasons_froms, .ref dreasons_tos, .ref dreasons_rents, .ref dreasons_sorts])), (xsights, .inr (8, [.int gtime, .int gcount, .ref greasons, .ref gdays, .ref gtoldAt, .ref guntoldAt])), (greasons, aI g 30 Fgreasons), (gdays, aI g 30 Fgdays), (gtoldAt, aI g 30 FgtoldAt), (guntoldAt, aI g 30 FguntoldAt)] := hD.sub [0, 1, 2, 3, 4, 5, 6, 7] (by decide +kernel) rfl
    exact W.iret (v := (-1)) hx hb hr (fun t ht hW => ⟨⟨(-1), (gcount, Fgreasons, Fgdays, FgtoldAt, FguntoldAt), rfl, ⟨⟨by decide, by decide⟩, (by first | with_reducible assumption | omega)⟩, by rw [ht]; exact hP9, by rw [hAe]; exact hD9⟩, hS.F ht⟩) hS.2.2 dX11_sight_26

theorem bw_353 : Cond.methodLink RX11 320 yX8_takeBack ∈ gT := gT_tb 1258 (by decide +kernel) (by decide +kernel)
theorem bw_354 : Cond.instanceMethod yX8_takeBack ∈ gT := gT_tb 1259 (by decide +kernel) (by decide +kernel)
theorem bw_355 : Cond.selects RX8 yX8_takeBack yX8_takeBack ∈ gT := gT_tb 1260 (by decide +kernel) (by decide +kernel)
theorem bw_356 : Cond.code yX11_untell cX11_untell 2 (some .boolean) ∈ gT := gT_tb 1257 (by decide +kernel) (by decide +kernel)
theorem dX11_untell_0 : decode cX11_untell 0 = .ok (.aload_n 0, 1) := by decide +kernel
theorem dX11_untell_1 : decode cX11_untell 1 = .ok (.getfield 49, 3) := by decide +kernel
theorem dX11_untell_4 : decode cX11_untell 4 = .ok (.iload_n 1, 1) := by decide +kernel
theorem dX11_untell_5 : decode cX11_untell 5 = .ok (.invokevirtual 320, 3) := by decide +kernel
theorem dX11_untell_8 : decode cX11_untell 8 = .ok (.ireturn, 1) := by decide +kernel
set_option maxHeartbeats 4000000 in
set_option maxRecDepth 100000 in
theorem s_X11_untell (l : Launch) (g : GG) (sz : Nat) (x : Nat) (xtape : Nat) (xtapeLength : Int32) (xreader : Nat) (xland : Nat) (xspareLand : Nat) (xstates : Nat) (xcurrent : Int32) (xnewest : Int32) (xboxes : Nat) (xfullBoxes : Int32) (xsearch : Nat) (xsights : Nat) (xparting : Nat) (xheap : Nat) (gtime : Int32) (gcount : Int32) (greasons : Nat) (gdays : Nat) (gtoldAt : Nat) (guntoldAt : Nat) (FguntoldAt : Nat → Int32) (p0 : Int32) (hh0 : 0 ≤ xtapeLength.toInt ∧ xtapeLength.toInt ≤ 1600) (hh1 : 0 ≤ xcurrent.toInt ∧ xcurrent.toInt ≤ 40) (hh2 : 0 ≤ xnewest.toInt ∧ xnewest.toInt ≤ 40) (hh19 : 0 ≤ gtime.toInt ∧ gtime.toInt ≤ 100000) (hh20 : 0 ≤ gcount.toInt ∧ gcount.toInt ≤ 30) : Met l yX11_untell (.code yX11_untell cX11_untell 2 (some .boolean) :: gT) ({ frames := 1, cells := 0, slots := 0, locals := 21 }) (va_Pc [.ref x, .int p0] (Pst g sz [(x, .inr (11, [.ref xtape, .int xtapeLength, .ref xreader, .ref xland, .ref xspareLand, .ref xstates, .int xcurrent, .int xnewest, .ref xboxes, .int xfullBoxes, .ref xsearch, .ref xsights, .ref xparting, .ref xheap])), (xsights, .inr (8, [.int gtime, .int gcount, .ref greasons, .ref gdays, .ref gtoldAt, .ref guntoldAt])), (guntoldAt, aI g 30 FguntoldAt)] nX)) (va_Qi (fun (r : Int32) => fun (o0_F : (Nat → Int32)) => 0 ≤ r.toInt ∧ r.toInt ≤ 1) (Qst g [(x, .inr (11, [.ref xtape, .int xtapeLength, .ref xreader, .ref xland, .ref xspareLand, .ref xstates, .int xcurrent, .int xnewest, .ref xboxes, .int xfullBoxes, .ref xsearch, .ref xsights, .ref xparting, .ref xheap])), (xsights, .inr (8, [.int gtime, .int gcount, .ref greasons, .ref gdays, .ref gtoldAt, .ref guntoldAt])), (guntoldAt, aI g 30 FguntoldAt)] sz (fun (o0_F : (Nat → Int32)) => [(x, .inr (11, [.ref xtape, .int xtapeLength, .ref xreader, .ref xland, .ref xspareLand, .ref xstates, .int xcurrent, .int xnewest, .ref xboxes, .int xfullBoxes, .ref xsearch, .ref xsights, .ref xparting, .ref xheap])), (xsights, .inr (8, [.int gtime, .int gcount, .ref greasons, .ref gdays, .ref gtoldAt, .ref guntoldAt])), (guntoldAt, aI g 30 o0_F)])) (va_A [(x, .inr (11, [.ref xtape, .int xtapeLength, .ref xreader, .ref xland, .ref xspareLand, .ref xstates, .int xcurrent, .int xnewest, .ref xboxes, .int xfullBoxes, .ref xsearch, .ref xsights, .ref xparting, .ref xheap])), (xsights, .inr (8, [.int gtime, .int gcount, .ref greasons, .ref gdays, .ref gtoldAt, .ref guntoldAt])), (guntoldAt, aI g 30 FguntoldAt)] sz)) 0 0 (va_A [(x, .inr (11, [.ref xtape, .int xtapeLength, .ref xreader, .ref xland, .ref xspareLand, .ref xstates, .int xcurrent, .int xnewest, .ref xboxes, .int xfullBoxes, .ref xsearch, .ref xsights, .ref xparting, .ref xheap])), (xsights, .inr (8, [.int gtime, .int gcount, .ref greasons, .ref gdays, .ref gtoldAt, .ref guntoldAt])), (guntoldAt, aI g 30 FguntoldAt)] sz) := by
  refine Met.ofW (cc := cX11_untell) (maxL := 2) (ret := (some .boolean)) (by decide) rfl ?_
  intro p e s m args below meth c s₁ B hml hv
  obtain ⟨rfl, hsz, hP, hK, hD0, hX⟩ := hv
  have hx := B.exec
  have hb := B.bytes
  have hr := B.returns
  have hT : ∀ w ∈ gT, w.before _ s = true := fun w h => atoms_spec (ws := .code yX11_untell cX11_untell 2 (some .boolean) :: gT) B.pre w (List.mem_cons_of_mem _ h)
  have hown : s.vm.findClass RX11 = some m.cls := findClass_of_methodNamed B.named
  have hlocks := B.notSynchronized
  subst hsz
  have hD := hD0.self (sz := s.heap.size)
  generalize hAe : va_A [(x, .inr (11, [.ref xtape, .int xtapeLength, .ref xreader, .ref xland, .ref xspareLand, .ref xstates, .int xcurrent, .int xnewest, .ref xboxes, .int xfullBoxes, .ref xsearch, .ref xsights, .ref xparting, .ref xheap])), (xsights, .inr (8, [.int gtime, .int gcount, .ref greasons, .ref gdays, .ref gtoldAt, .ref guntoldAt])), (guntoldAt, aI g 30 FguntoldAt)] s.heap.size = A at hD ⊢
  have hA : ∀ q : Nat, s.heap.size ≤ q → A q := fun q h => by rw [← hAe]; exact Or.inr h
  have hS : va_S A s.heap s.heap [] := va_S.rf
  have hl := lv_entry ([.ref x, .int p0]) (n := 2) (Nat.le_of_ble_eq_true rfl)
  rw [lg_entry_eq]
  generalize (lg_sl ([.ref x, .int p0]) ++ List.replicate (2 - (lg_sl ([.ref x, .int p0])).length) Slot.unset).toArray = ls at hl ⊢
  have hl : lv_has ls 2 [(0, .ref x), (1, .int p0)] := hl
  refine p_nH (fun H hH => ?_)
  have hP : va_P g.1 vwCl [(x, .inr (11, [.ref xtape, .int xtapeLength, .ref xreader, .ref xland, .ref xspareLand, .ref xstates, .int xcurrent, .int xnewest, .ref xboxes, .int xfullBoxes, .ref xsearch, .ref xsights, .ref xparting, .ref xheap])), (xsights, .inr (8, [.int gtime, .int gcount, .ref greasons, .ref gdays, .ref gtoldAt, .ref guntoldAt])), (guntoldAt, aI g 30 FguntoldAt)] H := by rw [hH]; exact hP
  have hS : va_S A s.heap H [] := by rw [hH]; exact hS
  refine lv_aload_n hx hb dX11_untell_0 rfl (lv_at hl 0 rfl) ?_
  refine va_get (D := g.1) (ci := 11) (v := .ref xsights) (C := RX11) (T := TX11) (N := 14) hx hb hT inF_X11 hown hK.1 hP 0 rfl rfl 11 (by decide) (hT _ bw_336) (fun _ h9 => h9) rfl dX11_untell_1 ?_
  refine lv_iload_n hx hb dX11_untell_4 rfl (lv_at hl 1 rfl) ?_
  refine k_i (wr := [(x, .inr (11, [.ref xtape, .int xtapeLength, .ref xreader, .ref xland, .ref xspareLand, .ref xstates, .int xcurrent, .int xnewest, .ref xboxes, .int xfullBoxes, .ref xsearch, .ref xsights, .ref xparting, .ref xheap]))]) (k_V (n := 1) ⟨hx, hb, hml, hown, hT⟩ hK hP hD [1, 2] rfl (by decide +kernel) (s_X8_takeBack l g H.size xsights gtime gcount greasons gdays gtoldAt guntoldAt FguntoldAt p0 (by first | with_reducible assumption | omega) (by first | with_reducible assumption | omega)) (gV bw_353 bw_354 bw_355 bw_351 bw_21) rfl rfl (by decide +kernel) ⟨by decide, by decide⟩ (ci := 8) (q0 := 0) rfl rfl (fun _ _ _ _ _ => trivial) (fun _ _ _ => trivial) rfl rfl hl.1 (Nat.le_of_ble_eq_true rfl) dX11_untell_5 ⟨by decide, by decide⟩) hP hD hS hA [1, 2] [0] rfl rfl (by decide +kernel) (by decide +kernel) (fun r_1 => fun f_2 H locs hw0 hP hD hS => ?_)
  have hP : va_P g.1 vwCl [(x, .inr (11, [.ref xtape, .int xtapeLength, .ref xreader, .ref xland, .ref xspareLand, .ref xstates, .int xcurrent, .int xnewest, .ref xboxes, .int xfullBoxes, .ref xsearch, .ref xsights, .ref xparting, .ref xheap])), (xsights, .inr (8, [.int gtime, .int gcount, .ref greasons, .ref gdays, .ref gtoldAt, .ref guntoldAt])), (guntoldAt, aI g 30 f_2)] H := hP
  have hD : va_D A [(x, .inr (11, [.ref xtape, .int xtapeLength, .ref xreader, .ref xland, .ref xspareLand, .ref xstates, .int xcurrent, .int xnewest, .ref xboxes, .int xfullBoxes, .ref xsearch, .ref xsights, .ref xparting, .ref xheap])), (xsights, .inr (8, [.int gtime, .int gcount, .ref greasons, .ref gdays, .ref gtoldAt, .ref guntoldAt])), (guntoldAt, aI g 30 f_2)] := hD
  have hw : 0 ≤ r_1.toInt ∧ r_1.toInt ≤ 1 := hw0
  clear hw0
  have w_3 := hw
  have hP9 : va_P g.1 vwCl [(x, .inr (11, [.ref xtape, .int xtapeLength, .ref xreader, .ref xland, .ref xspareLand, .ref xstates, .int xcurrent, .int xnewest, .ref xboxes, .int xfullBoxes, .ref xsearch, .ref xsights, .ref xparting, .ref xheap])), (xsights, .inr (8, [.int gtime, .int gcount, .ref greasons, .ref gdays, .ref gtoldAt, .ref guntoldAt])), (guntoldAt, aI g 30 f_2)] H := hP.sub [0, 1, 2] rfl
  have hD9 : va_D A [(x, .inr (11, [.ref xtape, .int xtapeLength, .ref xreader, .ref xland, .ref xspareLand, .ref xstates, .int xcurrent, .int xnewest, .ref xboxes, .int xfullBoxes, .ref xsearch, .ref xsights, .ref xparting, .ref xheap])), (xsights, .inr (8, [.int gtime, .int gcount, .ref greasons, .ref gdays, .ref gtoldAt, .ref guntoldAt])), (guntoldAt, aI g 30 f_2)] := hD.sub [0, 1, 2] (by decide +kernel) rfl
  exact W.zret (v := r_1) (ty := .boolean) hx hb hr (nar01 (by omega)) (fun t ht hW => ⟨⟨r_1, f_2, rfl, (by first | with_reducible assumption | omega), by rw [ht]; exact hP9, by rw [hAe]; exact hD9⟩, hS.F ht⟩) hS.2.2 dX11_untell_8

theorem bw_357 : Cond.code yX11_end cX11_end 2 (some .int) ∈ gT := gT_tb 575 (by decide +kernel) (by decide +kernel)
theorem dX11_end_0 : decode cX11_end 0 = .ok (.iload_n 1, 1) := by decide +kernel
theorem dX11_end_1 : decode cX11_end 1 = .ok (.ifCond .lt 11, 3) := by decide +kernel
theorem dX11_end_4 : decode cX11_end 4 = .ok (.iload_n 1, 1) := by decide +kernel
theorem dX11_end_5 : decode cX11_end 5 = .ok (.aload_n 0, 1) := by decide +kernel
theorem dX11_end_6 : decode cX11_end 6 = .ok (.getfield 72, 3) := by decide +kernel
theorem dX11_end_9 : decode cX11_end 9 = .ok (.if_icmp .le 5, 3) := by decide +kernel
theorem dX11_end_12 : decode cX11_end 12 = .ok (.iconst (-1), 1) := by decide +kernel
theorem dX11_end_13 : decode cX11_end 13 = .ok (.ireturn, 1) := by decide +kernel
theorem dX11_end_14 : decode cX11_end 14 = .ok (.aload_n 0, 1) := by decide +kernel
theorem dX11_end_15 : decode cX11_end 15 = .ok (.iload_n 1, 1) := by decide +kernel
theorem dX11_end_16 : decode cX11_end 16 = .ok (.putfield 72, 3) := by decide +kernel
theorem dX11_end_19 : decode cX11_end 19 = .ok (.iload_n 1, 1) := by decide +kernel
theorem dX11_end_20 : decode cX11_end 20 = .ok (.ireturn, 1) := by decide +kernel
set_option maxHeartbeats 4000000 in
set_option maxRecDepth 100000 in
theorem s_X11_end (l : Launch) (g : GG) (sz : Nat) (x : Nat) (xtape : Nat) (xtapeLength : Int32) (xreader : Nat) (xland : Nat) (xspareLand : Nat) (xstates : Nat) (xcurrent : Int32) (xnewest : Int32) (xboxes : Nat) (xfullBoxes : Int32) (xsearch : Nat) (xsights : Nat) (xparting : Nat) (xheap : Nat) (p0 : Int32) (hh0 : 0 ≤ xtapeLength.toInt ∧ xtapeLength.toInt ≤ 1600) (hh1 : 0 ≤ xcurrent.toInt ∧ xcurrent.toInt ≤ 40) (hh2 : 0 ≤ xnewest.toInt ∧ xnewest.toInt ≤ 40) : Met l yX11_end (.code yX11_end cX11_end 2 (some .int) :: gT) ({ frames := 0, cells := 0, slots := 0, locals := 0 }) (va_Pc [.ref x, .int p0] (Pst g sz [(x, .inr (11, [.ref xtape, .int xtapeLength, .ref xreader, .ref xland, .ref xspareLand, .ref xstates, .int xcurrent, .int xnewest, .ref xboxes, .int xfullBoxes, .ref xsearch, .ref xsights, .ref xparting, .ref xheap]))] nX)) (va_Qi (fun (r : Int32) => fun (o0_tapeLength : Int32) => ((-1) ≤ r.toInt ∧ r.toInt ≤ 1600) ∧ (0 ≤ o0_tapeLength.toInt ∧ o0_tapeLength.toInt ≤ 1600)) (Qst g [(x, .inr (11, [.ref xtape, .int xtapeLength, .ref xreader, .ref xland, .ref xspareLand, .ref xstates, .int xcurrent, .int xnewest, .ref xboxes, .int xfullBoxes, .ref xsearch, .ref xsights, .ref xparting, .ref xheap]))] sz (fun (o0_tapeLength : Int32) => [(x, .inr (11, [.ref xtape, .int o0_tapeLength, .ref xreader, .ref xland, .ref xspareLand, .ref xstates, .int xcurrent, .int xnewest, .ref xboxes, .int xfullBoxes, .ref xsearch, .ref xsights, .ref xparting, .ref xheap]))])) (va_A [(x, .inr (11, [.ref xtape, .int xtapeLength, .ref xreader, .ref xland, .ref xspareLand, .ref xstates, .int xcurrent, .int xnewest, .ref xboxes, .int xfullBoxes, .ref xsearch, .ref xsights, .ref xparting, .ref xheap]))] sz)) 0 0 (va_A [(x, .inr (11, [.ref xtape, .int xtapeLength, .ref xreader, .ref xland, .ref xspareLand, .ref xstates, .int xcurrent, .int xnewest, .ref xboxes, .int xfullBoxes, .ref xsearch, .ref xsights, .ref xparting, .ref xheap]))] sz) := by
  refine Met.ofW (cc := cX11_end) (maxL := 2) (ret := (some .int)) (by decide) rfl ?_
  intro p e s m args below meth c s₁ B hml hv
  obtain ⟨rfl, hsz, hP, hK, hD0, hX⟩ := hv
  have hx := B.exec
  have hb := B.bytes
  have hr := B.returns
  have hT : ∀ w ∈ gT, w.before _ s = true := fun w h => atoms_spec (ws := .code yX11_end cX11_end 2 (some .int) :: gT) B.pre w (List.mem_cons_of_mem _ h)
  have hown : s.vm.findClass RX11 = some m.cls := findClass_of_methodNamed B.named
  have hlocks := B.notSynchronized
  subst hsz
  have hD := hD0.self (sz := s.heap.size)
  generalize hAe : va_A [(x, .inr (11, [.ref xtape, .int xtapeLength, .ref xreader, .ref xland, .ref xspareLand, .ref xstates, .int xcurrent, .int xnewest, .ref xboxes, .int xfullBoxes, .ref xsearch, .ref xsights, .ref xparting, .ref xheap]))] s.heap.size = A at hD ⊢
  have hA : ∀ q : Nat, s.heap.size ≤ q → A q := fun q h => by rw [← hAe]; exact Or.inr h
  have hS : va_S A s.heap s.heap [] := va_S.rf
  have hl := lv_entry ([.ref x, .int p0]) (n := 2) (Nat.le_of_ble_eq_true rfl)
  rw [lg_entry_eq]
  generalize (lg_sl ([.ref x, .int p0]) ++ List.replicate (2 - (lg_sl ([.ref x, .int p0])).length) Slot.unset).toArray = ls at hl ⊢
  have hl : lv_has ls 2 [(0, .ref x), (1, .int p0)] := hl
  refine p_nH (fun H hH => ?_)
  have hP : va_P g.1 vwCl [(x, .inr (11, [.ref xtape, .int xtapeLength, .ref xreader, .ref xland, .ref xspareLand, .ref xstates, .int xcurrent, .int xnewest, .ref xboxes, .int xfullBoxes, .ref xsearch, .ref xsights, .ref xparting, .ref xheap]))] H := by rw [hH]; exact hP
  have hS : va_S A s.heap H [] := by rw [hH]; exact hS
  refine lv_iload_n hx hb dX11_end_0 rfl (lv_at hl 1 rfl) ?_
  refine lv_if_lt (tgt := 12) hx hb dX11_end_1 (by decide) (fun c_1 => ?_) (fun c_1 => ?_)
  · have f_2 := E_lt (rfl : p0.toInt = _) (by decide : (0 : Int32).toInt = 0) c_1
    refine lv_iconst (v := (-1)) hx hb dX11_end_12 (by decide) ?_
    have hP9 : va_P g.1 vwCl [(x, .inr (11, [.ref xtape, .int xtapeLength, .ref xreader, .ref xland, .ref xspareLand, .ref xstates, .int xcurrent, .int xnewest, .ref xboxes, .int xfullBoxes, .ref xsearch, .ref xsights, .ref xparting, .ref xheap]))] H := hP.sub [0] rfl
    have hD9 : va_D A [(x, .inr (11, [.ref xtape, .int xtapeLength, .ref xreader, .ref xland, .ref xspareLand, .ref xstates, .int xcurrent, .int xnewest, .ref xboxes, .int xfullBoxes, .ref xsearch, .ref xsights, .ref xparting, .ref xheap]))] := hD.sub [0] (by decide +kernel) rfl
    exact W.iret (v := (-1)) hx hb hr (fun t ht hW => ⟨⟨(-1), xtapeLength, rfl, ⟨⟨by decide, by decide⟩, (by first | with_reducible assumption | omega)⟩, by rw [ht]; exact hP9, by rw [hAe]; exact hD9⟩, hS.F ht⟩) hS.2.2 dX11_end_13
  · have f_3 := E_nlt (rfl : p0.toInt = _) (by decide : (0 : Int32).toInt = 0) c_1
    refine lv_iload_n hx hb dX11_end_4 rfl (lv_at hl 1 rfl) ?_
    refine lv_aload_n hx hb dX11_end_5 rfl (lv_at hl 0 rfl) ?_
    refine va_get (D := g.1) (ci := 11) (v := .int xtapeLength) (C := RX11) (T := TX11) (N := 14) hx hb hT inF_X11 hown hK.1 hP 0 rfl rfl 1 (by decide) (hT _ bw_339) (fun _ h9 => h9) rfl dX11_end_6 ?_
    refine lv_icmp_le (tgt := 14) hx hb dX11_end_9 (by decide) (fun c_4 => ?_) (fun c_4 => ?_)
    · have f_5 := E_le (rfl : p0.toInt = _) (rfl : xtapeLength.toInt = _) c_4
      refine lv_aload_n hx hb dX11_end_14 rfl (lv_at hl 0 rfl) ?_
      refine lv_iload_n hx hb dX11_end_15 rfl (lv_at hl 1 rfl) ?_
      refine va_put (D := g.1) (ci := 11) (v := .int p0) (ty := .int) (C := RX11) (T := TX11) (N := 14) hx hb hT inF_X11 tyX11 tyX11_ok nmX11 hown hK.1 hP hD hS 0 rfl rfl 1 (by decide) (hT _ bw_339) (fun _ h9 => h9) rfl (by decide +kernel) rfl rfl (Nat.le_of_ble_eq_true rfl) dX11_end_16 (fun H locs hP hD hS => ?_)
      have hP : va_P g.1 vwCl [(x, .inr (11, [.ref xtape, .int p0, .ref xreader, .ref xland, .ref xspareLand, .ref xstates, .int xcurrent, .int xnewest, .ref xboxes, .int xfullBoxes, .ref xsearch, .ref xsights, .ref xparting, .ref xheap]))] H := hP
      have hD : va_D A [(x, .inr (11, [.ref xtape, .int p0, .ref xreader, .ref xland, .ref xspareLand, .ref xstates, .int xcurrent, .int xnewest, .ref xboxes, .int xfullBoxes, .ref xsearch, .ref xsights, .ref xparting, .ref xheap]))] := hD
      refine lv_iload_n hx hb dX11_end_19 rfl (lv_at hl 1 rfl) ?_
      have hP9 : va_P g.1 vwCl [(x, .inr (11, [.ref xtape, .int p0, .ref xreader, .ref xland, .ref xspareLand, .ref xstates, .int xcurrent, .int xnewest, .ref xboxes, .int xfullBoxes, .ref xsearch, .ref xsights, .ref xparting, .ref xheap]))] H := hP.sub [0] rfl
      have hD9 : va_D A [(x, .inr (11, [.ref xtape, .int p0, .ref xreader, .ref xland, .ref xspareLand, .ref xstates, .int xcurrent, .int xnewest, .ref xboxes, .int xfullBoxes, .ref xsearch, .ref xsights, .ref xparting, .ref xheap]))] := hD.sub [0] (by decide +kernel) rfl
      exact W.iret (v := p0) hx hb hr (fun t ht hW => ⟨⟨p0, p0, rfl, ⟨(by first | with_reducible assumption | omega), (by first | with_reducible assumption | omega)⟩, by rw [ht]; exact hP9, by rw [hAe]; exact hD9⟩, hS.F ht⟩) hS.2.2 dX11_end_20
    · have f_6 := E_nle (rfl : p0.toInt = _) (rfl : xtapeLength.toInt = _) c_4
      refine lv_iconst (v := (-1)) hx hb dX11_end_12 (by decide) ?_
      have hP9 : va_P g.1 vwCl [(x, .inr (11, [.ref xtape, .int xtapeLength, .ref xreader, .ref xland, .ref xspareLand, .ref xstates, .int xcurrent, .int xnewest, .ref xboxes, .int xfullBoxes, .ref xsearch, .ref xsights, .ref xparting, .ref xheap]))] H := hP.sub [0] rfl
      have hD9 : va_D A [(x, .inr (11, [.ref xtape, .int xtapeLength, .ref xreader, .ref xland, .ref xspareLand, .ref xstates, .int xcurrent, .int xnewest, .ref xboxes, .int xfullBoxes, .ref xsearch, .ref xsights, .ref xparting, .ref xheap]))] := hD.sub [0] (by decide +kernel) rfl
      exact W.iret (v := (-1)) hx hb hr (fun t ht hW => ⟨⟨(-1), xtapeLength, rfl, ⟨⟨by decide, by decide⟩, (by first | with_reducible assumption | omega)⟩, by rw [ht]; exact hP9, by rw [hAe]; exact hD9⟩, hS.F ht⟩) hS.2.2 dX11_end_13

set_option maxRecDepth 20000 in
theorem inF_X5 : ∀ w ∈ u_ws RX5 TX5 7, w ∈ gT := gT_u [136, 138, 140, 142, 144, 146, 148] (by decide +kernel) (by decide +kernel)
theorem bw_358 : Cond.fieldLink RX11 16 "DuelDelays" "reader" "LDuelDelays$Reader;" ∈ gT := gT_tb 523 (by decide +kernel) (by decide +kernel)
theorem bw_359 : Cond.fieldLink RX11 106 "DuelDelays$Reader" "faultCode" "I" ∈ gT := gT_tb 128 (by decide +kernel) (by decide +kernel)
theorem bw_360 : Cond.fieldLink RX11 109 "DuelDelays$Reader" "faultPlace" "I" ∈ gT := gT_tb 130 (by decide +kernel) (by decide +kernel)
theorem bw_361 : Cond.code yX11_fault cX11_fault 2 (some .int) ∈ gT := gT_tb 838 (by decide +kernel) (by decide +kernel)
theorem dX11_fault_0 : decode cX11_fault 0 = .ok (.iload_n 1, 1) := by decide +kernel
theorem dX11_fault_1 : decode cX11_fault 1 = .ok (.lookupswitch 43 #[(0, 27), (1, 35)], 27) := by decide +kernel
theorem dX11_fault_28 : decode cX11_fault 28 = .ok (.aload_n 0, 1) := by decide +kernel
theorem dX11_fault_29 : decode cX11_fault 29 = .ok (.getfield 16, 3) := by decide +kernel
theorem dX11_fault_32 : decode cX11_fault 32 = .ok (.getfield 106, 3) := by decide +kernel
theorem dX11_fault_35 : decode cX11_fault 35 = .ok (.ireturn, 1) := by decide +kernel
theorem dX11_fault_36 : decode cX11_fault 36 = .ok (.aload_n 0, 1) := by decide +kernel
theorem dX11_fault_37 : decode cX11_fault 37 = .ok (.getfield 16, 3) := by decide +kernel
theorem dX11_fault_40 : decode cX11_fault 40 = .ok (.getfield 109, 3) := by decide +kernel
theorem dX11_fault_43 : decode cX11_fault 43 = .ok (.ireturn, 1) := by decide +kernel
theorem dX11_fault_44 : decode cX11_fault 44 = .ok (.iconst (-1), 1) := by decide +kernel
theorem dX11_fault_45 : decode cX11_fault 45 = .ok (.ireturn, 1) := by decide +kernel
set_option maxHeartbeats 4000000 in
set_option maxRecDepth 100000 in
theorem s_X11_fault (l : Launch) (g : GG) (sz : Nat) (x : Nat) (xtape : Nat) (xtapeLength : Int32) (xreader : Nat) (xland : Nat) (xspareLand : Nat) (xstates : Nat) (xcurrent : Int32) (xnewest : Int32) (xboxes : Nat) (xfullBoxes : Int32) (xsearch : Nat) (xsights : Nat) (xparting : Nat) (xheap : Nat) (rfaultCode : Int32) (rfaultPlace : Int32) (rtokens : Nat) (rland : Nat) (rhonourTold : Int32) (rdrawTold : Int32) (rtaken : Int32) (p0 : Int32) (hh0 : 0 ≤ xtapeLength.toInt ∧ xtapeLength.toInt ≤ 1600) (hh1 : 0 ≤ xcurrent.toInt ∧ xcurrent.toInt ≤ 40) (hh2 : 0 ≤ xnewest.toInt ∧ xnewest.toInt ≤ 40) (hh24 : 0 ≤ rhonourTold.toInt ∧ rhonourTold.toInt ≤ 1) (hh25 : 0 ≤ rdrawTold.toInt ∧ rdrawTold.toInt ≤ 1) : Met l yX11_fault (.code yX11_fault cX11_fault 2 (some .int) :: gT) ({ frames := 0, cells := 0, slots := 0, locals := 0 }) (va_Pc [.ref x, .int p0] (Pst g sz [(x, .inr (11, [.ref xtape, .int xtapeLength, .ref xreader, .ref xland, .ref xspareLand, .ref xstates, .int xcurrent, .int xnewest, .ref xboxes, .int xfullBoxes, .ref xsearch, .ref xsights, .ref xparting, .ref xheap])), (xreader, .inr (5, [.int rfaultCode, .int rfaultPlace, .ref rtokens, .ref rland, .int rhonourTold, .int rdrawTold, .int rtaken]))] nX)) (va_Qi (fun (r : Int32) => fun (_ : Unit) => True) (Qst g [] sz (fun _ => [])) (va_A [] sz)) 0 0 (va_A [] sz) := by
  refine Met.ofW (cc := cX11_fault) (maxL := 2) (ret := (some .int)) (by decide) rfl ?_
  intro p e s m args below meth c s₁ B hml hv
  obtain ⟨rfl, hsz, hP, hK, hD0, hX⟩ := hv
  have hx := B.exec
  have hb := B.bytes
  have hr := B.returns
  have hT : ∀ w ∈ gT, w.before _ s = true := fun w h => atoms_spec (ws := .code yX11_fault cX11_fault 2 (some .int) :: gT) B.pre w (List.mem_cons_of_mem _ h)
  have hown : s.vm.findClass RX11 = some m.cls := findClass_of_methodNamed B.named
  have hlocks := B.notSynchronized
  subst hsz
  have hD := hD0
  generalize hAe : va_A [] s.heap.size = A at ⊢
  have hA : ∀ q : Nat, s.heap.size ≤ q → A q := fun q h => by rw [← hAe]; exact Or.inr h
  have hS : va_S A s.heap s.heap [] := va_S.rf
  have hl := lv_entry ([.ref x, .int p0]) (n := 2) (Nat.le_of_ble_eq_true rfl)
  rw [lg_entry_eq]
  generalize (lg_sl ([.ref x, .int p0]) ++ List.replicate (2 - (lg_sl ([.ref x, .int p0])).length) Slot.unset).toArray = ls at hl ⊢
  have hl : lv_has ls 2 [(0, .ref x), (1, .int p0)] := hl
  refine p_nH (fun H hH => ?_)
  have hP : va_P g.1 vwCl [(x, .inr (11, [.ref xtape, .int xtapeLength, .ref xreader, .ref xland, .ref xspareLand, .ref xstates, .int xcurrent, .int xnewest, .ref xboxes, .int xfullBoxes, .ref xsearch, .ref xsights, .ref xparting, .ref xheap])), (xreader, .inr (5, [.int rfaultCode, .int rfaultPlace, .ref rtokens, .ref rland, .int rhonourTold, .int rdrawTold, .int rtaken]))] H := by rw [hH]; exact hP
  have hS : va_S A s.heap H [] := by rw [hH]; exact hS
  refine lv_iload_n hx hb dX11_fault_0 rfl (lv_at hl 1 rfl) ?_
  rcases tsplit p0 2 (by decide) with h_1 | ⟨j, hj, eh_1⟩
  · refine lv_lookup (tgt := 44) hx hb dX11_fault_1 (by decide) (off := 43) (by have k0 : ¬ (0 : Int) = p0.toInt := (by omega); have k1 : ¬ (1 : Int) = p0.toInt := (by omega); simp [Op.lookupswitch.offset, k0, k1]) (by decide) ?_
    refine lv_iconst (v := (-1)) hx hb dX11_fault_44 (by decide) ?_
    have hP9 : va_P g.1 vwCl [] H := hP.sub [] rfl
    have hD9 : va_D A [] := ⟨fun i j p q h => by simp at h, fun k q h => by simp at h⟩
    exact W.iret (v := (-1)) hx hb hr (fun t ht hW => ⟨⟨(-1), (), rfl, trivial, by rw [ht]; exact hP9, by rw [hAe]; exact hD9⟩, hS.F ht⟩) hS.2.2 dX11_fault_45
  · rcases (show j = 0 ∨ j = 1 by omega) with rfl | rfl
    · obtain rfl : p0 = 0 := eh_1
      refine lv_lookup (tgt := 28) hx hb dX11_fault_1 (by decide) (off := 27) (by decide) (by decide) ?_
      refine lv_aload_n hx hb dX11_fault_28 rfl (lv_at hl 0 rfl) ?_
      refine va_get (D := g.1) (ci := 11) (v := .ref xreader) (C := RX11) (T := TX11) (N := 14) hx hb hT inF_X11 hown hK.1 hP 0 rfl rfl 2 (by decide) (hT _ bw_358) (fun _ h9 => h9) rfl dX11_fault_29 ?_
      refine va_get (D := g.1) (ci := 5) (v := .int rfaultCode) (C := RX5) (T := TX5) (N := 7) hx hb hT inF_X5 hown hK.1 hP 1 rfl rfl 0 (by decide) (hT _ bw_359) (fun _ h9 => h9) rfl dX11_fault_32 ?_
      have hP9 : va_P g.1 vwCl [] H := hP.sub [] rfl
      have hD9 : va_D A [] := ⟨fun i j p q h => by simp at h, fun k q h => by simp at h⟩
      exact W.iret (v := rfaultCode) hx hb hr (fun t ht hW => ⟨⟨rfaultCode, (), rfl, trivial, by rw [ht]; exact hP9, by rw [hAe]; exact hD9⟩, hS.F ht⟩) hS.2.2 dX11_fault_35
    · obtain rfl : p0 = 1 := eh_1
      refine lv_lookup (tgt := 36) hx hb dX11_fault_1 (by decide) (off := 35) (by decide) (by decide) ?_
      refine lv_aload_n hx hb dX11_fault_36 rfl (lv_at hl 0 rfl) ?_
      refine va_get (D := g.1) (ci := 11) (v := .ref xreader) (C := RX11) (T := TX11) (N := 14) hx hb hT inF_X11 hown hK.1 hP 0 rfl rfl 2 (by decide) (hT _ bw_358) (fun _ h9 => h9) rfl dX11_fault_37 ?_
      refine va_get (D := g.1) (ci := 5) (v := .int rfaultPlace) (C := RX5) (T := TX5) (N := 7) hx hb hT inF_X5 hown hK.1 hP 1 rfl rfl 1 (by decide) (hT _ bw_360) (fun _ h9 => h9) rfl dX11_fault_40 ?_
      have hP9 : va_P g.1 vwCl [] H := hP.sub [] rfl
      have hD9 : va_D A [] := ⟨fun i j p q h => by simp at h, fun k q h => by simp at h⟩
      exact W.iret (v := rfaultPlace) hx hb hr (fun t ht hW => ⟨⟨rfaultPlace, (), rfl, trivial, by rw [ht]; exact hP9, by rw [hAe]; exact hD9⟩, hS.F ht⟩) hS.2.2 dX11_fault_43

theorem bw_362 : Cond.code yX11_undo cX11_undo 1 (some .boolean) ∈ gT := gT_tb 1048 (by decide +kernel) (by decide +kernel)
theorem dX11_undo_0 : decode cX11_undo 0 = .ok (.aload_n 0, 1) := by decide +kernel
theorem dX11_undo_1 : decode cX11_undo 1 = .ok (.getfield 84, 3) := by decide +kernel
theorem dX11_undo_4 : decode cX11_undo 4 = .ok (.ifCond .ne 5, 3) := by decide +kernel
theorem dX11_undo_7 : decode cX11_undo 7 = .ok (.iconst 0, 1) := by decide +kernel
theorem dX11_undo_8 : decode cX11_undo 8 = .ok (.ireturn, 1) := by decide +kernel
theorem dX11_undo_9 : decode cX11_undo 9 = .ok (.aload_n 0, 1) := by decide +kernel
theorem dX11_undo_10 : decode cX11_undo 10 = .ok (.dup, 1) := by decide +kernel
theorem dX11_undo_11 : decode cX11_undo 11 = .ok (.getfield 84, 3) := by decide +kernel
theorem dX11_undo_14 : decode cX11_undo 14 = .ok (.iconst 1, 1) := by decide +kernel
theorem dX11_undo_15 : decode cX11_undo 15 = .ok (.isub, 1) := by decide +kernel
theorem dX11_undo_16 : decode cX11_undo 16 = .ok (.putfield 84, 3) := by decide +kernel
theorem dX11_undo_19 : decode cX11_undo 19 = .ok (.iconst 1, 1) := by decide +kernel
theorem dX11_undo_20 : decode cX11_undo 20 = .ok (.ireturn, 1) := by decide +kernel
set_option maxHeartbeats 4000000 in
set_option maxRecDepth 100000 in
theorem s_X11_undo (l : Launch) (g : GG) (sz : Nat) (x : Nat) (xtape : Nat) (xtapeLength : Int32) (xreader : Nat) (xland : Nat) (xspareLand : Nat) (xstates : Nat) (xcurrent : Int32) (xnewest : Int32) (xboxes : Nat) (xfullBoxes : Int32) (xsearch : Nat) (xsights : Nat) (xparting : Nat) (xheap : Nat) (hh0 : 0 ≤ xtapeLength.toInt ∧ xtapeLength.toInt ≤ 1600) (hh1 : 0 ≤ xcurrent.toInt ∧ xcurrent.toInt ≤ 40) (hh2 : 0 ≤ xnewest.toInt ∧ xnewest.toInt ≤ 40) : Met l yX11_undo (.code yX11_undo cX11_undo 1 (some .boolean) :: gT) ({ frames := 0, cells := 0, slots := 0, locals := 0 }) (va_Pc [.ref x] (Pst g sz [(x, .inr (11, [.ref xtape, .int xtapeLength, .ref xreader, .ref xland, .ref xspareLand, .ref xstates, .int xcurrent, .int xnewest, .ref xboxes, .int xfullBoxes, .ref xsearch, .ref xsights, .ref xparting, .ref xheap]))] nX)) (va_Qi (fun (r : Int32) => fun (o0_current : Int32) => (0 ≤ r.toInt ∧ r.toInt ≤ 1) ∧ (0 ≤ o0_current.toInt ∧ o0_current.toInt ≤ 40)) (Qst g [(x, .inr (11, [.ref xtape, .int xtapeLength, .ref xreader, .ref xland, .ref xspareLand, .ref xstates, .int xcurrent, .int xnewest, .ref xboxes, .int xfullBoxes, .ref xsearch, .ref xsights, .ref xparting, .ref xheap]))] sz (fun (o0_current : Int32) => [(x, .inr (11, [.ref xtape, .int xtapeLength, .ref xreader, .ref xland, .ref xspareLand, .ref xstates, .int o0_current, .int xnewest, .ref xboxes, .int xfullBoxes, .ref xsearch, .ref xsights, .ref xparting, .ref xheap]))])) (va_A [(x, .inr (11, [.ref xtape, .int xtapeLength, .ref xreader, .ref xland, .ref xspareLand, .ref xstates, .int xcurrent, .int xnewest, .ref xboxes, .int xfullBoxes, .ref xsearch, .ref xsights, .ref xparting, .ref xheap]))] sz)) 0 0 (va_A [(x, .inr (11, [.ref xtape, .int xtapeLength, .ref xreader, .ref xland, .ref xspareLand, .ref xstates, .int xcurrent, .int xnewest, .ref xboxes, .int xfullBoxes, .ref xsearch, .ref xsights, .ref xparting, .ref xheap]))] sz) := by
  refine Met.ofW (cc := cX11_undo) (maxL := 1) (ret := (some .boolean)) (by decide) rfl ?_
  intro p e s m args below meth c s₁ B hml hv
  obtain ⟨rfl, hsz, hP, hK, hD0, hX⟩ := hv
  have hx := B.exec
  have hb := B.bytes
  have hr := B.returns
  have hT : ∀ w ∈ gT, w.before _ s = true := fun w h => atoms_spec (ws := .code yX11_undo cX11_undo 1 (some .boolean) :: gT) B.pre w (List.mem_cons_of_mem _ h)
  have hown : s.vm.findClass RX11 = some m.cls := findClass_of_methodNamed B.named
  have hlocks := B.notSynchronized
  subst hsz
  have hD := hD0.self (sz := s.heap.size)
  generalize hAe : va_A [(x, .inr (11, [.ref xtape, .int xtapeLength, .ref xreader, .ref xland, .ref xspareLand, .ref xstates, .int xcurrent, .int xnewest, .ref xboxes, .int xfullBoxes, .ref xsearch, .ref xsights, .ref xparting, .ref xheap]))] s.heap.size = A at hD ⊢
  have hA : ∀ q : Nat, s.heap.size ≤ q → A q := fun q h => by rw [← hAe]; exact Or.inr h
  have hS : va_S A s.heap s.heap [] := va_S.rf
  have hl := lv_entry ([.ref x]) (n := 1) (Nat.le_of_ble_eq_true rfl)
  rw [lg_entry_eq]
  generalize (lg_sl ([.ref x]) ++ List.replicate (1 - (lg_sl ([.ref x])).length) Slot.unset).toArray = ls at hl ⊢
  have hl : lv_has ls 1 [(0, .ref x)] := hl
  refine p_nH (fun H hH => ?_)
  have hP : va_P g.1 vwCl [(x, .inr (11, [.ref xtape, .int xtapeLength, .ref xreader, .ref xland, .ref xspareLand, .ref xstates, .int xcurrent, .int xnewest, .ref xboxes, .int xfullBoxes, .ref xsearch, .ref xsights, .ref xparting, .ref xheap]))] H := by rw [hH]; exact hP
  have hS : va_S A s.heap H [] := by rw [hH]; exact hS
  refine lv_aload_n hx hb dX11_undo_0 rfl (lv_at hl 0 rfl) ?_
  refine va_get (D := g.1) (ci := 11) (v := .int xcurrent) (C := RX11) (T := TX11) (N := 14) hx hb hT inF_X11 hown hK.1 hP 0 rfl rfl 6 (by decide) (hT _ bw_276) (fun _ h9 => h9) rfl dX11_undo_1 ?_
  refine lv_if_ne (tgt := 9) hx hb dX11_undo_4 (by decide) (fun c_1 => ?_) (fun c_1 => ?_)
  · have f_2 := E_ne (rfl : xcurrent.toInt = _) (by decide : (0 : Int32).toInt = 0) c_1
    refine lv_aload_n hx hb dX11_undo_9 rfl (lv_at hl 0 rfl) ?_
    refine lv_dup hx hb dX11_undo_10 rfl ?_
    refine va_get (D := g.1) (ci := 11) (v := .int xcurrent) (C := RX11) (T := TX11) (N := 14) hx hb hT inF_X11 hown hK.1 hP 0 rfl rfl 6 (by decide) (hT _ bw_276) (fun _ h9 => h9) rfl dX11_undo_11 ?_
    refine lv_iconst (v := 1) hx hb dX11_undo_14 (by decide) ?_
    refine lv_isub hx hb dX11_undo_15 ?_
    refine lv_topi (fun x_3 ex_3 => ?_)
    have fx_3 : x_3.toInt = xcurrent.toInt - 1 := by rw [ex_3]; exact I_sub rfl (by decide : (1 : Int32).toInt = 1) (by omega) (by omega)
    refine va_put (D := g.1) (ci := 11) (v := .int x_3) (ty := .int) (C := RX11) (T := TX11) (N := 14) hx hb hT inF_X11 tyX11 tyX11_ok nmX11 hown hK.1 hP hD hS 0 rfl rfl 6 (by decide) (hT _ bw_276) (fun _ h9 => h9) rfl (by decide +kernel) rfl rfl (Nat.le_of_ble_eq_true rfl) dX11_undo_16 (fun H locs hP hD hS => ?_)
    have hP : va_P g.1 vwCl [(x, .inr (11, [.ref xtape, .int xtapeLength, .ref xreader, .ref xland, .ref xspareLand, .ref xstates, .int x_3, .int xnewest, .ref xboxes, .int xfullBoxes, .ref xsearch, .ref xsights, .ref xparting, .ref xheap]))] H := hP
    have hD : va_D A [(x, .inr (11, [.ref xtape, .int xtapeLength, .ref xreader, .ref xland, .ref xspareLand, .ref xstates, .int x_3, .int xnewest, .ref xboxes, .int xfullBoxes, .ref xsearch, .ref xsights, .ref xparting, .ref xheap]))] := hD
    refine lv_iconst (v := 1) hx hb dX11_undo_19 (by decide) ?_
    have hP9 : va_P g.1 vwCl [(x, .inr (11, [.ref xtape, .int xtapeLength, .ref xreader, .ref xland, .ref xspareLand, .ref xstates, .int x_3, .int xnewest, .ref xboxes, .int xfullBoxes, .ref xsearch, .ref xsights, .ref xparting, .ref xheap]))] H := hP.sub [0] rfl
    have hD9 : va_D A [(x, .inr (11, [.ref xtape, .int xtapeLength, .ref xreader, .ref xland, .ref xspareLand, .ref xstates, .int x_3, .int xnewest, .ref xboxes, .int xfullBoxes, .ref xsearch, .ref xsights, .ref xparting, .ref xheap]))] := hD.sub [0] (by decide +kernel) rfl
    exact W.zret (v := 1) (ty := .boolean) hx hb hr rfl (fun t ht hW => ⟨⟨1, x_3, rfl, ⟨⟨by decide, by decide⟩, (by first | with_reducible assumption | omega)⟩, by rw [ht]; exact hP9, by rw [hAe]; exact hD9⟩, hS.F ht⟩) hS.2.2 dX11_undo_20
  · have f_4 := E_eq (rfl : xcurrent.toInt = _) (by decide : (0 : Int32).toInt = 0) c_1
    refine lv_iconst (v := 0) hx hb dX11_undo_7 (by decide) ?_
    have hP9 : va_P g.1 vwCl [(x, .inr (11, [.ref xtape, .int xtapeLength, .ref xreader, .ref xland, .ref xspareLand, .ref xstates, .int xcurrent, .int xnewest, .ref xboxes, .int xfullBoxes, .ref xsearch, .ref xsights, .ref xparting, .ref xheap]))] H := hP.sub [0] rfl
    have hD9 : va_D A [(x, .inr (11, [.ref xtape, .int xtapeLength, .ref xreader, .ref xland, .ref xspareLand, .ref xstates, .int xcurrent, .int xnewest, .ref xboxes, .int xfullBoxes, .ref xsearch, .ref xsights, .ref xparting, .ref xheap]))] := hD.sub [0] (by decide +kernel) rfl
    exact W.zret (v := 0) (ty := .boolean) hx hb hr rfl (fun t ht hW => ⟨⟨0, xcurrent, rfl, ⟨⟨by decide, by decide⟩, (by first | with_reducible assumption | omega)⟩, by rw [ht]; exact hP9, by rw [hAe]; exact hD9⟩, hS.F ht⟩) hS.2.2 dX11_undo_8

theorem bw_363 : Cond.code yX11_redo cX11_redo 1 (some .boolean) ∈ gT := gT_tb 1052 (by decide +kernel) (by decide +kernel)
theorem dX11_redo_0 : decode cX11_redo 0 = .ok (.aload_n 0, 1) := by decide +kernel
theorem dX11_redo_1 : decode cX11_redo 1 = .ok (.getfield 84, 3) := by decide +kernel
theorem dX11_redo_4 : decode cX11_redo 4 = .ok (.aload_n 0, 1) := by decide +kernel
theorem dX11_redo_5 : decode cX11_redo 5 = .ok (.getfield 87, 3) := by decide +kernel
theorem dX11_redo_8 : decode cX11_redo 8 = .ok (.if_icmp .lt 5, 3) := by decide +kernel
theorem dX11_redo_11 : decode cX11_redo 11 = .ok (.iconst 0, 1) := by decide +kernel
theorem dX11_redo_12 : decode cX11_redo 12 = .ok (.ireturn, 1) := by decide +kernel
theorem dX11_redo_13 : decode cX11_redo 13 = .ok (.aload_n 0, 1) := by decide +kernel
theorem dX11_redo_14 : decode cX11_redo 14 = .ok (.dup, 1) := by decide +kernel
theorem dX11_redo_15 : decode cX11_redo 15 = .ok (.getfield 84, 3) := by decide +kernel
theorem dX11_redo_18 : decode cX11_redo 18 = .ok (.iconst 1, 1) := by decide +kernel
theorem dX11_redo_19 : decode cX11_redo 19 = .ok (.iadd, 1) := by decide +kernel
theorem dX11_redo_20 : decode cX11_redo 20 = .ok (.putfield 84, 3) := by decide +kernel
theorem dX11_redo_23 : decode cX11_redo 23 = .ok (.iconst 1, 1) := by decide +kernel
theorem dX11_redo_24 : decode cX11_redo 24 = .ok (.ireturn, 1) := by decide +kernel
set_option maxHeartbeats 4000000 in
set_option maxRecDepth 100000 in
theorem s_X11_redo (l : Launch) (g : GG) (sz : Nat) (x : Nat) (xtape : Nat) (xtapeLength : Int32) (xreader : Nat) (xland : Nat) (xspareLand : Nat) (xstates : Nat) (xcurrent : Int32) (xnewest : Int32) (xboxes : Nat) (xfullBoxes : Int32) (xsearch : Nat) (xsights : Nat) (xparting : Nat) (xheap : Nat) (hh0 : 0 ≤ xtapeLength.toInt ∧ xtapeLength.toInt ≤ 1600) (hh1 : 0 ≤ xcurrent.toInt ∧ xcurrent.toInt ≤ 40) (hh2 : 0 ≤ xnewest.toInt ∧ xnewest.toInt ≤ 40) : Met l yX11_redo (.code yX11_redo cX11_redo 1 (some .boolean) :: gT) ({ frames := 0, cells := 0, slots := 0, locals := 0 }) (va_Pc [.ref x] (Pst g sz [(x, .inr (11, [.ref xtape, .int xtapeLength, .ref xreader, .ref xland, .ref xspareLand, .ref xstates, .int xcurrent, .int xnewest, .ref xboxes, .int xfullBoxes, .ref xsearch, .ref xsights, .ref xparting, .ref xheap]))] nX)) (va_Qi (fun (r : Int32) => fun (o0_current : Int32) => (0 ≤ r.toInt ∧ r.toInt ≤ 1) ∧ (0 ≤ o0_current.toInt ∧ o0_current.toInt ≤ 40)) (Qst g [(x, .inr (11, [.ref xtape, .int xtapeLength, .ref xreader, .ref xland, .ref xspareLand, .ref xstates, .int xcurrent, .int xnewest, .ref xboxes, .int xfullBoxes, .ref xsearch, .ref xsights, .ref xparting, .ref xheap]))] sz (fun (o0_current : Int32) => [(x, .inr (11, [.ref xtape, .int xtapeLength, .ref xreader, .ref xland, .ref xspareLand, .ref xstates, .int o0_current, .int xnewest, .ref xboxes, .int xfullBoxes, .ref xsearch, .ref xsights, .ref xparting, .ref xheap]))])) (va_A [(x, .inr (11, [.ref xtape, .int xtapeLength, .ref xreader, .ref xland, .ref xspareLand, .ref xstates, .int xcurrent, .int xnewest, .ref xboxes, .int xfullBoxes, .ref xsearch, .ref xsights, .ref xparting, .ref xheap]))] sz)) 0 0 (va_A [(x, .inr (11, [.ref xtape, .int xtapeLength, .ref xreader, .ref xland, .ref xspareLand, .ref xstates, .int xcurrent, .int xnewest, .ref xboxes, .int xfullBoxes, .ref xsearch, .ref xsights, .ref xparting, .ref xheap]))] sz) := by
  refine Met.ofW (cc := cX11_redo) (maxL := 1) (ret := (some .boolean)) (by decide) rfl ?_
  intro p e s m args below meth c s₁ B hml hv
  obtain ⟨rfl, hsz, hP, hK, hD0, hX⟩ := hv
  have hx := B.exec
  have hb := B.bytes
  have hr := B.returns
  have hT : ∀ w ∈ gT, w.before _ s = true := fun w h => atoms_spec (ws := .code yX11_redo cX11_redo 1 (some .boolean) :: gT) B.pre w (List.mem_cons_of_mem _ h)
  have hown : s.vm.findClass RX11 = some m.cls := findClass_of_methodNamed B.named
  have hlocks := B.notSynchronized
  subst hsz
  have hD := hD0.self (sz := s.heap.size)
  generalize hAe : va_A [(x, .inr (11, [.ref xtape, .int xtapeLength, .ref xreader, .ref xland, .ref xspareLand, .ref xstates, .int xcurrent, .int xnewest, .ref xboxes, .int xfullBoxes, .ref xsearch, .ref xsights, .ref xparting, .ref xheap]))] s.heap.size = A at hD ⊢
  have hA : ∀ q : Nat, s.heap.size ≤ q → A q := fun q h => by rw [← hAe]; exact Or.inr h
  have hS : va_S A s.heap s.heap [] := va_S.rf
  have hl := lv_entry ([.ref x]) (n := 1) (Nat.le_of_ble_eq_true rfl)
  rw [lg_entry_eq]
  generalize (lg_sl ([.ref x]) ++ List.replicate (1 - (lg_sl ([.ref x])).length) Slot.unset).toArray = ls at hl ⊢
  have hl : lv_has ls 1 [(0, .ref x)] := hl
  refine p_nH (fun H hH => ?_)
  have hP : va_P g.1 vwCl [(x, .inr (11, [.ref xtape, .int xtapeLength, .ref xreader, .ref xland, .ref xspareLand, .ref xstates, .int xcurrent, .int xnewest, .ref xboxes, .int xfullBoxes, .ref xsearch, .ref xsights, .ref xparting, .ref xheap]))] H := by rw [hH]; exact hP
  have hS : va_S A s.heap H [] := by rw [hH]; exact hS
  refine lv_aload_n hx hb dX11_redo_0 rfl (lv_at hl 0 rfl) ?_
  refine va_get (D := g.1) (ci := 11) (v := .int xcurrent) (C := RX11) (T := TX11) (N := 14) hx hb hT inF_X11 hown hK.1 hP 0 rfl rfl 6 (by decide) (hT _ bw_276) (fun _ h9 => h9) rfl dX11_redo_1 ?_
  refine lv_aload_n hx hb dX11_redo_4 rfl (lv_at hl 0 rfl) ?_
  refine va_get (D := g.1) (ci := 11) (v := .int xnewest) (C := RX11) (T := TX11) (N := 14) hx hb hT inF_X11 hown hK.1 hP 0 rfl rfl 7 (by decide) (hT _ bw_335) (fun _ h9 => h9) rfl dX11_redo_5 ?_
  refine lv_icmp_lt (tgt := 13) hx hb dX11_redo_8 (by decide) (fun c_1 => ?_) (fun c_1 => ?_)
  · have f_2 := E_lt (rfl : xcurrent.toInt = _) (rfl : xnewest.toInt = _) c_1
    refine lv_aload_n hx hb dX11_redo_13 rfl (lv_at hl 0 rfl) ?_
    refine lv_dup hx hb dX11_redo_14 rfl ?_
    refine va_get (D := g.1) (ci := 11) (v := .int xcurrent) (C := RX11) (T := TX11) (N := 14) hx hb hT inF_X11 hown hK.1 hP 0 rfl rfl 6 (by decide) (hT _ bw_276) (fun _ h9 => h9) rfl dX11_redo_15 ?_
    refine lv_iconst (v := 1) hx hb dX11_redo_18 (by decide) ?_
    refine lv_iadd hx hb dX11_redo_19 ?_
    refine lv_topi (fun x_3 ex_3 => ?_)
    have fx_3 : x_3.toInt = xcurrent.toInt + 1 := by rw [ex_3]; exact I_add rfl (by decide : (1 : Int32).toInt = 1) (by omega) (by omega)
    refine va_put (D := g.1) (ci := 11) (v := .int x_3) (ty := .int) (C := RX11) (T := TX11) (N := 14) hx hb hT inF_X11 tyX11 tyX11_ok nmX11 hown hK.1 hP hD hS 0 rfl rfl 6 (by decide) (hT _ bw_276) (fun _ h9 => h9) rfl (by decide +kernel) rfl rfl (Nat.le_of_ble_eq_true rfl) dX11_redo_20 (fun H locs hP hD hS => ?_)
    have hP : va_P g.1 vwCl [(x, .inr (11, [.ref xtape, .int xtapeLength, .ref xreader, .ref xland, .ref xspareLand, .ref xstates, .int x_3, .int xnewest, .ref xboxes, .int xfullBoxes, .ref xsearch, .ref xsights, .ref xparting, .ref xheap]))] H := hP
    have hD : va_D A [(x, .inr (11, [.ref xtape, .int xtapeLength, .ref xreader, .ref xland, .ref xspareLand, .ref xstates, .int x_3, .int xnewest, .ref xboxes, .int xfullBoxes, .ref xsearch, .ref xsights, .ref xparting, .ref xheap]))] := hD
    refine lv_iconst (v := 1) hx hb dX11_redo_23 (by decide) ?_
    have hP9 : va_P g.1 vwCl [(x, .inr (11, [.ref xtape, .int xtapeLength, .ref xreader, .ref xland, .ref xspareLand, .ref xstates, .int x_3, .int xnewest, .ref xboxes, .int xfullBoxes, .ref xsearch, .ref xsights, .ref xparting, .ref xheap]))] H := hP.sub [0] rfl
    have hD9 : va_D A [(x, .inr (11, [.ref xtape, .int xtapeLength, .ref xreader, .ref xland, .ref xspareLand, .ref xstates, .int x_3, .int xnewest, .ref xboxes, .int xfullBoxes, .ref xsearch, .ref xsights, .ref xparting, .ref xheap]))] := hD.sub [0] (by decide +kernel) rfl
    exact W.zret (v := 1) (ty := .boolean) hx hb hr rfl (fun t ht hW => ⟨⟨1, x_3, rfl, ⟨⟨by decide, by decide⟩, (by first | with_reducible assumption | omega)⟩, by rw [ht]; exact hP9, by rw [hAe]; exact hD9⟩, hS.F ht⟩) hS.2.2 dX11_redo_24
  · have f_4 := E_nlt (rfl : xcurrent.toInt = _) (rfl : xnewest.toInt = _) c_1
    refine lv_iconst (v := 0) hx hb dX11_redo_11 (by decide) ?_
    have hP9 : va_P g.1 vwCl [(x, .inr (11, [.ref xtape, .int xtapeLength, .ref xreader, .ref xland, .ref xspareLand, .ref xstates, .int xcurrent, .int xnewest, .ref xboxes, .int xfullBoxes, .ref xsearch, .ref xsights, .ref xparting, .ref xheap]))] H := hP.sub [0] rfl
    have hD9 : va_D A [(x, .inr (11, [.ref xtape, .int xtapeLength, .ref xreader, .ref xland, .ref xspareLand, .ref xstates, .int xcurrent, .int xnewest, .ref xboxes, .int xfullBoxes, .ref xsearch, .ref xsights, .ref xparting, .ref xheap]))] := hD.sub [0] (by decide +kernel) rfl
    exact W.zret (v := 0) (ty := .boolean) hx hb hr rfl (fun t ht hW => ⟨⟨0, xcurrent, rfl, ⟨⟨by decide, by decide⟩, (by first | with_reducible assumption | omega)⟩, by rw [ht]; exact hP9, by rw [hAe]; exact hD9⟩, hS.F ht⟩) hS.2.2 dX11_redo_12

theorem bw_364 : Cond.code yX11_comes cX11_comes 6 (some .int) ∈ gT := gT_tb 980 (by decide +kernel) (by decide +kernel)
theorem dX11_comes_0 : decode cX11_comes 0 = .ok (.aload_n 0, 1) := by decide +kernel
theorem dX11_comes_1 : decode cX11_comes 1 = .ok (.getfield 23, 3) := by decide +kernel
theorem dX11_comes_4 : decode cX11_comes 4 = .ok (.getfield 97, 3) := by decide +kernel
theorem dX11_comes_7 : decode cX11_comes 7 = .ok (.astore_n 3, 1) := by decide +kernel
theorem dX11_comes_8 : decode cX11_comes 8 = .ok (.aload_n 3, 1) := by decide +kernel
theorem dX11_comes_9 : decode cX11_comes 9 = .ok (.iload_n 1, 1) := by decide +kernel
theorem dX11_comes_10 : decode cX11_comes 10 = .ok (.invokevirtual 112, 3) := by decide +kernel
theorem dX11_comes_13 : decode cX11_comes 13 = .ok (.ifCond .eq 11, 3) := by decide +kernel
theorem dX11_comes_16 : decode cX11_comes 16 = .ok (.aload_n 3, 1) := by decide +kernel
theorem dX11_comes_17 : decode cX11_comes 17 = .ok (.iload_n 2, 1) := by decide +kernel
theorem dX11_comes_18 : decode cX11_comes 18 = .ok (.invokevirtual 112, 3) := by decide +kernel
theorem dX11_comes_21 : decode cX11_comes 21 = .ok (.ifCond .ne 5, 3) := by decide +kernel
theorem dX11_comes_24 : decode cX11_comes 24 = .ok (.iconst (-1), 1) := by decide +kernel
theorem dX11_comes_25 : decode cX11_comes 25 = .ok (.ireturn, 1) := by decide +kernel
theorem dX11_comes_26 : decode cX11_comes 26 = .ok (.aload_n 3, 1) := by decide +kernel
theorem dX11_comes_27 : decode cX11_comes 27 = .ok (.getfield 123, 3) := by decide +kernel
theorem dX11_comes_30 : decode cX11_comes 30 = .ok (.iload_n 2, 1) := by decide +kernel
theorem dX11_comes_31 : decode cX11_comes 31 = .ok (.iaload, 1) := by decide +kernel
theorem dX11_comes_32 : decode cX11_comes 32 = .ok (.istore 4, 2) := by decide +kernel
theorem dX11_comes_34 : decode cX11_comes 34 = .ok (.iconst 1, 1) := by decide +kernel
theorem dX11_comes_35 : decode cX11_comes 35 = .ok (.istore 5, 2) := by decide +kernel
theorem dX11_comes_37 : decode cX11_comes 37 = .ok (.iload 5, 2) := by decide +kernel
theorem dX11_comes_39 : decode cX11_comes 39 = .ok (.bipush 6, 2) := by decide +kernel
theorem dX11_comes_41 : decode cX11_comes 41 = .ok (.if_icmp .gt 36, 3) := by decide +kernel
theorem dX11_comes_44 : decode cX11_comes 44 = .ok (.aload_n 3, 1) := by decide +kernel
theorem dX11_comes_45 : decode cX11_comes 45 = .ok (.iload 4, 2) := by decide +kernel
theorem dX11_comes_47 : decode cX11_comes 47 = .ok (.invokevirtual 112, 3) := by decide +kernel
theorem dX11_comes_50 : decode cX11_comes 50 = .ok (.ifCond .eq 27, 3) := by decide +kernel
theorem dX11_comes_53 : decode cX11_comes 53 = .ok (.iload 4, 2) := by decide +kernel
theorem dX11_comes_55 : decode cX11_comes 55 = .ok (.iload_n 1, 1) := by decide +kernel
theorem dX11_comes_56 : decode cX11_comes 56 = .ok (.if_icmp .ne 6, 3) := by decide +kernel
theorem dX11_comes_59 : decode cX11_comes 59 = .ok (.iload 5, 2) := by decide +kernel
theorem dX11_comes_61 : decode cX11_comes 61 = .ok (.ireturn, 1) := by decide +kernel
theorem dX11_comes_62 : decode cX11_comes 62 = .ok (.aload_n 3, 1) := by decide +kernel
theorem dX11_comes_63 : decode cX11_comes 63 = .ok (.getfield 123, 3) := by decide +kernel
theorem dX11_comes_66 : decode cX11_comes 66 = .ok (.iload 4, 2) := by decide +kernel
theorem dX11_comes_68 : decode cX11_comes 68 = .ok (.iaload, 1) := by decide +kernel
theorem dX11_comes_69 : decode cX11_comes 69 = .ok (.istore 4, 2) := by decide +kernel
theorem dX11_comes_71 : decode cX11_comes 71 = .ok (.iinc 5 1, 3) := by decide +kernel
theorem dX11_comes_74 : decode cX11_comes 74 = .ok (.goto (-37), 3) := by decide +kernel
theorem dX11_comes_77 : decode cX11_comes 77 = .ok (.iconst 0, 1) := by decide +kernel
theorem dX11_comes_78 : decode cX11_comes 78 = .ok (.ireturn, 1) := by decide +kernel
set_option maxHeartbeats 4000000 in
set_option maxRecDepth 100000 in
theorem s_X11_comes (l : Launch) (g : GG) (sz : Nat) (x : Nat) (xtape : Nat) (xtapeLength : Int32) (xreader : Nat) (xland : Nat) (xspareLand : Nat) (xstates : Nat) (xcurrent : Int32) (xnewest : Int32) (xboxes : Nat) (xfullBoxes : Int32) (xsearch : Nat) (xsights : Nat) (xparting : Nat) (xheap : Nat) (dduels : Int32) (dduelSides : Nat) (dduelMornings : Nat) (dhonour : Int32) (ddraw : Int32) (dusesOfKind : Nat) (dmen : Nat) (dmen_count : Int32) (dmen_names : Nat) (dmen_dies : Nat) (dmen_coins : Nat) (dmen_fathers : Nat) (Fdmen_fathers : Nat → Int32) (dformulas : Nat) (dreasons : Nat) (p0 : Int32) (p1 : Int32) (hh0 : 0 ≤ xtapeLength.toInt ∧ xtapeLength.toInt ≤ 1600) (hh1 : 0 ≤ xcurrent.toInt ∧ xcurrent.toInt ≤ 40) (hh2 : 0 ≤ xnewest.toInt ∧ xnewest.toInt ≤ 40) (hh3 : 0 ≤ dduels.toInt ∧ dduels.toInt ≤ 6) (hh5 : 0 ≤ ddraw.toInt ∧ ddraw.toInt ≤ 999) (hh6 : 0 ≤ dmen_count.toInt ∧ dmen_count.toInt ≤ 6) : Met l yX11_comes (.code yX11_comes cX11_comes 6 (some .int) :: gT) ({ frames := 1, cells := 0, slots := 0, locals := 21 }) (va_Pc [.ref x, .int p0, .int p1] (Pst g sz [(x, .inr (11, [.ref xtape, .int xtapeLength, .ref xreader, .ref xland, .ref xspareLand, .ref xstates, .int xcurrent, .int xnewest, .ref xboxes, .int xfullBoxes, .ref xsearch, .ref xsights, .ref xparting, .ref xheap])), (xland, .inr (2, [.ref dmen, .ref dformulas, .ref dreasons, .int dduels, .ref dduelSides, .ref dduelMornings, .int dhonour, .int ddraw, .ref dusesOfKind])), (dmen, .inr (3, [.int dmen_count, .ref dmen_names, .ref dmen_dies, .ref dmen_coins, .ref dmen_fathers])), (dmen_fathers, aI g 6 Fdmen_fathers)] nX)) (va_Qi (fun (r : Int32) => fun (_ : Unit) => (-1) ≤ r.toInt ∧ r.toInt ≤ 6) (Qst g [] sz (fun _ => [])) (va_A [] sz)) 0 0 (va_A [] sz) := by
  refine Met.ofW (cc := cX11_comes) (maxL := 6) (ret := (some .int)) (by decide) rfl ?_
  intro p e s m args below meth c s₁ B hml hv
  obtain ⟨rfl, hsz, hP, hK, hD0, hX⟩ := hv
  have hx := B.exec
  have hb := B.bytes
  have hr := B.returns
  have hT : ∀ w ∈ gT, w.before _ s = true := fun w h => atoms_spec (ws := .code yX11_comes cX11_comes 6 (some .int) :: gT) B.pre w (List.mem_cons_of_mem _ h)
  have hown : s.vm.findClass RX11 = some m.cls := findClass_of_methodNamed B.named
  have hlocks := B.notSynchronized
  subst hsz
  have hD := hD0
  generalize hAe : va_A [] s.heap.size = A at ⊢
  have hA : ∀ q : Nat, s.heap.size ≤ q → A q := fun q h => by rw [← hAe]; exact Or.inr h
  have hS : va_S A s.heap s.heap [] := va_S.rf
  have hl := lv_entry ([.ref x, .int p0, .int p1]) (n := 6) (Nat.le_of_ble_eq_true rfl)
  rw [lg_entry_eq]
  generalize (lg_sl ([.ref x, .int p0, .int p1]) ++ List.replicate (6 - (lg_sl ([.ref x, .int p0, .int p1])).length) Slot.unset).toArray = ls at hl ⊢
  have hl : lv_has ls 6 [(0, .ref x), (1, .int p0), (2, .int p1)] := hl
  refine p_nH (fun H hH => ?_)
  have hP : va_P g.1 vwCl [(x, .inr (11, [.ref xtape, .int xtapeLength, .ref xreader, .ref xland, .ref xspareLand, .ref xstates, .int xcurrent, .int xnewest, .ref xboxes, .int xfullBoxes, .ref xsearch, .ref xsights, .ref xparting, .ref xheap])), (xland, .inr (2, [.ref dmen, .ref dformulas, .ref dreasons, .int dduels, .ref dduelSides, .ref dduelMornings, .int dhonour, .int ddraw, .ref dusesOfKind])), (dmen, .inr (3, [.int dmen_count, .ref dmen_names, .ref dmen_dies, .ref dmen_coins, .ref dmen_fathers])), (dmen_fathers, aI g 6 Fdmen_fathers)] H := by rw [hH]; exact hP
  have hS : va_S A s.heap H [] := by rw [hH]; exact hS
  refine lv_aload_n hx hb dX11_comes_0 rfl (lv_at hl 0 rfl) ?_
  refine va_get (D := g.1) (ci := 11) (v := .ref xland) (C := RX11) (T := TX11) (N := 14) hx hb hT inF_X11 hown hK.1 hP 0 rfl rfl 3 (by decide) (hT _ bw_269) (fun _ h9 => h9) rfl dX11_comes_1 ?_
  refine va_get (D := g.1) (ci := 2) (v := .ref dmen) (C := RX2) (T := TX2) (N := 9) hx hb hT inF_X2 hown hK.1 hP 1 rfl rfl 0 (by decide) (hT _ bw_270) (fun _ h9 => h9) rfl dX11_comes_4 ?_
  refine lv_astore_n (lv' := [(3, .ref dmen), (0, .ref x), (1, .int p0), (2, .int p1)]) hx hb dX11_comes_7 rfl hl (by decide) rfl (fun ls hl => ?_)
  refine lv_aload_n hx hb dX11_comes_8 rfl (lv_at hl 0 rfl) ?_
  refine lv_iload_n hx hb dX11_comes_9 rfl (lv_at hl 2 rfl) ?_
  refine k_iR (k_V (n := 1) ⟨hx, hb, hml, hown, hT⟩ hK hP hD [2] rfl (by decide +kernel) (s_X3_has l g H.size dmen dmen_count dmen_names dmen_dies dmen_coins dmen_fathers p0 (by first | with_reducible assumption | omega)) (gV bw_271 bw_272 bw_273 bw_274 bw_5) rfl rfl (by decide +kernel) ⟨by decide, by decide⟩ (ci := 3) (q0 := 0) rfl rfl (fun _ _ _ _ _ => trivial) (fun _ _ _ => trivial) rfl rfl hl.1 (Nat.le_of_ble_eq_true rfl) dX11_comes_10 ⟨by decide, by decide⟩) hP hS hA (fun r_1 _ H locs hw0 hP hS => ?_)
  have hw : (r_1 = 1 ∧ (0 ≤ p0.toInt ∧ p0.toInt < dmen_count.toInt)) ∨ (r_1 = 0) := hw0
  clear hw0
  rcases hw with ⟨e_3, w_2⟩ | e_4
  · subst e_3
    refine lv_if_eq (tgt := 24) hx hb dX11_comes_13 (by decide) (fun c9 => absurd c9 (by decide)) (fun _ => ?_)
    refine lv_aload_n hx hb dX11_comes_16 rfl (lv_at hl 0 rfl) ?_
    refine lv_iload_n hx hb dX11_comes_17 rfl (lv_at hl 3 rfl) ?_
    refine k_iR (k_V (n := 1) ⟨hx, hb, hml, hown, hT⟩ hK hP hD [2] rfl (by decide +kernel) (s_X3_has l g H.size dmen dmen_count dmen_names dmen_dies dmen_coins dmen_fathers p1 (by first | with_reducible assumption | omega)) (gV bw_271 bw_272 bw_273 bw_274 bw_5) rfl rfl (by decide +kernel) ⟨by decide, by decide⟩ (ci := 3) (q0 := 0) rfl rfl (fun _ _ _ _ _ => trivial) (fun _ _ _ => trivial) rfl rfl hl.1 (Nat.le_of_ble_eq_true rfl) dX11_comes_18 ⟨by decide, by decide⟩) hP hS hA (fun r_5 _ H locs hw0 hP hS => ?_)
    have hw : (r_5 = 1 ∧ (0 ≤ p1.toInt ∧ p1.toInt < dmen_count.toInt)) ∨ (r_5 = 0) := hw0
    clear hw0
    rcases hw with ⟨e_7, w_6⟩ | e_8
    · subst e_7
      refine lv_if_ne (tgt := 26) hx hb dX11_comes_21 (by decide) (fun _ => ?_) (fun c9 => absurd c9 (by decide))
      refine lv_aload_n hx hb dX11_comes_26 rfl (lv_at hl 0 rfl) ?_
      refine va_get (D := g.1) (ci := 3) (v := .ref dmen_fathers) (C := RX3) (T := TX3) (N := 5) hx hb hT inF_X3 hown hK.1 hP 2 rfl rfl 4 (by decide) (hT _ bw_279) (fun _ h9 => h9) rfl dX11_comes_27 ?_
      refine lv_iload_n hx hb dX11_comes_30 rfl (lv_at hl 3 rfl) ?_
      have h_9 : vp_in p1 6 := vp_in_iff.mpr (by omega)
      refine va_iald hx hb hK.1 hP 3 1 rfl rfl (i := p1) h_9 dX11_comes_31 ?_
      refine lv_topi (fun x_10 ex_10 => ?_)
      have ux_10 := congrArg Int32.toInt ex_10
      refine lv_istore (lv' := [(4, .int x_10), (3, .ref dmen), (0, .ref x), (1, .int p0), (2, .int p1)]) hx hb dX11_comes_32 hl (by decide) rfl (fun ls hl => ?_)
      refine lv_iconst (v := 1) hx hb dX11_comes_34 (by decide) ?_
      refine lv_istore (lv' := [(5, .int 1), (4, .int x_10), (3, .ref dmen), (0, .ref x), (1, .int p0), (2, .int p1)]) hx hb dX11_comes_35 hl (by decide) rfl (fun ls hl => ?_)
      refine k_floop 37 (fun n H locs ls => ∃ (L_11 : Int32) (L_12 : Int32), (1 ≤ L_11.toInt ∧ L_11.toInt ≤ 7) ∧ 7 - L_11.toInt ≤ (n : Int) ∧ va_P g.1 vwCl [(x, .inr (11, [.ref xtape, .int xtapeLength, .ref xreader, .ref xland, .ref xspareLand, .ref xstates, .int xcurrent, .int xnewest, .ref xboxes, .int xfullBoxes, .ref xsearch, .ref xsights, .ref xparting, .ref xheap])), (xland, .inr (2, [.ref dmen, .ref dformulas, .ref dreasons, .int dduels, .ref dduelSides, .ref dduelMornings, .int dhonour, .int ddraw, .ref dusesOfKind])), (dmen, .inr (3, [.int dmen_count, .ref dmen_names, .ref dmen_dies, .ref dmen_coins, .ref dmen_fathers])), (dmen_fathers, aI g 6 Fdmen_fathers)] H ∧ va_S A s.heap H locs ∧ lv_has ls 6 [(5, .int L_11), (4, .int L_12), (3, .ref dmen), (0, .ref x), (1, .int p0), (2, .int p1)]) (fun n H locs ls hI ih => ?_) ((7 - 1 : Int)).toNat ⟨1, x_10, by decide, by have k0 : (1 : Int32).toInt = 1 := (by decide); omega, hP, hS, hl⟩
      refine hI.elim (fun L_11 hI => hI.elim (fun L_12 hI => ?_))
      have g_13 := hI.1
      have hm_14 := hI.2.1
      have hP := hI.2.2.1
      have hS := hI.2.2.2.1
      have hl := hI.2.2.2.2
      clear hI
      refine lv_iload hx hb dX11_comes_37 (lv_at hl 0 rfl) ?_
      refine lv_bipush (v := 6) hx hb dX11_comes_39 (by decide) ?_
      refine lv_icmp_gt (tgt := 77) hx hb dX11_comes_41 (by decide) (fun c_15 => ?_) (fun c_15 => ?_)
      · have f_16 := E_lt (by decide : (6 : Int32).toInt = 6) (rfl : L_11.toInt = _) c_15
        refine lv_iconst (v := 0) hx hb dX11_comes_77 (by decide) ?_
        have hP9 : va_P g.1 vwCl [] H := hP.sub [] rfl
        have hD9 : va_D A [] := ⟨fun i j p q h => by simp at h, fun k q h => by simp at h⟩
        exact W.iret (v := 0) hx hb hr (fun t ht hW => ⟨⟨0, (), rfl, ⟨by decide, by decide⟩, by rw [ht]; exact hP9, by rw [hAe]; exact hD9⟩, hS.F ht⟩) hS.2.2 dX11_comes_78
      · have f_17 := E_nlt (by decide : (6 : Int32).toInt = 6) (rfl : L_11.toInt = _) c_15
        refine lv_aload_n hx hb dX11_comes_44 rfl (lv_at hl 2 rfl) ?_
        refine lv_iload hx hb dX11_comes_45 (lv_at hl 1 rfl) ?_
        refine k_iR (k_V (n := 1) ⟨hx, hb, hml, hown, hT⟩ hK hP hD [2] rfl (by decide +kernel) (s_X3_has l g H.size dmen dmen_count dmen_names dmen_dies dmen_coins dmen_fathers L_12 (by first | with_reducible assumption | omega)) (gV bw_271 bw_272 bw_273 bw_274 bw_5) rfl rfl (by decide +kernel) ⟨by decide, by decide⟩ (ci := 3) (q0 := 0) rfl rfl (fun _ _ _ _ _ => trivial) (fun _ _ _ => trivial) rfl rfl hl.1 (Nat.le_of_ble_eq_true rfl) dX11_comes_47 ⟨by decide, by decide⟩) hP hS hA (fun r_18 _ H locs hw0 hP hS => ?_)
        have hw : (r_18 = 1 ∧ (0 ≤ L_12.toInt ∧ L_12.toInt < dmen_count.toInt)) ∨ (r_18 = 0) := hw0
        clear hw0
        rcases hw with ⟨e_20, w_19⟩ | e_21
        · subst e_20
          refine lv_if_eq (tgt := 77) hx hb dX11_comes_50 (by decide) (fun c9 => absurd c9 (by decide)) (fun _ => ?_)
          refine lv_iload hx hb dX11_comes_53 (lv_at hl 1 rfl) ?_
          refine lv_iload_n hx hb dX11_comes_55 rfl (lv_at hl 4 rfl) ?_
          refine lv_icmp_ne (tgt := 62) hx hb dX11_comes_56 (by decide) (fun c_22 => ?_) (fun c_22 => ?_)
          · have f_23 := E_ne (rfl : L_12.toInt = _) (rfl : p0.toInt = _) c_22
            refine lv_aload_n hx hb dX11_comes_62 rfl (lv_at hl 2 rfl) ?_
            refine va_get (D := g.1) (ci := 3) (v := .ref dmen_fathers) (C := RX3) (T := TX3) (N := 5) hx hb hT inF_X3 hown hK.1 hP 2 rfl rfl 4 (by decide) (hT _ bw_279) (fun _ h9 => h9) rfl dX11_comes_63 ?_
            refine lv_iload hx hb dX11_comes_66 (lv_at hl 1 rfl) ?_
            have h_24 : vp_in L_12 6 := vp_in_iff.mpr (by omega)
            refine va_iald hx hb hK.1 hP 3 1 rfl rfl (i := L_12) h_24 dX11_comes_68 ?_
            refine lv_topi (fun x_25 ex_25 => ?_)
            have ux_25 := congrArg Int32.toInt ex_25
            refine lv_istore (lv' := [(4, .int x_25), (5, .int L_11), (3, .ref dmen), (0, .ref x), (1, .int p0), (2, .int p1)]) hx hb dX11_comes_69 hl (by decide) rfl (fun ls hl => ?_)
            obtain ⟨x_26, ex_26⟩ : ∃ y : Int32, y = L_11 + 1 := ⟨_, rfl⟩
            have fx_26 : x_26.toInt = L_11.toInt + 1 := by rw [ex_26]; exact I_add rfl (by decide) (by omega) (by omega)
            refine lv_iinc (v := x_26) (lv' := [(5, .int x_26), (4, .int x_25), (3, .ref dmen), (0, .ref x), (1, .int p0), (2, .int p1)]) hx hb dX11_comes_71 hl (k := 1) rfl (by rw [ex_26]; rfl) (by decide) rfl (fun ls hl => ?_)
            refine lv_goto (tgt := 37) hx hb dX11_comes_74 (by decide) ?_
            exact ih (n - 1) (by omega) H locs ls ⟨x_26, x_25, (by first | with_reducible assumption | omega), by omega, hP.sub [0, 1, 2, 3] rfl, hS, lv_sub hl [0, 1, 2, 3, 4, 5] rfl⟩
          · have f_27 := E_eq (rfl : L_12.toInt = _) (rfl : p0.toInt = _) c_22
            refine lv_iload hx hb dX11_comes_59 (lv_at hl 0 rfl) ?_
            have hP9 : va_P g.1 vwCl [] H := hP.sub [] rfl
            have hD9 : va_D A [] := ⟨fun i j p q h => by simp at h, fun k q h => by simp at h⟩
            exact W.iret (v := L_11) hx hb hr (fun t ht hW => ⟨⟨L_11, (), rfl, (by first | with_reducible assumption | omega), by rw [ht]; exact hP9, by rw [hAe]; exact hD9⟩, hS.F ht⟩) hS.2.2 dX11_comes_61
        · subst e_21
          refine lv_if_eq (tgt := 77) hx hb dX11_comes_50 (by decide) (fun _ => ?_) (fun c9 => absurd (by decide) c9)
          refine lv_iconst (v := 0) hx hb dX11_comes_77 (by decide) ?_
          have hP9 : va_P g.1 vwCl [] H := hP.sub [] rfl
          have hD9 : va_D A [] := ⟨fun i j p q h => by simp at h, fun k q h => by simp at h⟩
          exact W.iret (v := 0) hx hb hr (fun t ht hW => ⟨⟨0, (), rfl, ⟨by decide, by decide⟩, by rw [ht]; exact hP9, by rw [hAe]; exact hD9⟩, hS.F ht⟩) hS.2.2 dX11_comes_78
    · subst e_8
      refine lv_if_ne (tgt := 26) hx hb dX11_comes_21 (by decide) (fun c9 => absurd (by decide) c9) (fun _ => ?_)
      refine lv_iconst (v := (-1)) hx hb dX11_comes_24 (by decide) ?_
      have hP9 : va_P g.1 vwCl [] H := hP.sub [] rfl
      have hD9 : va_D A [] := ⟨fun i j p q h => by simp at h, fun k q h => by simp at h⟩
      exact W.iret (v := (-1)) hx hb hr (fun t ht hW => ⟨⟨(-1), (), rfl, ⟨by decide, by decide⟩, by rw [ht]; exact hP9, by rw [hAe]; exact hD9⟩, hS.F ht⟩) hS.2.2 dX11_comes_25
  · subst e_4
    refine lv_if_eq (tgt := 24) hx hb dX11_comes_13 (by decide) (fun _ => ?_) (fun c9 => absurd (by decide) c9)
    refine lv_iconst (v := (-1)) hx hb dX11_comes_24 (by decide) ?_
    have hP9 : va_P g.1 vwCl [] H := hP.sub [] rfl
    have hD9 : va_D A [] := ⟨fun i j p q h => by simp at h, fun k q h => by simp at h⟩
    exact W.iret (v := (-1)) hx hb hr (fun t ht hW => ⟨⟨(-1), (), rfl, ⟨by decide, by decide⟩, by rw [ht]; exact hP9, by rw [hAe]; exact hD9⟩, hS.F ht⟩) hS.2.2 dX11_comes_25

theorem bw_365 : Cond.code yX11_began cX11_began 4 (some .int) ∈ gT := gT_tb 1245 (by decide +kernel) (by decide +kernel)
theorem dX11_began_0 : decode cX11_began 0 = .ok (.aload_n 0, 1) := by decide +kernel
theorem dX11_began_1 : decode cX11_began 1 = .ok (.getfield 32, 3) := by decide +kernel
theorem dX11_began_4 : decode cX11_began 4 = .ok (.aload_n 0, 1) := by decide +kernel
theorem dX11_began_5 : decode cX11_began 5 = .ok (.getfield 84, 3) := by decide +kernel
theorem dX11_began_8 : decode cX11_began 8 = .ok (.aaload, 1) := by decide +kernel
theorem dX11_began_9 : decode cX11_began 9 = .ok (.astore_n 2, 1) := by decide +kernel
theorem dX11_began_10 : decode cX11_began 10 = .ok (.aload_n 2, 1) := by decide +kernel
theorem dX11_began_11 : decode cX11_began 11 = .ok (.iload_n 1, 1) := by decide +kernel
theorem dX11_began_12 : decode cX11_began 12 = .ok (.invokevirtual 132, 3) := by decide +kernel
theorem dX11_began_15 : decode cX11_began 15 = .ok (.ifCond .ne 6, 3) := by decide +kernel
theorem dX11_began_18 : decode cX11_began 18 = .ok (.bipush (-2), 2) := by decide +kernel
theorem dX11_began_20 : decode cX11_began 20 = .ok (.ireturn, 1) := by decide +kernel
theorem dX11_began_21 : decode cX11_began 21 = .ok (.iconst 0, 1) := by decide +kernel
theorem dX11_began_22 : decode cX11_began 22 = .ok (.istore_n 3, 1) := by decide +kernel
theorem dX11_began_23 : decode cX11_began 23 = .ok (.iload_n 3, 1) := by decide +kernel
theorem dX11_began_24 : decode cX11_began 24 = .ok (.aload_n 2, 1) := by decide +kernel
theorem dX11_began_25 : decode cX11_began 25 = .ok (.getfield 311, 3) := by decide +kernel
theorem dX11_began_28 : decode cX11_began 28 = .ok (.if_icmp .ge 26, 3) := by decide +kernel
theorem dX11_began_31 : decode cX11_began 31 = .ok (.aload_n 2, 1) := by decide +kernel
theorem dX11_began_32 : decode cX11_began 32 = .ok (.iload_n 3, 1) := by decide +kernel
theorem dX11_began_33 : decode cX11_began 33 = .ok (.iconst 0, 1) := by decide +kernel
theorem dX11_began_34 : decode cX11_began 34 = .ok (.invokevirtual 314, 3) := by decide +kernel
theorem dX11_began_37 : decode cX11_began 37 = .ok (.iload_n 1, 1) := by decide +kernel
theorem dX11_began_38 : decode cX11_began 38 = .ok (.if_icmp .ne 10, 3) := by decide +kernel
theorem dX11_began_41 : decode cX11_began 41 = .ok (.aload_n 2, 1) := by decide +kernel
theorem dX11_began_42 : decode cX11_began 42 = .ok (.iload_n 3, 1) := by decide +kernel
theorem dX11_began_43 : decode cX11_began 43 = .ok (.iconst 1, 1) := by decide +kernel
theorem dX11_began_44 : decode cX11_began 44 = .ok (.invokevirtual 314, 3) := by decide +kernel
theorem dX11_began_47 : decode cX11_began 47 = .ok (.ireturn, 1) := by decide +kernel
theorem dX11_began_48 : decode cX11_began 48 = .ok (.iinc 3 1, 3) := by decide +kernel
theorem dX11_began_51 : decode cX11_began 51 = .ok (.goto (-28), 3) := by decide +kernel
theorem dX11_began_54 : decode cX11_began 54 = .ok (.iconst (-1), 1) := by decide +kernel
theorem dX11_began_55 : decode cX11_began 55 = .ok (.ireturn, 1) := by decide +kernel
set_option maxHeartbeats 4000000 in
set_option maxRecDepth 100000 in
theorem s_X11_began (l : Launch) (g : GG) (sz : Nat) (x : Nat) (xtape : Nat) (xtapeLength : Int32) (xreader : Nat) (xland : Nat) (xspareLand : Nat) (xstates : Nat) (Fxstates : Nat → Option Nat) (xcurrent : Int32) (xnewest : Int32) (xboxes : Nat) (xfullBoxes : Int32) (xsearch : Nat) (xsights : Nat) (xparting : Nat) (xheap : Nat) (st : Nat) (sday : Int32) (sseed : Int32) (salive : Int32) (sstruck : Int32) (sopen : Int32) (sduels : Int32) (slines : Int32) (scoins : Nat) (srented : Nat) (smornings : Nat) (shonours : Nat) (sused : Nat) (ssides : Nat) (slog : Nat) (Fslog : Nat → Int32) (p0 : Int32) (hh0 : 0 ≤ xtapeLength.toInt ∧ xtapeLength.toInt ≤ 1600) (hh1 : 0 ≤ xcurrent.toInt ∧ xcurrent.toInt ≤ 40) (hh2 : 0 ≤ xnewest.toInt ∧ xnewest.toInt ≤ 40) (hh15 : 0 ≤ sseed.toInt ∧ sseed.toInt ≤ 999) (hh16 : 0 ≤ sduels.toInt ∧ sduels.toInt ≤ 8) (hh17 : 0 ≤ slines.toInt ∧ slines.toInt ≤ 60) (ho : Fxstates xcurrent.toNatClampNeg = some st) : Met l yX11_began (.code yX11_began cX11_began 4 (some .int) :: gT) ({ frames := 1, cells := 0, slots := 0, locals := 23 }) (va_Pc [.ref x, .int p0] (Pst g sz [(x, .inr (11, [.ref xtape, .int xtapeLength, .ref xreader, .ref xland, .ref xspareLand, .ref xstates, .int xcurrent, .int xnewest, .ref xboxes, .int xfullBoxes, .ref xsearch, .ref xsights, .ref xparting, .ref xheap])), (xstates, aO g 41 Fxstates), (st, .inr (9, [.int sday, .int sseed, .int salive, .int sstruck, .int sopen, .int sduels, .int slines, .ref scoins, .ref srented, .ref smornings, .ref shonours, .ref sused, .ref ssides, .ref slog])), (slog, aI g 60 Fslog)] nX)) (va_Qi (fun (r : Int32) => fun (_ : Unit) => (-2) ≤ r.toInt ∧ r.toInt ≤ 16383) (Qst g [] sz (fun _ => [])) (va_A [] sz)) 0 0 (va_A [] sz) := by
  refine Met.ofW (cc := cX11_began) (maxL := 4) (ret := (some .int)) (by decide) rfl ?_
  intro p e s m args below meth c s₁ B hml hv
  obtain ⟨rfl, hsz, hP, hK, hD0, hX⟩ := hv
  have hx := B.exec
  have hb := B.bytes
  have hr := B.returns
  have hT : ∀ w ∈ gT, w.before _ s = true := fun w h => atoms_spec (ws := .code yX11_began cX11_began 4 (some .int) :: gT) B.pre w (List.mem_cons_of_mem _ h)
  have hown : s.vm.findClass RX11 = some m.cls := findClass_of_methodNamed B.named
  have hlocks := B.notSynchronized
  subst hsz
  have hD := hD0
  generalize hAe : va_A [] s.heap.size = A at ⊢
  have hA : ∀ q : Nat, s.heap.size ≤ q → A q := fun q h => by rw [← hAe]; exact Or.inr h
  have hS : va_S A s.heap s.heap [] := va_S.rf
  have hl := lv_entry ([.ref x, .int p0]) (n := 4) (Nat.le_of_ble_eq_true rfl)
  rw [lg_entry_eq]
  generalize (lg_sl ([.ref x, .int p0]) ++ List.replicate (4 - (lg_sl ([.ref x, .int p0])).length) Slot.unset).toArray = ls at hl ⊢
  have hl : lv_has ls 4 [(0, .ref x), (1, .int p0)] := hl
  refine p_nH (fun H hH => ?_)
  have hP : va_P g.1 vwCl [(x, .inr (11, [.ref xtape, .int xtapeLength, .ref xreader, .ref xland, .ref xspareLand, .ref xstates, .int xcurrent, .int xnewest, .ref xboxes, .int xfullBoxes, .ref xsearch, .ref xsights, .ref xparting, .ref xheap])), (xstates, aO g 41 Fxstates), (st, .inr (9, [.int sday, .int sseed, .int salive, .int sstruck, .int sopen, .int sduels, .int slines, .ref scoins, .ref srented, .ref smornings, .ref shonours, .ref sused, .ref ssides, .ref slog])), (slog, aI g 60 Fslog)] H := by rw [hH]; exact hP
  have hS : va_S A s.heap H [] := by rw [hH]; exact hS
  refine lv_aload_n hx hb dX11_began_0 rfl (lv_at hl 0 rfl) ?_
  refine va_get (D := g.1) (ci := 11) (v := .ref xstates) (C := RX11) (T := TX11) (N := 14) hx hb hT inF_X11 hown hK.1 hP 0 rfl rfl 5 (by decide) (hT _ bw_275) (fun _ h9 => h9) rfl dX11_began_1 ?_
  refine lv_aload_n hx hb dX11_began_4 rfl (lv_at hl 0 rfl) ?_
  refine va_get (D := g.1) (ci := 11) (v := .int xcurrent) (C := RX11) (T := TX11) (N := 14) hx hb hT inF_X11 hown hK.1 hP 0 rfl rfl 6 (by decide) (hT _ bw_276) (fun _ h9 => h9) rfl dX11_began_5 ?_
  have h_1 : vp_in xcurrent 41 := vp_in_iff.mpr (by omega)
  refine va_aldq hx hb hK.1 hP 1 4 rfl rfl (i := xcurrent) h_1 dX11_began_8 ?_
  refine p_tr (x := st) (by rw [ho]; rfl) ?_
  refine lv_astore_n (lv' := [(2, .ref st), (0, .ref x), (1, .int p0)]) hx hb dX11_began_9 rfl hl (by decide) rfl (fun ls hl => ?_)
  refine lv_aload_n hx hb dX11_began_10 rfl (lv_at hl 0 rfl) ?_
  refine lv_iload_n hx hb dX11_began_11 rfl (lv_at hl 2 rfl) ?_
  refine k_iR (k_V (n := 1) ⟨hx, hb, hml, hown, hT⟩ hK hP hD [2] rfl (by decide +kernel) (s_X9_hasDuel l g H.size st sday sseed salive sstruck sopen sduels slines scoins srented smornings shonours sused ssides slog p0 (by first | with_reducible assumption | omega) (by first | with_reducible assumption | omega) (by first | with_reducible assumption | omega)) (gV bw_283 bw_284 bw_285 bw_46 bw_34) rfl rfl (by decide +kernel) ⟨by decide, by decide⟩ (ci := 9) (q0 := 0) rfl rfl (fun _ _ _ _ _ => trivial) (fun _ _ _ => trivial) rfl rfl hl.1 (Nat.le_of_ble_eq_true rfl) dX11_began_12 ⟨by decide, by decide⟩) hP hS hA (fun r_2 _ H locs hw0 hP hS => ?_)
  have hw : (r_2 = 1 ∧ (0 ≤ p0.toInt ∧ p0.toInt < sduels.toInt)) ∨ (r_2 = 0) := hw0
  clear hw0
  rcases hw with ⟨e_4, w_3⟩ | e_5
  · subst e_4
    refine lv_if_ne (tgt := 21) hx hb dX11_began_15 (by decide) (fun _ => ?_) (fun c9 => absurd c9 (by decide))
    refine lv_iconst (v := 0) hx hb dX11_began_21 (by decide) ?_
    refine lv_istore_n (lv' := [(3, .int 0), (2, .ref st), (0, .ref x), (1, .int p0)]) hx hb dX11_began_22 rfl hl (by decide) rfl (fun ls hl => ?_)
    refine k_floop 23 (fun n H locs ls => ∃ (L_6 : Int32), (0 ≤ L_6.toInt ∧ L_6.toInt ≤ 60) ∧ 60 - L_6.toInt ≤ (n : Int) ∧ va_P g.1 vwCl [(x, .inr (11, [.ref xtape, .int xtapeLength, .ref xreader, .ref xland, .ref xspareLand, .ref xstates, .int xcurrent, .int xnewest, .ref xboxes, .int xfullBoxes, .ref xsearch, .ref xsights, .ref xparting, .ref xheap])), (xstates, aO g 41 Fxstates), (st, .inr (9, [.int sday, .int sseed, .int salive, .int sstruck, .int sopen, .int sduels, .int slines, .ref scoins, .ref srented, .ref smornings, .ref shonours, .ref sused, .ref ssides, .ref slog])), (slog, aI g 60 Fslog)] H ∧ va_S A s.heap H locs ∧ lv_has ls 4 [(3, .int L_6), (2, .ref st), (0, .ref x), (1, .int p0)]) (fun n H locs ls hI ih => ?_) ((60 - 0 : Int)).toNat ⟨0, by decide, by have k0 : (0 : Int32).toInt = 0 := (by decide); omega, hP, hS, hl⟩
    refine hI.elim (fun L_6 hI => ?_)
    have g_7 := hI.1
    have hm_8 := hI.2.1
    have hP := hI.2.2.1
    have hS := hI.2.2.2.1
    have hl := hI.2.2.2.2
    clear hI
    refine lv_iload_n hx hb dX11_began_23 rfl (lv_at hl 0 rfl) ?_
    refine lv_aload_n hx hb dX11_began_24 rfl (lv_at hl 1 rfl) ?_
    refine va_get (D := g.1) (ci := 9) (v := .int slines) (C := RX9) (T := TX9) (N := 14) hx hb hT inF_X9 hown hK.1 hP 2 rfl rfl 6 (by decide) (hT _ bw_321) (fun _ h9 => h9) rfl dX11_began_25 ?_
    refine lv_icmp_ge (tgt := 54) hx hb dX11_began_28 (by decide) (fun c_9 => ?_) (fun c_9 => ?_)
    · have f_10 := E_le (rfl : slines.toInt = _) (rfl : L_6.toInt = _) c_9
      refine lv_iconst (v := (-1)) hx hb dX11_began_54 (by decide) ?_
      have hP9 : va_P g.1 vwCl [] H := hP.sub [] rfl
      have hD9 : va_D A [] := ⟨fun i j p q h => by simp at h, fun k q h => by simp at h⟩
      exact W.iret (v := (-1)) hx hb hr (fun t ht hW => ⟨⟨(-1), (), rfl, ⟨by decide, by decide⟩, by rw [ht]; exact hP9, by rw [hAe]; exact hD9⟩, hS.F ht⟩) hS.2.2 dX11_began_55
    · have f_11 := E_nle (rfl : slines.toInt = _) (rfl : L_6.toInt = _) c_9
      refine lv_aload_n hx hb dX11_began_31 rfl (lv_at hl 1 rfl) ?_
      refine lv_iload_n hx hb dX11_began_32 rfl (lv_at hl 0 rfl) ?_
      refine lv_iconst (v := 0) hx hb dX11_began_33 (by decide) ?_
      refine k_iR (k_V (n := 2) ⟨hx, hb, hml, hown, hT⟩ hK hP hD [2, 3] rfl (by decide +kernel) (s_X9_lineOf l g H.size st sday sseed salive sstruck sopen sduels slines scoins srented smornings shonours sused ssides slog Fslog L_6 0 (by first | with_reducible assumption | omega) (by first | with_reducible assumption | omega) (by first | with_reducible assumption | omega) (by first | with_reducible assumption | omega)) (gV bw_322 bw_323 bw_324 bw_46 bw_39) rfl rfl (by decide +kernel) ⟨by decide, by decide⟩ (ci := 9) (q0 := 0) rfl rfl (fun _ _ _ _ _ => trivial) (fun _ _ _ => trivial) rfl rfl hl.1 (Nat.le_of_ble_eq_true rfl) dX11_began_34 ⟨by decide, by decide⟩) hP hS hA (fun r_12 _ H locs hw0 hP hS => ?_)
      have hw : 0 ≤ r_12.toInt ∧ r_12.toInt ≤ 16383 := hw0
      clear hw0
      have w_13 := hw
      refine lv_iload_n hx hb dX11_began_37 rfl (lv_at hl 3 rfl) ?_
      refine lv_icmp_ne (tgt := 48) hx hb dX11_began_38 (by decide) (fun c_14 => ?_) (fun c_14 => ?_)
      · have f_15 := E_ne (rfl : r_12.toInt = _) (rfl : p0.toInt = _) c_14
        obtain ⟨x_16, ex_16⟩ : ∃ y : Int32, y = L_6 + 1 := ⟨_, rfl⟩
        have fx_16 : x_16.toInt = L_6.toInt + 1 := by rw [ex_16]; exact I_add rfl (by decide) (by omega) (by omega)
        refine lv_iinc (v := x_16) (lv' := [(3, .int x_16), (2, .ref st), (0, .ref x), (1, .int p0)]) hx hb dX11_began_48 hl (k := 0) rfl (by rw [ex_16]; rfl) (by decide) rfl (fun ls hl => ?_)
        refine lv_goto (tgt := 23) hx hb dX11_began_51 (by decide) ?_
        exact ih (n - 1) (by omega) H locs ls ⟨x_16, (by first | with_reducible assumption | omega), by omega, hP.sub [0, 1, 2, 3] rfl, hS, lv_sub hl [0, 1, 2, 3] rfl⟩
      · have f_17 := E_eq (rfl : r_12.toInt = _) (rfl : p0.toInt = _) c_14
        refine lv_aload_n hx hb dX11_began_41 rfl (lv_at hl 1 rfl) ?_
        refine lv_iload_n hx hb dX11_began_42 rfl (lv_at hl 0 rfl) ?_
        refine lv_iconst (v := 1) hx hb dX11_began_43 (by decide) ?_
        refine k_iR (k_V (n := 2) ⟨hx, hb, hml, hown, hT⟩ hK hP hD [2, 3] rfl (by decide +kernel) (s_X9_lineOf l g H.size st sday sseed salive sstruck sopen sduels slines scoins srented smornings shonours sused ssides slog Fslog L_6 1 (by first | with_reducible assumption | omega) (by first | with_reducible assumption | omega) (by first | with_reducible assumption | omega) (by first | with_reducible assumption | omega)) (gV bw_322 bw_323 bw_324 bw_46 bw_39) rfl rfl (by decide +kernel) ⟨by decide, by decide⟩ (ci := 9) (q0 := 0) rfl rfl (fun _ _ _ _ _ => trivial) (fun _ _ _ => trivial) rfl rfl hl.1 (Nat.le_of_ble_eq_true rfl) dX11_began_44 ⟨by decide, by decide⟩) hP hS hA (fun r_18 _ H locs hw0 hP hS => ?_)
        have hw : 0 ≤ r_18.toInt ∧ r_18.toInt ≤ 16383 := hw0
        clear hw0
        have w_19 := hw
        have hP9 : va_P g.1 vwCl [] H := hP.sub [] rfl
        have hD9 : va_D A [] := ⟨fun i j p q h => by simp at h, fun k q h => by simp at h⟩
        exact W.iret (v := r_18) hx hb hr (fun t ht hW => ⟨⟨r_18, (), rfl, (by first | with_reducible assumption | omega), by rw [ht]; exact hP9, by rw [hAe]; exact hD9⟩, hS.F ht⟩) hS.2.2 dX11_began_47
  · subst e_5
    refine lv_if_ne (tgt := 21) hx hb dX11_began_15 (by decide) (fun c9 => absurd (by decide) c9) (fun _ => ?_)
    refine lv_bipush (v := (-2)) hx hb dX11_began_18 (by decide) ?_
    have hP9 : va_P g.1 vwCl [] H := hP.sub [] rfl
    have hD9 : va_D A [] := ⟨fun i j p q h => by simp at h, fun k q h => by simp at h⟩
    exact W.iret (v := (-2)) hx hb hr (fun t ht hW => ⟨⟨(-2), (), rfl, ⟨by decide, by decide⟩, by rw [ht]; exact hP9, by rw [hAe]; exact hD9⟩, hS.F ht⟩) hS.2.2 dX11_began_20

theorem bw_366 : Cond.methodLink RX11 93 yX1_clear ∈ gT := gT_tb 831 (by decide +kernel) (by decide +kernel)
theorem bw_367 : Cond.instanceMethod yX1_clear ∈ gT := gT_tb 832 (by decide +kernel) (by decide +kernel)
theorem bw_368 : Cond.selects RX1 yX1_clear yX1_clear ∈ gT := gT_tb 833 (by decide +kernel) (by decide +kernel)
theorem bw_369 : Cond.initialized RX1 ∈ gT := gT_tb 15 (by decide +kernel) (by decide +kernel)
theorem bw_370 : Cond.methodLink RX11 327 yX8_sawLater ∈ gT := gT_tb 1271 (by decide +kernel) (by decide +kernel)
theorem bw_371 : Cond.instanceMethod yX8_sawLater ∈ gT := gT_tb 1272 (by decide +kernel) (by decide +kernel)
theorem bw_372 : Cond.selects RX8 yX8_sawLater yX8_sawLater ∈ gT := gT_tb 1273 (by decide +kernel) (by decide +kernel)
theorem bw_373 : Cond.methodLink RX11 266 yX1_add ∈ gT := gT_tb 1125 (by decide +kernel) (by decide +kernel)
theorem bw_374 : Cond.instanceMethod yX1_add ∈ gT := gT_tb 1126 (by decide +kernel) (by decide +kernel)
theorem bw_375 : Cond.selects RX1 yX1_add yX1_add ∈ gT := gT_tb 1127 (by decide +kernel) (by decide +kernel)
theorem bw_376 : Cond.code yX11_falses cX11_falses 5 (some .int) ∈ gT := gT_tb 1270 (by decide +kernel) (by decide +kernel)
theorem dX11_falses_0 : decode cX11_falses 0 = .ok (.aload_n 0, 1) := by decide +kernel
theorem dX11_falses_1 : decode cX11_falses 1 = .ok (.getfield 63, 3) := by decide +kernel
theorem dX11_falses_4 : decode cX11_falses 4 = .ok (.invokevirtual 93, 3) := by decide +kernel
theorem dX11_falses_7 : decode cX11_falses 7 = .ok (.aload_n 0, 1) := by decide +kernel
theorem dX11_falses_8 : decode cX11_falses 8 = .ok (.getfield 32, 3) := by decide +kernel
theorem dX11_falses_11 : decode cX11_falses 11 = .ok (.aload_n 0, 1) := by decide +kernel
theorem dX11_falses_12 : decode cX11_falses 12 = .ok (.getfield 84, 3) := by decide +kernel
theorem dX11_falses_15 : decode cX11_falses 15 = .ok (.aaload, 1) := by decide +kernel
theorem dX11_falses_16 : decode cX11_falses 16 = .ok (.astore_n 2, 1) := by decide +kernel
theorem dX11_falses_17 : decode cX11_falses 17 = .ok (.iconst 0, 1) := by decide +kernel
theorem dX11_falses_18 : decode cX11_falses 18 = .ok (.istore_n 3, 1) := by decide +kernel
theorem dX11_falses_19 : decode cX11_falses 19 = .ok (.iconst 0, 1) := by decide +kernel
theorem dX11_falses_20 : decode cX11_falses 20 = .ok (.istore 4, 2) := by decide +kernel
theorem dX11_falses_22 : decode cX11_falses 22 = .ok (.iload 4, 2) := by decide +kernel
theorem dX11_falses_24 : decode cX11_falses 24 = .ok (.aload_n 2, 1) := by decide +kernel
theorem dX11_falses_25 : decode cX11_falses 25 = .ok (.getfield 311, 3) := by decide +kernel
theorem dX11_falses_28 : decode cX11_falses 28 = .ok (.if_icmp .ge 52, 3) := by decide +kernel
theorem dX11_falses_31 : decode cX11_falses 31 = .ok (.aload_n 0, 1) := by decide +kernel
theorem dX11_falses_32 : decode cX11_falses 32 = .ok (.getfield 49, 3) := by decide +kernel
theorem dX11_falses_35 : decode cX11_falses 35 = .ok (.aload_n 2, 1) := by decide +kernel
theorem dX11_falses_36 : decode cX11_falses 36 = .ok (.iload 4, 2) := by decide +kernel
theorem dX11_falses_38 : decode cX11_falses 38 = .ok (.iconst 2, 1) := by decide +kernel
theorem dX11_falses_39 : decode cX11_falses 39 = .ok (.invokevirtual 314, 3) := by decide +kernel
theorem dX11_falses_42 : decode cX11_falses 42 = .ok (.aload_n 2, 1) := by decide +kernel
theorem dX11_falses_43 : decode cX11_falses 43 = .ok (.iload 4, 2) := by decide +kernel
theorem dX11_falses_45 : decode cX11_falses 45 = .ok (.iconst 3, 1) := by decide +kernel
theorem dX11_falses_46 : decode cX11_falses 46 = .ok (.invokevirtual 314, 3) := by decide +kernel
theorem dX11_falses_49 : decode cX11_falses 49 = .ok (.iload_n 1, 1) := by decide +kernel
theorem dX11_falses_50 : decode cX11_falses 50 = .ok (.invokevirtual 327, 3) := by decide +kernel
theorem dX11_falses_53 : decode cX11_falses 53 = .ok (.ifCond .eq 21, 3) := by decide +kernel
theorem dX11_falses_56 : decode cX11_falses 56 = .ok (.iinc 3 1, 3) := by decide +kernel
theorem dX11_falses_59 : decode cX11_falses 59 = .ok (.iload_n 3, 1) := by decide +kernel
theorem dX11_falses_60 : decode cX11_falses 60 = .ok (.bipush 8, 2) := by decide +kernel
theorem dX11_falses_62 : decode cX11_falses 62 = .ok (.if_icmp .gt 12, 3) := by decide +kernel
theorem dX11_falses_65 : decode cX11_falses 65 = .ok (.aload_n 0, 1) := by decide +kernel
theorem dX11_falses_66 : decode cX11_falses 66 = .ok (.getfield 63, 3) := by decide +kernel
theorem dX11_falses_69 : decode cX11_falses 69 = .ok (.iload 4, 2) := by decide +kernel
theorem dX11_falses_71 : decode cX11_falses 71 = .ok (.invokevirtual 266, 3) := by decide +kernel
theorem dX11_falses_74 : decode cX11_falses 74 = .ok (.iinc 4 1, 3) := by decide +kernel
theorem dX11_falses_77 : decode cX11_falses 77 = .ok (.goto (-55), 3) := by decide +kernel
theorem dX11_falses_80 : decode cX11_falses 80 = .ok (.iload_n 3, 1) := by decide +kernel
theorem dX11_falses_81 : decode cX11_falses 81 = .ok (.ireturn, 1) := by decide +kernel
set_option maxHeartbeats 4000000 in
set_option maxRecDepth 100000 in
theorem s_X11_falses (l : Launch) (g : GG) (sz : Nat) (x : Nat) (xtape : Nat) (xtapeLength : Int32) (xreader : Nat) (xland : Nat) (xspareLand : Nat) (xstates : Nat) (Fxstates : Nat → Option Nat) (xcurrent : Int32) (xnewest : Int32) (xboxes : Nat) (xfullBoxes : Int32) (xsearch : Nat) (xsights : Nat) (xparting : Nat) (xheap : Nat) (st : Nat) (sday : Int32) (sseed : Int32) (salive : Int32) (sstruck : Int32) (sopen : Int32) (sduels : Int32) (slines : Int32) (scoins : Nat) (srented : Nat) (smornings : Nat) (shonours : Nat) (sused : Nat) (ssides : Nat) (slog : Nat) (Fslog : Nat → Int32) (gtime : Int32) (gcount : Int32) (greasons : Nat) (Fgreasons : Nat → Int32) (gdays : Nat) (Fgdays : Nat → Int32) (gtoldAt : Nat) (FgtoldAt : Nat → Int32) (guntoldAt : Nat) (FguntoldAt : Nat → Int32) (ecount : Int32) (enumbers : Nat) (Fenumbers : Nat → Int32) (p0 : Int32) (hh0 : 0 ≤ xtapeLength.toInt ∧ xtapeLength.toInt ≤ 1600) (hh1 : 0 ≤ xcurrent.toInt ∧ xcurrent.toInt ≤ 40) (hh2 : 0 ≤ xnewest.toInt ∧ xnewest.toInt ≤ 40) (hh15 : 0 ≤ sseed.toInt ∧ sseed.toInt ≤ 999) (hh16 : 0 ≤ sduels.toInt ∧ sduels.toInt ≤ 8) (hh17 : 0 ≤ slines.toInt ∧ slines.toInt ≤ 60) (hh19 : 0 ≤ gtime.toInt ∧ gtime.toInt ≤ 100000) (hh20 : 0 ≤ gcount.toInt ∧ gcount.toInt ≤ 30) (hh21 : 0 ≤ ecount.toInt ∧ ecount.toInt ≤ 16) (ho : Fxstates xcurrent.toNatClampNeg = some st) : Met l yX11_falses (.code yX11_falses cX11_falses 5 (some .int) :: gT) ({ frames := 1, cells := 0, slots := 0, locals := 25 }) (va_Pc [.ref x, .int p0] (Pst g sz [(x, .inr (11, [.ref xtape, .int xtapeLength, .ref xreader, .ref xland, .ref xspareLand, .ref xstates, .int xcurrent, .int xnewest, .ref xboxes, .int xfullBoxes, .ref xsearch, .ref xsights, .ref xparting, .ref xheap])), (xstates, aO g 41 Fxstates), (st, .inr (9, [.int sday, .int sseed, .int salive, .int sstruck, .int sopen, .int sduels, .int slines, .ref scoins, .ref srented, .ref smornings, .ref shonours, .ref sused, .ref ssides, .ref slog])), (slog, aI g 60 Fslog), (xsights, .inr (8, [.int gtime, .int gcount, .ref greasons, .ref gdays, .ref gtoldAt, .ref guntoldAt])), (greasons, aI g 30 Fgreasons), (gdays, aI g 30 Fgdays), (gtoldAt, aI g 30 FgtoldAt), (guntoldAt, aI g 30 FguntoldAt), (xheap, .inr (1, [.int ecount, .ref enumbers])), (enumbers, aI g 16 Fenumbers)] nX)) (va_Qi (fun (r : Int32) => fun ((o0_count, o1_F) : Int32 × (Nat → Int32)) => 0 ≤ o0_count.toInt ∧ o0_count.toInt ≤ 16) (Qst g [(x, .inr (11, [.ref xtape, .int xtapeLength, .ref xreader, .ref xland, .ref xspareLand, .ref xstates, .int xcurrent, .int xnewest, .ref xboxes, .int xfullBoxes, .ref xsearch, .ref xsights, .ref xparting, .ref xheap])), (xstates, aO g 41 Fxstates), (st, .inr (9, [.int sday, .int sseed, .int salive, .int sstruck, .int sopen, .int sduels, .int slines, .ref scoins, .ref srented, .ref smornings, .ref shonours, .ref sused, .ref ssides, .ref slog])), (slog, aI g 60 Fslog), (xsights, .inr (8, [.int gtime, .int gcount, .ref greasons, .ref gdays, .ref gtoldAt, .ref guntoldAt])), (greasons, aI g 30 Fgreasons), (gdays, aI g 30 Fgdays), (gtoldAt, aI g 30 FgtoldAt), (guntoldAt, aI g 30 FguntoldAt), (xheap, .inr (1, [.int ecount, .ref enumbers])), (enumbers, aI g 16 Fenumbers)] sz (fun ((o0_count, o1_F) : Int32 × (Nat → Int32)) => [(x, .inr (11, [.ref xtape, .int xtapeLength, .ref xreader, .ref xland, .ref xspareLand, .ref xstates, .int xcurrent, .int xnewest, .ref xboxes, .int xfullBoxes, .ref xsearch, .ref xsights, .ref xparting, .ref xheap])), (xstates, aO g 41 Fxstates), (st, .inr (9, [.int sday, .int sseed, .int salive, .int sstruck, .int sopen, .int sduels, .int slines, .ref scoins, .ref srented, .ref smornings, .ref shonours, .ref sused, .ref ssides, .ref slog])), (slog, aI g 60 Fslog), (xsights, .inr (8, [.int gtime, .int gcount, .ref greasons, .ref gdays, .ref gtoldAt, .ref guntoldAt])), (greasons, aI g 30 Fgreasons), (gdays, aI g 30 Fgdays), (gtoldAt, aI g 30 FgtoldAt), (guntoldAt, aI g 30 FguntoldAt), (xheap, .inr (1, [.int o0_count, .ref enumbers])), (enumbers, aI g 16 o1_F)])) (va_A [(x, .inr (11, [.ref xtape, .int xtapeLength, .ref xreader, .ref xland, .ref xspareLand, .ref xstates, .int xcurrent, .int xnewest, .ref xboxes, .int xfullBoxes, .ref xsearch, .ref xsights, .ref xparting, .ref xheap])), (xstates, aO g 41 Fxstates), (st, .inr (9, [.int sday, .int sseed, .int salive, .int sstruck, .int sopen, .int sduels, .int slines, .ref scoins, .ref srented, .ref smornings, .ref shonours, .ref sused, .ref ssides, .ref slog])), (slog, aI g 60 Fslog), (xsights, .inr (8, [.int gtime, .int gcount, .ref greasons, .ref gdays, .ref gtoldAt, .ref guntoldAt])), (greasons, aI g 30 Fgreasons), (gdays, aI g 30 Fgdays), (gtoldAt, aI g 30 FgtoldAt), (guntoldAt, aI g 30 FguntoldAt), (xheap, .inr (1, [.int ecount, .ref enumbers])), (enumbers, aI g 16 Fenumbers)] sz)) 0 0 (va_A [(x, .inr (11, [.ref xtape, .int xtapeLength, .ref xreader, .ref xland, .ref xspareLand, .ref xstates, .int xcurrent, .int xnewest, .ref xboxes, .int xfullBoxes, .ref xsearch, .ref xsights, .ref xparting, .ref xheap])), (xstates, aO g 41 Fxstates), (st, .inr (9, [.int sday, .int sseed, .int salive, .int sstruck, .int sopen, .int sduels, .int slines, .ref scoins, .ref srented, .ref smornings, .ref shonours, .ref sused, .ref ssides, .ref slog])), (slog, aI g 60 Fslog), (xsights, .inr (8, [.int gtime, .int gcount, .ref greasons, .ref gdays, .ref gtoldAt, .ref guntoldAt])), (greasons, aI g 30 Fgreasons), (gdays, aI g 30 Fgdays), (gtoldAt, aI g 30 FgtoldAt), (guntoldAt, aI g 30 FguntoldAt), (xheap, .inr (1, [.int ecount, .ref enumbers])), (enumbers, aI g 16 Fenumbers)] sz) := by
  refine Met.ofW (cc := cX11_falses) (maxL := 5) (ret := (some .int)) (by decide) rfl ?_
  intro p e s m args below meth c s₁ B hml hv
  obtain ⟨rfl, hsz, hP, hK, hD0, hX⟩ := hv
  have hx := B.exec
  have hb := B.bytes
  have hr := B.returns
  have hT : ∀ w ∈ gT, w.before _ s = true := fun w h => atoms_spec (ws := .code yX11_falses cX11_falses 5 (some .int) :: gT) B.pre w (List.mem_cons_of_mem _ h)
  have hown : s.vm.findClass RX11 = some m.cls := findClass_of_methodNamed B.named
  have hlocks := B.notSynchronized
  subst hsz
  have hD := hD0.self (sz := s.heap.size)
  generalize hAe : va_A [(x, .inr (11, [.ref xtape, .int xtapeLength, .ref xreader, .ref xland, .ref xspareLand, .ref xstates, .int xcurrent, .int xnewest, .ref xboxes, .int xfullBoxes, .ref xsearch, .ref xsights, .ref xparting, .ref xheap])), (xstates, aO g 41 Fxstates), (st, .inr (9, [.int sday, .int sseed, .int salive, .int sstruck, .int sopen, .int sduels, .int slines, .ref scoins, .ref srented, .ref smornings, .ref shonours, .ref sused, .ref ssides, .ref slog])), (slog, aI g 60 Fslog), (xsights, .inr (8, [.int gtime, .int gcount, .ref greasons, .ref gdays, .ref gtoldAt, .ref guntoldAt])), (greasons, aI g 30 Fgreasons), (gdays, aI g 30 Fgdays), (gtoldAt, aI g 30 FgtoldAt), (guntoldAt, aI g 30 FguntoldAt), (xheap, .inr (1, [.int ecount, .ref enumbers])), (enumbers, aI g 16 Fenumbers)] s.heap.size = A at hD ⊢
  have hA : ∀ q : Nat, s.heap.size ≤ q → A q := fun q h => by rw [← hAe]; exact Or.inr h
  have hS : va_S A s.heap s.heap [] := va_S.rf
  have hl := lv_entry ([.ref x, .int p0]) (n := 5) (Nat.le_of_ble_eq_true rfl)
  rw [lg_entry_eq]
  generalize (lg_sl ([.ref x, .int p0]) ++ List.replicate (5 - (lg_sl ([.ref x, .int p0])).length) Slot.unset).toArray = ls at hl ⊢
  have hl : lv_has ls 5 [(0, .ref x), (1, .int p0)] := hl
  refine p_nH (fun H hH => ?_)
  have hP : va_P g.1 vwCl [(x, .inr (11, [.ref xtape, .int xtapeLength, .ref xreader, .ref xland, .ref xspareLand, .ref xstates, .int xcurrent, .int xnewest, .ref xboxes, .int xfullBoxes, .ref xsearch, .ref xsights, .ref xparting, .ref xheap])), (xstates, aO g 41 Fxstates), (st, .inr (9, [.int sday, .int sseed, .int salive, .int sstruck, .int sopen, .int sduels, .int slines, .ref scoins, .ref srented, .ref smornings, .ref shonours, .ref sused, .ref ssides, .ref slog])), (slog, aI g 60 Fslog), (xsights, .inr (8, [.int gtime, .int gcount, .ref greasons, .ref gdays, .ref gtoldAt, .ref guntoldAt])), (greasons, aI g 30 Fgreasons), (gdays, aI g 30 Fgdays), (gtoldAt, aI g 30 FgtoldAt), (guntoldAt, aI g 30 FguntoldAt), (xheap, .inr (1, [.int ecount, .ref enumbers])), (enumbers, aI g 16 Fenumbers)] H := by rw [hH]; exact hP
  have hS : va_S A s.heap H [] := by rw [hH]; exact hS
  refine lv_aload_n hx hb dX11_falses_0 rfl (lv_at hl 0 rfl) ?_
  refine va_get (D := g.1) (ci := 11) (v := .ref xheap) (C := RX11) (T := TX11) (N := 14) hx hb hT inF_X11 hown hK.1 hP 0 rfl rfl 13 (by decide) (hT _ bw_341) (fun _ h9 => h9) rfl dX11_falses_1 ?_
  refine k_v (wr := [(x, .inr (11, [.ref xtape, .int xtapeLength, .ref xreader, .ref xland, .ref xspareLand, .ref xstates, .int xcurrent, .int xnewest, .ref xboxes, .int xfullBoxes, .ref xsearch, .ref xsights, .ref xparting, .ref xheap])), (xstates, aO g 41 Fxstates), (st, .inr (9, [.int sday, .int sseed, .int salive, .int sstruck, .int sopen, .int sduels, .int slines, .ref scoins, .ref srented, .ref smornings, .ref shonours, .ref sused, .ref ssides, .ref slog])), (slog, aI g 60 Fslog), (xsights, .inr (8, [.int gtime, .int gcount, .ref greasons, .ref gdays, .ref gtoldAt, .ref guntoldAt])), (greasons, aI g 30 Fgreasons), (gdays, aI g 30 Fgdays), (gtoldAt, aI g 30 FgtoldAt), (guntoldAt, aI g 30 FguntoldAt), (enumbers, aI g 16 Fenumbers)]) (k_V (n := 0) ⟨hx, hb, hml, hown, hT⟩ hK hP hD [9] rfl (by decide +kernel) (s_X1_clear l g H.size xheap ecount enumbers (by first | with_reducible assumption | omega)) (gV bw_366 bw_367 bw_368 bw_369 bw_1) rfl rfl (by decide +kernel) ⟨by decide, by decide⟩ (ci := 1) (q0 := 0) rfl rfl (fun _ _ _ _ _ => trivial) (fun _ _ _ => trivial) rfl rfl hl.1 (Nat.le_of_ble_eq_true rfl) dX11_falses_4 ⟨by decide, by decide⟩) hP hD hS hA [9] [0, 1, 2, 3, 4, 5, 6, 7, 8, 10] rfl rfl (by decide +kernel) (by decide +kernel) (fun u H locs hw0 hP hD hS => ?_)
  have hP : va_P g.1 vwCl [(x, .inr (11, [.ref xtape, .int xtapeLength, .ref xreader, .ref xland, .ref xspareLand, .ref xstates, .int xcurrent, .int xnewest, .ref xboxes, .int xfullBoxes, .ref xsearch, .ref xsights, .ref xparting, .ref xheap])), (xstates, aO g 41 Fxstates), (st, .inr (9, [.int sday, .int sseed, .int salive, .int sstruck, .int sopen, .int sduels, .int slines, .ref scoins, .ref srented, .ref smornings, .ref shonours, .ref sused, .ref ssides, .ref slog])), (slog, aI g 60 Fslog), (xsights, .inr (8, [.int gtime, .int gcount, .ref greasons, .ref gdays, .ref gtoldAt, .ref guntoldAt])), (greasons, aI g 30 Fgreasons), (gdays, aI g 30 Fgdays), (gtoldAt, aI g 30 FgtoldAt), (guntoldAt, aI g 30 FguntoldAt), (enumbers, aI g 16 Fenumbers), (xheap, .inr (1, [.int 0, .ref enumbers]))] H := hP
  have hD : va_D A [(x, .inr (11, [.ref xtape, .int xtapeLength, .ref xreader, .ref xland, .ref xspareLand, .ref xstates, .int xcurrent, .int xnewest, .ref xboxes, .int xfullBoxes, .ref xsearch, .ref xsights, .ref xparting, .ref xheap])), (xstates, aO g 41 Fxstates), (st, .inr (9, [.int sday, .int sseed, .int salive, .int sstruck, .int sopen, .int sduels, .int slines, .ref scoins, .ref srented, .ref smornings, .ref shonours, .ref sused, .ref ssides, .ref slog])), (slog, aI g 60 Fslog), (xsights, .inr (8, [.int gtime, .int gcount, .ref greasons, .ref gdays, .ref gtoldAt, .ref guntoldAt])), (greasons, aI g 30 Fgreasons), (gdays, aI g 30 Fgdays), (gtoldAt, aI g 30 FgtoldAt), (guntoldAt, aI g 30 FguntoldAt), (enumbers, aI g 16 Fenumbers), (xheap, .inr (1, [.int 0, .ref enumbers]))] := hD
  refine lv_aload_n hx hb dX11_falses_7 rfl (lv_at hl 0 rfl) ?_
  refine va_get (D := g.1) (ci := 11) (v := .ref xstates) (C := RX11) (T := TX11) (N := 14) hx hb hT inF_X11 hown hK.1 hP 0 rfl rfl 5 (by decide) (hT _ bw_275) (fun _ h9 => h9) rfl dX11_falses_8 ?_
  refine lv_aload_n hx hb dX11_falses_11 rfl (lv_at hl 0 rfl) ?_
  refine va_get (D := g.1) (ci := 11) (v := .int xcurrent) (C := RX11) (T := TX11) (N := 14) hx hb hT inF_X11 hown hK.1 hP 0 rfl rfl 6 (by decide) (hT _ bw_276) (fun _ h9 => h9) rfl dX11_falses_12 ?_
  have h_1 : vp_in xcurrent 41 := vp_in_iff.mpr (by omega)
  refine va_aldq hx hb hK.1 hP 1 4 rfl rfl (i := xcurrent) h_1 dX11_falses_15 ?_
  refine p_tr (x := st) (by rw [ho]; rfl) ?_
  refine lv_astore_n (lv' := [(2, .ref st), (0, .ref x), (1, .int p0)]) hx hb dX11_falses_16 rfl hl (by decide) rfl (fun ls hl => ?_)
  refine lv_iconst (v := 0) hx hb dX11_falses_17 (by decide) ?_
  refine lv_istore_n (lv' := [(3, .int 0), (2, .ref st), (0, .ref x), (1, .int p0)]) hx hb dX11_falses_18 rfl hl (by decide) rfl (fun ls hl => ?_)
  refine lv_iconst (v := 0) hx hb dX11_falses_19 (by decide) ?_
  refine lv_istore (lv' := [(4, .int 0), (3, .int 0), (2, .ref st), (0, .ref x), (1, .int p0)]) hx hb dX11_falses_20 hl (by decide) rfl (fun ls hl => ?_)
  refine k_floop 22 (fun n H locs ls => ∃ (L_2 : Int32) (L_3 : Int32) (L_4 : Int32) (f_5 : Nat → Int32), (0 ≤ L_2.toInt ∧ L_2.toInt ≤ 60) ∧ (0 ≤ L_4.toInt ∧ L_4.toInt ≤ 16) ∧ 60 - L_2.toInt ≤ (n : Int) ∧ va_P g.1 vwCl [(x, .inr (11, [.ref xtape, .int xtapeLength, .ref xreader, .ref xland, .ref xspareLand, .ref xstates, .int xcurrent, .int xnewest, .ref xboxes, .int xfullBoxes, .ref xsearch, .ref xsights, .ref xparting, .ref xheap])), (xstates, aO g 41 Fxstates), (st, .inr (9, [.int sday, .int sseed, .int salive, .int sstruck, .int sopen, .int sduels, .int slines, .ref scoins, .ref srented, .ref smornings, .ref shonours, .ref sused, .ref ssides, .ref slog])), (slog, aI g 60 Fslog), (xsights, .inr (8, [.int gtime, .int gcount, .ref greasons, .ref gdays, .ref gtoldAt, .ref guntoldAt])), (greasons, aI g 30 Fgreasons), (gdays, aI g 30 Fgdays), (gtoldAt, aI g 30 FgtoldAt), (guntoldAt, aI g 30 FguntoldAt), (enumbers, aI g 16 f_5), (xheap, .inr (1, [.int L_4, .ref enumbers]))] H ∧ va_D A [(x, .inr (11, [.ref xtape, .int xtapeLength, .ref xreader, .ref xland, .ref xspareLand, .ref xstates, .int xcurrent, .int xnewest, .ref xboxes, .int xfullBoxes, .ref xsearch, .ref xsights, .ref xparting, .ref xheap])), (xstates, aO g 41 Fxstates), (st, .inr (9, [.int sday, .int sseed, .int salive, .int sstruck, .int sopen, .int sduels, .int slines, .ref scoins, .ref srented, .ref smornings, .ref shonours, .ref sused, .ref ssides, .ref slog])), (slog, aI g 60 Fslog), (xsights, .inr (8, [.int gtime, .int gcount, .ref greasons, .ref gdays, .ref gtoldAt, .ref guntoldAt])), (greasons, aI g 30 Fgreasons), (gdays, aI g 30 Fgdays), (gtoldAt, aI g 30 FgtoldAt), (guntoldAt, aI g 30 FguntoldAt), (enumbers, aI g 16 f_5), (xheap, .inr (1, [.int L_4, .ref enumbers]))] ∧ va_S A s.heap H locs ∧ lv_has ls 5 [(4, .int L_2), (3, .int L_3), (2, .ref st), (0, .ref x), (1, .int p0)]) (fun n H locs ls hI ih => ?_) ((60 - 0 : Int)).toNat ⟨0, 0, 0, Fenumbers, by decide, by decide, by have k0 : (0 : Int32).toInt = 0 := (by decide); omega, hP, hD, hS, hl⟩
  refine hI.elim (fun L_2 hI => hI.elim (fun L_3 hI => hI.elim (fun L_4 hI => hI.elim (fun f_5 hI => ?_))))
  have g_6 := hI.1
  have g_7 := hI.2.1
  have hm_8 := hI.2.2.1
  have hP := hI.2.2.2.1
  have hD := hI.2.2.2.2.1
  have hS := hI.2.2.2.2.2.1
  have hl := hI.2.2.2.2.2.2
  clear hI
  refine lv_iload hx hb dX11_falses_22 (lv_at hl 0 rfl) ?_
  refine lv_aload_n hx hb dX11_falses_24 rfl (lv_at hl 2 rfl) ?_
  refine va_get (D := g.1) (ci := 9) (v := .int slines) (C := RX9) (T := TX9) (N := 14) hx hb hT inF_X9 hown hK.1 hP 2 rfl rfl 6 (by decide) (hT _ bw_321) (fun _ h9 => h9) rfl dX11_falses_25 ?_
  refine lv_icmp_ge (tgt := 80) hx hb dX11_falses_28 (by decide) (fun c_9 => ?_) (fun c_9 => ?_)
  · have f_10 := E_le (rfl : slines.toInt = _) (rfl : L_2.toInt = _) c_9
    refine lv_iload_n hx hb dX11_falses_80 rfl (lv_at hl 1 rfl) ?_
    have hP9 : va_P g.1 vwCl [(x, .inr (11, [.ref xtape, .int xtapeLength, .ref xreader, .ref xland, .ref xspareLand, .ref xstates, .int xcurrent, .int xnewest, .ref xboxes, .int xfullBoxes, .ref xsearch, .ref xsights, .ref xparting, .ref xheap])), (xstates, aO g 41 Fxstates), (st, .inr (9, [.int sday, .int sseed, .int salive, .int sstruck, .int sopen, .int sduels, .int slines, .ref scoins, .ref srented, .ref smornings, .ref shonours, .ref sused, .ref ssides, .ref slog])), (slog, aI g 60 Fslog), (xsights, .inr (8, [.int gtime, .int gcount, .ref greasons, .ref gdays, .ref gtoldAt, .ref guntoldAt])), (greasons, aI g 30 Fgreasons), (gdays, aI g 30 Fgdays), (gtoldAt, aI g 30 FgtoldAt), (guntoldAt, aI g 30 FguntoldAt), (xheap, .inr (1, [.int L_4, .ref enumbers])), (enumbers, aI g 16 f_5)] H := hP.sub [0, 1, 2, 3, 4, 5, 6, 7, 8, 10, 9] rfl
    have hD9 : va_D A [(x, .inr (11, [.ref xtape, .int xtapeLength, .ref xreader, .ref xland, .ref xspareLand, .ref xstates, .int xcurrent, .int xnewest, .ref xboxes, .int xfullBoxes, .ref xsearch, .ref xsights, .ref xparting, .ref xheap])), (xstates, aO g 41 Fxstates), (st, .inr (9, [.int sday, .int sseed, .int salive, .int sstruck, .int sopen, .int sduels, .int slines, .ref scoins, .ref srented, .ref smornings, .ref shonours, .ref sused, .ref ssides, .ref slog])), (slog, aI g 60 Fslog), (xsights, .inr (8, [.int gtime, .int gcount, .ref greasons, .ref gdays, .ref gtoldAt, .ref guntoldAt])), (greasons, aI g 30 Fgreasons), (gdays, aI g 30 Fgdays), (gtoldAt, aI g 30 FgtoldAt), (guntoldAt, aI g 30 FguntoldAt), (xheap, .inr (1, [.int L_4, .ref enumbers])), (enumbers, aI g 16 f_5)] := hD.sub [0, 1, 2, 3, 4, 5, 6, 7, 8, 10, 9] (by decide +kernel) rfl
    exact W.iret (v := L_3) hx hb hr (fun t ht hW => ⟨⟨L_3, (L_4, f_5), rfl, (by first | with_reducible assumption | omega), by rw [ht]; exact hP9, by rw [hAe]; exact hD9⟩, hS.F ht⟩) hS.2.2 dX11_falses_81
  · have f_11 := E_nle (rfl : slines.toInt = _) (rfl : L_2.toInt = _) c_9
    refine lv_aload_n hx hb dX11_falses_31 rfl (lv_at hl 3 rfl) ?_
    refine va_get (D := g.1) (ci := 11) (v := .ref xsights) (C := RX11) (T := TX11) (N := 14) hx hb hT inF_X11 hown hK.1 hP 0 rfl rfl 11 (by decide) (hT _ bw_336) (fun _ h9 => h9) rfl dX11_falses_32 ?_
    refine lv_aload_n hx hb dX11_falses_35 rfl (lv_at hl 2 rfl) ?_
    refine lv_iload hx hb dX11_falses_36 (lv_at hl 0 rfl) ?_
    refine lv_iconst (v := 2) hx hb dX11_falses_38 (by decide) ?_
    refine k_iR (k_V (n := 2) ⟨hx, hb, hml, hown, hT⟩ hK hP hD [2, 3] rfl (by decide +kernel) (s_X9_lineOf l g H.size st sday sseed salive sstruck sopen sduels slines scoins srented smornings shonours sused ssides slog Fslog L_2 2 (by first | with_reducible assumption | omega) (by first | with_reducible assumption | omega) (by first | with_reducible assumption | omega) (by first | with_reducible assumption | omega)) (gV bw_322 bw_323 bw_324 bw_46 bw_39) rfl rfl (by decide +kernel) ⟨by decide, by decide⟩ (ci := 9) (q0 := 0) rfl rfl (fun _ _ _ _ _ => trivial) (fun _ _ _ => trivial) rfl rfl hl.1 (Nat.le_of_ble_eq_true rfl) dX11_falses_39 ⟨by decide, by decide⟩) hP hS hA (fun r_12 _ H locs hw0 hP hS => ?_)
    have hw : 0 ≤ r_12.toInt ∧ r_12.toInt ≤ 16383 := hw0
    clear hw0
    have w_13 := hw
    refine lv_aload_n hx hb dX11_falses_42 rfl (lv_at hl 2 rfl) ?_
    refine lv_iload hx hb dX11_falses_43 (lv_at hl 0 rfl) ?_
    refine lv_iconst (v := 3) hx hb dX11_falses_45 (by decide) ?_
    refine k_iR (k_V (n := 2) ⟨hx, hb, hml, hown, hT⟩ hK hP hD [2, 3] rfl (by decide +kernel) (s_X9_lineOf l g H.size st sday sseed salive sstruck sopen sduels slines scoins srented smornings shonours sused ssides slog Fslog L_2 3 (by first | with_reducible assumption | omega) (by first | with_reducible assumption | omega) (by first | with_reducible assumption | omega) (by first | with_reducible assumption | omega)) (gV bw_322 bw_323 bw_324 bw_46 bw_39) rfl rfl (by decide +kernel) ⟨by decide, by decide⟩ (ci := 9) (q0 := 0) rfl rfl (fun _ _ _ _ _ => trivial) (fun _ _ _ => trivial) rfl rfl hl.1 (Nat.le_of_ble_eq_true rfl) dX11_falses_46 ⟨by decide, by decide⟩) hP hS hA (fun r_14 _ H locs hw0 hP hS => ?_)
    have hw : 0 ≤ r_14.toInt ∧ r_14.toInt ≤ 16383 := hw0
    clear hw0
    have w_15 := hw
    refine lv_iload_n hx hb dX11_falses_49 rfl (lv_at hl 4 rfl) ?_
    refine k_iR (k_V (n := 3) ⟨hx, hb, hml, hown, hT⟩ hK hP hD [4, 5, 6, 7, 8] rfl (by decide +kernel) (s_X8_sawLater l g H.size xsights gtime gcount greasons Fgreasons gdays Fgdays gtoldAt FgtoldAt guntoldAt FguntoldAt r_12 r_14 p0 (by first | with_reducible assumption | omega) (by first | with_reducible assumption | omega)) (gV bw_370 bw_371 bw_372 bw_351 bw_213) rfl rfl (by decide +kernel) ⟨by decide, by decide⟩ (ci := 8) (q0 := 0) rfl rfl (fun _ _ _ _ _ => trivial) (fun _ _ _ => trivial) rfl rfl hl.1 (Nat.le_of_ble_eq_true rfl) dX11_falses_50 ⟨by decide, by decide⟩) hP hS hA (fun r_16 _ H locs hw0 hP hS => ?_)
    have hw : 0 ≤ r_16.toInt ∧ r_16.toInt ≤ 1 := hw0
    clear hw0
    have w_17 := hw
    refine lv_if_eq (tgt := 74) hx hb dX11_falses_53 (by decide) (fun c_18 => ?_) (fun c_18 => ?_)
    · have f_19 := E_eq (rfl : r_16.toInt = _) (by decide : (0 : Int32).toInt = 0) c_18
      obtain ⟨x_20, ex_20⟩ : ∃ y : Int32, y = L_2 + 1 := ⟨_, rfl⟩
      have fx_20 : x_20.toInt = L_2.toInt + 1 := by rw [ex_20]; exact I_add rfl (by decide) (by omega) (by omega)
      refine lv_iinc (v := x_20) (lv' := [(4, .int x_20), (3, .int L_3), (2, .ref st), (0, .ref x), (1, .int p0)]) hx hb dX11_falses_74 hl (k := 0) rfl (by rw [ex_20]; rfl) (by decide) rfl (fun ls hl => ?_)
      refine lv_goto (tgt := 22) hx hb dX11_falses_77 (by decide) ?_
      exact ih (n - 1) (by omega) H locs ls ⟨x_20, L_3, L_4, f_5, (by first | with_reducible assumption | omega), (by first | with_reducible assumption | omega), by omega, hP.sub [0, 1, 2, 3, 4, 5, 6, 7, 8, 9, 10] rfl, hD.sub [0, 1, 2, 3, 4, 5, 6, 7, 8, 9, 10] (by decide +kernel) rfl, hS, lv_sub hl [0, 1, 2, 3, 4] rfl⟩
    · have f_21 := E_ne (rfl : r_16.toInt = _) (by decide : (0 : Int32).toInt = 0) c_18
      obtain ⟨x_22, ex_22⟩ : ∃ y : Int32, y = L_3 + 1 := ⟨_, rfl⟩
      refine lv_iinc (v := x_22) (lv' := [(3, .int x_22), (4, .int L_2), (2, .ref st), (0, .ref x), (1, .int p0)]) hx hb dX11_falses_56 hl (k := 1) rfl (by rw [ex_22]; rfl) (by decide) rfl (fun ls hl => ?_)
      refine lv_iload_n hx hb dX11_falses_59 rfl (lv_at hl 0 rfl) ?_
      refine lv_bipush (v := 8) hx hb dX11_falses_60 (by decide) ?_
      refine lv_icmp_gt (tgt := 74) hx hb dX11_falses_62 (by decide) (fun c_23 => ?_) (fun c_23 => ?_)
      · have f_24 := E_lt (by decide : (8 : Int32).toInt = 8) (rfl : x_22.toInt = _) c_23
        obtain ⟨x_25, ex_25⟩ : ∃ y : Int32, y = L_2 + 1 := ⟨_, rfl⟩
        have fx_25 : x_25.toInt = L_2.toInt + 1 := by rw [ex_25]; exact I_add rfl (by decide) (by omega) (by omega)
        refine lv_iinc (v := x_25) (lv' := [(4, .int x_25), (3, .int x_22), (2, .ref st), (0, .ref x), (1, .int p0)]) hx hb dX11_falses_74 hl (k := 1) rfl (by rw [ex_25]; rfl) (by decide) rfl (fun ls hl => ?_)
        refine lv_goto (tgt := 22) hx hb dX11_falses_77 (by decide) ?_
        exact ih (n - 1) (by omega) H locs ls ⟨x_25, x_22, L_4, f_5, (by first | with_reducible assumption | omega), (by first | with_reducible assumption | omega), by omega, hP.sub [0, 1, 2, 3, 4, 5, 6, 7, 8, 9, 10] rfl, hD.sub [0, 1, 2, 3, 4, 5, 6, 7, 8, 9, 10] (by decide +kernel) rfl, hS, lv_sub hl [0, 1, 2, 3, 4] rfl⟩
      · have f_26 := E_nlt (by decide : (8 : Int32).toInt = 8) (rfl : x_22.toInt = _) c_23
        refine lv_aload_n hx hb dX11_falses_65 rfl (lv_at hl 3 rfl) ?_
        refine va_get (D := g.1) (ci := 11) (v := .ref xheap) (C := RX11) (T := TX11) (N := 14) hx hb hT inF_X11 hown hK.1 hP 0 rfl rfl 13 (by decide) (hT _ bw_341) (fun _ h9 => h9) rfl dX11_falses_66 ?_
        refine lv_iload hx hb dX11_falses_69 (lv_at hl 1 rfl) ?_
        refine k_v (wr := [(x, .inr (11, [.ref xtape, .int xtapeLength, .ref xreader, .ref xland, .ref xspareLand, .ref xstates, .int xcurrent, .int xnewest, .ref xboxes, .int xfullBoxes, .ref xsearch, .ref xsights, .ref xparting, .ref xheap])), (xstates, aO g 41 Fxstates), (st, .inr (9, [.int sday, .int sseed, .int salive, .int sstruck, .int sopen, .int sduels, .int slines, .ref scoins, .ref srented, .ref smornings, .ref shonours, .ref sused, .ref ssides, .ref slog])), (slog, aI g 60 Fslog), (xsights, .inr (8, [.int gtime, .int gcount, .ref greasons, .ref gdays, .ref gtoldAt, .ref guntoldAt])), (greasons, aI g 30 Fgreasons), (gdays, aI g 30 Fgdays), (gtoldAt, aI g 30 FgtoldAt), (guntoldAt, aI g 30 FguntoldAt)]) (k_V (n := 1) ⟨hx, hb, hml, hown, hT⟩ hK hP hD [10, 9] rfl (by decide +kernel) (s_X1_add l g H.size xheap L_4 enumbers f_5 L_2 (by first | with_reducible assumption | omega)) (gV bw_373 bw_374 bw_375 bw_369 bw_3) rfl rfl (by decide +kernel) ⟨by decide, by decide⟩ (ci := 1) (q0 := 0) rfl rfl (fun _ _ _ _ _ => trivial) (fun _ _ _ => trivial) rfl rfl hl.1 (Nat.le_of_ble_eq_true rfl) dX11_falses_71 ⟨by decide, by decide⟩) hP hD hS hA [10, 9] [0, 1, 2, 3, 4, 5, 6, 7, 8] rfl rfl (by decide +kernel) (by decide +kernel) (pr_all fun y_27 => fun f_28 H locs hw0 hP hD hS => ?_)
        have hP : va_P g.1 vwCl [(x, .inr (11, [.ref xtape, .int xtapeLength, .ref xreader, .ref xland, .ref xspareLand, .ref xstates, .int xcurrent, .int xnewest, .ref xboxes, .int xfullBoxes, .ref xsearch, .ref xsights, .ref xparting, .ref xheap])), (xstates, aO g 41 Fxstates), (st, .inr (9, [.int sday, .int sseed, .int salive, .int sstruck, .int sopen, .int sduels, .int slines, .ref scoins, .ref srented, .ref smornings, .ref shonours, .ref sused, .ref ssides, .ref slog])), (slog, aI g 60 Fslog), (xsights, .inr (8, [.int gtime, .int gcount, .ref greasons, .ref gdays, .ref gtoldAt, .ref guntoldAt])), (greasons, aI g 30 Fgreasons), (gdays, aI g 30 Fgdays), (gtoldAt, aI g 30 FgtoldAt), (guntoldAt, aI g 30 FguntoldAt), (xheap, .inr (1, [.int y_27, .ref enumbers])), (enumbers, aI g 16 f_28)] H := hP
        have hD : va_D A [(x, .inr (11, [.ref xtape, .int xtapeLength, .ref xreader, .ref xland, .ref xspareLand, .ref xstates, .int xcurrent, .int xnewest, .ref xboxes, .int xfullBoxes, .ref xsearch, .ref xsights, .ref xparting, .ref xheap])), (xstates, aO g 41 Fxstates), (st, .inr (9, [.int sday, .int sseed, .int salive, .int sstruck, .int sopen, .int sduels, .int slines, .ref scoins, .ref srented, .ref smornings, .ref shonours, .ref sused, .ref ssides, .ref slog])), (slog, aI g 60 Fslog), (xsights, .inr (8, [.int gtime, .int gcount, .ref greasons, .ref gdays, .ref gtoldAt, .ref guntoldAt])), (greasons, aI g 30 Fgreasons), (gdays, aI g 30 Fgdays), (gtoldAt, aI g 30 FgtoldAt), (guntoldAt, aI g 30 FguntoldAt), (xheap, .inr (1, [.int y_27, .ref enumbers])), (enumbers, aI g 16 f_28)] := hD
        have hw : 0 ≤ y_27.toInt ∧ y_27.toInt ≤ 16 := hw0
        clear hw0
        have w_29 := hw
        obtain ⟨x_30, ex_30⟩ : ∃ y : Int32, y = L_2 + 1 := ⟨_, rfl⟩
        have fx_30 : x_30.toInt = L_2.toInt + 1 := by rw [ex_30]; exact I_add rfl (by decide) (by omega) (by omega)
        refine lv_iinc (v := x_30) (lv' := [(4, .int x_30), (3, .int x_22), (2, .ref st), (0, .ref x), (1, .int p0)]) hx hb dX11_falses_74 hl (k := 1) rfl (by rw [ex_30]; rfl) (by decide) rfl (fun ls hl => ?_)
        refine lv_goto (tgt := 22) hx hb dX11_falses_77 (by decide) ?_
        exact ih (n - 1) (by omega) H locs ls ⟨x_30, x_22, y_27, f_28, (by first | with_reducible assumption | omega), (by first | with_reducible assumption | omega), by omega, hP.sub [0, 1, 2, 3, 4, 5, 6, 7, 8, 10, 9] rfl, hD.sub [0, 1, 2, 3, 4, 5, 6, 7, 8, 10, 9] (by decide +kernel) rfl, hS, lv_sub hl [0, 1, 2, 3, 4] rfl⟩

theorem bw_377 : Cond.constant RX11 326 (100000) ∈ gT := gT_tb 1266 (by decide +kernel) (by decide +kernel)
theorem bw_378 : Cond.code yX11_later cX11_later 2 (some .int) ∈ gT := gT_tb 1265 (by decide +kernel) (by decide +kernel)
theorem dX11_later_0 : decode cX11_later 0 = .ok (.iload_n 1, 1) := by decide +kernel
theorem dX11_later_1 : decode cX11_later 1 = .ok (.ifCond .lt 25, 3) := by decide +kernel
theorem dX11_later_4 : decode cX11_later 4 = .ok (.iload_n 1, 1) := by decide +kernel
theorem dX11_later_5 : decode cX11_later 5 = .ok (.sipush 1000, 3) := by decide +kernel
theorem dX11_later_8 : decode cX11_later 8 = .ok (.if_icmp .gt 18, 3) := by decide +kernel
theorem dX11_later_11 : decode cX11_later 11 = .ok (.aload_n 0, 1) := by decide +kernel
theorem dX11_later_12 : decode cX11_later 12 = .ok (.getfield 49, 3) := by decide +kernel
theorem dX11_later_15 : decode cX11_later 15 = .ok (.getfield 323, 3) := by decide +kernel
theorem dX11_later_18 : decode cX11_later 18 = .ok (.iload_n 1, 1) := by decide +kernel
theorem dX11_later_19 : decode cX11_later 19 = .ok (.iadd, 1) := by decide +kernel
theorem dX11_later_20 : decode cX11_later 20 = .ok (.ldc_w 326, 3) := by decide +kernel
theorem dX11_later_23 : decode cX11_later 23 = .ok (.if_icmp .le 5, 3) := by decide +kernel
theorem dX11_later_26 : decode cX11_later 26 = .ok (.iconst (-1), 1) := by decide +kernel
theorem dX11_later_27 : decode cX11_later 27 = .ok (.ireturn, 1) := by decide +kernel
theorem dX11_later_28 : decode cX11_later 28 = .ok (.aload_n 0, 1) := by decide +kernel
theorem dX11_later_29 : decode cX11_later 29 = .ok (.getfield 49, 3) := by decide +kernel
theorem dX11_later_32 : decode cX11_later 32 = .ok (.dup, 1) := by decide +kernel
theorem dX11_later_33 : decode cX11_later 33 = .ok (.getfield 323, 3) := by decide +kernel
theorem dX11_later_36 : decode cX11_later 36 = .ok (.iload_n 1, 1) := by decide +kernel
theorem dX11_later_37 : decode cX11_later 37 = .ok (.iadd, 1) := by decide +kernel
theorem dX11_later_38 : decode cX11_later 38 = .ok (.putfield 323, 3) := by decide +kernel
theorem dX11_later_41 : decode cX11_later 41 = .ok (.aload_n 0, 1) := by decide +kernel
theorem dX11_later_42 : decode cX11_later 42 = .ok (.getfield 49, 3) := by decide +kernel
theorem dX11_later_45 : decode cX11_later 45 = .ok (.getfield 323, 3) := by decide +kernel
theorem dX11_later_48 : decode cX11_later 48 = .ok (.ireturn, 1) := by decide +kernel
set_option maxHeartbeats 4000000 in
set_option maxRecDepth 100000 in
theorem s_X11_later (l : Launch) (g : GG) (sz : Nat) (x : Nat) (xtape : Nat) (xtapeLength : Int32) (xreader : Nat) (xland : Nat) (xspareLand : Nat) (xstates : Nat) (xcurrent : Int32) (xnewest : Int32) (xboxes : Nat) (xfullBoxes : Int32) (xsearch : Nat) (xsights : Nat) (xparting : Nat) (xheap : Nat) (gtime : Int32) (gcount : Int32) (greasons : Nat) (gdays : Nat) (gtoldAt : Nat) (guntoldAt : Nat) (p0 : Int32) (hh0 : 0 ≤ xtapeLength.toInt ∧ xtapeLength.toInt ≤ 1600) (hh1 : 0 ≤ xcurrent.toInt ∧ xcurrent.toInt ≤ 40) (hh2 : 0 ≤ xnewest.toInt ∧ xnewest.toInt ≤ 40) (hh19 : 0 ≤ gtime.toInt ∧ gtime.toInt ≤ 100000) (hh20 : 0 ≤ gcount.toInt ∧ gcount.toInt ≤ 30) : Met l yX11_later (.code yX11_later cX11_later 2 (some .int) :: gT) ({ frames := 0, cells := 0, slots := 0, locals := 0 }) (va_Pc [.ref x, .int p0] (Pst g sz [(x, .inr (11, [.ref xtape, .int xtapeLength, .ref xreader, .ref xland, .ref xspareLand, .ref xstates, .int xcurrent, .int xnewest, .ref xboxes, .int xfullBoxes, .ref xsearch, .ref xsights, .ref xparting, .ref xheap])), (xsights, .inr (8, [.int gtime, .int gcount, .ref greasons, .ref gdays, .ref gtoldAt, .ref guntoldAt]))] nX)) (va_Qi (fun (r : Int32) => fun (o0_time : Int32) => ((-1) ≤ r.toInt ∧ r.toInt ≤ 101000) ∧ (r = Fl gtime p0 ∧ o0_time = Ft gtime p0) ∧ (0 ≤ o0_time.toInt ∧ o0_time.toInt ≤ 100000)) (Qst g [(x, .inr (11, [.ref xtape, .int xtapeLength, .ref xreader, .ref xland, .ref xspareLand, .ref xstates, .int xcurrent, .int xnewest, .ref xboxes, .int xfullBoxes, .ref xsearch, .ref xsights, .ref xparting, .ref xheap])), (xsights, .inr (8, [.int gtime, .int gcount, .ref greasons, .ref gdays, .ref gtoldAt, .ref guntoldAt]))] sz (fun (o0_time : Int32) => [(x, .inr (11, [.ref xtape, .int xtapeLength, .ref xreader, .ref xland, .ref xspareLand, .ref xstates, .int xcurrent, .int xnewest, .ref xboxes, .int xfullBoxes, .ref xsearch, .ref xsights, .ref xparting, .ref xheap])), (xsights, .inr (8, [.int o0_time, .int gcount, .ref greasons, .ref gdays, .ref gtoldAt, .ref guntoldAt]))])) (va_A [(x, .inr (11, [.ref xtape, .int xtapeLength, .ref xreader, .ref xland, .ref xspareLand, .ref xstates, .int xcurrent, .int xnewest, .ref xboxes, .int xfullBoxes, .ref xsearch, .ref xsights, .ref xparting, .ref xheap])), (xsights, .inr (8, [.int gtime, .int gcount, .ref greasons, .ref gdays, .ref gtoldAt, .ref guntoldAt]))] sz)) 0 0 (va_A [(x, .inr (11, [.ref xtape, .int xtapeLength, .ref xreader, .ref xland, .ref xspareLand, .ref xstates, .int xcurrent, .int xnewest, .ref xboxes, .int xfullBoxes, .ref xsearch, .ref xsights, .ref xparting, .ref xheap])), (xsights, .inr (8, [.int gtime, .int gcount, .ref greasons, .ref gdays, .ref gtoldAt, .ref guntoldAt]))] sz) := by
  refine Met.ofW (cc := cX11_later) (maxL := 2) (ret := (some .int)) (by decide) rfl ?_
  intro p e s m args below meth c s₁ B hml hv
  obtain ⟨rfl, hsz, hP, hK, hD0, hX⟩ := hv
  have hx := B.exec
  have hb := B.bytes
  have hr := B.returns
  have hT : ∀ w ∈ gT, w.before _ s = true := fun w h => atoms_spec (ws := .code yX11_later cX11_later 2 (some .int) :: gT) B.pre w (List.mem_cons_of_mem _ h)
  have hown : s.vm.findClass RX11 = some m.cls := findClass_of_methodNamed B.named
  have hlocks := B.notSynchronized
  subst hsz
  have hD := hD0.self (sz := s.heap.size)
  generalize hAe : va_A [(x, .inr (11, [.ref xtape, .int xtapeLength, .ref xreader, .ref xland, .ref xspareLand, .ref xstates, .int xcurrent, .int xnewest, .ref xboxes, .int xfullBoxes, .ref xsearch, .ref xsights, .ref xparting, .ref xheap])), (xsights, .inr (8, [.int gtime, .int gcount, .ref greasons, .ref gdays, .ref gtoldAt, .ref guntoldAt]))] s.heap.size = A at hD ⊢
  have hA : ∀ q : Nat, s.heap.size ≤ q → A q := fun q h => by rw [← hAe]; exact Or.inr h
  have hS : va_S A s.heap s.heap [] := va_S.rf
  have hl := lv_entry ([.ref x, .int p0]) (n := 2) (Nat.le_of_ble_eq_true rfl)
  rw [lg_entry_eq]
  generalize (lg_sl ([.ref x, .int p0]) ++ List.replicate (2 - (lg_sl ([.ref x, .int p0])).length) Slot.unset).toArray = ls at hl ⊢
  have hl : lv_has ls 2 [(0, .ref x), (1, .int p0)] := hl
  refine p_nH (fun H hH => ?_)
  have hP : va_P g.1 vwCl [(x, .inr (11, [.ref xtape, .int xtapeLength, .ref xreader, .ref xland, .ref xspareLand, .ref xstates, .int xcurrent, .int xnewest, .ref xboxes, .int xfullBoxes, .ref xsearch, .ref xsights, .ref xparting, .ref xheap])), (xsights, .inr (8, [.int gtime, .int gcount, .ref greasons, .ref gdays, .ref gtoldAt, .ref guntoldAt]))] H := by rw [hH]; exact hP
  have hS : va_S A s.heap H [] := by rw [hH]; exact hS
  refine lv_iload_n hx hb dX11_later_0 rfl (lv_at hl 1 rfl) ?_
  refine lv_if_lt (tgt := 26) hx hb dX11_later_1 (by decide) (fun c_1 => ?_) (fun c_1 => ?_)
  · have f_2 := E_lt (rfl : p0.toInt = _) (by decide : (0 : Int32).toInt = 0) c_1
    refine lv_iconst (v := (-1)) hx hb dX11_later_26 (by decide) ?_
    have hP9 : va_P g.1 vwCl [(x, .inr (11, [.ref xtape, .int xtapeLength, .ref xreader, .ref xland, .ref xspareLand, .ref xstates, .int xcurrent, .int xnewest, .ref xboxes, .int xfullBoxes, .ref xsearch, .ref xsights, .ref xparting, .ref xheap])), (xsights, .inr (8, [.int gtime, .int gcount, .ref greasons, .ref gdays, .ref gtoldAt, .ref guntoldAt]))] H := hP.sub [0, 1] rfl
    have hD9 : va_D A [(x, .inr (11, [.ref xtape, .int xtapeLength, .ref xreader, .ref xland, .ref xspareLand, .ref xstates, .int xcurrent, .int xnewest, .ref xboxes, .int xfullBoxes, .ref xsearch, .ref xsights, .ref xparting, .ref xheap])), (xsights, .inr (8, [.int gtime, .int gcount, .ref greasons, .ref gdays, .ref gtoldAt, .ref guntoldAt]))] := hD.sub [0, 1] (by decide +kernel) rfl
    exact W.iret (v := (-1)) hx hb hr (fun t ht hW => ⟨⟨(-1), gtime, rfl, ⟨⟨by decide, by decide⟩, ⟨by rw [Fl, if_neg (by omega)], by rw [Ft, if_neg (by omega)]⟩, (by first | with_reducible assumption | omega)⟩, by rw [ht]; exact hP9, by rw [hAe]; exact hD9⟩, hS.F ht⟩) hS.2.2 dX11_later_27
  · have f_3 := E_nlt (rfl : p0.toInt = _) (by decide : (0 : Int32).toInt = 0) c_1
    refine lv_iload_n hx hb dX11_later_4 rfl (lv_at hl 1 rfl) ?_
    refine lv_sipush (v := 1000) hx hb dX11_later_5 (by decide) ?_
    refine lv_icmp_gt (tgt := 26) hx hb dX11_later_8 (by decide) (fun c_4 => ?_) (fun c_4 => ?_)
    · have f_5 := E_lt (by decide : (1000 : Int32).toInt = 1000) (rfl : p0.toInt = _) c_4
      refine lv_iconst (v := (-1)) hx hb dX11_later_26 (by decide) ?_
      have hP9 : va_P g.1 vwCl [(x, .inr (11, [.ref xtape, .int xtapeLength, .ref xreader, .ref xland, .ref xspareLand, .ref xstates, .int xcurrent, .int xnewest, .ref xboxes, .int xfullBoxes, .ref xsearch, .ref xsights, .ref xparting, .ref xheap])), (xsights, .inr (8, [.int gtime, .int gcount, .ref greasons, .ref gdays, .ref gtoldAt, .ref guntoldAt]))] H := hP.sub [0, 1] rfl
      have hD9 : va_D A [(x, .inr (11, [.ref xtape, .int xtapeLength, .ref xreader, .ref xland, .ref xspareLand, .ref xstates, .int xcurrent, .int xnewest, .ref xboxes, .int xfullBoxes, .ref xsearch, .ref xsights, .ref xparting, .ref xheap])), (xsights, .inr (8, [.int gtime, .int gcount, .ref greasons, .ref gdays, .ref gtoldAt, .ref guntoldAt]))] := hD.sub [0, 1] (by decide +kernel) rfl
      exact W.iret (v := (-1)) hx hb hr (fun t ht hW => ⟨⟨(-1), gtime, rfl, ⟨⟨by decide, by decide⟩, ⟨by rw [Fl, if_neg (by omega)], by rw [Ft, if_neg (by omega)]⟩, (by first | with_reducible assumption | omega)⟩, by rw [ht]; exact hP9, by rw [hAe]; exact hD9⟩, hS.F ht⟩) hS.2.2 dX11_later_27
    · have f_6 := E_nlt (by decide : (1000 : Int32).toInt = 1000) (rfl : p0.toInt = _) c_4
      refine lv_aload_n hx hb dX11_later_11 rfl (lv_at hl 0 rfl) ?_
      refine va_get (D := g.1) (ci := 11) (v := .ref xsights) (C := RX11) (T := TX11) (N := 14) hx hb hT inF_X11 hown hK.1 hP 0 rfl rfl 11 (by decide) (hT _ bw_336) (fun _ h9 => h9) rfl dX11_later_12 ?_
      refine va_get (D := g.1) (ci := 8) (v := .int gtime) (C := RX8) (T := TX8) (N := 6) hx hb hT inF_X8 hown hK.1 hP 1 rfl rfl 0 (by decide) (hT _ bw_338) (fun _ h9 => h9) rfl dX11_later_15 ?_
      refine lv_iload_n hx hb dX11_later_18 rfl (lv_at hl 1 rfl) ?_
      refine lv_iadd hx hb dX11_later_19 ?_
      refine lv_topi (fun x_7 ex_7 => ?_)
      have fx_7 : x_7.toInt = gtime.toInt + p0.toInt := by rw [ex_7]; exact I_add rfl rfl (by omega) (by omega)
      refine lv_ldcw (v := 100000) hx hb hown (hT _ bw_377) dX11_later_20 ?_
      refine lv_icmp_le (tgt := 28) hx hb dX11_later_23 (by decide) (fun c_8 => ?_) (fun c_8 => ?_)
      · have f_9 := E_le (rfl : x_7.toInt = _) (by decide : (100000 : Int32).toInt = 100000) c_8
        refine lv_aload_n hx hb dX11_later_28 rfl (lv_at hl 0 rfl) ?_
        refine va_get (D := g.1) (ci := 11) (v := .ref xsights) (C := RX11) (T := TX11) (N := 14) hx hb hT inF_X11 hown hK.1 hP 0 rfl rfl 11 (by decide) (hT _ bw_336) (fun _ h9 => h9) rfl dX11_later_29 ?_
        refine lv_dup hx hb dX11_later_32 rfl ?_
        refine va_get (D := g.1) (ci := 8) (v := .int gtime) (C := RX8) (T := TX8) (N := 6) hx hb hT inF_X8 hown hK.1 hP 1 rfl rfl 0 (by decide) (hT _ bw_338) (fun _ h9 => h9) rfl dX11_later_33 ?_
        refine lv_iload_n hx hb dX11_later_36 rfl (lv_at hl 1 rfl) ?_
        refine lv_iadd hx hb dX11_later_37 ?_
        refine lv_topi (fun x_10 ex_10 => ?_)
        have fx_10 : x_10.toInt = gtime.toInt + p0.toInt := by rw [ex_10]; exact I_add rfl rfl (by omega) (by omega)
        refine va_put (D := g.1) (ci := 8) (v := .int x_10) (ty := .int) (C := RX8) (T := TX8) (N := 6) hx hb hT inF_X8 tyX8 tyX8_ok nmX8 hown hK.1 hP hD hS 1 rfl rfl 0 (by decide) (hT _ bw_338) (fun _ h9 => h9) rfl (by decide +kernel) rfl rfl (Nat.le_of_ble_eq_true rfl) dX11_later_38 (fun H locs hP hD hS => ?_)
        have hP : va_P g.1 vwCl [(x, .inr (11, [.ref xtape, .int xtapeLength, .ref xreader, .ref xland, .ref xspareLand, .ref xstates, .int xcurrent, .int xnewest, .ref xboxes, .int xfullBoxes, .ref xsearch, .ref xsights, .ref xparting, .ref xheap])), (xsights, .inr (8, [.int x_10, .int gcount, .ref greasons, .ref gdays, .ref gtoldAt, .ref guntoldAt]))] H := hP
        have hD : va_D A [(x, .inr (11, [.ref xtape, .int xtapeLength, .ref xreader, .ref xland, .ref xspareLand, .ref xstates, .int xcurrent, .int xnewest, .ref xboxes, .int xfullBoxes, .ref xsearch, .ref xsights, .ref xparting, .ref xheap])), (xsights, .inr (8, [.int x_10, .int gcount, .ref greasons, .ref gdays, .ref gtoldAt, .ref guntoldAt]))] := hD
        refine lv_aload_n hx hb dX11_later_41 rfl (lv_at hl 0 rfl) ?_
        refine va_get (D := g.1) (ci := 11) (v := .ref xsights) (C := RX11) (T := TX11) (N := 14) hx hb hT inF_X11 hown hK.1 hP 0 rfl rfl 11 (by decide) (hT _ bw_336) (fun _ h9 => h9) rfl dX11_later_42 ?_
        refine va_get (D := g.1) (ci := 8) (v := .int x_10) (C := RX8) (T := TX8) (N := 6) hx hb hT inF_X8 hown hK.1 hP 1 rfl rfl 0 (by decide) (hT _ bw_338) (fun _ h9 => h9) rfl dX11_later_45 ?_
        have hP9 : va_P g.1 vwCl [(x, .inr (11, [.ref xtape, .int xtapeLength, .ref xreader, .ref xland, .ref xspareLand, .ref xstates, .int xcurrent, .int xnewest, .ref xboxes, .int xfullBoxes, .ref xsearch, .ref xsights, .ref xparting, .ref xheap])), (xsights, .inr (8, [.int x_10, .int gcount, .ref greasons, .ref gdays, .ref gtoldAt, .ref guntoldAt]))] H := hP.sub [0, 1] rfl
        have hD9 : va_D A [(x, .inr (11, [.ref xtape, .int xtapeLength, .ref xreader, .ref xland, .ref xspareLand, .ref xstates, .int xcurrent, .int xnewest, .ref xboxes, .int xfullBoxes, .ref xsearch, .ref xsights, .ref xparting, .ref xheap])), (xsights, .inr (8, [.int x_10, .int gcount, .ref greasons, .ref gdays, .ref gtoldAt, .ref guntoldAt]))] := hD.sub [0, 1] (by decide +kernel) rfl
        exact W.iret (v := x_10) hx hb hr (fun t ht hW => ⟨⟨x_10, x_10, rfl, ⟨(by first | with_reducible assumption | omega), ⟨by rw [Fl, if_pos (by omega)]; exact ex_10, by rw [Ft, if_pos (by omega)]; exact ex_10⟩, (by first | with_reducible assumption | omega)⟩, by rw [ht]; exact hP9, by rw [hAe]; exact hD9⟩, hS.F ht⟩) hS.2.2 dX11_later_48
      · have f_11 := E_nle (rfl : x_7.toInt = _) (by decide : (100000 : Int32).toInt = 100000) c_8
        refine lv_iconst (v := (-1)) hx hb dX11_later_26 (by decide) ?_
        have hP9 : va_P g.1 vwCl [(x, .inr (11, [.ref xtape, .int xtapeLength, .ref xreader, .ref xland, .ref xspareLand, .ref xstates, .int xcurrent, .int xnewest, .ref xboxes, .int xfullBoxes, .ref xsearch, .ref xsights, .ref xparting, .ref xheap])), (xsights, .inr (8, [.int gtime, .int gcount, .ref greasons, .ref gdays, .ref gtoldAt, .ref guntoldAt]))] H := hP.sub [0, 1] rfl
        have hD9 : va_D A [(x, .inr (11, [.ref xtape, .int xtapeLength, .ref xreader, .ref xland, .ref xspareLand, .ref xstates, .int xcurrent, .int xnewest, .ref xboxes, .int xfullBoxes, .ref xsearch, .ref xsights, .ref xparting, .ref xheap])), (xsights, .inr (8, [.int gtime, .int gcount, .ref greasons, .ref gdays, .ref gtoldAt, .ref guntoldAt]))] := hD.sub [0, 1] (by decide +kernel) rfl
        exact W.iret (v := (-1)) hx hb hr (fun t ht hW => ⟨⟨(-1), gtime, rfl, ⟨⟨by decide, by decide⟩, ⟨by rw [Fl, if_neg (by omega)], by rw [Ft, if_neg (by omega)]⟩, (by first | with_reducible assumption | omega)⟩, by rw [ht]; exact hP9, by rw [hAe]; exact hD9⟩, hS.F ht⟩) hS.2.2 dX11_later_27

set_option maxHeartbeats 4000000 in
set_option maxRecDepth 100000 in
theorem s_X4_duelOf_w (l : Launch) (g : GG) (sz : Nat) (p0 : Int32) (hh0 : 0 ≤ p0.toInt ∧ p0.toInt ≤ 128) : Met l yX4_duelOf (.code yX4_duelOf cX4_duelOf 1 (some .int) :: gT) ({ frames := 0, cells := 0, slots := 0, locals := 0 }) (va_Pc [.int p0] (Pst g sz [] nX)) (va_Qi (fun (r : Int32) => fun (_ : Unit) => 0 ≤ r.toInt ∧ r.toInt ≤ 8) (Qst g [] sz (fun _ => [])) (va_A [] sz)) 0 0 (va_A [] sz) := by
  refine Met.ofW (cc := cX4_duelOf) (maxL := 1) (ret := (some .int)) (by decide) rfl ?_
  intro p e s m args below meth c s₁ B hml hv
  obtain ⟨rfl, hsz, hP, hK, hD0, hX⟩ := hv
  have hx := B.exec
  have hb := B.bytes
  have hr := B.returns
  have hT : ∀ w ∈ gT, w.before _ s = true := fun w h => atoms_spec (ws := .code yX4_duelOf cX4_duelOf 1 (some .int) :: gT) B.pre w (List.mem_cons_of_mem _ h)
  have hown : s.vm.findClass RX4 = some m.cls := findClass_of_methodNamed B.named
  have hlocks := B.notSynchronized
  subst hsz
  have hD := hD0
  generalize hAe : va_A [] s.heap.size = A at ⊢
  have hA : ∀ q : Nat, s.heap.size ≤ q → A q := fun q h => by rw [← hAe]; exact Or.inr h
  have hS : va_S A s.heap s.heap [] := va_S.rf
  have hl := lv_entry ([.int p0]) (n := 1) (Nat.le_of_ble_eq_true rfl)
  rw [lg_entry_eq]
  generalize (lg_sl ([.int p0]) ++ List.replicate (1 - (lg_sl ([.int p0])).length) Slot.unset).toArray = ls at hl ⊢
  have hl : lv_has ls 1 [(0, .int p0)] := hl
  refine p_nH (fun H hH => ?_)
  have hP : va_P g.1 vwCl [] H := by rw [hH]; exact hP
  have hS : va_S A s.heap H [] := by rw [hH]; exact hS
  refine lv_iload_n hx hb dX4_duelOf_0 rfl (lv_at hl 0 rfl) ?_
  refine lv_bipush (v := 16) hx hb dX4_duelOf_1 (by decide) ?_
  refine lv_idiv hx hb dX4_duelOf_3 (by decide) ?_
  refine lv_topi (fun x_1 ex_1 => ?_)
  have fx_1 : x_1.toInt = p0.toInt / 16 := by rw [ex_1]; exact I_div rfl (by decide : (16 : Int32).toInt = 16) (by omega) (by decide)
  have hP9 : va_P g.1 vwCl [] H := hP.sub [] rfl
  have hD9 : va_D A [] := ⟨fun i j p q h => by simp at h, fun k q h => by simp at h⟩
  exact W.iret (v := x_1) hx hb hr (fun t ht hW => ⟨⟨x_1, (), rfl, (by first | with_reducible assumption | omega), by rw [ht]; exact hP9, by rw [hAe]; exact hD9⟩, hS.F ht⟩) hS.2.2 dX4_duelOf_4

set_option maxHeartbeats 4000000 in
set_option maxRecDepth 100000 in
theorem s_X4_sideOf_w (l : Launch) (g : GG) (sz : Nat) (p0 : Int32) (hh0 : 0 ≤ p0.toInt ∧ p0.toInt ≤ 128) : Met l yX4_sideOf (.code yX4_sideOf cX4_sideOf 1 (some .int) :: gT) ({ frames := 0, cells := 0, slots := 0, locals := 0 }) (va_Pc [.int p0] (Pst g sz [] nX)) (va_Qi (fun (r : Int32) => fun (_ : Unit) => 0 ≤ r.toInt ∧ r.toInt ≤ 1) (Qst g [] sz (fun _ => [])) (va_A [] sz)) 0 0 (va_A [] sz) := by
  refine Met.ofW (cc := cX4_sideOf) (maxL := 1) (ret := (some .int)) (by decide) rfl ?_
  intro p e s m args below meth c s₁ B hml hv
  obtain ⟨rfl, hsz, hP, hK, hD0, hX⟩ := hv
  have hx := B.exec
  have hb := B.bytes
  have hr := B.returns
  have hT : ∀ w ∈ gT, w.before _ s = true := fun w h => atoms_spec (ws := .code yX4_sideOf cX4_sideOf 1 (some .int) :: gT) B.pre w (List.mem_cons_of_mem _ h)
  have hown : s.vm.findClass RX4 = some m.cls := findClass_of_methodNamed B.named
  have hlocks := B.notSynchronized
  subst hsz
  have hD := hD0
  generalize hAe : va_A [] s.heap.size = A at ⊢
  have hA : ∀ q : Nat, s.heap.size ≤ q → A q := fun q h => by rw [← hAe]; exact Or.inr h
  have hS : va_S A s.heap s.heap [] := va_S.rf
  have hl := lv_entry ([.int p0]) (n := 1) (Nat.le_of_ble_eq_true rfl)
  rw [lg_entry_eq]
  generalize (lg_sl ([.int p0]) ++ List.replicate (1 - (lg_sl ([.int p0])).length) Slot.unset).toArray = ls at hl ⊢
  have hl : lv_has ls 1 [(0, .int p0)] := hl
  refine p_nH (fun H hH => ?_)
  have hP : va_P g.1 vwCl [] H := by rw [hH]; exact hP
  have hS : va_S A s.heap H [] := by rw [hH]; exact hS
  refine lv_iload_n hx hb dX4_sideOf_0 rfl (lv_at hl 0 rfl) ?_
  refine lv_bipush (v := 16) hx hb dX4_sideOf_1 (by decide) ?_
  refine lv_irem hx hb dX4_sideOf_3 (by decide) ?_
  refine lv_topi (fun x_1 ex_1 => ?_)
  have fx_1 : x_1.toInt = p0.toInt % 16 := by rw [ex_1]; exact I_rem rfl (by decide : (16 : Int32).toInt = 16) (by omega) (by decide)
  refine lv_bipush (v := 8) hx hb dX4_sideOf_4 (by decide) ?_
  refine lv_idiv hx hb dX4_sideOf_6 (by decide) ?_
  refine lv_topi (fun x_2 ex_2 => ?_)
  have fx_2 : x_2.toInt = x_1.toInt / 8 := by rw [ex_2]; exact I_div rfl (by decide : (8 : Int32).toInt = 8) (by omega) (by decide)
  have hP9 : va_P g.1 vwCl [] H := hP.sub [] rfl
  have hD9 : va_D A [] := ⟨fun i j p q h => by simp at h, fun k q h => by simp at h⟩
  exact W.iret (v := x_2) hx hb hr (fun t ht hW => ⟨⟨x_2, (), rfl, (by first | with_reducible assumption | omega), by rw [ht]; exact hP9, by rw [hAe]; exact hD9⟩, hS.F ht⟩) hS.2.2 dX4_sideOf_7

set_option maxHeartbeats 4000000 in
set_option maxRecDepth 100000 in
theorem s_X4_reasonOf_w (l : Launch) (g : GG) (sz : Nat) (p0 : Int32) (hh0 : 0 ≤ p0.toInt ∧ p0.toInt ≤ 128) : Met l yX4_reasonOf (.code yX4_reasonOf cX4_reasonOf 1 (some .int) :: gT) ({ frames := 0, cells := 0, slots := 0, locals := 0 }) (va_Pc [.int p0] (Pst g sz [] nX)) (va_Qi (fun (r : Int32) => fun (_ : Unit) => 0 ≤ r.toInt ∧ r.toInt ≤ 7) (Qst g [] sz (fun _ => [])) (va_A [] sz)) 0 0 (va_A [] sz) := by
  refine Met.ofW (cc := cX4_reasonOf) (maxL := 1) (ret := (some .int)) (by decide) rfl ?_
  intro p e s m args below meth c s₁ B hml hv
  obtain ⟨rfl, hsz, hP, hK, hD0, hX⟩ := hv
  have hx := B.exec
  have hb := B.bytes
  have hr := B.returns
  have hT : ∀ w ∈ gT, w.before _ s = true := fun w h => atoms_spec (ws := .code yX4_reasonOf cX4_reasonOf 1 (some .int) :: gT) B.pre w (List.mem_cons_of_mem _ h)
  have hown : s.vm.findClass RX4 = some m.cls := findClass_of_methodNamed B.named
  have hlocks := B.notSynchronized
  subst hsz
  have hD := hD0
  generalize hAe : va_A [] s.heap.size = A at ⊢
  have hA : ∀ q : Nat, s.heap.size ≤ q → A q := fun q h => by rw [← hAe]; exact Or.inr h
  have hS : va_S A s.heap s.heap [] := va_S.rf
  have hl := lv_entry ([.int p0]) (n := 1) (Nat.le_of_ble_eq_true rfl)
  rw [lg_entry_eq]
  generalize (lg_sl ([.int p0]) ++ List.replicate (1 - (lg_sl ([.int p0])).length) Slot.unset).toArray = ls at hl ⊢
  have hl : lv_has ls 1 [(0, .int p0)] := hl
  refine p_nH (fun H hH => ?_)
  have hP : va_P g.1 vwCl [] H := by rw [hH]; exact hP
  have hS : va_S A s.heap H [] := by rw [hH]; exact hS
  refine lv_iload_n hx hb dX4_reasonOf_0 rfl (lv_at hl 0 rfl) ?_
  refine lv_bipush (v := 8) hx hb dX4_reasonOf_1 (by decide) ?_
  refine lv_irem hx hb dX4_reasonOf_3 (by decide) ?_
  refine lv_topi (fun x_1 ex_1 => ?_)
  have fx_1 : x_1.toInt = p0.toInt % 8 := by rw [ex_1]; exact I_rem rfl (by decide : (8 : Int32).toInt = 8) (by omega) (by decide)
  have hP9 : va_P g.1 vwCl [] H := hP.sub [] rfl
  have hD9 : va_D A [] := ⟨fun i j p q h => by simp at h, fun k q h => by simp at h⟩
  exact W.iret (v := x_1) hx hb hr (fun t ht hW => ⟨⟨x_1, (), rfl, (by first | with_reducible assumption | omega), by rw [ht]; exact hP9, by rw [hAe]; exact hD9⟩, hS.F ht⟩) hS.2.2 dX4_reasonOf_4

theorem bw_379 : Cond.code yX4_told cX4_told 1 (some .int) ∈ gT := gT_tb 1229 (by decide +kernel) (by decide +kernel)
theorem dX4_told_0 : decode cX4_told 0 = .ok (.bipush 100, 2) := by decide +kernel
theorem dX4_told_2 : decode cX4_told 2 = .ok (.iload_n 0, 1) := by decide +kernel
theorem dX4_told_3 : decode cX4_told 3 = .ok (.invokestatic 18, 3) := by decide +kernel
theorem dX4_told_6 : decode cX4_told 6 = .ok (.imul, 1) := by decide +kernel
theorem dX4_told_7 : decode cX4_told 7 = .ok (.bipush 10, 2) := by decide +kernel
theorem dX4_told_9 : decode cX4_told 9 = .ok (.iload_n 0, 1) := by decide +kernel
theorem dX4_told_10 : decode cX4_told 10 = .ok (.invokestatic 22, 3) := by decide +kernel
theorem dX4_told_13 : decode cX4_told 13 = .ok (.imul, 1) := by decide +kernel
theorem dX4_told_14 : decode cX4_told 14 = .ok (.iadd, 1) := by decide +kernel
theorem dX4_told_15 : decode cX4_told 15 = .ok (.iload_n 0, 1) := by decide +kernel
theorem dX4_told_16 : decode cX4_told 16 = .ok (.invokestatic 25, 3) := by decide +kernel
theorem dX4_told_19 : decode cX4_told 19 = .ok (.iadd, 1) := by decide +kernel
theorem dX4_told_20 : decode cX4_told 20 = .ok (.ireturn, 1) := by decide +kernel
set_option maxHeartbeats 4000000 in
set_option maxRecDepth 100000 in
theorem s_X4_told (l : Launch) (g : GG) (sz : Nat) (p0 : Int32) (hh0 : 0 ≤ p0.toInt ∧ p0.toInt ≤ 128) : Met l yX4_told (.code yX4_told cX4_told 1 (some .int) :: gT) ({ frames := 1, cells := 0, slots := 0, locals := 20 }) (va_Pc [.int p0] (Pst g sz [] nX)) (va_Qi (fun (r : Int32) => fun (_ : Unit) => 0 ≤ r.toInt ∧ r.toInt ≤ 817) (Qst g [] sz (fun _ => [])) (va_A [] sz)) 0 0 (va_A [] sz) := by
  refine Met.ofW (cc := cX4_told) (maxL := 1) (ret := (some .int)) (by decide) rfl ?_
  intro p e s m args below meth c s₁ B hml hv
  obtain ⟨rfl, hsz, hP, hK, hD0, hX⟩ := hv
  have hx := B.exec
  have hb := B.bytes
  have hr := B.returns
  have hT : ∀ w ∈ gT, w.before _ s = true := fun w h => atoms_spec (ws := .code yX4_told cX4_told 1 (some .int) :: gT) B.pre w (List.mem_cons_of_mem _ h)
  have hown : s.vm.findClass RX4 = some m.cls := findClass_of_methodNamed B.named
  have hlocks := B.notSynchronized
  subst hsz
  have hD := hD0
  generalize hAe : va_A [] s.heap.size = A at ⊢
  have hA : ∀ q : Nat, s.heap.size ≤ q → A q := fun q h => by rw [← hAe]; exact Or.inr h
  have hS : va_S A s.heap s.heap [] := va_S.rf
  have hl := lv_entry ([.int p0]) (n := 1) (Nat.le_of_ble_eq_true rfl)
  rw [lg_entry_eq]
  generalize (lg_sl ([.int p0]) ++ List.replicate (1 - (lg_sl ([.int p0])).length) Slot.unset).toArray = ls at hl ⊢
  have hl : lv_has ls 1 [(0, .int p0)] := hl
  refine p_nH (fun H hH => ?_)
  have hP : va_P g.1 vwCl [] H := by rw [hH]; exact hP
  have hS : va_S A s.heap H [] := by rw [hH]; exact hS
  refine lv_bipush (v := 100) hx hb dX4_told_0 (by decide) ?_
  refine lv_iload_n hx hb dX4_told_2 rfl (lv_at hl 0 rfl) ?_
  refine k_iR (k_S (n := 1) ⟨hx, hb, hml, hown, hT⟩ hK hP hD [] rfl (by decide +kernel) (s_X4_duelOf_w l g H.size p0 (by first | with_reducible assumption | omega)) (gS bw_217 bw_218 bw_219 bw_214) rfl rfl (by decide +kernel) ⟨by decide, by decide⟩ (fun _ _ _ _ _ => trivial) (fun _ _ _ => trivial) rfl rfl hl.1 (Nat.le_of_ble_eq_true rfl) dX4_told_3 ⟨by decide, by decide⟩) hP hS hA (fun r_1 _ H locs hw0 hP hS => ?_)
  have hw : 0 ≤ r_1.toInt ∧ r_1.toInt ≤ 8 := hw0
  clear hw0
  have w_2 := hw
  refine lv_imul hx hb dX4_told_6 ?_
  refine lv_topi (fun x_3 ex_3 => ?_)
  have fx_3 : x_3.toInt = 100 * r_1.toInt := by rw [ex_3]; exact I_mul (by decide : (100 : Int32).toInt = 100) rfl (by omega) (by omega)
  refine lv_bipush (v := 10) hx hb dX4_told_7 (by decide) ?_
  refine lv_iload_n hx hb dX4_told_9 rfl (lv_at hl 0 rfl) ?_
  refine k_iR (k_S (n := 1) ⟨hx, hb, hml, hown, hT⟩ hK hP hD [] rfl (by decide +kernel) (s_X4_sideOf_w l g H.size p0 (by first | with_reducible assumption | omega)) (gS bw_250 bw_251 bw_252 bw_215) rfl rfl (by decide +kernel) ⟨by decide, by decide⟩ (fun _ _ _ _ _ => trivial) (fun _ _ _ => trivial) rfl rfl hl.1 (Nat.le_of_ble_eq_true rfl) dX4_told_10 ⟨by decide, by decide⟩) hP hS hA (fun r_4 _ H locs hw0 hP hS => ?_)
  have hw : 0 ≤ r_4.toInt ∧ r_4.toInt ≤ 1 := hw0
  clear hw0
  have w_5 := hw
  refine lv_imul hx hb dX4_told_13 ?_
  refine lv_topi (fun x_6 ex_6 => ?_)
  have fx_6 : x_6.toInt = 10 * r_4.toInt := by rw [ex_6]; exact I_mul (by decide : (10 : Int32).toInt = 10) rfl (by omega) (by omega)
  refine lv_iadd hx hb dX4_told_14 ?_
  refine lv_topi (fun x_7 ex_7 => ?_)
  have fx_7 : x_7.toInt = x_3.toInt + x_6.toInt := by rw [ex_7]; exact I_add rfl rfl (by omega) (by omega)
  refine lv_iload_n hx hb dX4_told_15 rfl (lv_at hl 0 rfl) ?_
  refine k_iR (k_S (n := 1) ⟨hx, hb, hml, hown, hT⟩ hK hP hD [] rfl (by decide +kernel) (s_X4_reasonOf_w l g H.size p0 (by first | with_reducible assumption | omega)) (gS bw_232 bw_233 bw_234 bw_216) rfl rfl (by decide +kernel) ⟨by decide, by decide⟩ (fun _ _ _ _ _ => trivial) (fun _ _ _ => trivial) rfl rfl hl.1 (Nat.le_of_ble_eq_true rfl) dX4_told_16 ⟨by decide, by decide⟩) hP hS hA (fun r_8 _ H locs hw0 hP hS => ?_)
  have hw : 0 ≤ r_8.toInt ∧ r_8.toInt ≤ 7 := hw0
  clear hw0
  have w_9 := hw
  refine lv_iadd hx hb dX4_told_19 ?_
  refine lv_topi (fun x_10 ex_10 => ?_)
  have fx_10 : x_10.toInt = x_7.toInt + r_8.toInt := by rw [ex_10]; exact I_add rfl rfl (by omega) (by omega)
  have hP9 : va_P g.1 vwCl [] H := hP.sub [] rfl
  have hD9 : va_D A [] := ⟨fun i j p q h => by simp at h, fun k q h => by simp at h⟩
  exact W.iret (v := x_10) hx hb hr (fun t ht hW => ⟨⟨x_10, (), rfl, (by first | with_reducible assumption | omega), by rw [ht]; exact hP9, by rw [hAe]; exact hD9⟩, hS.F ht⟩) hS.2.2 dX4_told_20

theorem bw_380 : Cond.fieldLink RX11 56 "DuelDelays" "parting" "LDuelDelays$Parting;" ∈ gT := gT_tb 533 (by decide +kernel) (by decide +kernel)
theorem bw_381 : Cond.methodLink RX11 294 yX4_find ∈ gT := gT_tb 1186 (by decide +kernel) (by decide +kernel)
theorem bw_382 : Cond.instanceMethod yX4_find ∈ gT := gT_tb 1187 (by decide +kernel) (by decide +kernel)
theorem bw_383 : Cond.selects RX4 yX4_find yX4_find ∈ gT := gT_tb 1188 (by decide +kernel) (by decide +kernel)
theorem bw_384 : Cond.fieldLink RX11 298 "DuelDelays$Parting" "first" "I" ∈ gT := gT_tb 414 (by decide +kernel) (by decide +kernel)
theorem bw_385 : Cond.methodLink RX11 301 yX4_told ∈ gT := gT_tb 1227 (by decide +kernel) (by decide +kernel)
theorem bw_386 : Cond.static yX4_told ∈ gT := gT_tb 1228 (by decide +kernel) (by decide +kernel)
theorem bw_387 : Cond.initialized yX4_told.cls ∈ gT := gT_tb 14 (by decide +kernel) (by decide +kernel)
theorem bw_388 : Cond.fieldLink RX11 304 "DuelDelays$Parting" "second" "I" ∈ gT := gT_tb 416 (by decide +kernel) (by decide +kernel)
theorem bw_389 : Cond.code yX11_part cX11_part 3 (some .int) ∈ gT := gT_tb 1185 (by decide +kernel) (by decide +kernel)
theorem dX11_part_0 : decode cX11_part 0 = .ok (.aload_n 0, 1) := by decide +kernel
theorem dX11_part_1 : decode cX11_part 1 = .ok (.getfield 63, 3) := by decide +kernel
theorem dX11_part_4 : decode cX11_part 4 = .ok (.invokevirtual 93, 3) := by decide +kernel
theorem dX11_part_7 : decode cX11_part 7 = .ok (.aload_n 0, 1) := by decide +kernel
theorem dX11_part_8 : decode cX11_part 8 = .ok (.getfield 23, 3) := by decide +kernel
theorem dX11_part_11 : decode cX11_part 11 = .ok (.getfield 97, 3) := by decide +kernel
theorem dX11_part_14 : decode cX11_part 14 = .ok (.iload_n 1, 1) := by decide +kernel
theorem dX11_part_15 : decode cX11_part 15 = .ok (.invokevirtual 112, 3) := by decide +kernel
theorem dX11_part_18 : decode cX11_part 18 = .ok (.ifCond .ne 5, 3) := by decide +kernel
theorem dX11_part_21 : decode cX11_part 21 = .ok (.iconst (-1), 1) := by decide +kernel
theorem dX11_part_22 : decode cX11_part 22 = .ok (.ireturn, 1) := by decide +kernel
theorem dX11_part_23 : decode cX11_part 23 = .ok (.aload_n 0, 1) := by decide +kernel
theorem dX11_part_24 : decode cX11_part 24 = .ok (.getfield 56, 3) := by decide +kernel
theorem dX11_part_27 : decode cX11_part 27 = .ok (.aload_n 0, 1) := by decide +kernel
theorem dX11_part_28 : decode cX11_part 28 = .ok (.getfield 23, 3) := by decide +kernel
theorem dX11_part_31 : decode cX11_part 31 = .ok (.aload_n 0, 1) := by decide +kernel
theorem dX11_part_32 : decode cX11_part 32 = .ok (.getfield 32, 3) := by decide +kernel
theorem dX11_part_35 : decode cX11_part 35 = .ok (.aload_n 0, 1) := by decide +kernel
theorem dX11_part_36 : decode cX11_part 36 = .ok (.getfield 84, 3) := by decide +kernel
theorem dX11_part_39 : decode cX11_part 39 = .ok (.aaload, 1) := by decide +kernel
theorem dX11_part_40 : decode cX11_part 40 = .ok (.iload_n 1, 1) := by decide +kernel
theorem dX11_part_41 : decode cX11_part 41 = .ok (.invokevirtual 294, 3) := by decide +kernel
theorem dX11_part_44 : decode cX11_part 44 = .ok (.istore_n 2, 1) := by decide +kernel
theorem dX11_part_45 : decode cX11_part 45 = .ok (.iload_n 2, 1) := by decide +kernel
theorem dX11_part_46 : decode cX11_part 46 = .ok (.ifCond .le 20, 3) := by decide +kernel
theorem dX11_part_49 : decode cX11_part 49 = .ok (.aload_n 0, 1) := by decide +kernel
theorem dX11_part_50 : decode cX11_part 50 = .ok (.getfield 63, 3) := by decide +kernel
theorem dX11_part_53 : decode cX11_part 53 = .ok (.aload_n 0, 1) := by decide +kernel
theorem dX11_part_54 : decode cX11_part 54 = .ok (.getfield 56, 3) := by decide +kernel
theorem dX11_part_57 : decode cX11_part 57 = .ok (.getfield 298, 3) := by decide +kernel
theorem dX11_part_60 : decode cX11_part 60 = .ok (.invokestatic 301, 3) := by decide +kernel
theorem dX11_part_63 : decode cX11_part 63 = .ok (.invokevirtual 266, 3) := by decide +kernel
theorem dX11_part_66 : decode cX11_part 66 = .ok (.iload_n 2, 1) := by decide +kernel
theorem dX11_part_67 : decode cX11_part 67 = .ok (.iconst 1, 1) := by decide +kernel
theorem dX11_part_68 : decode cX11_part 68 = .ok (.if_icmp .le 20, 3) := by decide +kernel
theorem dX11_part_71 : decode cX11_part 71 = .ok (.aload_n 0, 1) := by decide +kernel
theorem dX11_part_72 : decode cX11_part 72 = .ok (.getfield 63, 3) := by decide +kernel
theorem dX11_part_75 : decode cX11_part 75 = .ok (.aload_n 0, 1) := by decide +kernel
theorem dX11_part_76 : decode cX11_part 76 = .ok (.getfield 56, 3) := by decide +kernel
theorem dX11_part_79 : decode cX11_part 79 = .ok (.getfield 304, 3) := by decide +kernel
theorem dX11_part_82 : decode cX11_part 82 = .ok (.invokestatic 301, 3) := by decide +kernel
theorem dX11_part_85 : decode cX11_part 85 = .ok (.invokevirtual 266, 3) := by decide +kernel
theorem dX11_part_88 : decode cX11_part 88 = .ok (.iload_n 2, 1) := by decide +kernel
theorem dX11_part_89 : decode cX11_part 89 = .ok (.ireturn, 1) := by decide +kernel
set_option maxHeartbeats 4000000 in
set_option maxRecDepth 100000 in
theorem s_X11_part (l : Launch) (g : GG) (sz : Nat) (x : Nat) (xtape : Nat) (xtapeLength : Int32) (xreader : Nat) (xland : Nat) (xspareLand : Nat) (xstates : Nat) (Fxstates : Nat → Option Nat) (xcurrent : Int32) (xnewest : Int32) (xboxes : Nat) (xfullBoxes : Int32) (xsearch : Nat) (xsights : Nat) (xparting : Nat) (xheap : Nat) (dduels : Int32) (dduelSides : Nat) (dduelMornings : Nat) (dhonour : Int32) (ddraw : Int32) (dusesOfKind : Nat) (FdusesOfKind : Nat → Int32) (dmen : Nat) (dmen_count : Int32) (dmen_names : Nat) (dmen_dies : Nat) (Fdmen_dies : Nat → Int32) (dmen_coins : Nat) (dmen_fathers : Nat) (dformulas : Nat) (dformulas_count : Int32) (dformulas_units : Int32) (dformulas_names : Nat) (dformulas_unitsOfThis : Int32) (dformulas_length : Int32) (dformulas_starts : Nat) (Fdformulas_starts : Nat → Int32) (dformulas_steps : Nat) (Fdformulas_steps : Nat → Int32) (dformulas_stack : Nat) (Fdformulas_stack : Nat → Int32) (dreasons : Nat) (dreasons_count : Int32) (dreasons_names : Nat) (dreasons_kinds : Nat) (Fdreasons_kinds : Nat → Int32) (dreasons_owners : Nat) (Fdreasons_owners : Nat → Int32) (dreasons_froms : Nat) (Fdreasons_froms : Nat → Int32) (dreasons_tos : Nat) (Fdreasons_tos : Nat → Int32) (dreasons_rents : Nat) (dreasons_sorts : Nat) (Fdreasons_sorts : Nat → Int32) (st : Nat) (sday : Int32) (sseed : Int32) (salive : Int32) (sstruck : Int32) (sopen : Int32) (sduels : Int32) (slines : Int32) (scoins : Nat) (srented : Nat) (Fsrented : Nat → Int32) (smornings : Nat) (Fsmornings : Nat → Int32) (shonours : Nat) (sused : Nat) (Fsused : Nat → Int32) (ssides : Nat) (Fssides : Nat → Int32) (slog : Nat) (ecount : Int32) (enumbers : Nat) (Fenumbers : Nat → Int32) (qfirst : Int32) (qsecond : Int32) (qbehind : Nat) (Fqbehind : Nat → Int32) (qmornings : Nat) (Fqmornings : Nat → Int32) (p0 : Int32) (hh0 : 0 ≤ xtapeLength.toInt ∧ xtapeLength.toInt ≤ 1600) (hh1 : 0 ≤ xcurrent.toInt ∧ xcurrent.toInt ≤ 40) (hh2 : 0 ≤ xnewest.toInt ∧ xnewest.toInt ≤ 40) (hh3 : 0 ≤ dduels.toInt ∧ dduels.toInt ≤ 6) (hh5 : 0 ≤ ddraw.toInt ∧ ddraw.toInt ≤ 999) (hh6 : 0 ≤ dmen_count.toInt ∧ dmen_count.toInt ≤ 6) (hh7 : 0 ≤ dformulas_count.toInt ∧ dformulas_count.toInt ≤ 4) (hh8 : 0 ≤ dformulas_units.toInt ∧ dformulas_units.toInt ≤ 60) (hh9 : 0 ≤ dformulas_unitsOfThis.toInt ∧ dformulas_unitsOfThis.toInt ≤ 30) (hh10 : 0 ≤ dformulas_length.toInt ∧ dformulas_length.toInt ≤ 640) (hh11 : Rg 5 0 640 Fdformulas_starts) (hh12 : 0 ≤ dreasons_count.toInt ∧ dreasons_count.toInt ≤ 8) (hh13 : Rg 8 0 3 Fdreasons_kinds) (hh14 : Rg 8 (-1) 5 Fdreasons_owners) (hh15 : 0 ≤ sseed.toInt ∧ sseed.toInt ≤ 999) (hh16 : 0 ≤ sduels.toInt ∧ sduels.toInt ≤ 8) (hh17 : 0 ≤ slines.toInt ∧ slines.toInt ≤ 60) (hh18 : Rg 16 0 5 Fssides) (hh21 : 0 ≤ ecount.toInt ∧ ecount.toInt ≤ 16) (hh22 : 0 ≤ qfirst.toInt ∧ qfirst.toInt ≤ 128) (hh23 : 0 ≤ qsecond.toInt ∧ qsecond.toInt ≤ 128) (ho : Fxstates xcurrent.toNatClampNeg = some st) : Met l yX11_part (.code yX11_part cX11_part 3 (some .int) :: gT) ({ frames := 7, cells := 0, slots := 0, locals := 171 }) (va_Pc [.ref x, .int p0] (Pst g sz [(x, .inr (11, [.ref xtape, .int xtapeLength, .ref xreader, .ref xland, .ref xspareLand, .ref xstates, .int xcurrent, .int xnewest, .ref xboxes, .int xfullBoxes, .ref xsearch, .ref xsights, .ref xparting, .ref xheap])), (xstates, aO g 41 Fxstates), (xland, .inr (2, [.ref dmen, .ref dformulas, .ref dreasons, .int dduels, .ref dduelSides, .ref dduelMornings, .int dhonour, .int ddraw, .ref dusesOfKind])), (dusesOfKind, aI g 4 FdusesOfKind), (dmen, .inr (3, [.int dmen_count, .ref dmen_names, .ref dmen_dies, .ref dmen_coins, .ref dmen_fathers])), (dmen_dies, aI g 6 Fdmen_dies), (dformulas, .inr (0, [.int dformulas_count, .int dformulas_units, .ref dformulas_names, .int dformulas_unitsOfThis, .int dformulas_length, .ref dformulas_starts, .ref dformulas_steps, .ref dformulas_stack])), (dformulas_starts, aI g 5 Fdformulas_starts), (dformulas_steps, aI g 640 Fdformulas_steps), (dformulas_stack, aI g 32 Fdformulas_stack), (dreasons, .inr (6, [.int dreasons_count, .ref dreasons_names, .ref dreasons_kinds, .ref dreasons_owners, .ref dreasons_froms, .ref dreasons_tos, .ref dreasons_rents, .ref dreasons_sorts])), (dreasons_kinds, aI g 8 Fdreasons_kinds), (dreasons_owners, aI g 8 Fdreasons_owners), (dreasons_froms, aI g 8 Fdreasons_froms), (dreasons_tos, aI g 8 Fdreasons_tos), (dreasons_sorts, aI g 8 Fdreasons_sorts), (st, .inr (9, [.int sday, .int sseed, .int salive, .int sstruck, .int sopen, .int sduels, .int slines, .ref scoins, .ref srented, .ref smornings, .ref shonours, .ref sused, .ref ssides, .ref slog])), (srented, aI g 6 Fsrented), (smornings, aI g 8 Fsmornings), (sused, aI g 8 Fsused), (ssides, aI g 16 Fssides), (xheap, .inr (1, [.int ecount, .ref enumbers])), (enumbers, aI g 16 Fenumbers), (xparting, .inr (4, [.int qfirst, .int qsecond, .ref qbehind, .ref qmornings])), (qbehind, aI g 128 Fqbehind), (qmornings, aI g 8 Fqmornings)] nX)) (va_Qi (fun (r : Int32) => fun ((o0_F, o1_count, o2_F, o3_first, o4_second, o5_F, o6_F) : (Nat → Int32) × Int32 × (Nat → Int32) × Int32 × Int32 × (Nat → Int32) × (Nat → Int32)) => ((-1) ≤ r.toInt ∧ r.toInt ≤ 2) ∧ (0 ≤ o1_count.toInt ∧ o1_count.toInt ≤ 16) ∧ (0 ≤ o3_first.toInt ∧ o3_first.toInt ≤ 128) ∧ (0 ≤ o4_second.toInt ∧ o4_second.toInt ≤ 128)) (Qst g [(x, .inr (11, [.ref xtape, .int xtapeLength, .ref xreader, .ref xland, .ref xspareLand, .ref xstates, .int xcurrent, .int xnewest, .ref xboxes, .int xfullBoxes, .ref xsearch, .ref xsights, .ref xparting, .ref xheap])), (xstates, aO g 41 Fxstates), (xland, .inr (2, [.ref dmen, .ref dformulas, .ref dreasons, .int dduels, .ref dduelSides, .ref dduelMornings, .int dhonour, .int ddraw, .ref dusesOfKind])), (dusesOfKind, aI g 4 FdusesOfKind), (dmen, .inr (3, [.int dmen_count, .ref dmen_names, .ref dmen_dies, .ref dmen_coins, .ref dmen_fathers])), (dmen_dies, aI g 6 Fdmen_dies), (dformulas, .inr (0, [.int dformulas_count, .int dformulas_units, .ref dformulas_names, .int dformulas_unitsOfThis, .int dformulas_length, .ref dformulas_starts, .ref dformulas_steps, .ref dformulas_stack])), (dformulas_starts, aI g 5 Fdformulas_starts), (dformulas_steps, aI g 640 Fdformulas_steps), (dformulas_stack, aI g 32 Fdformulas_stack), (dreasons, .inr (6, [.int dreasons_count, .ref dreasons_names, .ref dreasons_kinds, .ref dreasons_owners, .ref dreasons_froms, .ref dreasons_tos, .ref dreasons_rents, .ref dreasons_sorts])), (dreasons_kinds, aI g 8 Fdreasons_kinds), (dreasons_owners, aI g 8 Fdreasons_owners), (dreasons_froms, aI g 8 Fdreasons_froms), (dreasons_tos, aI g 8 Fdreasons_tos), (dreasons_sorts, aI g 8 Fdreasons_sorts), (st, .inr (9, [.int sday, .int sseed, .int salive, .int sstruck, .int sopen, .int sduels, .int slines, .ref scoins, .ref srented, .ref smornings, .ref shonours, .ref sused, .ref ssides, .ref slog])), (srented, aI g 6 Fsrented), (smornings, aI g 8 Fsmornings), (sused, aI g 8 Fsused), (ssides, aI g 16 Fssides), (xheap, .inr (1, [.int ecount, .ref enumbers])), (enumbers, aI g 16 Fenumbers), (xparting, .inr (4, [.int qfirst, .int qsecond, .ref qbehind, .ref qmornings])), (qbehind, aI g 128 Fqbehind), (qmornings, aI g 8 Fqmornings)] sz (fun ((o0_F, o1_count, o2_F, o3_first, o4_second, o5_F, o6_F) : (Nat → Int32) × Int32 × (Nat → Int32) × Int32 × Int32 × (Nat → Int32) × (Nat → Int32)) => [(x, .inr (11, [.ref xtape, .int xtapeLength, .ref xreader, .ref xland, .ref xspareLand, .ref xstates, .int xcurrent, .int xnewest, .ref xboxes, .int xfullBoxes, .ref xsearch, .ref xsights, .ref xparting, .ref xheap])), (xstates, aO g 41 Fxstates), (xland, .inr (2, [.ref dmen, .ref dformulas, .ref dreasons, .int dduels, .ref dduelSides, .ref dduelMornings, .int dhonour, .int ddraw, .ref dusesOfKind])), (dusesOfKind, aI g 4 FdusesOfKind), (dmen, .inr (3, [.int dmen_count, .ref dmen_names, .ref dmen_dies, .ref dmen_coins, .ref dmen_fathers])), (dmen_dies, aI g 6 Fdmen_dies), (dformulas, .inr (0, [.int dformulas_count, .int dformulas_units, .ref dformulas_names, .int dformulas_unitsOfThis, .int dformulas_length, .ref dformulas_starts, .ref dformulas_steps, .ref dformulas_stack])), (dformulas_starts, aI g 5 Fdformulas_starts), (dformulas_steps, aI g 640 Fdformulas_steps), (dformulas_stack, aI g 32 o0_F), (dreasons, .inr (6, [.int dreasons_count, .ref dreasons_names, .ref dreasons_kinds, .ref dreasons_owners, .ref dreasons_froms, .ref dreasons_tos, .ref dreasons_rents, .ref dreasons_sorts])), (dreasons_kinds, aI g 8 Fdreasons_kinds), (dreasons_owners, aI g 8 Fdreasons_owners), (dreasons_froms, aI g 8 Fdreasons_froms), (dreasons_tos, aI g 8 Fdreasons_tos), (dreasons_sorts, aI g 8 Fdreasons_sorts), (st, .inr (9, [.int sday, .int sseed, .int salive, .int sstruck, .int sopen, .int sduels, .int slines, .ref scoins, .ref srented, .ref smornings, .ref shonours, .ref sused, .ref ssides, .ref slog])), (srented, aI g 6 Fsrented), (smornings, aI g 8 Fsmornings), (sused, aI g 8 Fsused), (ssides, aI g 16 Fssides), (xheap, .inr (1, [.int o1_count, .ref enumbers])), (enumbers, aI g 16 o2_F), (xparting, .inr (4, [.int o3_first, .int o4_second, .ref qbehind, .ref qmornings])), (qbehind, aI g 128 o5_F), (qmornings, aI g 8 o6_F)])) (va_A [(x, .inr (11, [.ref xtape, .int xtapeLength, .ref xreader, .ref xland, .ref xspareLand, .ref xstates, .int xcurrent, .int xnewest, .ref xboxes, .int xfullBoxes, .ref xsearch, .ref xsights, .ref xparting, .ref xheap])), (xstates, aO g 41 Fxstates), (xland, .inr (2, [.ref dmen, .ref dformulas, .ref dreasons, .int dduels, .ref dduelSides, .ref dduelMornings, .int dhonour, .int ddraw, .ref dusesOfKind])), (dusesOfKind, aI g 4 FdusesOfKind), (dmen, .inr (3, [.int dmen_count, .ref dmen_names, .ref dmen_dies, .ref dmen_coins, .ref dmen_fathers])), (dmen_dies, aI g 6 Fdmen_dies), (dformulas, .inr (0, [.int dformulas_count, .int dformulas_units, .ref dformulas_names, .int dformulas_unitsOfThis, .int dformulas_length, .ref dformulas_starts, .ref dformulas_steps, .ref dformulas_stack])), (dformulas_starts, aI g 5 Fdformulas_starts), (dformulas_steps, aI g 640 Fdformulas_steps), (dformulas_stack, aI g 32 Fdformulas_stack), (dreasons, .inr (6, [.int dreasons_count, .ref dreasons_names, .ref dreasons_kinds, .ref dreasons_owners, .ref dreasons_froms, .ref dreasons_tos, .ref dreasons_rents, .ref dreasons_sorts])), (dreasons_kinds, aI g 8 Fdreasons_kinds), (dreasons_owners, aI g 8 Fdreasons_owners), (dreasons_froms, aI g 8 Fdreasons_froms), (dreasons_tos, aI g 8 Fdreasons_tos), (dreasons_sorts, aI g 8 Fdreasons_sorts), (st, .inr (9, [.int sday, .int sseed, .int salive, .int sstruck, .int sopen, .int sduels, .int slines, .ref scoins, .ref srented, .ref smornings, .ref shonours, .ref sused, .ref ssides, .ref slog])), (srented, aI g 6 Fsrented), (smornings, aI g 8 Fsmornings), (sused, aI g 8 Fsused), (ssides, aI g 16 Fssides), (xheap, .inr (1, [.int ecount, .ref enumbers])), (enumbers, aI g 16 Fenumbers), (xparting, .inr (4, [.int qfirst, .int qsecond, .ref qbehind, .ref qmornings])), (qbehind, aI g 128 Fqbehind), (qmornings, aI g 8 Fqmornings)] sz)) 0 0 (va_A [(x, .inr (11, [.ref xtape, .int xtapeLength, .ref xreader, .ref xland, .ref xspareLand, .ref xstates, .int xcurrent, .int xnewest, .ref xboxes, .int xfullBoxes, .ref xsearch, .ref xsights, .ref xparting, .ref xheap])), (xstates, aO g 41 Fxstates), (xland, .inr (2, [.ref dmen, .ref dformulas, .ref dreasons, .int dduels, .ref dduelSides, .ref dduelMornings, .int dhonour, .int ddraw, .ref dusesOfKind])), (dusesOfKind, aI g 4 FdusesOfKind), (dmen, .inr (3, [.int dmen_count, .ref dmen_names, .ref dmen_dies, .ref dmen_coins, .ref dmen_fathers])), (dmen_dies, aI g 6 Fdmen_dies), (dformulas, .inr (0, [.int dformulas_count, .int dformulas_units, .ref dformulas_names, .int dformulas_unitsOfThis, .int dformulas_length, .ref dformulas_starts, .ref dformulas_steps, .ref dformulas_stack])), (dformulas_starts, aI g 5 Fdformulas_starts), (dformulas_steps, aI g 640 Fdformulas_steps), (dformulas_stack, aI g 32 Fdformulas_stack), (dreasons, .inr (6, [.int dreasons_count, .ref dreasons_names, .ref dreasons_kinds, .ref dreasons_owners, .ref dreasons_froms, .ref dreasons_tos, .ref dreasons_rents, .ref dreasons_sorts])), (dreasons_kinds, aI g 8 Fdreasons_kinds), (dreasons_owners, aI g 8 Fdreasons_owners), (dreasons_froms, aI g 8 Fdreasons_froms), (dreasons_tos, aI g 8 Fdreasons_tos), (dreasons_sorts, aI g 8 Fdreasons_sorts), (st, .inr (9, [.int sday, .int sseed, .int salive, .int sstruck, .int sopen, .int sduels, .int slines, .ref scoins, .ref srented, .ref smornings, .ref shonours, .ref sused, .ref ssides, .ref slog])), (srented, aI g 6 Fsrented), (smornings, aI g 8 Fsmornings), (sused, aI g 8 Fsused), (ssides, aI g 16 Fssides), (xheap, .inr (1, [.int ecount, .ref enumbers])), (enumbers, aI g 16 Fenumbers), (xparting, .inr (4, [.int qfirst, .int qsecond, .ref qbehind, .ref qmornings])), (qbehind, aI g 128 Fqbehind), (qmornings, aI g 8 Fqmornings)] sz) := by
  refine Met.ofW (cc := cX11_part) (maxL := 3) (ret := (some .int)) (by decide) rfl ?_
  intro p e s m args below meth c s₁ B hml hv
  obtain ⟨rfl, hsz, hP, hK, hD0, hX⟩ := hv
  have hx := B.exec
  have hb := B.bytes
  have hr := B.returns
  have hT : ∀ w ∈ gT, w.before _ s = true := fun w h => atoms_spec (ws := .code yX11_part cX11_part 3 (some .int) :: gT) B.pre w (List.mem_cons_of_mem _ h)
  have hown : s.vm.findClass RX11 = some m.cls := findClass_of_methodNamed B.named
  have hlocks := B.notSynchronized
  subst hsz
  have hD := hD0.self (sz := s.heap.size)
  generalize hAe : va_A [(x, .inr (11, [.ref xtape, .int xtapeLength, .ref xreader, .ref xland, .ref xspareLand, .ref xstates, .int xcurrent, .int xnewest, .ref xboxes, .int xfullBoxes, .ref xsearch, .ref xsights, .ref xparting, .ref xheap])), (xstates, aO g 41 Fxstates), (xland, .inr (2, [.ref dmen, .ref dformulas, .ref dreasons, .int dduels, .ref dduelSides, .ref dduelMornings, .int dhonour, .int ddraw, .ref dusesOfKind])), (dusesOfKind, aI g 4 FdusesOfKind), (dmen, .inr (3, [.int dmen_count, .ref dmen_names, .ref dmen_dies, .ref dmen_coins, .ref dmen_fathers])), (dmen_dies, aI g 6 Fdmen_dies), (dformulas, .inr (0, [.int dformulas_count, .int dformulas_units, .ref dformulas_names, .int dformulas_unitsOfThis, .int dformulas_length, .ref dformulas_starts, .ref dformulas_steps, .ref dformulas_stack])), (dformulas_starts, aI g 5 Fdformulas_starts), (dformulas_steps, aI g 640 Fdformulas_steps), (dformulas_stack, aI g 32 Fdformulas_stack), (dreasons, .inr (6, [.int dreasons_count, .ref dreasons_names, .ref dreasons_kinds, .ref dreasons_owners, .ref dreasons_froms, .ref dreasons_tos, .ref dreasons_rents, .ref dreasons_sorts])), (dreasons_kinds, aI g 8 Fdreasons_kinds), (dreasons_owners, aI g 8 Fdreasons_owners), (dreasons_froms, aI g 8 Fdreasons_froms), (dreasons_tos, aI g 8 Fdreasons_tos), (dreasons_sorts, aI g 8 Fdreasons_sorts), (st, .inr (9, [.int sday, .int sseed, .int salive, .int sstruck, .int sopen, .int sduels, .int slines, .ref scoins, .ref srented, .ref smornings, .ref shonours, .ref sused, .ref ssides, .ref slog])), (srented, aI g 6 Fsrented), (smornings, aI g 8 Fsmornings), (sused, aI g 8 Fsused), (ssides, aI g 16 Fssides), (xheap, .inr (1, [.int ecount, .ref enumbers])), (enumbers, aI g 16 Fenumbers), (xparting, .inr (4, [.int qfirst, .int qsecond, .ref qbehind, .ref qmornings])), (qbehind, aI g 128 Fqbehind), (qmornings, aI g 8 Fqmornings)] s.heap.size = A at hD ⊢
  have hA : ∀ q : Nat, s.heap.size ≤ q → A q := fun q h => by rw [← hAe]; exact Or.inr h
  have hS : va_S A s.heap s.heap [] := va_S.rf
  have hl := lv_entry ([.ref x, .int p0]) (n := 3) (Nat.le_of_ble_eq_true rfl)
  rw [lg_entry_eq]
  generalize (lg_sl ([.ref x, .int p0]) ++ List.replicate (3 - (lg_sl ([.ref x, .int p0])).length) Slot.unset).toArray = ls at hl ⊢
  have hl : lv_has ls 3 [(0, .ref x), (1, .int p0)] := hl
  refine p_nH (fun H hH => ?_)
  have hP : va_P g.1 vwCl [(x, .inr (11, [.ref xtape, .int xtapeLength, .ref xreader, .ref xland, .ref xspareLand, .ref xstates, .int xcurrent, .int xnewest, .ref xboxes, .int xfullBoxes, .ref xsearch, .ref xsights, .ref xparting, .ref xheap])), (xstates, aO g 41 Fxstates), (xland, .inr (2, [.ref dmen, .ref dformulas, .ref dreasons, .int dduels, .ref dduelSides, .ref dduelMornings, .int dhonour, .int ddraw, .ref dusesOfKind])), (dusesOfKind, aI g 4 FdusesOfKind), (dmen, .inr (3, [.int dmen_count, .ref dmen_names, .ref dmen_dies, .ref dmen_coins, .ref dmen_fathers])), (dmen_dies, aI g 6 Fdmen_dies), (dformulas, .inr (0, [.int dformulas_count, .int dformulas_units, .ref dformulas_names, .int dformulas_unitsOfThis, .int dformulas_length, .ref dformulas_starts, .ref dformulas_steps, .ref dformulas_stack])), (dformulas_starts, aI g 5 Fdformulas_starts), (dformulas_steps, aI g 640 Fdformulas_steps), (dformulas_stack, aI g 32 Fdformulas_stack), (dreasons, .inr (6, [.int dreasons_count, .ref dreasons_names, .ref dreasons_kinds, .ref dreasons_owners, .ref dreasons_froms, .ref dreasons_tos, .ref dreasons_rents, .ref dreasons_sorts])), (dreasons_kinds, aI g 8 Fdreasons_kinds), (dreasons_owners, aI g 8 Fdreasons_owners), (dreasons_froms, aI g 8 Fdreasons_froms), (dreasons_tos, aI g 8 Fdreasons_tos), (dreasons_sorts, aI g 8 Fdreasons_sorts), (st, .inr (9, [.int sday, .int sseed, .int salive, .int sstruck, .int sopen, .int sduels, .int slines, .ref scoins, .ref srented, .ref smornings, .ref shonours, .ref sused, .ref ssides, .ref slog])), (srented, aI g 6 Fsrented), (smornings, aI g 8 Fsmornings), (sused, aI g 8 Fsused), (ssides, aI g 16 Fssides), (xheap, .inr (1, [.int ecount, .ref enumbers])), (enumbers, aI g 16 Fenumbers), (xparting, .inr (4, [.int qfirst, .int qsecond, .ref qbehind, .ref qmornings])), (qbehind, aI g 128 Fqbehind), (qmornings, aI g 8 Fqmornings)] H := by rw [hH]; exact hP
  have hS : va_S A s.heap H [] := by rw [hH]; exact hS
  refine lv_aload_n hx hb dX11_part_0 rfl (lv_at hl 0 rfl) ?_
  refine va_get (D := g.1) (ci := 11) (v := .ref xheap) (C := RX11) (T := TX11) (N := 14) hx hb hT inF_X11 hown hK.1 hP 0 rfl rfl 13 (by decide) (hT _ bw_341) (fun _ h9 => h9) rfl dX11_part_1 ?_
  refine k_v (wr := [(x, .inr (11, [.ref xtape, .int xtapeLength, .ref xreader, .ref xland, .ref xspareLand, .ref xstates, .int xcurrent, .int xnewest, .ref xboxes, .int xfullBoxes, .ref xsearch, .ref xsights, .ref xparting, .ref xheap])), (xstates, aO g 41 Fxstates), (xland, .inr (2, [.ref dmen, .ref dformulas, .ref dreasons, .int dduels, .ref dduelSides, .ref dduelMornings, .int dhonour, .int ddraw, .ref dusesOfKind])), (dusesOfKind, aI g 4 FdusesOfKind), (dmen, .inr (3, [.int dmen_count, .ref dmen_names, .ref dmen_dies, .ref dmen_coins, .ref dmen_fathers])), (dmen_dies, aI g 6 Fdmen_dies), (dformulas, .inr (0, [.int dformulas_count, .int dformulas_units, .ref dformulas_names, .int dformulas_unitsOfThis, .int dformulas_length, .ref dformulas_starts, .ref dformulas_steps, .ref dformulas_stack])), (dformulas_starts, aI g 5 Fdformulas_starts), (dformulas_steps, aI g 640 Fdformulas_steps), (dformulas_stack, aI g 32 Fdformulas_stack), (dreasons, .inr (6, [.int dreasons_count, .ref dreasons_names, .ref dreasons_kinds, .ref dreasons_owners, .ref dreasons_froms, .ref dreasons_tos, .ref dreasons_rents, .ref dreasons_sorts])), (dreasons_kinds, aI g 8 Fdreasons_kinds), (dreasons_owners, aI g 8 Fdreasons_owners), (dreasons_froms, aI g 8 Fdreasons_froms), (dreasons_tos, aI g 8 Fdreasons_tos), (dreasons_sorts, aI g 8 Fdreasons_sorts), (st, .inr (9, [.int sday, .int sseed, .int salive, .int sstruck, .int sopen, .int sduels, .int slines, .ref scoins, .ref srented, .ref smornings, .ref shonours, .ref sused, .ref ssides, .ref slog])), (srented, aI g 6 Fsrented), (smornings, aI g 8 Fsmornings), (sused, aI g 8 Fsused), (ssides, aI g 16 Fssides), (enumbers, aI g 16 Fenumbers), (xparting, .inr (4, [.int qfirst, .int qsecond, .ref qbehind, .ref qmornings])), (qbehind, aI g 128 Fqbehind), (qmornings, aI g 8 Fqmornings)]) (k_V (n := 0) ⟨hx, hb, hml, hown, hT⟩ hK hP hD [21] rfl (by decide +kernel) (s_X1_clear l g H.size xheap ecount enumbers (by first | with_reducible assumption | omega)) (gV bw_366 bw_367 bw_368 bw_369 bw_1) rfl rfl (by decide +kernel) ⟨by decide, by decide⟩ (ci := 1) (q0 := 0) rfl rfl (fun _ _ _ _ _ => trivial) (fun _ _ _ => trivial) rfl rfl hl.1 (Nat.le_of_ble_eq_true rfl) dX11_part_4 ⟨by decide, by decide⟩) hP hD hS hA [21] [0, 1, 2, 3, 4, 5, 6, 7, 8, 9, 10, 11, 12, 13, 14, 15, 16, 17, 18, 19, 20, 22, 23, 24, 25] rfl rfl (by decide +kernel) (by decide +kernel) (fun u H locs hw0 hP hD hS => ?_)
  have hP : va_P g.1 vwCl [(x, .inr (11, [.ref xtape, .int xtapeLength, .ref xreader, .ref xland, .ref xspareLand, .ref xstates, .int xcurrent, .int xnewest, .ref xboxes, .int xfullBoxes, .ref xsearch, .ref xsights, .ref xparting, .ref xheap])), (xstates, aO g 41 Fxstates), (xland, .inr (2, [.ref dmen, .ref dformulas, .ref dreasons, .int dduels, .ref dduelSides, .ref dduelMornings, .int dhonour, .int ddraw, .ref dusesOfKind])), (dusesOfKind, aI g 4 FdusesOfKind), (dmen, .inr (3, [.int dmen_count, .ref dmen_names, .ref dmen_dies, .ref dmen_coins, .ref dmen_fathers])), (dmen_dies, aI g 6 Fdmen_dies), (dformulas, .inr (0, [.int dformulas_count, .int dformulas_units, .ref dformulas_names, .int dformulas_unitsOfThis, .int dformulas_length, .ref dformulas_starts, .ref dformulas_steps, .ref dformulas_stack])), (dformulas_starts, aI g 5 Fdformulas_starts), (dformulas_steps, aI g 640 Fdformulas_steps), (dformulas_stack, aI g 32 Fdformulas_stack), (dreasons, .inr (6, [.int dreasons_count, .ref dreasons_names, .ref dreasons_kinds, .ref dreasons_owners, .ref dreasons_froms, .ref dreasons_tos, .ref dreasons_rents, .ref dreasons_sorts])), (dreasons_kinds, aI g 8 Fdreasons_kinds), (dreasons_owners, aI g 8 Fdreasons_owners), (dreasons_froms, aI g 8 Fdreasons_froms), (dreasons_tos, aI g 8 Fdreasons_tos), (dreasons_sorts, aI g 8 Fdreasons_sorts), (st, .inr (9, [.int sday, .int sseed, .int salive, .int sstruck, .int sopen, .int sduels, .int slines, .ref scoins, .ref srented, .ref smornings, .ref shonours, .ref sused, .ref ssides, .ref slog])), (srented, aI g 6 Fsrented), (smornings, aI g 8 Fsmornings), (sused, aI g 8 Fsused), (ssides, aI g 16 Fssides), (enumbers, aI g 16 Fenumbers), (xparting, .inr (4, [.int qfirst, .int qsecond, .ref qbehind, .ref qmornings])), (qbehind, aI g 128 Fqbehind), (qmornings, aI g 8 Fqmornings), (xheap, .inr (1, [.int 0, .ref enumbers]))] H := hP
  have hD : va_D A [(x, .inr (11, [.ref xtape, .int xtapeLength, .ref xreader, .ref xland, .ref xspareLand, .ref xstates, .int xcurrent, .int xnewest, .ref xboxes, .int xfullBoxes, .ref xsearch, .ref xsights, .ref xparting, .ref xheap])), (xstates, aO g 41 Fxstates), (xland, .inr (2, [.ref dmen, .ref dformulas, .ref dreasons, .int dduels, .ref dduelSides, .ref dduelMornings, .int dhonour, .int ddraw, .ref dusesOfKind])), (dusesOfKind, aI g 4 FdusesOfKind), (dmen, .inr (3, [.int dmen_count, .ref dmen_names, .ref dmen_dies, .ref dmen_coins, .ref dmen_fathers])), (dmen_dies, aI g 6 Fdmen_dies), (dformulas, .inr (0, [.int dformulas_count, .int dformulas_units, .ref dformulas_names, .int dformulas_unitsOfThis, .int dformulas_length, .ref dformulas_starts, .ref dformulas_steps, .ref dformulas_stack])), (dformulas_starts, aI g 5 Fdformulas_starts), (dformulas_steps, aI g 640 Fdformulas_steps), (dformulas_stack, aI g 32 Fdformulas_stack), (dreasons, .inr (6, [.int dreasons_count, .ref dreasons_names, .ref dreasons_kinds, .ref dreasons_owners, .ref dreasons_froms, .ref dreasons_tos, .ref dreasons_rents, .ref dreasons_sorts])), (dreasons_kinds, aI g 8 Fdreasons_kinds), (dreasons_owners, aI g 8 Fdreasons_owners), (dreasons_froms, aI g 8 Fdreasons_froms), (dreasons_tos, aI g 8 Fdreasons_tos), (dreasons_sorts, aI g 8 Fdreasons_sorts), (st, .inr (9, [.int sday, .int sseed, .int salive, .int sstruck, .int sopen, .int sduels, .int slines, .ref scoins, .ref srented, .ref smornings, .ref shonours, .ref sused, .ref ssides, .ref slog])), (srented, aI g 6 Fsrented), (smornings, aI g 8 Fsmornings), (sused, aI g 8 Fsused), (ssides, aI g 16 Fssides), (enumbers, aI g 16 Fenumbers), (xparting, .inr (4, [.int qfirst, .int qsecond, .ref qbehind, .ref qmornings])), (qbehind, aI g 128 Fqbehind), (qmornings, aI g 8 Fqmornings), (xheap, .inr (1, [.int 0, .ref enumbers]))] := hD
  refine lv_aload_n hx hb dX11_part_7 rfl (lv_at hl 0 rfl) ?_
  refine va_get (D := g.1) (ci := 11) (v := .ref xland) (C := RX11) (T := TX11) (N := 14) hx hb hT inF_X11 hown hK.1 hP 0 rfl rfl 3 (by decide) (hT _ bw_269) (fun _ h9 => h9) rfl dX11_part_8 ?_
  refine va_get (D := g.1) (ci := 2) (v := .ref dmen) (C := RX2) (T := TX2) (N := 9) hx hb hT inF_X2 hown hK.1 hP 2 rfl rfl 0 (by decide) (hT _ bw_270) (fun _ h9 => h9) rfl dX11_part_11 ?_
  refine lv_iload_n hx hb dX11_part_14 rfl (lv_at hl 1 rfl) ?_
  refine k_iR (k_V (n := 1) ⟨hx, hb, hml, hown, hT⟩ hK hP hD [4] rfl (by decide +kernel) (s_X3_has l g H.size dmen dmen_count dmen_names dmen_dies dmen_coins dmen_fathers p0 (by first | with_reducible assumption | omega)) (gV bw_271 bw_272 bw_273 bw_274 bw_5) rfl rfl (by decide +kernel) ⟨by decide, by decide⟩ (ci := 3) (q0 := 0) rfl rfl (fun _ _ _ _ _ => trivial) (fun _ _ _ => trivial) rfl rfl hl.1 (Nat.le_of_ble_eq_true rfl) dX11_part_15 ⟨by decide, by decide⟩) hP hS hA (fun r_1 _ H locs hw0 hP hS => ?_)
  have hw : (r_1 = 1 ∧ (0 ≤ p0.toInt ∧ p0.toInt < dmen_count.toInt)) ∨ (r_1 = 0) := hw0
  clear hw0
  rcases hw with ⟨e_3, w_2⟩ | e_4
  · subst e_3
    refine lv_if_ne (tgt := 23) hx hb dX11_part_18 (by decide) (fun _ => ?_) (fun c9 => absurd c9 (by decide))
    refine lv_aload_n hx hb dX11_part_23 rfl (lv_at hl 0 rfl) ?_
    refine va_get (D := g.1) (ci := 11) (v := .ref xparting) (C := RX11) (T := TX11) (N := 14) hx hb hT inF_X11 hown hK.1 hP 0 rfl rfl 12 (by decide) (hT _ bw_380) (fun _ h9 => h9) rfl dX11_part_24 ?_
    refine lv_aload_n hx hb dX11_part_27 rfl (lv_at hl 0 rfl) ?_
    refine va_get (D := g.1) (ci := 11) (v := .ref xland) (C := RX11) (T := TX11) (N := 14) hx hb hT inF_X11 hown hK.1 hP 0 rfl rfl 3 (by decide) (hT _ bw_269) (fun _ h9 => h9) rfl dX11_part_28 ?_
    refine lv_aload_n hx hb dX11_part_31 rfl (lv_at hl 0 rfl) ?_
    refine va_get (D := g.1) (ci := 11) (v := .ref xstates) (C := RX11) (T := TX11) (N := 14) hx hb hT inF_X11 hown hK.1 hP 0 rfl rfl 5 (by decide) (hT _ bw_275) (fun _ h9 => h9) rfl dX11_part_32 ?_
    refine lv_aload_n hx hb dX11_part_35 rfl (lv_at hl 0 rfl) ?_
    refine va_get (D := g.1) (ci := 11) (v := .int xcurrent) (C := RX11) (T := TX11) (N := 14) hx hb hT inF_X11 hown hK.1 hP 0 rfl rfl 6 (by decide) (hT _ bw_276) (fun _ h9 => h9) rfl dX11_part_36 ?_
    have h_5 : vp_in xcurrent 41 := vp_in_iff.mpr (by omega)
    refine va_aldq hx hb hK.1 hP 1 4 rfl rfl (i := xcurrent) h_5 dX11_part_39 ?_
    refine p_tr (x := st) (by rw [ho]; rfl) ?_
    refine lv_iload_n hx hb dX11_part_40 rfl (lv_at hl 1 rfl) ?_
    refine k_i (wr := [(x, .inr (11, [.ref xtape, .int xtapeLength, .ref xreader, .ref xland, .ref xspareLand, .ref xstates, .int xcurrent, .int xnewest, .ref xboxes, .int xfullBoxes, .ref xsearch, .ref xsights, .ref xparting, .ref xheap])), (xstates, aO g 41 Fxstates), (enumbers, aI g 16 Fenumbers), (xheap, .inr (1, [.int 0, .ref enumbers]))]) (k_V (n := 3) ⟨hx, hb, hml, hown, hT⟩ hK hP hD [22, 23, 24, 16, 17, 18, 19, 20, 2, 3, 4, 5, 6, 7, 8, 9, 10, 11, 12, 13, 14, 15] rfl (by decide +kernel) (s_X4_find l g H.size xparting qfirst qsecond qbehind Fqbehind qmornings Fqmornings st sday sseed salive sstruck sopen sduels slines scoins srented Fsrented smornings Fsmornings shonours sused Fsused ssides Fssides slog xland dduels dduelSides dduelMornings dhonour ddraw dusesOfKind FdusesOfKind dmen dmen_count dmen_names dmen_dies Fdmen_dies dmen_coins dmen_fathers dformulas dformulas_count dformulas_units dformulas_names dformulas_unitsOfThis dformulas_length dformulas_starts Fdformulas_starts dformulas_steps Fdformulas_steps dformulas_stack Fdformulas_stack dreasons dreasons_count dreasons_names dreasons_kinds Fdreasons_kinds dreasons_owners Fdreasons_owners dreasons_froms Fdreasons_froms dreasons_tos Fdreasons_tos dreasons_rents dreasons_sorts Fdreasons_sorts p0 (by first | with_reducible assumption | omega) (by first | with_reducible assumption | omega) (by first | with_reducible assumption | omega) (by first | with_reducible assumption | omega) (by first | with_reducible assumption | omega) hh18 (by first | with_reducible assumption | omega) (by first | with_reducible assumption | omega) (by first | with_reducible assumption | omega) (by first | with_reducible assumption | omega) (by first | with_reducible assumption | omega) (by first | with_reducible assumption | omega) (by first | with_reducible assumption | omega) hh11 (by first | with_reducible assumption | omega) hh13 hh14) (gV bw_381 bw_382 bw_383 bw_230 bw_267) rfl rfl (by decide +kernel) ⟨by decide, by decide⟩ (ci := 4) (q0 := 0) rfl rfl (fun _ _ _ _ _ => trivial) (fun _ _ _ => trivial) rfl rfl hl.1 (Nat.le_of_ble_eq_true rfl) dX11_part_41 ⟨by decide, by decide⟩) hP hD hS hA [22, 23, 24, 16, 17, 18, 19, 20, 2, 3, 4, 5, 6, 7, 8, 9, 10, 11, 12, 13, 14, 15] [0, 1, 21, 25] rfl rfl (by decide +kernel) (by decide +kernel) (fun r_6 => pr_all fun y_7 => pr_all fun y_8 => pr_all fun f_9 => pr_all fun f_10 => fun f_11 H locs hw0 hP hD hS => ?_)
    have hP : va_P g.1 vwCl [(x, .inr (11, [.ref xtape, .int xtapeLength, .ref xreader, .ref xland, .ref xspareLand, .ref xstates, .int xcurrent, .int xnewest, .ref xboxes, .int xfullBoxes, .ref xsearch, .ref xsights, .ref xparting, .ref xheap])), (xstates, aO g 41 Fxstates), (enumbers, aI g 16 Fenumbers), (xheap, .inr (1, [.int 0, .ref enumbers])), (xparting, .inr (4, [.int y_7, .int y_8, .ref qbehind, .ref qmornings])), (qbehind, aI g 128 f_9), (qmornings, aI g 8 f_10), (st, .inr (9, [.int sday, .int sseed, .int salive, .int sstruck, .int sopen, .int sduels, .int slines, .ref scoins, .ref srented, .ref smornings, .ref shonours, .ref sused, .ref ssides, .ref slog])), (srented, aI g 6 Fsrented), (smornings, aI g 8 Fsmornings), (sused, aI g 8 Fsused), (ssides, aI g 16 Fssides), (xland, .inr (2, [.ref dmen, .ref dformulas, .ref dreasons, .int dduels, .ref dduelSides, .ref dduelMornings, .int dhonour, .int ddraw, .ref dusesOfKind])), (dusesOfKind, aI g 4 FdusesOfKind), (dmen, .inr (3, [.int dmen_count, .ref dmen_names, .ref dmen_dies, .ref dmen_coins, .ref dmen_fathers])), (dmen_dies, aI g 6 Fdmen_dies), (dformulas, .inr (0, [.int dformulas_count, .int dformulas_units, .ref dformulas_names, .int dformulas_unitsOfThis, .int dformulas_length, .ref dformulas_starts, .ref dformulas_steps, .ref dformulas_stack])), (dformulas_starts, aI g 5 Fdformulas_starts), (dformulas_steps, aI g 640 Fdformulas_steps), (dformulas_stack, aI g 32 f_11), (dreasons, .inr (6, [.int dreasons_count, .ref dreasons_names, .ref dreasons_kinds, .ref dreasons_owners, .ref dreasons_froms, .ref dreasons_tos, .ref dreasons_rents, .ref dreasons_sorts])), (dreasons_kinds, aI g 8 Fdreasons_kinds), (dreasons_owners, aI g 8 Fdreasons_owners), (dreasons_froms, aI g 8 Fdreasons_froms), (dreasons_tos, aI g 8 Fdreasons_tos), (dreasons_sorts, aI g 8 Fdreasons_sorts)] H := hP
    have hD : va_D A [(x, .inr (11, [.ref xtape, .int xtapeLength, .ref xreader, .ref xland, .ref xspareLand, .ref xstates, .int xcurrent, .int xnewest, .ref xboxes, .int xfullBoxes, .ref xsearch, .ref xsights, .ref xparting, .ref xheap])), (xstates, aO g 41 Fxstates), (enumbers, aI g 16 Fenumbers), (xheap, .inr (1, [.int 0, .ref enumbers])), (xparting, .inr (4, [.int y_7, .int y_8, .ref qbehind, .ref qmornings])), (qbehind, aI g 128 f_9), (qmornings, aI g 8 f_10), (st, .inr (9, [.int sday, .int sseed, .int salive, .int sstruck, .int sopen, .int sduels, .int slines, .ref scoins, .ref srented, .ref smornings, .ref shonours, .ref sused, .ref ssides, .ref slog])), (srented, aI g 6 Fsrented), (smornings, aI g 8 Fsmornings), (sused, aI g 8 Fsused), (ssides, aI g 16 Fssides), (xland, .inr (2, [.ref dmen, .ref dformulas, .ref dreasons, .int dduels, .ref dduelSides, .ref dduelMornings, .int dhonour, .int ddraw, .ref dusesOfKind])), (dusesOfKind, aI g 4 FdusesOfKind), (dmen, .inr (3, [.int dmen_count, .ref dmen_names, .ref dmen_dies, .ref dmen_coins, .ref dmen_fathers])), (dmen_dies, aI g 6 Fdmen_dies), (dformulas, .inr (0, [.int dformulas_count, .int dformulas_units, .ref dformulas_names, .int dformulas_unitsOfThis, .int dformulas_length, .ref dformulas_starts, .ref dformulas_steps, .ref dformulas_stack])), (dformulas_starts, aI g 5 Fdformulas_starts), (dformulas_steps, aI g 640 Fdformulas_steps), (dformulas_stack, aI g 32 f_11), (dreasons, .inr (6, [.int dreasons_count, .ref dreasons_names, .ref dreasons_kinds, .ref dreasons_owners, .ref dreasons_froms, .ref dreasons_tos, .ref dreasons_rents, .ref dreasons_sorts])), (dreasons_kinds, aI g 8 Fdreasons_kinds), (dreasons_owners, aI g 8 Fdreasons_owners), (dreasons_froms, aI g 8 Fdreasons_froms), (dreasons_tos, aI g 8 Fdreasons_tos), (dreasons_sorts, aI g 8 Fdreasons_sorts)] := hD
    have hw : ((-1) ≤ r_6.toInt ∧ r_6.toInt ≤ 2) ∧ (0 ≤ y_7.toInt ∧ y_7.toInt ≤ 128) ∧ (0 ≤ y_8.toInt ∧ y_8.toInt ≤ 128) := hw0
    clear hw0
    have w_12 := hw.1
    have w_13 := hw.2.1
    have w_14 := hw.2.2
    clear hw
    refine lv_istore_n (lv' := [(2, .int r_6), (0, .ref x), (1, .int p0)]) hx hb dX11_part_44 rfl hl (by decide) rfl (fun ls hl => ?_)
    refine lv_iload_n hx hb dX11_part_45 rfl (lv_at hl 0 rfl) ?_
    refine lv_if_le (tgt := 66) hx hb dX11_part_46 (by decide) (fun c_15 => ?_) (fun c_15 => ?_)
    · have f_16 := E_le (rfl : r_6.toInt = _) (by decide : (0 : Int32).toInt = 0) c_15
      refine lv_iload_n hx hb dX11_part_66 rfl (lv_at hl 0 rfl) ?_
      refine lv_iconst (v := 1) hx hb dX11_part_67 (by decide) ?_
      refine lv_icmp_le (tgt := 88) hx hb dX11_part_68 (by decide) (fun _ => ?_) (fun c9 => absurd (L_le rfl (by decide : (1 : Int32).toInt = 1) (by omega)) c9)
      refine lv_iload_n hx hb dX11_part_88 rfl (lv_at hl 0 rfl) ?_
      have hP9 : va_P g.1 vwCl [(x, .inr (11, [.ref xtape, .int xtapeLength, .ref xreader, .ref xland, .ref xspareLand, .ref xstates, .int xcurrent, .int xnewest, .ref xboxes, .int xfullBoxes, .ref xsearch, .ref xsights, .ref xparting, .ref xheap])), (xstates, aO g 41 Fxstates), (xland, .inr (2, [.ref dmen, .ref dformulas, .ref dreasons, .int dduels, .ref dduelSides, .ref dduelMornings, .int dhonour, .int ddraw, .ref dusesOfKind])), (dusesOfKind, aI g 4 FdusesOfKind), (dmen, .inr (3, [.int dmen_count, .ref dmen_names, .ref dmen_dies, .ref dmen_coins, .ref dmen_fathers])), (dmen_dies, aI g 6 Fdmen_dies), (dformulas, .inr (0, [.int dformulas_count, .int dformulas_units, .ref dformulas_names, .int dformulas_unitsOfThis, .int dformulas_length, .ref dformulas_starts, .ref dformulas_steps, .ref dformulas_stack])), (dformulas_starts, aI g 5 Fdformulas_starts), (dformulas_steps, aI g 640 Fdformulas_steps), (dformulas_stack, aI g 32 f_11), (dreasons, .inr (6, [.int dreasons_count, .ref dreasons_names, .ref dreasons_kinds, .ref dreasons_owners, .ref dreasons_froms, .ref dreasons_tos, .ref dreasons_rents, .ref dreasons_sorts])), (dreasons_kinds, aI g 8 Fdreasons_kinds), (dreasons_owners, aI g 8 Fdreasons_owners), (dreasons_froms, aI g 8 Fdreasons_froms), (dreasons_tos, aI g 8 Fdreasons_tos), (dreasons_sorts, aI g 8 Fdreasons_sorts), (st, .inr (9, [.int sday, .int sseed, .int salive, .int sstruck, .int sopen, .int sduels, .int slines, .ref scoins, .ref srented, .ref smornings, .ref shonours, .ref sused, .ref ssides, .ref slog])), (srented, aI g 6 Fsrented), (smornings, aI g 8 Fsmornings), (sused, aI g 8 Fsused), (ssides, aI g 16 Fssides), (xheap, .inr (1, [.int 0, .ref enumbers])), (enumbers, aI g 16 Fenumbers), (xparting, .inr (4, [.int y_7, .int y_8, .ref qbehind, .ref qmornings])), (qbehind, aI g 128 f_9), (qmornings, aI g 8 f_10)] H := hP.sub [0, 1, 12, 13, 14, 15, 16, 17, 18, 19, 20, 21, 22, 23, 24, 25, 7, 8, 9, 10, 11, 3, 2, 4, 5, 6] rfl
      have hD9 : va_D A [(x, .inr (11, [.ref xtape, .int xtapeLength, .ref xreader, .ref xland, .ref xspareLand, .ref xstates, .int xcurrent, .int xnewest, .ref xboxes, .int xfullBoxes, .ref xsearch, .ref xsights, .ref xparting, .ref xheap])), (xstates, aO g 41 Fxstates), (xland, .inr (2, [.ref dmen, .ref dformulas, .ref dreasons, .int dduels, .ref dduelSides, .ref dduelMornings, .int dhonour, .int ddraw, .ref dusesOfKind])), (dusesOfKind, aI g 4 FdusesOfKind), (dmen, .inr (3, [.int dmen_count, .ref dmen_names, .ref dmen_dies, .ref dmen_coins, .ref dmen_fathers])), (dmen_dies, aI g 6 Fdmen_dies), (dformulas, .inr (0, [.int dformulas_count, .int dformulas_units, .ref dformulas_names, .int dformulas_unitsOfThis, .int dformulas_length, .ref dformulas_starts, .ref dformulas_steps, .ref dformulas_stack])), (dformulas_starts, aI g 5 Fdformulas_starts), (dformulas_steps, aI g 640 Fdformulas_steps), (dformulas_stack, aI g 32 f_11), (dreasons, .inr (6, [.int dreasons_count, .ref dreasons_names, .ref dreasons_kinds, .ref dreasons_owners, .ref dreasons_froms, .ref dreasons_tos, .ref dreasons_rents, .ref dreasons_sorts])), (dreasons_kinds, aI g 8 Fdreasons_kinds), (dreasons_owners, aI g 8 Fdreasons_owners), (dreasons_froms, aI g 8 Fdreasons_froms), (dreasons_tos, aI g 8 Fdreasons_tos), (dreasons_sorts, aI g 8 Fdreasons_sorts), (st, .inr (9, [.int sday, .int sseed, .int salive, .int sstruck, .int sopen, .int sduels, .int slines, .ref scoins, .ref srented, .ref smornings, .ref shonours, .ref sused, .ref ssides, .ref slog])), (srented, aI g 6 Fsrented), (smornings, aI g 8 Fsmornings), (sused, aI g 8 Fsused), (ssides, aI g 16 Fssides), (xheap, .inr (1, [.int 0, .ref enumbers])), (enumbers, aI g 16 Fenumbers), (xparting, .inr (4, [.int y_7, .int y_8, .ref qbehind, .ref qmornings])), (qbehind, aI g 128 f_9), (qmornings, aI g 8 f_10)] := hD.sub [0, 1, 12, 13, 14, 15, 16, 17, 18, 19, 20, 21, 22, 23, 24, 25, 7, 8, 9, 10, 11, 3, 2, 4, 5, 6] (by decide +kernel) rfl
      exact W.iret (v := r_6) hx hb hr (fun t ht hW => ⟨⟨r_6, (f_11, 0, Fenumbers, y_7, y_8, f_9, f_10), rfl, ⟨(by first | with_reducible assumption | omega), ⟨by decide, by decide⟩, (by first | with_reducible assumption | omega), (by first | with_reducible assumption | omega)⟩, by rw [ht]; exact hP9, by rw [hAe]; exact hD9⟩, hS.F ht⟩) hS.2.2 dX11_part_89
    · have f_17 := E_nle (rfl : r_6.toInt = _) (by decide : (0 : Int32).toInt = 0) c_15
      refine lv_aload_n hx hb dX11_part_49 rfl (lv_at hl 1 rfl) ?_
      refine va_get (D := g.1) (ci := 11) (v := .ref xheap) (C := RX11) (T := TX11) (N := 14) hx hb hT inF_X11 hown hK.1 hP 0 rfl rfl 13 (by decide) (hT _ bw_341) (fun _ h9 => h9) rfl dX11_part_50 ?_
      refine lv_aload_n hx hb dX11_part_53 rfl (lv_at hl 1 rfl) ?_
      refine va_get (D := g.1) (ci := 11) (v := .ref xparting) (C := RX11) (T := TX11) (N := 14) hx hb hT inF_X11 hown hK.1 hP 0 rfl rfl 12 (by decide) (hT _ bw_380) (fun _ h9 => h9) rfl dX11_part_54 ?_
      refine va_get (D := g.1) (ci := 4) (v := .int y_7) (C := RX4) (T := TX4) (N := 4) hx hb hT inF_X4 hown hK.1 hP 4 rfl rfl 0 (by decide) (hT _ bw_384) (fun _ h9 => h9) rfl dX11_part_57 ?_
      refine k_iR (k_S (n := 1) ⟨hx, hb, hml, hown, hT⟩ hK hP hD [] rfl (by decide +kernel) (s_X4_told l g H.size y_7 (by first | with_reducible assumption | omega)) (gS bw_385 bw_386 bw_387 bw_379) rfl rfl (by decide +kernel) ⟨by decide, by decide⟩ (fun _ _ _ _ _ => trivial) (fun _ _ _ => trivial) rfl rfl hl.1 (Nat.le_of_ble_eq_true rfl) dX11_part_60 ⟨by decide, by decide⟩) hP hS hA (fun r_18 _ H locs hw0 hP hS => ?_)
      have hw : 0 ≤ r_18.toInt ∧ r_18.toInt ≤ 817 := hw0
      clear hw0
      have w_19 := hw
      refine k_v (wr := [(x, .inr (11, [.ref xtape, .int xtapeLength, .ref xreader, .ref xland, .ref xspareLand, .ref xstates, .int xcurrent, .int xnewest, .ref xboxes, .int xfullBoxes, .ref xsearch, .ref xsights, .ref xparting, .ref xheap])), (xstates, aO g 41 Fxstates), (xparting, .inr (4, [.int y_7, .int y_8, .ref qbehind, .ref qmornings])), (qbehind, aI g 128 f_9), (qmornings, aI g 8 f_10), (st, .inr (9, [.int sday, .int sseed, .int salive, .int sstruck, .int sopen, .int sduels, .int slines, .ref scoins, .ref srented, .ref smornings, .ref shonours, .ref sused, .ref ssides, .ref slog])), (srented, aI g 6 Fsrented), (smornings, aI g 8 Fsmornings), (sused, aI g 8 Fsused), (ssides, aI g 16 Fssides), (xland, .inr (2, [.ref dmen, .ref dformulas, .ref dreasons, .int dduels, .ref dduelSides, .ref dduelMornings, .int dhonour, .int ddraw, .ref dusesOfKind])), (dusesOfKind, aI g 4 FdusesOfKind), (dmen, .inr (3, [.int dmen_count, .ref dmen_names, .ref dmen_dies, .ref dmen_coins, .ref dmen_fathers])), (dmen_dies, aI g 6 Fdmen_dies), (dformulas, .inr (0, [.int dformulas_count, .int dformulas_units, .ref dformulas_names, .int dformulas_unitsOfThis, .int dformulas_length, .ref dformulas_starts, .ref dformulas_steps, .ref dformulas_stack])), (dformulas_starts, aI g 5 Fdformulas_starts), (dformulas_steps, aI g 640 Fdformulas_steps), (dformulas_stack, aI g 32 f_11), (dreasons, .inr (6, [.int dreasons_count, .ref dreasons_names, .ref dreasons_kinds, .ref dreasons_owners, .ref dreasons_froms, .ref dreasons_tos, .ref dreasons_rents, .ref dreasons_sorts])), (dreasons_kinds, aI g 8 Fdreasons_kinds), (dreasons_owners, aI g 8 Fdreasons_owners), (dreasons_froms, aI g 8 Fdreasons_froms), (dreasons_tos, aI g 8 Fdreasons_tos), (dreasons_sorts, aI g 8 Fdreasons_sorts)]) (k_V (n := 1) ⟨hx, hb, hml, hown, hT⟩ hK hP hD [3, 2] rfl (by decide +kernel) (s_X1_add l g H.size xheap 0 enumbers Fenumbers r_18 (by decide)) (gV bw_373 bw_374 bw_375 bw_369 bw_3) rfl rfl (by decide +kernel) ⟨by decide, by decide⟩ (ci := 1) (q0 := 0) rfl rfl (fun _ _ _ _ _ => trivial) (fun _ _ _ => trivial) rfl rfl hl.1 (Nat.le_of_ble_eq_true rfl) dX11_part_63 ⟨by decide, by decide⟩) hP hD hS hA [3, 2] [0, 1, 4, 5, 6, 7, 8, 9, 10, 11, 12, 13, 14, 15, 16, 17, 18, 19, 20, 21, 22, 23, 24, 25] rfl rfl (by decide +kernel) (by decide +kernel) (pr_all fun y_20 => fun f_21 H locs hw0 hP hD hS => ?_)
      have hP : va_P g.1 vwCl [(x, .inr (11, [.ref xtape, .int xtapeLength, .ref xreader, .ref xland, .ref xspareLand, .ref xstates, .int xcurrent, .int xnewest, .ref xboxes, .int xfullBoxes, .ref xsearch, .ref xsights, .ref xparting, .ref xheap])), (xstates, aO g 41 Fxstates), (xparting, .inr (4, [.int y_7, .int y_8, .ref qbehind, .ref qmornings])), (qbehind, aI g 128 f_9), (qmornings, aI g 8 f_10), (st, .inr (9, [.int sday, .int sseed, .int salive, .int sstruck, .int sopen, .int sduels, .int slines, .ref scoins, .ref srented, .ref smornings, .ref shonours, .ref sused, .ref ssides, .ref slog])), (srented, aI g 6 Fsrented), (smornings, aI g 8 Fsmornings), (sused, aI g 8 Fsused), (ssides, aI g 16 Fssides), (xland, .inr (2, [.ref dmen, .ref dformulas, .ref dreasons, .int dduels, .ref dduelSides, .ref dduelMornings, .int dhonour, .int ddraw, .ref dusesOfKind])), (dusesOfKind, aI g 4 FdusesOfKind), (dmen, .inr (3, [.int dmen_count, .ref dmen_names, .ref dmen_dies, .ref dmen_coins, .ref dmen_fathers])), (dmen_dies, aI g 6 Fdmen_dies), (dformulas, .inr (0, [.int dformulas_count, .int dformulas_units, .ref dformulas_names, .int dformulas_unitsOfThis, .int dformulas_length, .ref dformulas_starts, .ref dformulas_steps, .ref dformulas_stack])), (dformulas_starts, aI g 5 Fdformulas_starts), (dformulas_steps, aI g 640 Fdformulas_steps), (dformulas_stack, aI g 32 f_11), (dreasons, .inr (6, [.int dreasons_count, .ref dreasons_names, .ref dreasons_kinds, .ref dreasons_owners, .ref dreasons_froms, .ref dreasons_tos, .ref dreasons_rents, .ref dreasons_sorts])), (dreasons_kinds, aI g 8 Fdreasons_kinds), (dreasons_owners, aI g 8 Fdreasons_owners), (dreasons_froms, aI g 8 Fdreasons_froms), (dreasons_tos, aI g 8 Fdreasons_tos), (dreasons_sorts, aI g 8 Fdreasons_sorts), (xheap, .inr (1, [.int y_20, .ref enumbers])), (enumbers, aI g 16 f_21)] H := hP
      have hD : va_D A [(x, .inr (11, [.ref xtape, .int xtapeLength, .ref xreader, .ref xland, .ref xspareLand, .ref xstates, .int xcurrent, .int xnewest, .ref xboxes, .int xfullBoxes, .ref xsearch, .ref xsights, .ref xparting, .ref xheap])), (xstates, aO g 41 Fxstates), (xparting, .inr (4, [.int y_7, .int y_8, .ref qbehind, .ref qmornings])), (qbehind, aI g 128 f_9), (qmornings, aI g 8 f_10), (st, .inr (9, [.int sday, .int sseed, .int salive, .int sstruck, .int sopen, .int sduels, .int slines, .ref scoins, .ref srented, .ref smornings, .ref shonours, .ref sused, .ref ssides, .ref slog])), (srented, aI g 6 Fsrented), (smornings, aI g 8 Fsmornings), (sused, aI g 8 Fsused), (ssides, aI g 16 Fssides), (xland, .inr (2, [.ref dmen, .ref dformulas, .ref dreasons, .int dduels, .ref dduelSides, .ref dduelMornings, .int dhonour, .int ddraw, .ref dusesOfKind])), (dusesOfKind, aI g 4 FdusesOfKind), (dmen, .inr (3, [.int dmen_count, .ref dmen_names, .ref dmen_dies, .ref dmen_coins, .ref dmen_fathers])), (dmen_dies, aI g 6 Fdmen_dies), (dformulas, .inr (0, [.int dformulas_count, .int dformulas_units, .ref dformulas_names, .int dformulas_unitsOfThis, .int dformulas_length, .ref dformulas_starts, .ref dformulas_steps, .ref dformulas_stack])), (dformulas_starts, aI g 5 Fdformulas_starts), (dformulas_steps, aI g 640 Fdformulas_steps), (dformulas_stack, aI g 32 f_11), (dreasons, .inr (6, [.int dreasons_count, .ref dreasons_names, .ref dreasons_kinds, .ref dreasons_owners, .ref dreasons_froms, .ref dreasons_tos, .ref dreasons_rents, .ref dreasons_sorts])), (dreasons_kinds, aI g 8 Fdreasons_kinds), (dreasons_owners, aI g 8 Fdreasons_owners), (dreasons_froms, aI g 8 Fdreasons_froms), (dreasons_tos, aI g 8 Fdreasons_tos), (dreasons_sorts, aI g 8 Fdreasons_sorts), (xheap, .inr (1, [.int y_20, .ref enumbers])), (enumbers, aI g 16 f_21)] := hD
      have hw : 0 ≤ y_20.toInt ∧ y_20.toInt ≤ 16 := hw0
      clear hw0
      have w_22 := hw
      refine lv_iload_n hx hb dX11_part_66 rfl (lv_at hl 0 rfl) ?_
      refine lv_iconst (v := 1) hx hb dX11_part_67 (by decide) ?_
      refine lv_icmp_le (tgt := 88) hx hb dX11_part_68 (by decide) (fun c_23 => ?_) (fun c_23 => ?_)
      · have f_24 := E_le (rfl : r_6.toInt = _) (by decide : (1 : Int32).toInt = 1) c_23
        refine lv_iload_n hx hb dX11_part_88 rfl (lv_at hl 0 rfl) ?_
        have hP9 : va_P g.1 vwCl [(x, .inr (11, [.ref xtape, .int xtapeLength, .ref xreader, .ref xland, .ref xspareLand, .ref xstates, .int xcurrent, .int xnewest, .ref xboxes, .int xfullBoxes, .ref xsearch, .ref xsights, .ref xparting, .ref xheap])), (xstates, aO g 41 Fxstates), (xland, .inr (2, [.ref dmen, .ref dformulas, .ref dreasons, .int dduels, .ref dduelSides, .ref dduelMornings, .int dhonour, .int ddraw, .ref dusesOfKind])), (dusesOfKind, aI g 4 FdusesOfKind), (dmen, .inr (3, [.int dmen_count, .ref dmen_names, .ref dmen_dies, .ref dmen_coins, .ref dmen_fathers])), (dmen_dies, aI g 6 Fdmen_dies), (dformulas, .inr (0, [.int dformulas_count, .int dformulas_units, .ref dformulas_names, .int dformulas_unitsOfThis, .int dformulas_length, .ref dformulas_starts, .ref dformulas_steps, .ref dformulas_stack])), (dformulas_starts, aI g 5 Fdformulas_starts), (dformulas_steps, aI g 640 Fdformulas_steps), (dformulas_stack, aI g 32 f_11), (dreasons, .inr (6, [.int dreasons_count, .ref dreasons_names, .ref dreasons_kinds, .ref dreasons_owners, .ref dreasons_froms, .ref dreasons_tos, .ref dreasons_rents, .ref dreasons_sorts])), (dreasons_kinds, aI g 8 Fdreasons_kinds), (dreasons_owners, aI g 8 Fdreasons_owners), (dreasons_froms, aI g 8 Fdreasons_froms), (dreasons_tos, aI g 8 Fdreasons_tos), (dreasons_sorts, aI g 8 Fdreasons_sorts), (st, .inr (9, [.int sday, .int sseed, .int salive, .int sstruck, .int sopen, .int sduels, .int slines, .ref scoins, .ref srented, .ref smornings, .ref shonours, .ref sused, .ref ssides, .ref slog])), (srented, aI g 6 Fsrented), (smornings, aI g 8 Fsmornings), (sused, aI g 8 Fsused), (ssides, aI g 16 Fssides), (xheap, .inr (1, [.int y_20, .ref enumbers])), (enumbers, aI g 16 f_21), (xparting, .inr (4, [.int y_7, .int y_8, .ref qbehind, .ref qmornings])), (qbehind, aI g 128 f_9), (qmornings, aI g 8 f_10)] H := hP.sub [0, 1, 10, 11, 12, 13, 14, 15, 16, 17, 18, 19, 20, 21, 22, 23, 5, 6, 7, 8, 9, 24, 25, 2, 3, 4] rfl
        have hD9 : va_D A [(x, .inr (11, [.ref xtape, .int xtapeLength, .ref xreader, .ref xland, .ref xspareLand, .ref xstates, .int xcurrent, .int xnewest, .ref xboxes, .int xfullBoxes, .ref xsearch, .ref xsights, .ref xparting, .ref xheap])), (xstates, aO g 41 Fxstates), (xland, .inr (2, [.ref dmen, .ref dformulas, .ref dreasons, .int dduels, .ref dduelSides, .ref dduelMornings, .int dhonour, .int ddraw, .ref dusesOfKind])), (dusesOfKind, aI g 4 FdusesOfKind), (dmen, .inr (3, [.int dmen_count, .ref dmen_names, .ref dmen_dies, .ref dmen_coins, .ref dmen_fathers])), (dmen_dies, aI g 6 Fdmen_dies), (dformulas, .inr (0, [.int dformulas_count, .int dformulas_units, .ref dformulas_names, .int dformulas_unitsOfThis, .int dformulas_length, .ref dformulas_starts, .ref dformulas_steps, .ref dformulas_stack])), (dformulas_starts, aI g 5 Fdformulas_starts), (dformulas_steps, aI g 640 Fdformulas_steps), (dformulas_stack, aI g 32 f_11), (dreasons, .inr (6, [.int dreasons_count, .ref dreasons_names, .ref dreasons_kinds, .ref dreasons_owners, .ref dreasons_froms, .ref dreasons_tos, .ref dreasons_rents, .ref dreasons_sorts])), (dreasons_kinds, aI g 8 Fdreasons_kinds), (dreasons_owners, aI g 8 Fdreasons_owners), (dreasons_froms, aI g 8 Fdreasons_froms), (dreasons_tos, aI g 8 Fdreasons_tos), (dreasons_sorts, aI g 8 Fdreasons_sorts), (st, .inr (9, [.int sday, .int sseed, .int salive, .int sstruck, .int sopen, .int sduels, .int slines, .ref scoins, .ref srented, .ref smornings, .ref shonours, .ref sused, .ref ssides, .ref slog])), (srented, aI g 6 Fsrented), (smornings, aI g 8 Fsmornings), (sused, aI g 8 Fsused), (ssides, aI g 16 Fssides), (xheap, .inr (1, [.int y_20, .ref enumbers])), (enumbers, aI g 16 f_21), (xparting, .inr (4, [.int y_7, .int y_8, .ref qbehind, .ref qmornings])), (qbehind, aI g 128 f_9), (qmornings, aI g 8 f_10)] := hD.sub [0, 1, 10, 11, 12, 13, 14, 15, 16, 17, 18, 19, 20, 21, 22, 23, 5, 6, 7, 8, 9, 24, 25, 2, 3, 4] (by decide +kernel) rfl
        exact W.iret (v := r_6) hx hb hr (fun t ht hW => ⟨⟨r_6, (f_11, y_20, f_21, y_7, y_8, f_9, f_10), rfl, ⟨(by first | with_reducible assumption | omega), (by first | with_reducible assumption | omega), (by first | with_reducible assumption | omega), (by first | with_reducible assumption | omega)⟩, by rw [ht]; exact hP9, by rw [hAe]; exact hD9⟩, hS.F ht⟩) hS.2.2 dX11_part_89
      · have f_25 := E_nle (rfl : r_6.toInt = _) (by decide : (1 : Int32).toInt = 1) c_23
        refine lv_aload_n hx hb dX11_part_71 rfl (lv_at hl 1 rfl) ?_
        refine va_get (D := g.1) (ci := 11) (v := .ref xheap) (C := RX11) (T := TX11) (N := 14) hx hb hT inF_X11 hown hK.1 hP 0 rfl rfl 13 (by decide) (hT _ bw_341) (fun _ h9 => h9) rfl dX11_part_72 ?_
        refine lv_aload_n hx hb dX11_part_75 rfl (lv_at hl 1 rfl) ?_
        refine va_get (D := g.1) (ci := 11) (v := .ref xparting) (C := RX11) (T := TX11) (N := 14) hx hb hT inF_X11 hown hK.1 hP 0 rfl rfl 12 (by decide) (hT _ bw_380) (fun _ h9 => h9) rfl dX11_part_76 ?_
        refine va_get (D := g.1) (ci := 4) (v := .int y_8) (C := RX4) (T := TX4) (N := 4) hx hb hT inF_X4 hown hK.1 hP 2 rfl rfl 1 (by decide) (hT _ bw_388) (fun _ h9 => h9) rfl dX11_part_79 ?_
        refine k_iR (k_S (n := 1) ⟨hx, hb, hml, hown, hT⟩ hK hP hD [] rfl (by decide +kernel) (s_X4_told l g H.size y_8 (by first | with_reducible assumption | omega)) (gS bw_385 bw_386 bw_387 bw_379) rfl rfl (by decide +kernel) ⟨by decide, by decide⟩ (fun _ _ _ _ _ => trivial) (fun _ _ _ => trivial) rfl rfl hl.1 (Nat.le_of_ble_eq_true rfl) dX11_part_82 ⟨by decide, by decide⟩) hP hS hA (fun r_26 _ H locs hw0 hP hS => ?_)
        have hw : 0 ≤ r_26.toInt ∧ r_26.toInt ≤ 817 := hw0
        clear hw0
        have w_27 := hw
        refine k_v (wr := [(x, .inr (11, [.ref xtape, .int xtapeLength, .ref xreader, .ref xland, .ref xspareLand, .ref xstates, .int xcurrent, .int xnewest, .ref xboxes, .int xfullBoxes, .ref xsearch, .ref xsights, .ref xparting, .ref xheap])), (xstates, aO g 41 Fxstates), (xparting, .inr (4, [.int y_7, .int y_8, .ref qbehind, .ref qmornings])), (qbehind, aI g 128 f_9), (qmornings, aI g 8 f_10), (st, .inr (9, [.int sday, .int sseed, .int salive, .int sstruck, .int sopen, .int sduels, .int slines, .ref scoins, .ref srented, .ref smornings, .ref shonours, .ref sused, .ref ssides, .ref slog])), (srented, aI g 6 Fsrented), (smornings, aI g 8 Fsmornings), (sused, aI g 8 Fsused), (ssides, aI g 16 Fssides), (xland, .inr (2, [.ref dmen, .ref dformulas, .ref dreasons, .int dduels, .ref dduelSides, .ref dduelMornings, .int dhonour, .int ddraw, .ref dusesOfKind])), (dusesOfKind, aI g 4 FdusesOfKind), (dmen, .inr (3, [.int dmen_count, .ref dmen_names, .ref dmen_dies, .ref dmen_coins, .ref dmen_fathers])), (dmen_dies, aI g 6 Fdmen_dies), (dformulas, .inr (0, [.int dformulas_count, .int dformulas_units, .ref dformulas_names, .int dformulas_unitsOfThis, .int dformulas_length, .ref dformulas_starts, .ref dformulas_steps, .ref dformulas_stack])), (dformulas_starts, aI g 5 Fdformulas_starts), (dformulas_steps, aI g 640 Fdformulas_steps), (dformulas_stack, aI g 32 f_11), (dreasons, .inr (6, [.int dreasons_count, .ref dreasons_names, .ref dreasons_kinds, .ref dreasons_owners, .ref dreasons_froms, .ref dreasons_tos, .ref dreasons_rents, .ref dreasons_sorts])), (dreasons_kinds, aI g 8 Fdreasons_kinds), (dreasons_owners, aI g 8 Fdreasons_owners), (dreasons_froms, aI g 8 Fdreasons_froms), (dreasons_tos, aI g 8 Fdreasons_tos), (dreasons_sorts, aI g 8 Fdreasons_sorts)]) (k_V (n := 1) ⟨hx, hb, hml, hown, hT⟩ hK hP hD [24, 25] rfl (by decide +kernel) (s_X1_add l g H.size xheap y_20 enumbers f_21 r_26 (by first | with_reducible assumption | omega)) (gV bw_373 bw_374 bw_375 bw_369 bw_3) rfl rfl (by decide +kernel) ⟨by decide, by decide⟩ (ci := 1) (q0 := 0) rfl rfl (fun _ _ _ _ _ => trivial) (fun _ _ _ => trivial) rfl rfl hl.1 (Nat.le_of_ble_eq_true rfl) dX11_part_85 ⟨by decide, by decide⟩) hP hD hS hA [24, 25] [0, 1, 2, 3, 4, 5, 6, 7, 8, 9, 10, 11, 12, 13, 14, 15, 16, 17, 18, 19, 20, 21, 22, 23] rfl rfl (by decide +kernel) (by decide +kernel) (pr_all fun y_28 => fun f_29 H locs hw0 hP hD hS => ?_)
        have hP : va_P g.1 vwCl [(x, .inr (11, [.ref xtape, .int xtapeLength, .ref xreader, .ref xland, .ref xspareLand, .ref xstates, .int xcurrent, .int xnewest, .ref xboxes, .int xfullBoxes, .ref xsearch, .ref xsights, .ref xparting, .ref xheap])), (xstates, aO g 41 Fxstates), (xparting, .inr (4, [.int y_7, .int y_8, .ref qbehind, .ref qmornings])), (qbehind, aI g 128 f_9), (qmornings, aI g 8 f_10), (st, .inr (9, [.int sday, .int sseed, .int salive, .int sstruck, .int sopen, .int sduels, .int slines, .ref scoins, .ref srented, .ref smornings, .ref shonours, .ref sused, .ref ssides, .ref slog])), (srented, aI g 6 Fsrented), (smornings, aI g 8 Fsmornings), (sused, aI g 8 Fsused), (ssides, aI g 16 Fssides), (xland, .inr (2, [.ref dmen, .ref dformulas, .ref dreasons, .int dduels, .ref dduelSides, .ref dduelMornings, .int dhonour, .int ddraw, .ref dusesOfKind])), (dusesOfKind, aI g 4 FdusesOfKind), (dmen, .inr (3, [.int dmen_count, .ref dmen_names, .ref dmen_dies, .ref dmen_coins, .ref dmen_fathers])), (dmen_dies, aI g 6 Fdmen_dies), (dformulas, .inr (0, [.int dformulas_count, .int dformulas_units, .ref dformulas_names, .int dformulas_unitsOfThis, .int dformulas_length, .ref dformulas_starts, .ref dformulas_steps, .ref dformulas_stack])), (dformulas_starts, aI g 5 Fdformulas_starts), (dformulas_steps, aI g 640 Fdformulas_steps), (dformulas_stack, aI g 32 f_11), (dreasons, .inr (6, [.int dreasons_count, .ref dreasons_names, .ref dreasons_kinds, .ref dreasons_owners, .ref dreasons_froms, .ref dreasons_tos, .ref dreasons_rents, .ref dreasons_sorts])), (dreasons_kinds, aI g 8 Fdreasons_kinds), (dreasons_owners, aI g 8 Fdreasons_owners), (dreasons_froms, aI g 8 Fdreasons_froms), (dreasons_tos, aI g 8 Fdreasons_tos), (dreasons_sorts, aI g 8 Fdreasons_sorts), (xheap, .inr (1, [.int y_28, .ref enumbers])), (enumbers, aI g 16 f_29)] H := hP
        have hD : va_D A [(x, .inr (11, [.ref xtape, .int xtapeLength, .ref xreader, .ref xland, .ref xspareLand, .ref xstates, .int xcurrent, .int xnewest, .ref xboxes, .int xfullBoxes, .ref xsearch, .ref xsights, .ref xparting, .ref xheap])), (xstates, aO g 41 Fxstates), (xparting, .inr (4, [.int y_7, .int y_8, .ref qbehind, .ref qmornings])), (qbehind, aI g 128 f_9), (qmornings, aI g 8 f_10), (st, .inr (9, [.int sday, .int sseed, .int salive, .int sstruck, .int sopen, .int sduels, .int slines, .ref scoins, .ref srented, .ref smornings, .ref shonours, .ref sused, .ref ssides, .ref slog])), (srented, aI g 6 Fsrented), (smornings, aI g 8 Fsmornings), (sused, aI g 8 Fsused), (ssides, aI g 16 Fssides), (xland, .inr (2, [.ref dmen, .ref dformulas, .ref dreasons, .int dduels, .ref dduelSides, .ref dduelMornings, .int dhonour, .int ddraw, .ref dusesOfKind])), (dusesOfKind, aI g 4 FdusesOfKind), (dmen, .inr (3, [.int dmen_count, .ref dmen_names, .ref dmen_dies, .ref dmen_coins, .ref dmen_fathers])), (dmen_dies, aI g 6 Fdmen_dies), (dformulas, .inr (0, [.int dformulas_count, .int dformulas_units, .ref dformulas_names, .int dformulas_unitsOfThis, .int dformulas_length, .ref dformulas_starts, .ref dformulas_steps, .ref dformulas_stack])), (dformulas_starts, aI g 5 Fdformulas_starts), (dformulas_steps, aI g 640 Fdformulas_steps), (dformulas_stack, aI g 32 f_11), (dreasons, .inr (6, [.int dreasons_count, .ref dreasons_names, .ref dreasons_kinds, .ref dreasons_owners, .ref dreasons_froms, .ref dreasons_tos, .ref dreasons_rents, .ref dreasons_sorts])), (dreasons_kinds, aI g 8 Fdreasons_kinds), (dreasons_owners, aI g 8 Fdreasons_owners), (dreasons_froms, aI g 8 Fdreasons_froms), (dreasons_tos, aI g 8 Fdreasons_tos), (dreasons_sorts, aI g 8 Fdreasons_sorts), (xheap, .inr (1, [.int y_28, .ref enumbers])), (enumbers, aI g 16 f_29)] := hD
        have hw : 0 ≤ y_28.toInt ∧ y_28.toInt ≤ 16 := hw0
        clear hw0
        have w_30 := hw
        refine lv_iload_n hx hb dX11_part_88 rfl (lv_at hl 0 rfl) ?_
        have hP9 : va_P g.1 vwCl [(x, .inr (11, [.ref xtape, .int xtapeLength, .ref xreader, .ref xland, .ref xspareLand, .ref xstates, .int xcurrent, .int xnewest, .ref xboxes, .int xfullBoxes, .ref xsearch, .ref xsights, .ref xparting, .ref xheap])), (xstates, aO g 41 Fxstates), (xland, .inr (2, [.ref dmen, .ref dformulas, .ref dreasons, .int dduels, .ref dduelSides, .ref dduelMornings, .int dhonour, .int ddraw, .ref dusesOfKind])), (dusesOfKind, aI g 4 FdusesOfKind), (dmen, .inr (3, [.int dmen_count, .ref dmen_names, .ref dmen_dies, .ref dmen_coins, .ref dmen_fathers])), (dmen_dies, aI g 6 Fdmen_dies), (dformulas, .inr (0, [.int dformulas_count, .int dformulas_units, .ref dformulas_names, .int dformulas_unitsOfThis, .int dformulas_length, .ref dformulas_starts, .ref dformulas_steps, .ref dformulas_stack])), (dformulas_starts, aI g 5 Fdformulas_starts), (dformulas_steps, aI g 640 Fdformulas_steps), (dformulas_stack, aI g 32 f_11), (dreasons, .inr (6, [.int dreasons_count, .ref dreasons_names, .ref dreasons_kinds, .ref dreasons_owners, .ref dreasons_froms, .ref dreasons_tos, .ref dreasons_rents, .ref dreasons_sorts])), (dreasons_kinds, aI g 8 Fdreasons_kinds), (dreasons_owners, aI g 8 Fdreasons_owners), (dreasons_froms, aI g 8 Fdreasons_froms), (dreasons_tos, aI g 8 Fdreasons_tos), (dreasons_sorts, aI g 8 Fdreasons_sorts), (st, .inr (9, [.int sday, .int sseed, .int salive, .int sstruck, .int sopen, .int sduels, .int slines, .ref scoins, .ref srented, .ref smornings, .ref shonours, .ref sused, .ref ssides, .ref slog])), (srented, aI g 6 Fsrented), (smornings, aI g 8 Fsmornings), (sused, aI g 8 Fsused), (ssides, aI g 16 Fssides), (xheap, .inr (1, [.int y_28, .ref enumbers])), (enumbers, aI g 16 f_29), (xparting, .inr (4, [.int y_7, .int y_8, .ref qbehind, .ref qmornings])), (qbehind, aI g 128 f_9), (qmornings, aI g 8 f_10)] H := hP.sub [0, 1, 10, 11, 12, 13, 14, 15, 16, 17, 18, 19, 20, 21, 22, 23, 5, 6, 7, 8, 9, 24, 25, 2, 3, 4] rfl
        have hD9 : va_D A [(x, .inr (11, [.ref xtape, .int xtapeLength, .ref xreader, .ref xland, .ref xspareLand, .ref xstates, .int xcurrent, .int xnewest, .ref xboxes, .int xfullBoxes, .ref xsearch, .ref xsights, .ref xparting, .ref xheap])), (xstates, aO g 41 Fxstates), (xland, .inr (2, [.ref dmen, .ref dformulas, .ref dreasons, .int dduels, .ref dduelSides, .ref dduelMornings, .int dhonour, .int ddraw, .ref dusesOfKind])), (dusesOfKind, aI g 4 FdusesOfKind), (dmen, .inr (3, [.int dmen_count, .ref dmen_names, .ref dmen_dies, .ref dmen_coins, .ref dmen_fathers])), (dmen_dies, aI g 6 Fdmen_dies), (dformulas, .inr (0, [.int dformulas_count, .int dformulas_units, .ref dformulas_names, .int dformulas_unitsOfThis, .int dformulas_length, .ref dformulas_starts, .ref dformulas_steps, .ref dformulas_stack])), (dformulas_starts, aI g 5 Fdformulas_starts), (dformulas_steps, aI g 640 Fdformulas_steps), (dformulas_stack, aI g 32 f_11), (dreasons, .inr (6, [.int dreasons_count, .ref dreasons_names, .ref dreasons_kinds, .ref dreasons_owners, .ref dreasons_froms, .ref dreasons_tos, .ref dreasons_rents, .ref dreasons_sorts])), (dreasons_kinds, aI g 8 Fdreasons_kinds), (dreasons_owners, aI g 8 Fdreasons_owners), (dreasons_froms, aI g 8 Fdreasons_froms), (dreasons_tos, aI g 8 Fdreasons_tos), (dreasons_sorts, aI g 8 Fdreasons_sorts), (st, .inr (9, [.int sday, .int sseed, .int salive, .int sstruck, .int sopen, .int sduels, .int slines, .ref scoins, .ref srented, .ref smornings, .ref shonours, .ref sused, .ref ssides, .ref slog])), (srented, aI g 6 Fsrented), (smornings, aI g 8 Fsmornings), (sused, aI g 8 Fsused), (ssides, aI g 16 Fssides), (xheap, .inr (1, [.int y_28, .ref enumbers])), (enumbers, aI g 16 f_29), (xparting, .inr (4, [.int y_7, .int y_8, .ref qbehind, .ref qmornings])), (qbehind, aI g 128 f_9), (qmornings, aI g 8 f_10)] := hD.sub [0, 1, 10, 11, 12, 13, 14, 15, 16, 17, 18, 19, 20, 21, 22, 23, 5, 6, 7, 8, 9, 24, 25, 2, 3, 4] (by decide +kernel) rfl
        exact W.iret (v := r_6) hx hb hr (fun t ht hW => ⟨⟨r_6, (f_11, y_28, f_29, y_7, y_8, f_9, f_10), rfl, ⟨(by first | with_reducible assumption | omega), (by first | with_reducible assumption | omega), (by first | with_reducible assumption | omega), (by first | with_reducible assumption | omega)⟩, by rw [ht]; exact hP9, by rw [hAe]; exact hD9⟩, hS.F ht⟩) hS.2.2 dX11_part_89
  · subst e_4
    refine lv_if_ne (tgt := 23) hx hb dX11_part_18 (by decide) (fun c9 => absurd (by decide) c9) (fun _ => ?_)
    refine lv_iconst (v := (-1)) hx hb dX11_part_21 (by decide) ?_
    have hP9 : va_P g.1 vwCl [(x, .inr (11, [.ref xtape, .int xtapeLength, .ref xreader, .ref xland, .ref xspareLand, .ref xstates, .int xcurrent, .int xnewest, .ref xboxes, .int xfullBoxes, .ref xsearch, .ref xsights, .ref xparting, .ref xheap])), (xstates, aO g 41 Fxstates), (xland, .inr (2, [.ref dmen, .ref dformulas, .ref dreasons, .int dduels, .ref dduelSides, .ref dduelMornings, .int dhonour, .int ddraw, .ref dusesOfKind])), (dusesOfKind, aI g 4 FdusesOfKind), (dmen, .inr (3, [.int dmen_count, .ref dmen_names, .ref dmen_dies, .ref dmen_coins, .ref dmen_fathers])), (dmen_dies, aI g 6 Fdmen_dies), (dformulas, .inr (0, [.int dformulas_count, .int dformulas_units, .ref dformulas_names, .int dformulas_unitsOfThis, .int dformulas_length, .ref dformulas_starts, .ref dformulas_steps, .ref dformulas_stack])), (dformulas_starts, aI g 5 Fdformulas_starts), (dformulas_steps, aI g 640 Fdformulas_steps), (dformulas_stack, aI g 32 Fdformulas_stack), (dreasons, .inr (6, [.int dreasons_count, .ref dreasons_names, .ref dreasons_kinds, .ref dreasons_owners, .ref dreasons_froms, .ref dreasons_tos, .ref dreasons_rents, .ref dreasons_sorts])), (dreasons_kinds, aI g 8 Fdreasons_kinds), (dreasons_owners, aI g 8 Fdreasons_owners), (dreasons_froms, aI g 8 Fdreasons_froms), (dreasons_tos, aI g 8 Fdreasons_tos), (dreasons_sorts, aI g 8 Fdreasons_sorts), (st, .inr (9, [.int sday, .int sseed, .int salive, .int sstruck, .int sopen, .int sduels, .int slines, .ref scoins, .ref srented, .ref smornings, .ref shonours, .ref sused, .ref ssides, .ref slog])), (srented, aI g 6 Fsrented), (smornings, aI g 8 Fsmornings), (sused, aI g 8 Fsused), (ssides, aI g 16 Fssides), (xheap, .inr (1, [.int 0, .ref enumbers])), (enumbers, aI g 16 Fenumbers), (xparting, .inr (4, [.int qfirst, .int qsecond, .ref qbehind, .ref qmornings])), (qbehind, aI g 128 Fqbehind), (qmornings, aI g 8 Fqmornings)] H := hP.sub [0, 1, 2, 3, 4, 5, 6, 7, 8, 9, 10, 11, 12, 13, 14, 15, 16, 17, 18, 19, 20, 25, 21, 22, 23, 24] rfl
    have hD9 : va_D A [(x, .inr (11, [.ref xtape, .int xtapeLength, .ref xreader, .ref xland, .ref xspareLand, .ref xstates, .int xcurrent, .int xnewest, .ref xboxes, .int xfullBoxes, .ref xsearch, .ref xsights, .ref xparting, .ref xheap])), (xstates, aO g 41 Fxstates), (xland, .inr (2, [.ref dmen, .ref dformulas, .ref dreasons, .int dduels, .ref dduelSides, .ref dduelMornings, .int dhonour, .int ddraw, .ref dusesOfKind])), (dusesOfKind, aI g 4 FdusesOfKind), (dmen, .inr (3, [.int dmen_count, .ref dmen_names, .ref dmen_dies, .ref dmen_coins, .ref dmen_fathers])), (dmen_dies, aI g 6 Fdmen_dies), (dformulas, .inr (0, [.int dformulas_count, .int dformulas_units, .ref dformulas_names, .int dformulas_unitsOfThis, .int dformulas_length, .ref dformulas_starts, .ref dformulas_steps, .ref dformulas_stack])), (dformulas_starts, aI g 5 Fdformulas_starts), (dformulas_steps, aI g 640 Fdformulas_steps), (dformulas_stack, aI g 32 Fdformulas_stack), (dreasons, .inr (6, [.int dreasons_count, .ref dreasons_names, .ref dreasons_kinds, .ref dreasons_owners, .ref dreasons_froms, .ref dreasons_tos, .ref dreasons_rents, .ref dreasons_sorts])), (dreasons_kinds, aI g 8 Fdreasons_kinds), (dreasons_owners, aI g 8 Fdreasons_owners), (dreasons_froms, aI g 8 Fdreasons_froms), (dreasons_tos, aI g 8 Fdreasons_tos), (dreasons_sorts, aI g 8 Fdreasons_sorts), (st, .inr (9, [.int sday, .int sseed, .int salive, .int sstruck, .int sopen, .int sduels, .int slines, .ref scoins, .ref srented, .ref smornings, .ref shonours, .ref sused, .ref ssides, .ref slog])), (srented, aI g 6 Fsrented), (smornings, aI g 8 Fsmornings), (sused, aI g 8 Fsused), (ssides, aI g 16 Fssides), (xheap, .inr (1, [.int 0, .ref enumbers])), (enumbers, aI g 16 Fenumbers), (xparting, .inr (4, [.int qfirst, .int qsecond, .ref qbehind, .ref qmornings])), (qbehind, aI g 128 Fqbehind), (qmornings, aI g 8 Fqmornings)] := hD.sub [0, 1, 2, 3, 4, 5, 6, 7, 8, 9, 10, 11, 12, 13, 14, 15, 16, 17, 18, 19, 20, 25, 21, 22, 23, 24] (by decide +kernel) rfl
    exact W.iret (v := (-1)) hx hb hr (fun t ht hW => ⟨⟨(-1), (Fdformulas_stack, 0, Fenumbers, qfirst, qsecond, Fqbehind, Fqmornings), rfl, ⟨⟨by decide, by decide⟩, ⟨by decide, by decide⟩, (by first | with_reducible assumption | omega), (by first | with_reducible assumption | omega)⟩, by rw [ht]; exact hP9, by rw [hAe]; exact hD9⟩, hS.F ht⟩) hS.2.2 dX11_part_22
