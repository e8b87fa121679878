theorem bw_159 : Cond.fieldLink RX11 16 "DuelDelays" "reader" "LDuelDelays$Reader;" ∈ gT := gT_tb 523 (by decide +kernel) (by decide +kernel)
theorem bw_160 : Cond.fieldLink RX11 9 "DuelDelays" "tape" "[B" ∈ gT := gT_tb 521 (by decide +kernel) (by decide +kernel)
theorem bw_161 : Cond.fieldLink RX11 72 "DuelDelays" "tapeLength" "I" ∈ gT := gT_tb 522 (by decide +kernel) (by decide +kernel)
theorem bw_162 : Cond.fieldLink RX11 27 "DuelDelays" "spareLand" "LDuelDelays$Land;" ∈ gT := gT_tb 525 (by decide +kernel) (by decide +kernel)
theorem bw_163 : Cond.methodLink RX11 80 yX5_read ∈ gT := gT_tb 580 (by decide +kernel) (by decide +kernel)
theorem bw_164 : Cond.instanceMethod yX5_read ∈ gT := gT_tb 581 (by decide +kernel) (by decide +kernel)
theorem bw_165 : Cond.selects RX5 yX5_read yX5_read ∈ gT := gT_tb 582 (by decide +kernel) (by decide +kernel)
theorem bw_166 : Cond.initialized RX5 ∈ gT := gT_tb 2 (by decide +kernel) (by decide +kernel)
theorem bw_167 : Cond.methodLink RX11 68 yX9_begin ∈ gT := gT_tb 507 (by decide +kernel) (by decide +kernel)
theorem bw_168 : Cond.instanceMethod yX9_begin ∈ gT := gT_tb 508 (by decide +kernel) (by decide +kernel)
theorem bw_169 : Cond.selects RX9 yX9_begin yX9_begin ∈ gT := gT_tb 509 (by decide +kernel) (by decide +kernel)
theorem bw_170 : Cond.methodLink RX11 90 yX8_clear ∈ gT := gT_tb 827 (by decide +kernel) (by decide +kernel)
theorem bw_171 : Cond.instanceMethod yX8_clear ∈ gT := gT_tb 828 (by decide +kernel) (by decide +kernel)
theorem bw_172 : Cond.selects RX8 yX8_clear yX8_clear ∈ gT := gT_tb 829 (by decide +kernel) (by decide +kernel)
theorem bw_173 : Cond.fieldLink RX11 101 "DuelDelays$Men" "count" "I" ∈ gT := gT_tb 167 (by decide +kernel) (by decide +kernel)
theorem bw_174 : Cond.code yX11_code cX11_code 2 (some .int) ∈ gT := gT_tb 579 (by decide +kernel) (by decide +kernel)
theorem dX11_code_0 : decode cX11_code 0 = .ok (.aload_n 0, 1) := by decide +kernel
theorem dX11_code_1 : decode cX11_code 1 = .ok (.getfield 16, 3) := by decide +kernel
theorem dX11_code_4 : decode cX11_code 4 = .ok (.aload_n 0, 1) := by decide +kernel
theorem dX11_code_5 : decode cX11_code 5 = .ok (.getfield 9, 3) := by decide +kernel
theorem dX11_code_8 : decode cX11_code 8 = .ok (.aload_n 0, 1) := by decide +kernel
theorem dX11_code_9 : decode cX11_code 9 = .ok (.getfield 72, 3) := by decide +kernel
theorem dX11_code_12 : decode cX11_code 12 = .ok (.aload_n 0, 1) := by decide +kernel
theorem dX11_code_13 : decode cX11_code 13 = .ok (.getfield 27, 3) := by decide +kernel
theorem dX11_code_16 : decode cX11_code 16 = .ok (.invokevirtual 80, 3) := by decide +kernel
theorem dX11_code_19 : decode cX11_code 19 = .ok (.ifCond .ne 5, 3) := by decide +kernel
theorem dX11_code_24 : decode cX11_code 24 = .ok (.aload_n 0, 1) := by decide +kernel
theorem dX11_code_25 : decode cX11_code 25 = .ok (.getfield 27, 3) := by decide +kernel
theorem dX11_code_28 : decode cX11_code 28 = .ok (.astore_n 1, 1) := by decide +kernel
theorem dX11_code_29 : decode cX11_code 29 = .ok (.aload_n 0, 1) := by decide +kernel
theorem dX11_code_30 : decode cX11_code 30 = .ok (.aload_n 0, 1) := by decide +kernel
theorem dX11_code_31 : decode cX11_code 31 = .ok (.getfield 23, 3) := by decide +kernel
theorem dX11_code_34 : decode cX11_code 34 = .ok (.putfield 27, 3) := by decide +kernel
theorem dX11_code_37 : decode cX11_code 37 = .ok (.aload_n 0, 1) := by decide +kernel
theorem dX11_code_38 : decode cX11_code 38 = .ok (.aload_n 1, 1) := by decide +kernel
theorem dX11_code_39 : decode cX11_code 39 = .ok (.putfield 23, 3) := by decide +kernel
theorem dX11_code_42 : decode cX11_code 42 = .ok (.aload_n 0, 1) := by decide +kernel
theorem dX11_code_43 : decode cX11_code 43 = .ok (.iconst 0, 1) := by decide +kernel
theorem dX11_code_44 : decode cX11_code 44 = .ok (.putfield 72, 3) := by decide +kernel
theorem dX11_code_47 : decode cX11_code 47 = .ok (.aload_n 0, 1) := by decide +kernel
theorem dX11_code_48 : decode cX11_code 48 = .ok (.iconst 0, 1) := by decide +kernel
theorem dX11_code_49 : decode cX11_code 49 = .ok (.putfield 84, 3) := by decide +kernel
theorem dX11_code_52 : decode cX11_code 52 = .ok (.aload_n 0, 1) := by decide +kernel
theorem dX11_code_53 : decode cX11_code 53 = .ok (.iconst 0, 1) := by decide +kernel
theorem dX11_code_54 : decode cX11_code 54 = .ok (.putfield 87, 3) := by decide +kernel
theorem dX11_code_57 : decode cX11_code 57 = .ok (.aload_n 0, 1) := by decide +kernel
theorem dX11_code_58 : decode cX11_code 58 = .ok (.getfield 32, 3) := by decide +kernel
theorem dX11_code_61 : decode cX11_code 61 = .ok (.iconst 0, 1) := by decide +kernel
theorem dX11_code_62 : decode cX11_code 62 = .ok (.aaload, 1) := by decide +kernel
theorem dX11_code_63 : decode cX11_code 63 = .ok (.aload_n 0, 1) := by decide +kernel
theorem dX11_code_64 : decode cX11_code 64 = .ok (.getfield 23, 3) := by decide +kernel
theorem dX11_code_67 : decode cX11_code 67 = .ok (.invokevirtual 68, 3) := by decide +kernel
theorem dX11_code_70 : decode cX11_code 70 = .ok (.aload_n 0, 1) := by decide +kernel
theorem dX11_code_71 : decode cX11_code 71 = .ok (.getfield 49, 3) := by decide +kernel
theorem dX11_code_74 : decode cX11_code 74 = .ok (.invokevirtual 90, 3) := by decide +kernel
theorem dX11_code_77 : decode cX11_code 77 = .ok (.aload_n 0, 1) := by decide +kernel
theorem dX11_code_78 : decode cX11_code 78 = .ok (.getfield 63, 3) := by decide +kernel
theorem dX11_code_81 : decode cX11_code 81 = .ok (.invokevirtual 93, 3) := by decide +kernel
theorem dX11_code_84 : decode cX11_code 84 = .ok (.aload_n 0, 1) := by decide +kernel
theorem dX11_code_85 : decode cX11_code 85 = .ok (.iconst 0, 1) := by decide +kernel
theorem dX11_code_86 : decode cX11_code 86 = .ok (.putfield 94, 3) := by decide +kernel
theorem dX11_code_89 : decode cX11_code 89 = .ok (.aload_n 0, 1) := by decide +kernel
theorem dX11_code_90 : decode cX11_code 90 = .ok (.getfield 23, 3) := by decide +kernel
theorem dX11_code_93 : decode cX11_code 93 = .ok (.getfield 97, 3) := by decide +kernel
theorem dX11_code_96 : decode cX11_code 96 = .ok (.getfield 101, 3) := by decide +kernel
theorem dX11_code_99 : decode cX11_code 99 = .ok (.ireturn, 1) := by decide +kernel
set_option maxHeartbeats 4000000 in
set_option maxRecDepth 100000 in
theorem c_X11_code (l : Launch) (g : GG) (sz : Nat) (x : Nat) (xt : Nat) (xr : Nat) (la : Nat) (lb : Nat) (sa : Nat) (ba : Nat) (se : Nat) (si : Nat) (pa : Nat) (he : Nat) (tk : Nat) (tw : Nat) (meb : Nat) (fob : Nat) (reb : Nat) (d1b : Nat) (d2b : Nat) (d3b : Nat) (m1b : Nat) (m2b : Nat) (m3b : Nat) (m4b : Nat) (f1b : Nat) (f2b : Nat) (f3b : Nat) (f4b : Nat) (r1b : Nat) (r2b : Nat) (r3b : Nat) (r4b : Nat) (r5b : Nat) (r6b : Nat) (r7b : Nat) (s1 : Nat) (s0 : Nat) (t1u : Nat) (t2u : Nat) (t3u : Nat) (t4u : Nat) (t5u : Nat) (t6u : Nat) (t7u : Nat) (i1 : Nat) (i2 : Nat) (i3 : Nat) (i4 : Nat) (k3 : Nat) (fs : Nat → Option Nat) : Met l yX11_code (.code yX11_code cX11_code 2 (some .int) :: gT) ({ frames := 3, cells := 0, slots := 0, locals := 107 }) (va_Pc [.ref x] (Pst g sz [(x, .inr (11, [.ref xt, .int 0, .ref xr, .ref la, .ref lb, .ref sa, .int 0, .int 0, .ref ba, .int 0, .ref se, .ref si, .ref pa, .ref he])), (xt, aB g 1600 z0), (xr, .inr (5, [.int 0, .int (-1), .ref tk, .null, .int 0, .int 0, .int 0])), (tk, .inr (10, [.int 0, .int 0, .int 0, .long 0, .null, .int 0, .int 0, .ref tw])), (lb, .inr (2, [.ref meb, .ref fob, .ref reb, .int 0, .ref d1b, .ref d2b, .int 9, .int 0, .ref d3b])), (meb, .inr (3, [.int 0, .ref m1b, .ref m2b, .ref m3b, .ref m4b])), (m3b, aI g 6 z0), (fob, .inr (0, [.int 0, .int 0, .ref f1b, .int 0, .int 0, .ref f2b, .ref f3b, .ref f4b])), (reb, .inr (6, [.int 0, .ref r1b, .ref r2b, .ref r3b, .ref r4b, .ref r5b, .ref r6b, .ref r7b])), (d3b, aI g 4 z0), (sa, aO g 41 (va_up (va_up fs 0 (some s0)) 1 (some s1))), (s0, .inr (9, [.int 0, .int 0, .int 0, .int 0, .int 0, .int 0, .int 0, .ref t1u, .ref t2u, .ref t3u, .ref t4u, .ref t5u, .ref t6u, .ref t7u])), (t1u, aI g 6 z0), (t2u, aI g 6 z0), (si, .inr (8, [.int 0, .int 0, .ref i1, .ref i2, .ref i3, .ref i4])), (he, .inr (1, [.int 0, .ref k3]))] nX)) (va_Qi (fun (r : Int32) (_ : Unit) => r = 0) (Qst g [(x, .inr (11, [.ref xt, .int 0, .ref xr, .ref la, .ref lb, .ref sa, .int 0, .int 0, .ref ba, .int 0, .ref se, .ref si, .ref pa, .ref he])), (xt, aB g 1600 z0), (xr, .inr (5, [.int 0, .int (-1), .ref tk, .null, .int 0, .int 0, .int 0])), (tk, .inr (10, [.int 0, .int 0, .int 0, .long 0, .null, .int 0, .int 0, .ref tw])), (lb, .inr (2, [.ref meb, .ref fob, .ref reb, .int 0, .ref d1b, .ref d2b, .int 9, .int 0, .ref d3b])), (meb, .inr (3, [.int 0, .ref m1b, .ref m2b, .ref m3b, .ref m4b])), (m3b, aI g 6 z0), (fob, .inr (0, [.int 0, .int 0, .ref f1b, .int 0, .int 0, .ref f2b, .ref f3b, .ref f4b])), (reb, .inr (6, [.int 0, .ref r1b, .ref r2b, .ref r3b, .ref r4b, .ref r5b, .ref r6b, .ref r7b])), (d3b, aI g 4 z0), (sa, aO g 41 (va_up (va_up fs 0 (some s0)) 1 (some s1))), (s0, .inr (9, [.int 0, .int 0, .int 0, .int 0, .int 0, .int 0, .int 0, .ref t1u, .ref t2u, .ref t3u, .ref t4u, .ref t5u, .ref t6u, .ref t7u])), (t1u, aI g 6 z0), (t2u, aI g 6 z0), (si, .inr (8, [.int 0, .int 0, .ref i1, .ref i2, .ref i3, .ref i4])), (he, .inr (1, [.int 0, .ref k3]))] sz (fun _ => [])) (va_A [(x, .inr (11, [.ref xt, .int 0, .ref xr, .ref la, .ref lb, .ref sa, .int 0, .int 0, .ref ba, .int 0, .ref se, .ref si, .ref pa, .ref he])), (xt, aB g 1600 z0), (xr, .inr (5, [.int 0, .int (-1), .ref tk, .null, .int 0, .int 0, .int 0])), (tk, .inr (10, [.int 0, .int 0, .int 0, .long 0, .null, .int 0, .int 0, .ref tw])), (lb, .inr (2, [.ref meb, .ref fob, .ref reb, .int 0, .ref d1b, .ref d2b, .int 9, .int 0, .ref d3b])), (meb, .inr (3, [.int 0, .ref m1b, .ref m2b, .ref m3b, .ref m4b])), (m3b, aI g 6 z0), (fob, .inr (0, [.int 0, .int 0, .ref f1b, .int 0, .int 0, .ref f2b, .ref f3b, .ref f4b])), (reb, .inr (6, [.int 0, .ref r1b, .ref r2b, .ref r3b, .ref r4b, .ref r5b, .ref r6b, .ref r7b])), (d3b, aI g 4 z0), (sa, aO g 41 (va_up (va_up fs 0 (some s0)) 1 (some s1))), (s0, .inr (9, [.int 0, .int 0, .int 0, .int 0, .int 0, .int 0, .int 0, .ref t1u, .ref t2u, .ref t3u, .ref t4u, .ref t5u, .ref t6u, .ref t7u])), (t1u, aI g 6 z0), (t2u, aI g 6 z0), (si, .inr (8, [.int 0, .int 0, .ref i1, .ref i2, .ref i3, .ref i4])), (he, .inr (1, [.int 0, .ref k3]))] sz)) 0 0 (va_A [(x, .inr (11, [.ref xt, .int 0, .ref xr, .ref la, .ref lb, .ref sa, .int 0, .int 0, .ref ba, .int 0, .ref se, .ref si, .ref pa, .ref he])), (xt, aB g 1600 z0), (xr, .inr (5, [.int 0, .int (-1), .ref tk, .null, .int 0, .int 0, .int 0])), (tk, .inr (10, [.int 0, .int 0, .int 0, .long 0, .null, .int 0, .int 0, .ref tw])), (lb, .inr (2, [.ref meb, .ref fob, .ref reb, .int 0, .ref d1b, .ref d2b, .int 9, .int 0, .ref d3b])), (meb, .inr (3, [.int 0, .ref m1b, .ref m2b, .ref m3b, .ref m4b])), (m3b, aI g 6 z0), (fob, .inr (0, [.int 0, .int 0, .ref f1b, .int 0, .int 0, .ref f2b, .ref f3b, .ref f4b])), (reb, .inr (6, [.int 0, .ref r1b, .ref r2b, .ref r3b, .ref r4b, .ref r5b, .ref r6b, .ref r7b])), (d3b, aI g 4 z0), (sa, aO g 41 (va_up (va_up fs 0 (some s0)) 1 (some s1))), (s0, .inr (9, [.int 0, .int 0, .int 0, .int 0, .int 0, .int 0, .int 0, .ref t1u, .ref t2u, .ref t3u, .ref t4u, .ref t5u, .ref t6u, .ref t7u])), (t1u, aI g 6 z0), (t2u, aI g 6 z0), (si, .inr (8, [.int 0, .int 0, .ref i1, .ref i2, .ref i3, .ref i4])), (he, .inr (1, [.int 0, .ref k3]))] sz) := by
  refine Met.ofW (cc := cX11_code) (maxL := 2) (ret := (some .int)) (by decide) rfl ?_
  intro p e s m args below meth c s₁ B hml hv
  obtain ⟨rfl, hsz, hP, hK, hD0, hX⟩ := hv
  have hx := B.exec
  have hb := B.bytes
  have hr := B.returns
  have hT : ∀ w ∈ gT, w.before _ s = true := fun w h => atoms_spec (ws := .code yX11_code cX11_code 2 (some .int) :: gT) B.pre w (List.mem_cons_of_mem _ h)
  have hown : s.vm.findClass RX11 = some m.cls := findClass_of_methodNamed B.named
  have hlocks := B.notSynchronized
  subst hsz
  have hD := hD0.self (sz := s.heap.size)
  generalize hAe : va_A [(x, .inr (11, [.ref xt, .int 0, .ref xr, .ref la, .ref lb, .ref sa, .int 0, .int 0, .ref ba, .int 0, .ref se, .ref si, .ref pa, .ref he])), (xt, aB g 1600 z0), (xr, .inr (5, [.int 0, .int (-1), .ref tk, .null, .int 0, .int 0, .int 0])), (tk, .inr (10, [.int 0, .int 0, .int 0, .long 0, .null, .int 0, .int 0, .ref tw])), (lb, .inr (2, [.ref meb, .ref fob, .ref reb, .int 0, .ref d1b, .ref d2b, .int 9, .int 0, .ref d3b])), (meb, .inr (3, [.int 0, .ref m1b, .ref m2b, .ref m3b, .ref m4b])), (m3b, aI g 6 z0), (fob, .inr (0, [.int 0, .int 0, .ref f1b, .int 0, .int 0, .ref f2b, .ref f3b, .ref f4b])), (reb, .inr (6, [.int 0, .ref r1b, .ref r2b, .ref r3b, .ref r4b, .ref r5b, .ref r6b, .ref r7b])), (d3b, aI g 4 z0), (sa, aO g 41 (va_up (va_up fs 0 (some s0)) 1 (some s1))), (s0, .inr (9, [.int 0, .int 0, .int 0, .int 0, .int 0, .int 0, .int 0, .ref t1u, .ref t2u, .ref t3u, .ref t4u, .ref t5u, .ref t6u, .ref t7u])), (t1u, aI g 6 z0), (t2u, aI g 6 z0), (si, .inr (8, [.int 0, .int 0, .ref i1, .ref i2, .ref i3, .ref i4])), (he, .inr (1, [.int 0, .ref k3]))] s.heap.size = A at hD ⊢
  have hA : ∀ q : Nat, s.heap.size ≤ q → A q := fun q h => by rw [← hAe]; exact Or.inr h
  have hS : va_S A s.heap s.heap [] := va_S.rf
  have hl := lv_entry ([.ref x]) (n := 2) (Nat.le_of_ble_eq_true rfl)
  rw [lg_entry_eq]
  generalize (lg_sl ([.ref x]) ++ List.replicate (2 - (lg_sl ([.ref x])).length) Slot.unset).toArray = ls at hl ⊢
  have hl : lv_has ls 2 [(0, .ref x)] := hl
  refine p_nH (fun H hH => ?_)
  have hP : va_P g.1 vwCl [(x, .inr (11, [.ref xt, .int 0, .ref xr, .ref la, .ref lb, .ref sa, .int 0, .int 0, .ref ba, .int 0, .ref se, .ref si, .ref pa, .ref he])), (xt, aB g 1600 z0), (xr, .inr (5, [.int 0, .int (-1), .ref tk, .null, .int 0, .int 0, .int 0])), (tk, .inr (10, [.int 0, .int 0, .int 0, .long 0, .null, .int 0, .int 0, .ref tw])), (lb, .inr (2, [.ref meb, .ref fob, .ref reb, .int 0, .ref d1b, .ref d2b, .int 9, .int 0, .ref d3b])), (meb, .inr (3, [.int 0, .ref m1b, .ref m2b, .ref m3b, .ref m4b])), (m3b, aI g 6 z0), (fob, .inr (0, [.int 0, .int 0, .ref f1b, .int 0, .int 0, .ref f2b, .ref f3b, .ref f4b])), (reb, .inr (6, [.int 0, .ref r1b, .ref r2b, .ref r3b, .ref r4b, .ref r5b, .ref r6b, .ref r7b])), (d3b, aI g 4 z0), (sa, aO g 41 (va_up (va_up fs 0 (some s0)) 1 (some s1))), (s0, .inr (9, [.int 0, .int 0, .int 0, .int 0, .int 0, .int 0, .int 0, .ref t1u, .ref t2u, .ref t3u, .ref t4u, .ref t5u, .ref t6u, .ref t7u])), (t1u, aI g 6 z0), (t2u, aI g 6 z0), (si, .inr (8, [.int 0, .int 0, .ref i1, .ref i2, .ref i3, .ref i4])), (he, .inr (1, [.int 0, .ref k3]))] H := by rw [hH]; exact hP
  have hS : va_S A s.heap H [] := by rw [hH]; exact hS
  refine lv_aload_n hx hb dX11_code_0 rfl (lv_at hl 0 rfl) ?_
  refine va_get (D := g.1) (ci := 11) (v := .ref xr) (C := RX11) (T := TX11) (N := 14) hx hb hT inF_X11 hown hK.1 hP 0 rfl rfl 2 (by decide) (hT _ bw_159) (fun _ h9 => h9) rfl dX11_code_1 ?_
  refine lv_aload_n hx hb dX11_code_4 rfl (lv_at hl 0 rfl) ?_
  refine va_get (D := g.1) (ci := 11) (v := .ref xt) (C := RX11) (T := TX11) (N := 14) hx hb hT inF_X11 hown hK.1 hP 0 rfl rfl 0 (by decide) (hT _ bw_160) (fun _ h9 => h9) rfl dX11_code_5 ?_
  refine lv_aload_n hx hb dX11_code_8 rfl (lv_at hl 0 rfl) ?_
  refine va_get (D := g.1) (ci := 11) (v := .int 0) (C := RX11) (T := TX11) (N := 14) hx hb hT inF_X11 hown hK.1 hP 0 rfl rfl 1 (by decide) (hT _ bw_161) (fun _ h9 => h9) rfl dX11_code_9 ?_
  refine lv_aload_n hx hb dX11_code_12 rfl (lv_at hl 0 rfl) ?_
  refine va_get (D := g.1) (ci := 11) (v := .ref lb) (C := RX11) (T := TX11) (N := 14) hx hb hT inF_X11 hown hK.1 hP 0 rfl rfl 4 (by decide) (hT _ bw_162) (fun _ h9 => h9) rfl dX11_code_13 ?_
  refine k_i (wr := [(x, .inr (11, [.ref xt, .int 0, .ref xr, .ref la, .ref lb, .ref sa, .int 0, .int 0, .ref ba, .int 0, .ref se, .ref si, .ref pa, .ref he])), (m3b, aI g 6 z0), (sa, aO g 41 (va_up (va_up fs 0 (some s0)) 1 (some s1))), (s0, .inr (9, [.int 0, .int 0, .int 0, .int 0, .int 0, .int 0, .int 0, .ref t1u, .ref t2u, .ref t3u, .ref t4u, .ref t5u, .ref t6u, .ref t7u])), (t1u, aI g 6 z0), (t2u, aI g 6 z0), (si, .inr (8, [.int 0, .int 0, .ref i1, .ref i2, .ref i3, .ref i4])), (he, .inr (1, [.int 0, .ref k3]))]) (k_V (n := 3) ⟨hx, hb, hml, hown, hT⟩ hK hP hD [2, 3, 1, 4, 5, 7, 8, 9] rfl (by decide) (c_X5_read l g H.size xr tk tw xt lb meb fob reb d1b d2b d3b m1b m2b m3b m4b f1b f2b f3b f4b r1b r2b r3b r4b r5b r6b r7b) (gV bw_163 bw_164 bw_165 bw_166 bw_158) rfl rfl (by decide +kernel) ⟨by decide, by decide⟩ (ci := 5) (q0 := 0) rfl rfl (fun _ _ _ _ _ => trivial) (fun _ _ _ => trivial) rfl rfl hl.1 (Nat.le_of_ble_eq_true rfl) dX11_code_16 ⟨by decide, by decide⟩) hP hD hS hA [2, 3, 1, 4, 5, 7, 8, 9] [0, 6, 10, 11, 12, 13, 14, 15] rfl rfl (by decide) (by decide) (fun r_1 u H locs hw hP hD hS => ?_)
  have hP : va_P g.1 vwCl [(x, .inr (11, [.ref xt, .int 0, .ref xr, .ref la, .ref lb, .ref sa, .int 0, .int 0, .ref ba, .int 0, .ref se, .ref si, .ref pa, .ref he])), (m3b, aI g 6 z0), (sa, aO g 41 (va_up (va_up fs 0 (some s0)) 1 (some s1))), (s0, .inr (9, [.int 0, .int 0, .int 0, .int 0, .int 0, .int 0, .int 0, .ref t1u, .ref t2u, .ref t3u, .ref t4u, .ref t5u, .ref t6u, .ref t7u])), (t1u, aI g 6 z0), (t2u, aI g 6 z0), (si, .inr (8, [.int 0, .int 0, .ref i1, .ref i2, .ref i3, .ref i4])), (he, .inr (1, [.int 0, .ref k3])), (xr, .inr (5, [.int 0, .int (-1), .ref tk, .ref lb, .int 0, .int 0, .int 0])), (lb, .inr (2, [.ref meb, .ref fob, .ref reb, .int 0, .ref d1b, .ref d2b, .int 9, .int 0, .ref d3b])), (meb, .inr (3, [.int 0, .ref m1b, .ref m2b, .ref m3b, .ref m4b])), (reb, .inr (6, [.int 0, .ref r1b, .ref r2b, .ref r3b, .ref r4b, .ref r5b, .ref r6b, .ref r7b])), (fob, .inr (0, [.int 0, .int 0, .ref f1b, .int 0, .int 0, .ref f2b, .ref f3b, .ref f4b])), (d3b, aI g 4 z0), (xt, aB g 1600 z0), (tk, .inr (10, [.int 0, .int 0, .int 0, .long 0, .ref xt, .int 0, .int 0, .ref tw]))] H := hP
  have hD : va_D A [(x, .inr (11, [.ref xt, .int 0, .ref xr, .ref la, .ref lb, .ref sa, .int 0, .int 0, .ref ba, .int 0, .ref se, .ref si, .ref pa, .ref he])), (m3b, aI g 6 z0), (sa, aO g 41 (va_up (va_up fs 0 (some s0)) 1 (some s1))), (s0, .inr (9, [.int 0, .int 0, .int 0, .int 0, .int 0, .int 0, .int 0, .ref t1u, .ref t2u, .ref t3u, .ref t4u, .ref t5u, .ref t6u, .ref t7u])), (t1u, aI g 6 z0), (t2u, aI g 6 z0), (si, .inr (8, [.int 0, .int 0, .ref i1, .ref i2, .ref i3, .ref i4])), (he, .inr (1, [.int 0, .ref k3])), (xr, .inr (5, [.int 0, .int (-1), .ref tk, .ref lb, .int 0, .int 0, .int 0])), (lb, .inr (2, [.ref meb, .ref fob, .ref reb, .int 0, .ref d1b, .ref d2b, .int 9, .int 0, .ref d3b])), (meb, .inr (3, [.int 0, .ref m1b, .ref m2b, .ref m3b, .ref m4b])), (reb, .inr (6, [.int 0, .ref r1b, .ref r2b, .ref r3b, .ref r4b, .ref r5b, .ref r6b, .ref r7b])), (fob, .inr (0, [.int 0, .int 0, .ref f1b, .int 0, .int 0, .ref f2b, .ref f3b, .ref f4b])), (d3b, aI g 4 z0), (xt, aB g 1600 z0), (tk, .inr (10, [.int 0, .int 0, .int 0, .long 0, .ref xt, .int 0, .int 0, .ref tw]))] := hD
  have hw : r_1 = 1 := hw
  subst hw
  refine lv_if_ne (tgt := 24) hx hb dX11_code_19 (by decide) (fun _ => ?_) (fun c9 => absurd c9 (by decide))
  refine lv_aload_n hx hb dX11_code_24 rfl (lv_at hl 0 rfl) ?_
  refine va_get (D := g.1) (ci := 11) (v := .ref lb) (C := RX11) (T := TX11) (N := 14) hx hb hT inF_X11 hown hK.1 hP 0 rfl rfl 4 (by decide) (hT _ bw_162) (fun _ h9 => h9) rfl dX11_code_25 ?_
  refine lv_astore_n (lv' := [(1, .ref lb), (0, .ref x)]) hx hb dX11_code_28 rfl hl (by decide) rfl (fun ls hl => ?_)
  refine lv_aload_n hx hb dX11_code_29 rfl (lv_at hl 1 rfl) ?_
  refine lv_aload_n hx hb dX11_code_30 rfl (lv_at hl 1 rfl) ?_
  refine va_get (D := g.1) (ci := 11) (v := .ref la) (C := RX11) (T := TX11) (N := 14) hx hb hT inF_X11 hown hK.1 hP 0 rfl rfl 3 (by decide) (hT _ bw_13) (fun _ h9 => h9) rfl dX11_code_31 ?_
  refine va_put (D := g.1) (ci := 11) (v := .ref la) (ty := .object "DuelDelays$Land") (C := RX11) (T := TX11) (N := 14) hx hb hT inF_X11 tyX11 tyX11_ok nmX11 hown hK.1 hP hD hS 0 rfl rfl 4 (by decide) (hT _ bw_162) (fun _ h9 => h9) rfl (by decide +kernel) rfl rfl (Nat.le_of_ble_eq_true rfl) dX11_code_34 (fun H locs hP hD hS => ?_)
  have hP : va_P g.1 vwCl [(x, .inr (11, [.ref xt, .int 0, .ref xr, .ref la, .ref la, .ref sa, .int 0, .int 0, .ref ba, .int 0, .ref se, .ref si, .ref pa, .ref he])), (m3b, aI g 6 z0), (sa, aO g 41 (va_up (va_up fs 0 (some s0)) 1 (some s1))), (s0, .inr (9, [.int 0, .int 0, .int 0, .int 0, .int 0, .int 0, .int 0, .ref t1u, .ref t2u, .ref t3u, .ref t4u, .ref t5u, .ref t6u, .ref t7u])), (t1u, aI g 6 z0), (t2u, aI g 6 z0), (si, .inr (8, [.int 0, .int 0, .ref i1, .ref i2, .ref i3, .ref i4])), (he, .inr (1, [.int 0, .ref k3])), (xr, .inr (5, [.int 0, .int (-1), .ref tk, .ref lb, .int 0, .int 0, .int 0])), (lb, .inr (2, [.ref meb, .ref fob, .ref reb, .int 0, .ref d1b, .ref d2b, .int 9, .int 0, .ref d3b])), (meb, .inr (3, [.int 0, .ref m1b, .ref m2b, .ref m3b, .ref m4b])), (reb, .inr (6, [.int 0, .ref r1b, .ref r2b, .ref r3b, .ref r4b, .ref r5b, .ref r6b, .ref r7b])), (fob, .inr (0, [.int 0, .int 0, .ref f1b, .int 0, .int 0, .ref f2b, .ref f3b, .ref f4b])), (d3b, aI g 4 z0), (xt, aB g 1600 z0), (tk, .inr (10, [.int 0, .int 0, .int 0, .long 0, .ref xt, .int 0, .int 0, .ref tw]))] H := hP
  have hD : va_D A [(x, .inr (11, [.ref xt, .int 0, .ref xr, .ref la, .ref la, .ref sa, .int 0, .int 0, .ref ba, .int 0, .ref se, .ref si, .ref pa, .ref he])), (m3b, aI g 6 z0), (sa, aO g 41 (va_up (va_up fs 0 (some s0)) 1 (some s1))), (s0, .inr (9, [.int 0, .int 0, .int 0, .int 0, .int 0, .int 0, .int 0, .ref t1u, .ref t2u, .ref t3u, .ref t4u, .ref t5u, .ref t6u, .ref t7u])), (t1u, aI g 6 z0), (t2u, aI g 6 z0), (si, .inr (8, [.int 0, .int 0, .ref i1, .ref i2, .ref i3, .ref i4])), (he, .inr (1, [.int 0, .ref k3])), (xr, .inr (5, [.int 0, .int (-1), .ref tk, .ref lb, .int 0, .int 0, .int 0])), (lb, .inr (2, [.ref meb, .ref fob, .ref reb, .int 0, .ref d1b, .ref d2b, .int 9, .int 0, .ref d3b])), (meb, .inr (3, [.int 0, .ref m1b, .ref m2b, .ref m3b, .ref m4b])), (reb, .inr (6, [.int 0, .ref r1b, .ref r2b, .ref r3b, .ref r4b, .ref r5b, .ref r6b, .ref r7b])), (fob, .inr (0, [.int 0, .int 0, .ref f1b, .int 0, .int 0, .ref f2b, .ref f3b, .ref f4b])), (d3b, aI g 4 z0), (xt, aB g 1600 z0), (tk, .inr (10, [.int 0, .int 0, .int 0, .long 0, .ref xt, .int 0, .int 0, .ref tw]))] := hD
  refine lv_aload_n hx hb dX11_code_37 rfl (lv_at hl 1 rfl) ?_
  refine lv_aload_n hx hb dX11_code_38 rfl (lv_at hl 0 rfl) ?_
  refine va_put (D := g.1) (ci := 11) (v := .ref lb) (ty := .object "DuelDelays$Land") (C := RX11) (T := TX11) (N := 14) hx hb hT inF_X11 tyX11 tyX11_ok nmX11 hown hK.1 hP hD hS 0 rfl rfl 3 (by decide) (hT _ bw_13) (fun _ h9 => h9) rfl (by decide +kernel) rfl rfl (Nat.le_of_ble_eq_true rfl) dX11_code_39 (fun H locs hP hD hS => ?_)
  have hP : va_P g.1 vwCl [(x, .inr (11, [.ref xt, .int 0, .ref xr, .ref lb, .ref la, .ref sa, .int 0, .int 0, .ref ba, .int 0, .ref se, .ref si, .ref pa, .ref he])), (m3b, aI g 6 z0), (sa, aO g 41 (va_up (va_up fs 0 (some s0)) 1 (some s1))), (s0, .inr (9, [.int 0, .int 0, .int 0, .int 0, .int 0, .int 0, .int 0, .ref t1u, .ref t2u, .ref t3u, .ref t4u, .ref t5u, .ref t6u, .ref t7u])), (t1u, aI g 6 z0), (t2u, aI g 6 z0), (si, .inr (8, [.int 0, .int 0, .ref i1, .ref i2, .ref i3, .ref i4])), (he, .inr (1, [.int 0, .ref k3])), (xr, .inr (5, [.int 0, .int (-1), .ref tk, .ref lb, .int 0, .int 0, .int 0])), (lb, .inr (2, [.ref meb, .ref fob, .ref reb, .int 0, .ref d1b, .ref d2b, .int 9, .int 0, .ref d3b])), (meb, .inr (3, [.int 0, .ref m1b, .ref m2b, .ref m3b, .ref m4b])), (reb, .inr (6, [.int 0, .ref r1b, .ref r2b, .ref r3b, .ref r4b, .ref r5b, .ref r6b, .ref r7b])), (fob, .inr (0, [.int 0, .int 0, .ref f1b, .int 0, .int 0, .ref f2b, .ref f3b, .ref f4b])), (d3b, aI g 4 z0), (xt, aB g 1600 z0), (tk, .inr (10, [.int 0, .int 0, .int 0, .long 0, .ref xt, .int 0, .int 0, .ref tw]))] H := hP
  have hD : va_D A [(x, .inr (11, [.ref xt, .int 0, .ref xr, .ref lb, .ref la, .ref sa, .int 0, .int 0, .ref ba, .int 0, .ref se, .ref si, .ref pa, .ref he])), (m3b, aI g 6 z0), (sa, aO g 41 (va_up (va_up fs 0 (some s0)) 1 (some s1))), (s0, .inr (9, [.int 0, .int 0, .int 0, .int 0, .int 0, .int 0, .int 0, .ref t1u, .ref t2u, .ref t3u, .ref t4u, .ref t5u, .ref t6u, .ref t7u])), (t1u, aI g 6 z0), (t2u, aI g 6 z0), (si, .inr (8, [.int 0, .int 0, .ref i1, .ref i2, .ref i3, .ref i4])), (he, .inr (1, [.int 0, .ref k3])), (xr, .inr (5, [.int 0, .int (-1), .ref tk, .ref lb, .int 0, .int 0, .int 0])), (lb, .inr (2, [.ref meb, .ref fob, .ref reb, .int 0, .ref d1b, .ref d2b, .int 9, .int 0, .ref d3b])), (meb, .inr (3, [.int 0, .ref m1b, .ref m2b, .ref m3b, .ref m4b])), (reb, .inr (6, [.int 0, .ref r1b, .ref r2b, .ref r3b, .ref r4b, .ref r5b, .ref r6b, .ref r7b])), (fob, .inr (0, [.int 0, .int 0, .ref f1b, .int 0, .int 0, .ref f2b, .ref f3b, .ref f4b])), (d3b, aI g 4 z0), (xt, aB g 1600 z0), (tk, .inr (10, [.int 0, .int 0, .int 0, .long 0, .ref xt, .int 0, .int 0, .ref tw]))] := hD
  refine lv_aload_n hx hb dX11_code_42 rfl (lv_at hl 1 rfl) ?_
  refine lv_iconst (v := 0) hx hb dX11_code_43 (by decide) ?_
  refine va_put (D := g.1) (ci := 11) (v := .int 0) (ty := .int) (C := RX11) (T := TX11) (N := 14) hx hb hT inF_X11 tyX11 tyX11_ok nmX11 hown hK.1 hP hD hS 0 rfl rfl 1 (by decide) (hT _ bw_161) (fun _ h9 => h9) rfl (by decide +kernel) rfl rfl (Nat.le_of_ble_eq_true rfl) dX11_code_44 (fun H locs hP hD hS => ?_)
  have hP : va_P g.1 vwCl [(x, .inr (11, [.ref xt, .int 0, .ref xr, .ref lb, .ref la, .ref sa, .int 0, .int 0, .ref ba, .int 0, .ref se, .ref si, .ref pa, .ref he])), (m3b, aI g 6 z0), (sa, aO g 41 (va_up (va_up fs 0 (some s0)) 1 (some s1))), (s0, .inr (9, [.int 0, .int 0, .int 0, .int 0, .int 0, .int 0, .int 0, .ref t1u, .ref t2u, .ref t3u, .ref t4u, .ref t5u, .ref t6u, .ref t7u])), (t1u, aI g 6 z0), (t2u, aI g 6 z0), (si, .inr (8, [.int 0, .int 0, .ref i1, .ref i2, .ref i3, .ref i4])), (he, .inr (1, [.int 0, .ref k3])), (xr, .inr (5, [.int 0, .int (-1), .ref tk, .ref lb, .int 0, .int 0, .int 0])), (lb, .inr (2, [.ref meb, .ref fob, .ref reb, .int 0, .ref d1b, .ref d2b, .int 9, .int 0, .ref d3b])), (meb, .inr (3, [.int 0, .ref m1b, .ref m2b, .ref m3b, .ref m4b])), (reb, .inr (6, [.int 0, .ref r1b, .ref r2b, .ref r3b, .ref r4b, .ref r5b, .ref r6b, .ref r7b])), (fob, .inr (0, [.int 0, .int 0, .ref f1b, .int 0, .int 0, .ref f2b, .ref f3b, .ref f4b])), (d3b, aI g 4 z0), (xt, aB g 1600 z0), (tk, .inr (10, [.int 0, .int 0, .int 0, .long 0, .ref xt, .int 0, .int 0, .ref tw]))] H := hP
  have hD : va_D A [(x, .inr (11, [.ref xt, .int 0, .ref xr, .ref lb, .ref la, .ref sa, .int 0, .int 0, .ref ba, .int 0, .ref se, .ref si, .ref pa, .ref he])), (m3b, aI g 6 z0), (sa, aO g 41 (va_up (va_up fs 0 (some s0)) 1 (some s1))), (s0, .inr (9, [.int 0, .int 0, .int 0, .int 0, .int 0, .int 0, .int 0, .ref t1u, .ref t2u, .ref t3u, .ref t4u, .ref t5u, .ref t6u, .ref t7u])), (t1u, aI g 6 z0), (t2u, aI g 6 z0), (si, .inr (8, [.int 0, .int 0, .ref i1, .ref i2, .ref i3, .ref i4])), (he, .inr (1, [.int 0, .ref k3])), (xr, .inr (5, [.int 0, .int (-1), .ref tk, .ref lb, .int 0, .int 0, .int 0])), (lb, .inr (2, [.ref meb, .ref fob, .ref reb, .int 0, .ref d1b, .ref d2b, .int 9, .int 0, .ref d3b])), (meb, .inr (3, [.int 0, .ref m1b, .ref m2b, .ref m3b, .ref m4b])), (reb, .inr (6, [.int 0, .ref r1b, .ref r2b, .ref r3b, .ref r4b, .ref r5b, .ref r6b, .ref r7b])), (fob, .inr (0, [.int 0, .int 0, .ref f1b, .int 0, .int 0, .ref f2b, .ref f3b, .ref f4b])), (d3b, aI g 4 z0), (xt, aB g 1600 z0), (tk, .inr (10, [.int 0, .int 0, .int 0, .long 0, .ref xt, .int 0, .int 0, .ref tw]))] := hD
  refine lv_aload_n hx hb dX11_code_47 rfl (lv_at hl 1 rfl) ?_
  refine lv_iconst (v := 0) hx hb dX11_code_48 (by decide) ?_
  refine va_put (D := g.1) (ci := 11) (v := .int 0) (ty := .int) (C := RX11) (T := TX11) (N := 14) hx hb hT inF_X11 tyX11 tyX11_ok nmX11 hown hK.1 hP hD hS 0 rfl rfl 6 (by decide) (hT _ bw_21) (fun _ h9 => h9) rfl (by decide +kernel) rfl rfl (Nat.le_of_ble_eq_true rfl) dX11_code_49 (fun H locs hP hD hS => ?_)
  have hP : va_P g.1 vwCl [(x, .inr (11, [.ref xt, .int 0, .ref xr, .ref lb, .ref la, .ref sa, .int 0, .int 0, .ref ba, .int 0, .ref se, .ref si, .ref pa, .ref he])), (m3b, aI g 6 z0), (sa, aO g 41 (va_up (va_up fs 0 (some s0)) 1 (some s1))), (s0, .inr (9, [.int 0, .int 0, .int 0, .int 0, .int 0, .int 0, .int 0, .ref t1u, .ref t2u, .ref t3u, .ref t4u, .ref t5u, .ref t6u, .ref t7u])), (t1u, aI g 6 z0), (t2u, aI g 6 z0), (si, .inr (8, [.int 0, .int 0, .ref i1, .ref i2, .ref i3, .ref i4])), (he, .inr (1, [.int 0, .ref k3])), (xr, .inr (5, [.int 0, .int (-1), .ref tk, .ref lb, .int 0, .int 0, .int 0])), (lb, .inr (2, [.ref meb, .ref fob, .ref reb, .int 0, .ref d1b, .ref d2b, .int 9, .int 0, .ref d3b])), (meb, .inr (3, [.int 0, .ref m1b, .ref m2b, .ref m3b, .ref m4b])), (reb, .inr (6, [.int 0, .ref r1b, .ref r2b, .ref r3b, .ref r4b, .ref r5b, .ref r6b, .ref r7b])), (fob, .inr (0, [.int 0, .int 0, .ref f1b, .int 0, .int 0, .ref f2b, .ref f3b, .ref f4b])), (d3b, aI g 4 z0), (xt, aB g 1600 z0), (tk, .inr (10, [.int 0, .int 0, .int 0, .long 0, .ref xt, .int 0, .int 0, .ref tw]))] H := hP
  have hD : va_D A [(x, .inr (11, [.ref xt, .int 0, .ref xr, .ref lb, .ref la, .ref sa, .int 0, .int 0, .ref ba, .int 0, .ref se, .ref si, .ref pa, .ref he])), (m3b, aI g 6 z0), (sa, aO g 41 (va_up (va_up fs 0 (some s0)) 1 (some s1))), (s0, .inr (9, [.int 0, .int 0, .int 0, .int 0, .int 0, .int 0, .int 0, .ref t1u, .ref t2u, .ref t3u, .ref t4u, .ref t5u, .ref t6u, .ref t7u])), (t1u, aI g 6 z0), (t2u, aI g 6 z0), (si, .inr (8, [.int 0, .int 0, .ref i1, .ref i2, .ref i3, .ref i4])), (he, .inr (1, [.int 0, .ref k3])), (xr, .inr (5, [.int 0, .int (-1), .ref tk, .ref lb, .int 0, .int 0, .int 0])), (lb, .inr (2, [.ref meb, .ref fob, .ref reb, .int 0, .ref d1b, .ref d2b, .int 9, .int 0, .ref d3b])), (meb, .inr (3, [.int 0, .ref m1b, .ref m2b, .ref m3b, .ref m4b])), (reb, .inr (6, [.int 0, .ref r1b, .ref r2b, .ref r3b, .ref r4b, .ref r5b, .ref r6b, .ref r7b])), (fob, .inr (0, [.int 0, .int 0, .ref f1b, .int 0, .int 0, .ref f2b, .ref f3b, .ref f4b])), (d3b, aI g 4 z0), (xt, aB g 1600 z0), (tk, .inr (10, [.int 0, .int 0, .int 0, .long 0, .ref xt, .int 0, .int 0, .ref tw]))] := hD
  refine lv_aload_n hx hb dX11_code_52 rfl (lv_at hl 1 rfl) ?_
  refine lv_iconst (v := 0) hx hb dX11_code_53 (by decide) ?_
  refine va_put (D := g.1) (ci := 11) (v := .int 0) (ty := .int) (C := RX11) (T := TX11) (N := 14) hx hb hT inF_X11 tyX11 tyX11_ok nmX11 hown hK.1 hP hD hS 0 rfl rfl 7 (by decide) (hT _ bw_47) (fun _ h9 => h9) rfl (by decide +kernel) rfl rfl (Nat.le_of_ble_eq_true rfl) dX11_code_54 (fun H locs hP hD hS => ?_)
  have hP : va_P g.1 vwCl [(x, .inr (11, [.ref xt, .int 0, .ref xr, .ref lb, .ref la, .ref sa, .int 0, .int 0, .ref ba, .int 0, .ref se, .ref si, .ref pa, .ref he])), (m3b, aI g 6 z0), (sa, aO g 41 (va_up (va_up fs 0 (some s0)) 1 (some s1))), (s0, .inr (9, [.int 0, .int 0, .int 0, .int 0, .int 0, .int 0, .int 0, .ref t1u, .ref t2u, .ref t3u, .ref t4u, .ref t5u, .ref t6u, .ref t7u])), (t1u, aI g 6 z0), (t2u, aI g 6 z0), (si, .inr (8, [.int 0, .int 0, .ref i1, .ref i2, .ref i3, .ref i4])), (he, .inr (1, [.int 0, .ref k3])), (xr, .inr (5, [.int 0, .int (-1), .ref tk, .ref lb, .int 0, .int 0, .int 0])), (lb, .inr (2, [.ref meb, .ref fob, .ref reb, .int 0, .ref d1b, .ref d2b, .int 9, .int 0, .ref d3b])), (meb, .inr (3, [.int 0, .ref m1b, .ref m2b, .ref m3b, .ref m4b])), (reb, .inr (6, [.int 0, .ref r1b, .ref r2b, .ref r3b, .ref r4b, .ref r5b, .ref r6b, .ref r7b])), (fob, .inr (0, [.int 0, .int 0, .ref f1b, .int 0, .int 0, .ref f2b, .ref f3b, .ref f4b])), (d3b, aI g 4 z0), (xt, aB g 1600 z0), (tk, .inr (10, [.int 0, .int 0, .int 0, .long 0, .ref xt, .int 0, .int 0, .ref tw]))] H := hP
  have hD : va_D A [(x, .inr (11, [.ref xt, .int 0, .ref xr, .ref lb, .ref la, .ref sa, .int 0, .int 0, .ref ba, .int 0, .ref se, .ref si, .ref pa, .ref he])), (m3b, aI g 6 z0), (sa, aO g 41 (va_up (va_up fs 0 (some s0)) 1 (some s1))), (s0, .inr (9, [.int 0, .int 0, .int 0, .int 0, .int 0, .int 0, .int 0, .ref t1u, .ref t2u, .ref t3u, .ref t4u, .ref t5u, .ref t6u, .ref t7u])), (t1u, aI g 6 z0), (t2u, aI g 6 z0), (si, .inr (8, [.int 0, .int 0, .ref i1, .ref i2, .ref i3, .ref i4])), (he, .inr (1, [.int 0, .ref k3])), (xr, .inr (5, [.int 0, .int (-1), .ref tk, .ref lb, .int 0, .int 0, .int 0])), (lb, .inr (2, [.ref meb, .ref fob, .ref reb, .int 0, .ref d1b, .ref d2b, .int 9, .int 0, .ref d3b])), (meb, .inr (3, [.int 0, .ref m1b, .ref m2b, .ref m3b, .ref m4b])), (reb, .inr (6, [.int 0, .ref r1b, .ref r2b, .ref r3b, .ref r4b, .ref r5b, .ref r6b, .ref r7b])), (fob, .inr (0, [.int 0, .int 0, .ref f1b, .int 0, .int 0, .ref f2b, .ref f3b, .ref f4b])), (d3b, aI g 4 z0), (xt, aB g 1600 z0), (tk, .inr (10, [.int 0, .int 0, .int 0, .long 0, .ref xt, .int 0, .int 0, .ref tw]))] := hD
  refine lv_aload_n hx hb dX11_code_57 rfl (lv_at hl 1 rfl) ?_
  refine va_get (D := g.1) (ci := 11) (v := .ref sa) (C := RX11) (T := TX11) (N := 14) hx hb hT inF_X11 hown hK.1 hP 0 rfl rfl 5 (by decide) (hT _ bw_20) (fun _ h9 => h9) rfl dX11_code_58 ?_
  refine lv_iconst (v := 0) hx hb dX11_code_61 (by decide) ?_
  refine va_aldq hx hb hK.1 hP 2 4 rfl rfl (i := 0) (by unfold vp_in; decide) dX11_code_62 ?_
  refine p_tr (x := s0) (rfl) ?_
  refine lv_aload_n hx hb dX11_code_63 rfl (lv_at hl 1 rfl) ?_
  refine va_get (D := g.1) (ci := 11) (v := .ref lb) (C := RX11) (T := TX11) (N := 14) hx hb hT inF_X11 hown hK.1 hP 0 rfl rfl 3 (by decide) (hT _ bw_13) (fun _ h9 => h9) rfl dX11_code_64 ?_
  refine k_v (wr := [(x, .inr (11, [.ref xt, .int 0, .ref xr, .ref lb, .ref la, .ref sa, .int 0, .int 0, .ref ba, .int 0, .ref se, .ref si, .ref pa, .ref he])), (sa, aO g 41 (va_up (va_up fs 0 (some s0)) 1 (some s1))), (si, .inr (8, [.int 0, .int 0, .ref i1, .ref i2, .ref i3, .ref i4])), (he, .inr (1, [.int 0, .ref k3])), (xr, .inr (5, [.int 0, .int (-1), .ref tk, .ref lb, .int 0, .int 0, .int 0])), (reb, .inr (6, [.int 0, .ref r1b, .ref r2b, .ref r3b, .ref r4b, .ref r5b, .ref r6b, .ref r7b])), (fob, .inr (0, [.int 0, .int 0, .ref f1b, .int 0, .int 0, .ref f2b, .ref f3b, .ref f4b])), (d3b, aI g 4 z0), (xt, aB g 1600 z0), (tk, .inr (10, [.int 0, .int 0, .int 0, .long 0, .ref xt, .int 0, .int 0, .ref tw]))]) (k_V (n := 1) ⟨hx, hb, hml, hown, hT⟩ hK hP hD [3, 4, 5, 9, 10, 1] rfl (by decide) (c_X9_begin l g H.size s0 t1u t2u t3u t4u t5u t6u t7u lb meb fob reb d1b d2b d3b m1b m2b m3b m4b) (gV bw_167 bw_168 bw_169 bw_25 bw_119) rfl rfl (by decide +kernel) ⟨by decide, by decide⟩ (ci := 9) (q0 := 0) rfl rfl (fun _ _ _ _ _ => trivial) (fun _ _ _ => trivial) rfl rfl hl.1 (Nat.le_of_ble_eq_true rfl) dX11_code_67 ⟨by decide, by decide⟩) hP hD hS hA [3, 4, 5, 9, 10, 1] [0, 2, 6, 7, 8, 11, 12, 13, 14, 15] rfl rfl (by decide) (by decide) (fun u H locs hw hP hD hS => ?_)
  have hP : va_P g.1 vwCl [(x, .inr (11, [.ref xt, .int 0, .ref xr, .ref lb, .ref la, .ref sa, .int 0, .int 0, .ref ba, .int 0, .ref se, .ref si, .ref pa, .ref he])), (sa, aO g 41 (va_up (va_up fs 0 (some s0)) 1 (some s1))), (si, .inr (8, [.int 0, .int 0, .ref i1, .ref i2, .ref i3, .ref i4])), (he, .inr (1, [.int 0, .ref k3])), (xr, .inr (5, [.int 0, .int (-1), .ref tk, .ref lb, .int 0, .int 0, .int 0])), (reb, .inr (6, [.int 0, .ref r1b, .ref r2b, .ref r3b, .ref r4b, .ref r5b, .ref r6b, .ref r7b])), (fob, .inr (0, [.int 0, .int 0, .ref f1b, .int 0, .int 0, .ref f2b, .ref f3b, .ref f4b])), (d3b, aI g 4 z0), (xt, aB g 1600 z0), (tk, .inr (10, [.int 0, .int 0, .int 0, .long 0, .ref xt, .int 0, .int 0, .ref tw])), (s0, .inr (9, [.int 0, .int 0, .int 0, .int 0, .int 0, .int 0, .int 0, .ref t1u, .ref t2u, .ref t3u, .ref t4u, .ref t5u, .ref t6u, .ref t7u])), (t1u, aI g 6 z0), (lb, .inr (2, [.ref meb, .ref fob, .ref reb, .int 0, .ref d1b, .ref d2b, .int 9, .int 0, .ref d3b])), (meb, .inr (3, [.int 0, .ref m1b, .ref m2b, .ref m3b, .ref m4b])), (m3b, aI g 6 z0), (t2u, aI g 6 z0)] H := hP
  have hD : va_D A [(x, .inr (11, [.ref xt, .int 0, .ref xr, .ref lb, .ref la, .ref sa, .int 0, .int 0, .ref ba, .int 0, .ref se, .ref si, .ref pa, .ref he])), (sa, aO g 41 (va_up (va_up fs 0 (some s0)) 1 (some s1))), (si, .inr (8, [.int 0, .int 0, .ref i1, .ref i2, .ref i3, .ref i4])), (he, .inr (1, [.int 0, .ref k3])), (xr, .inr (5, [.int 0, .int (-1), .ref tk, .ref lb, .int 0, .int 0, .int 0])), (reb, .inr (6, [.int 0, .ref r1b, .ref r2b, .ref r3b, .ref r4b, .ref r5b, .ref r6b, .ref r7b])), (fob, .inr (0, [.int 0, .int 0, .ref f1b, .int 0, .int 0, .ref f2b, .ref f3b, .ref f4b])), (d3b, aI g 4 z0), (xt, aB g 1600 z0), (tk, .inr (10, [.int 0, .int 0, .int 0, .long 0, .ref xt, .int 0, .int 0, .ref tw])), (s0, .inr (9, [.int 0, .int 0, .int 0, .int 0, .int 0, .int 0, .int 0, .ref t1u, .ref t2u, .ref t3u, .ref t4u, .ref t5u, .ref t6u, .ref t7u])), (t1u, aI g 6 z0), (lb, .inr (2, [.ref meb, .ref fob, .ref reb, .int 0, .ref d1b, .ref d2b, .int 9, .int 0, .ref d3b])), (meb, .inr (3, [.int 0, .ref m1b, .ref m2b, .ref m3b, .ref m4b])), (m3b, aI g 6 z0), (t2u, aI g 6 z0)] := hD
  refine lv_aload_n hx hb dX11_code_70 rfl (lv_at hl 1 rfl) ?_
  refine va_get (D := g.1) (ci := 11) (v := .ref si) (C := RX11) (T := TX11) (N := 14) hx hb hT inF_X11 hown hK.1 hP 0 rfl rfl 11 (by decide) (hT _ bw_63) (fun _ h9 => h9) rfl dX11_code_71 ?_
  refine k_v (wr := [(x, .inr (11, [.ref xt, .int 0, .ref xr, .ref lb, .ref la, .ref sa, .int 0, .int 0, .ref ba, .int 0, .ref se, .ref si, .ref pa, .ref he])), (sa, aO g 41 (va_up (va_up fs 0 (some s0)) 1 (some s1))), (he, .inr (1, [.int 0, .ref k3])), (xr, .inr (5, [.int 0, .int (-1), .ref tk, .ref lb, .int 0, .int 0, .int 0])), (reb, .inr (6, [.int 0, .ref r1b, .ref r2b, .ref r3b, .ref r4b, .ref r5b, .ref r6b, .ref r7b])), (fob, .inr (0, [.int 0, .int 0, .ref f1b, .int 0, .int 0, .ref f2b, .ref f3b, .ref f4b])), (d3b, aI g 4 z0), (xt, aB g 1600 z0), (tk, .inr (10, [.int 0, .int 0, .int 0, .long 0, .ref xt, .int 0, .int 0, .ref tw])), (s0, .inr (9, [.int 0, .int 0, .int 0, .int 0, .int 0, .int 0, .int 0, .ref t1u, .ref t2u, .ref t3u, .ref t4u, .ref t5u, .ref t6u, .ref t7u])), (t1u, aI g 6 z0), (lb, .inr (2, [.ref meb, .ref fob, .ref reb, .int 0, .ref d1b, .ref d2b, .int 9, .int 0, .ref d3b])), (meb, .inr (3, [.int 0, .ref m1b, .ref m2b, .ref m3b, .ref m4b])), (m3b, aI g 6 z0), (t2u, aI g 6 z0)]) (k_V (n := 0) ⟨hx, hb, hml, hown, hT⟩ hK hP hD [2] rfl (by decide) (c_X8_clear l g H.size si i1 i2 i3 i4) (gV bw_170 bw_171 bw_172 bw_67 bw_11) rfl rfl (by decide +kernel) ⟨by decide, by decide⟩ (ci := 8) (q0 := 0) rfl rfl (fun _ _ _ _ _ => trivial) (fun _ _ _ => trivial) rfl rfl hl.1 (Nat.le_of_ble_eq_true rfl) dX11_code_74 ⟨by decide, by decide⟩) hP hD hS hA [2] [0, 1, 3, 4, 5, 6, 7, 8, 9, 10, 11, 12, 13, 14, 15] rfl rfl (by decide) (by decide) (fun u H locs hw hP hD hS => ?_)
  have hP : va_P g.1 vwCl [(x, .inr (11, [.ref xt, .int 0, .ref xr, .ref lb, .ref la, .ref sa, .int 0, .int 0, .ref ba, .int 0, .ref se, .ref si, .ref pa, .ref he])), (sa, aO g 41 (va_up (va_up fs 0 (some s0)) 1 (some s1))), (he, .inr (1, [.int 0, .ref k3])), (xr, .inr (5, [.int 0, .int (-1), .ref tk, .ref lb, .int 0, .int 0, .int 0])), (reb, .inr (6, [.int 0, .ref r1b, .ref r2b, .ref r3b, .ref r4b, .ref r5b, .ref r6b, .ref r7b])), (fob, .inr (0, [.int 0, .int 0, .ref f1b, .int 0, .int 0, .ref f2b, .ref f3b, .ref f4b])), (d3b, aI g 4 z0), (xt, aB g 1600 z0), (tk, .inr (10, [.int 0, .int 0, .int 0, .long 0, .ref xt, .int 0, .int 0, .ref tw])), (s0, .inr (9, [.int 0, .int 0, .int 0, .int 0, .int 0, .int 0, .int 0, .ref t1u, .ref t2u, .ref t3u, .ref t4u, .ref t5u, .ref t6u, .ref t7u])), (t1u, aI g 6 z0), (lb, .inr (2, [.ref meb, .ref fob, .ref reb, .int 0, .ref d1b, .ref d2b, .int 9, .int 0, .ref d3b])), (meb, .inr (3, [.int 0, .ref m1b, .ref m2b, .ref m3b, .ref m4b])), (m3b, aI g 6 z0), (t2u, aI g 6 z0), (si, .inr (8, [.int 0, .int 0, .ref i1, .ref i2, .ref i3, .ref i4]))] H := hP
  have hD : va_D A [(x, .inr (11, [.ref xt, .int 0, .ref xr, .ref lb, .ref la, .ref sa, .int 0, .int 0, .ref ba, .int 0, .ref se, .ref si, .ref pa, .ref he])), (sa, aO g 41 (va_up (va_up fs 0 (some s0)) 1 (some s1))), (he, .inr (1, [.int 0, .ref k3])), (xr, .inr (5, [.int 0, .int (-1), .ref tk, .ref lb, .int 0, .int 0, .int 0])), (reb, .inr (6, [.int 0, .ref r1b, .ref r2b, .ref r3b, .ref r4b, .ref r5b, .ref r6b, .ref r7b])), (fob, .inr (0, [.int 0, .int 0, .ref f1b, .int 0, .int 0, .ref f2b, .ref f3b, .ref f4b])), (d3b, aI g 4 z0), (xt, aB g 1600 z0), (tk, .inr (10, [.int 0, .int 0, .int 0, .long 0, .ref xt, .int 0, .int 0, .ref tw])), (s0, .inr (9, [.int 0, .int 0, .int 0, .int 0, .int 0, .int 0, .int 0, .ref t1u, .ref t2u, .ref t3u, .ref t4u, .ref t5u, .ref t6u, .ref t7u])), (t1u, aI g 6 z0), (lb, .inr (2, [.ref meb, .ref fob, .ref reb, .int 0, .ref d1b, .ref d2b, .int 9, .int 0, .ref d3b])), (meb, .inr (3, [.int 0, .ref m1b, .ref m2b, .ref m3b, .ref m4b])), (m3b, aI g 6 z0), (t2u, aI g 6 z0), (si, .inr (8, [.int 0, .int 0, .ref i1, .ref i2, .ref i3, .ref i4]))] := hD
  refine lv_aload_n hx hb dX11_code_77 rfl (lv_at hl 1 rfl) ?_
  refine va_get (D := g.1) (ci := 11) (v := .ref he) (C := RX11) (T := TX11) (N := 14) hx hb hT inF_X11 hown hK.1 hP 0 rfl rfl 13 (by decide) (hT _ bw_56) (fun _ h9 => h9) rfl dX11_code_78 ?_
  refine k_v (wr := [(x, .inr (11, [.ref xt, .int 0, .ref xr, .ref lb, .ref la, .ref sa, .int 0, .int 0, .ref ba, .int 0, .ref se, .ref si, .ref pa, .ref he])), (sa, aO g 41 (va_up (va_up fs 0 (some s0)) 1 (some s1))), (xr, .inr (5, [.int 0, .int (-1), .ref tk, .ref lb, .int 0, .int 0, .int 0])), (reb, .inr (6, [.int 0, .ref r1b, .ref r2b, .ref r3b, .ref r4b, .ref r5b, .ref r6b, .ref r7b])), (fob, .inr (0, [.int 0, .int 0, .ref f1b, .int 0, .int 0, .ref f2b, .ref f3b, .ref f4b])), (d3b, aI g 4 z0), (xt, aB g 1600 z0), (tk, .inr (10, [.int 0, .int 0, .int 0, .long 0, .ref xt, .int 0, .int 0, .ref tw])), (s0, .inr (9, [.int 0, .int 0, .int 0, .int 0, .int 0, .int 0, .int 0, .ref t1u, .ref t2u, .ref t3u, .ref t4u, .ref t5u, .ref t6u, .ref t7u])), (t1u, aI g 6 z0), (lb, .inr (2, [.ref meb, .ref fob, .ref reb, .int 0, .ref d1b, .ref d2b, .int 9, .int 0, .ref d3b])), (meb, .inr (3, [.int 0, .ref m1b, .ref m2b, .ref m3b, .ref m4b])), (m3b, aI g 6 z0), (t2u, aI g 6 z0), (si, .inr (8, [.int 0, .int 0, .ref i1, .ref i2, .ref i3, .ref i4]))]) (k_V (n := 0) ⟨hx, hb, hml, hown, hT⟩ hK hP hD [2] rfl (by decide) (c_X1_clear l g H.size he k3) (gV bw_71 bw_72 bw_73 bw_74 bw_10) rfl rfl (by decide +kernel) ⟨by decide, by decide⟩ (ci := 1) (q0 := 0) rfl rfl (fun _ _ _ _ _ => trivial) (fun _ _ _ => trivial) rfl rfl hl.1 (Nat.le_of_ble_eq_true rfl) dX11_code_81 ⟨by decide, by decide⟩) hP hD hS hA [2] [0, 1, 3, 4, 5, 6, 7, 8, 9, 10, 11, 12, 13, 14, 15] rfl rfl (by decide) (by decide) (fun u H locs hw hP hD hS => ?_)
  have hP : va_P g.1 vwCl [(x, .inr (11, [.ref xt, .int 0, .ref xr, .ref lb, .ref la, .ref sa, .int 0, .int 0, .ref ba, .int 0, .ref se, .ref si, .ref pa, .ref he])), (sa, aO g 41 (va_up (va_up fs 0 (some s0)) 1 (some s1))), (xr, .inr (5, [.int 0, .int (-1), .ref tk, .ref lb, .int 0, .int 0, .int 0])), (reb, .inr (6, [.int 0, .ref r1b, .ref r2b, .ref r3b, .ref r4b, .ref r5b, .ref r6b, .ref r7b])), (fob, .inr (0, [.int 0, .int 0, .ref f1b, .int 0, .int 0, .ref f2b, .ref f3b, .ref f4b])), (d3b, aI g 4 z0), (xt, aB g 1600 z0), (tk, .inr (10, [.int 0, .int 0, .int 0, .long 0, .ref xt, .int 0, .int 0, .ref tw])), (s0, .inr (9, [.int 0, .int 0, .int 0, .int 0, .int 0, .int 0, .int 0, .ref t1u, .ref t2u, .ref t3u, .ref t4u, .ref t5u, .ref t6u, .ref t7u])), (t1u, aI g 6 z0), (lb, .inr (2, [.ref meb, .ref fob, .ref reb, .int 0, .ref d1b, .ref d2b, .int 9, .int 0, .ref d3b])), (meb, .inr (3, [.int 0, .ref m1b, .ref m2b, .ref m3b, .ref m4b])), (m3b, aI g 6 z0), (t2u, aI g 6 z0), (si, .inr (8, [.int 0, .int 0, .ref i1, .ref i2, .ref i3, .ref i4])), (he, .inr (1, [.int 0, .ref k3]))] H := hP
  have hD : va_D A [(x, .inr (11, [.ref xt, .int 0, .ref xr, .ref lb, .ref la, .ref sa, .int 0, .int 0, .ref ba, .int 0, .ref se, .ref si, .ref pa, .ref he])), (sa, aO g 41 (va_up (va_up fs 0 (some s0)) 1 (some s1))), (xr, .inr (5, [.int 0, .int (-1), .ref tk, .ref lb, .int 0, .int 0, .int 0])), (reb, .inr (6, [.int 0, .ref r1b, .ref r2b, .ref r3b, .ref r4b, .ref r5b, .ref r6b, .ref r7b])), (fob, .inr (0, [.int 0, .int 0, .ref f1b, .int 0, .int 0, .ref f2b, .ref f3b, .ref f4b])), (d3b, aI g 4 z0), (xt, aB g 1600 z0), (tk, .inr (10, [.int 0, .int 0, .int 0, .long 0, .ref xt, .int 0, .int 0, .ref tw])), (s0, .inr (9, [.int 0, .int 0, .int 0, .int 0, .int 0, .int 0, .int 0, .ref t1u, .ref t2u, .ref t3u, .ref t4u, .ref t5u, .ref t6u, .ref t7u])), (t1u, aI g 6 z0), (lb, .inr (2, [.ref meb, .ref fob, .ref reb, .int 0, .ref d1b, .ref d2b, .int 9, .int 0, .ref d3b])), (meb, .inr (3, [.int 0, .ref m1b, .ref m2b, .ref m3b, .ref m4b])), (m3b, aI g 6 z0), (t2u, aI g 6 z0), (si, .inr (8, [.int 0, .int 0, .ref i1, .ref i2, .ref i3, .ref i4])), (he, .inr (1, [.int 0, .ref k3]))] := hD
  refine lv_aload_n hx hb dX11_code_84 rfl (lv_at hl 1 rfl) ?_
  refine lv_iconst (v := 0) hx hb dX11_code_85 (by decide) ?_
  refine va_put (D := g.1) (ci := 11) (v := .int 0) (ty := .int) (C := RX11) (T := TX11) (N := 14) hx hb hT inF_X11 tyX11 tyX11_ok nmX11 hown hK.1 hP hD hS 0 rfl rfl 9 (by decide) (hT _ bw_69) (fun _ h9 => h9) rfl (by decide +kernel) rfl rfl (Nat.le_of_ble_eq_true rfl) dX11_code_86 (fun H locs hP hD hS => ?_)
  have hP : va_P g.1 vwCl [(x, .inr (11, [.ref xt, .int 0, .ref xr, .ref lb, .ref la, .ref sa, .int 0, .int 0, .ref ba, .int 0, .ref se, .ref si, .ref pa, .ref he])), (sa, aO g 41 (va_up (va_up fs 0 (some s0)) 1 (some s1))), (xr, .inr (5, [.int 0, .int (-1), .ref tk, .ref lb, .int 0, .int 0, .int 0])), (reb, .inr (6, [.int 0, .ref r1b, .ref r2b, .ref r3b, .ref r4b, .ref r5b, .ref r6b, .ref r7b])), (fob, .inr (0, [.int 0, .int 0, .ref f1b, .int 0, .int 0, .ref f2b, .ref f3b, .ref f4b])), (d3b, aI g 4 z0), (xt, aB g 1600 z0), (tk, .inr (10, [.int 0, .int 0, .int 0, .long 0, .ref xt, .int 0, .int 0, .ref tw])), (s0, .inr (9, [.int 0, .int 0, .int 0, .int 0, .int 0, .int 0, .int 0, .ref t1u, .ref t2u, .ref t3u, .ref t4u, .ref t5u, .ref t6u, .ref t7u])), (t1u, aI g 6 z0), (lb, .inr (2, [.ref meb, .ref fob, .ref reb, .int 0, .ref d1b, .ref d2b, .int 9, .int 0, .ref d3b])), (meb, .inr (3, [.int 0, .ref m1b, .ref m2b, .ref m3b, .ref m4b])), (m3b, aI g 6 z0), (t2u, aI g 6 z0), (si, .inr (8, [.int 0, .int 0, .ref i1, .ref i2, .ref i3, .ref i4])), (he, .inr (1, [.int 0, .ref k3]))] H := hP
  have hD : va_D A [(x, .inr (11, [.ref xt, .int 0, .ref xr, .ref lb, .ref la, .ref sa, .int 0, .int 0, .ref ba, .int 0, .ref se, .ref si, .ref pa, .ref he])), (sa, aO g 41 (va_up (va_up fs 0 (some s0)) 1 (some s1))), (xr, .inr (5, [.int 0, .int (-1), .ref tk, .ref lb, .int 0, .int 0, .int 0])), (reb, .inr (6, [.int 0, .ref r1b, .ref r2b, .ref r3b, .ref r4b, .ref r5b, .ref r6b, .ref r7b])), (fob, .inr (0, [.int 0, .int 0, .ref f1b, .int 0, .int 0, .ref f2b, .ref f3b, .ref f4b])), (d3b, aI g 4 z0), (xt, aB g 1600 z0), (tk, .inr (10, [.int 0, .int 0, .int 0, .long 0, .ref xt, .int 0, .int 0, .ref tw])), (s0, .inr (9, [.int 0, .int 0, .int 0, .int 0, .int 0, .int 0, .int 0, .ref t1u, .ref t2u, .ref t3u, .ref t4u, .ref t5u, .ref t6u, .ref t7u])), (t1u, aI g 6 z0), (lb, .inr (2, [.ref meb, .ref fob, .ref reb, .int 0, .ref d1b, .ref d2b, .int 9, .int 0, .ref d3b])), (meb, .inr (3, [.int 0, .ref m1b, .ref m2b, .ref m3b, .ref m4b])), (m3b, aI g 6 z0), (t2u, aI g 6 z0), (si, .inr (8, [.int 0, .int 0, .ref i1, .ref i2, .ref i3, .ref i4])), (he, .inr (1, [.int 0, .ref k3]))] := hD
  refine lv_aload_n hx hb dX11_code_89 rfl (lv_at hl 1 rfl) ?_
  refine va_get (D := g.1) (ci := 11) (v := .ref lb) (C := RX11) (T := TX11) (N := 14) hx hb hT inF_X11 hown hK.1 hP 0 rfl rfl 3 (by decide) (hT _ bw_13) (fun _ h9 => h9) rfl dX11_code_90 ?_
  refine va_get (D := g.1) (ci := 2) (v := .ref meb) (C := RX2) (T := TX2) (N := 9) hx hb hT inF_X2 hown hK.1 hP 10 rfl rfl 0 (by decide) (hT _ bw_14) (fun _ h9 => h9) rfl dX11_code_93 ?_
  refine va_get (D := g.1) (ci := 3) (v := .int 0) (C := RX3) (T := TX3) (N := 5) hx hb hT inF_X3 hown hK.1 hP 11 rfl rfl 0 (by decide) (hT _ bw_173) (fun _ h9 => h9) rfl dX11_code_96 ?_
  have hP9 : va_P g.1 vwCl [] H := hP.sub [] rfl
  have hD9 : va_D A [] := ⟨fun i j p q h => by simp at h, fun k q h => by simp at h⟩
  exact W.iret (v := 0) hx hb hr (fun t ht hW => ⟨⟨0, (), rfl, rfl, by rw [ht]; exact hP9, by rw [hAe]; exact hD9⟩, hS.F ht⟩) hS.2.2 dX11_code_99

theorem bw_175 : Cond.code yX11_end cX11_end 2 (some .int) ∈ gT := gT_tb 575 (by decide +kernel) (by decide +kernel)
theorem dX11_end_0 : decode cX11_end 0 = .ok (.iload_n 1, 1) := by decide +kernel
theorem dX11_end_1 : decode cX11_end 1 = .ok (.ifCond .lt 11, 3) := by decide +kernel
theorem dX11_end_4 : decode cX11_end 4 = .ok (.iload_n 1, 1) := by decide +kernel
theorem dX11_end_5 : decode cX11_end 5 = .ok (.aload_n 0, 1) := by decide +kernel
theorem dX11_end_6 : decode cX11_end 6 = .ok (.getfield 72, 3) := by decide +kernel
theorem dX11_end_9 : decode cX11_end 9 = .ok (.if_icmp .le 5, 3) := by decide +kernel
theorem dX11_end_12 : decode cX11_end 12 = .ok (.iconst (-1), 1) := by decide +kernel
theorem dX11_end_13 : decode cX11_end 13 = .ok (.ireturn, 1) := by decide +kernel
theorem dX11_end_14 : decode cX11_end 14 = .ok (.aload_n 0, 1) := by decide +kernel
theorem dX11_end_15 : decode cX11_end 15 = .ok (.iload_n 1, 1) := by decide +kernel
theorem dX11_end_16 : decode cX11_end 16 = .ok (.putfield 72, 3) := by decide +kernel
theorem dX11_end_19 : decode cX11_end 19 = .ok (.iload_n 1, 1) := by decide +kernel
theorem dX11_end_20 : decode cX11_end 20 = .ok (.ireturn, 1) := by decide +kernel
set_option maxHeartbeats 4000000 in
set_option maxRecDepth 100000 in
theorem c_X11_end (l : Launch) (g : GG) (sz : Nat) (x : Nat) (xt : Nat) (xr : Nat) (la : Nat) (lb : Nat) (sa : Nat) (ba : Nat) (se : Nat) (si : Nat) (pa : Nat) (he : Nat) (p0 : Int32) : Met l yX11_end (.code yX11_end cX11_end 2 (some .int) :: gT) ({ frames := 0, cells := 0, slots := 0, locals := 0 }) (va_Pc [.ref x, .int p0] (Pst g sz [(x, .inr (11, [.ref xt, .int 0, .ref xr, .ref la, .ref lb, .ref sa, .int 0, .int 0, .ref ba, .int 0, .ref se, .ref si, .ref pa, .ref he]))] nX)) (va_Qi (fun (r : Int32) (_ : Unit) => r = Fr 0 p0) (Qst g [(x, .inr (11, [.ref xt, .int 0, .ref xr, .ref la, .ref lb, .ref sa, .int 0, .int 0, .ref ba, .int 0, .ref se, .ref si, .ref pa, .ref he]))] sz (fun _ => [])) (va_A [(x, .inr (11, [.ref xt, .int 0, .ref xr, .ref la, .ref lb, .ref sa, .int 0, .int 0, .ref ba, .int 0, .ref se, .ref si, .ref pa, .ref he]))] sz)) 0 0 (va_A [(x, .inr (11, [.ref xt, .int 0, .ref xr, .ref la, .ref lb, .ref sa, .int 0, .int 0, .ref ba, .int 0, .ref se, .ref si, .ref pa, .ref he]))] sz) := by
  refine Met.ofW (cc := cX11_end) (maxL := 2) (ret := (some .int)) (by decide) rfl ?_
  intro p e s m args below meth c s₁ B hml hv
  obtain ⟨rfl, hsz, hP, hK, hD0, hX⟩ := hv
  have hx := B.exec
  have hb := B.bytes
  have hr := B.returns
  have hT : ∀ w ∈ gT, w.before _ s = true := fun w h => atoms_spec (ws := .code yX11_end cX11_end 2 (some .int) :: gT) B.pre w (List.mem_cons_of_mem _ h)
  have hown : s.vm.findClass RX11 = some m.cls := findClass_of_methodNamed B.named
  have hlocks := B.notSynchronized
  subst hsz
  have hD := hD0.self (sz := s.heap.size)
  generalize hAe : va_A [(x, .inr (11, [.ref xt, .int 0, .ref xr, .ref la, .ref lb, .ref sa, .int 0, .int 0, .ref ba, .int 0, .ref se, .ref si, .ref pa, .ref he]))] s.heap.size = A at hD ⊢
  have hA : ∀ q : Nat, s.heap.size ≤ q → A q := fun q h => by rw [← hAe]; exact Or.inr h
  have hS : va_S A s.heap s.heap [] := va_S.rf
  have hl := lv_entry ([.ref x, .int p0]) (n := 2) (Nat.le_of_ble_eq_true rfl)
  rw [lg_entry_eq]
  generalize (lg_sl ([.ref x, .int p0]) ++ List.replicate (2 - (lg_sl ([.ref x, .int p0])).length) Slot.unset).toArray = ls at hl ⊢
  have hl : lv_has ls 2 [(0, .ref x), (1, .int p0)] := hl
  refine p_nH (fun H hH => ?_)
  have hP : va_P g.1 vwCl [(x, .inr (11, [.ref xt, .int 0, .ref xr, .ref la, .ref lb, .ref sa, .int 0, .int 0, .ref ba, .int 0, .ref se, .ref si, .ref pa, .ref he]))] H := by rw [hH]; exact hP
  have hS : va_S A s.heap H [] := by rw [hH]; exact hS
  refine lv_iload_n hx hb dX11_end_0 rfl (lv_at hl 1 rfl) ?_
  refine lv_if_lt (tgt := 12) hx hb dX11_end_1 (by decide) (fun c_1 => ?_) (fun c_1 => ?_)
  · refine lv_iconst (v := (-1)) hx hb dX11_end_12 (by decide) ?_
    have hP9 : va_P g.1 vwCl [] H := hP.sub [] rfl
    have hD9 : va_D A [] := ⟨fun i j p q h => by simp at h, fun k q h => by simp at h⟩
    exact W.iret (v := (-1)) hx hb hr (fun t ht hW => ⟨⟨(-1), (), rfl, (by rw [Fr, if_neg (by have e0 : (0 : Int32).toInt = 0 := (by decide); simp only [Int32.lt_iff_toInt_lt, Int32.le_iff_toInt_le, ← Int32.toInt_inj, e0] at c_1 ⊢; omega)]), by rw [ht]; exact hP9, by rw [hAe]; exact hD9⟩, hS.F ht⟩) hS.2.2 dX11_end_13
  · refine lv_iload_n hx hb dX11_end_4 rfl (lv_at hl 1 rfl) ?_
    refine lv_aload_n hx hb dX11_end_5 rfl (lv_at hl 0 rfl) ?_
    refine va_get (D := g.1) (ci := 11) (v := .int 0) (C := RX11) (T := TX11) (N := 14) hx hb hT inF_X11 hown hK.1 hP 0 rfl rfl 1 (by decide) (hT _ bw_161) (fun _ h9 => h9) rfl dX11_end_6 ?_
    refine lv_icmp_le (tgt := 14) hx hb dX11_end_9 (by decide) (fun c_2 => ?_) (fun c_2 => ?_)
    · refine lv_aload_n hx hb dX11_end_14 rfl (lv_at hl 0 rfl) ?_
      refine lv_iload_n hx hb dX11_end_15 rfl (lv_at hl 1 rfl) ?_
      refine va_put (D := g.1) (ci := 11) (v := .int p0) (ty := .int) (C := RX11) (T := TX11) (N := 14) hx hb hT inF_X11 tyX11 tyX11_ok nmX11 hown hK.1 hP hD hS 0 rfl rfl 1 (by decide) (hT _ bw_161) (fun _ h9 => h9) rfl (by decide +kernel) rfl rfl (Nat.le_of_ble_eq_true rfl) dX11_end_16 (fun H locs hP hD hS => ?_)
      have hP : va_P g.1 vwCl [(x, .inr (11, [.ref xt, .int p0, .ref xr, .ref la, .ref lb, .ref sa, .int 0, .int 0, .ref ba, .int 0, .ref se, .ref si, .ref pa, .ref he]))] H := hP
      have hD : va_D A [(x, .inr (11, [.ref xt, .int p0, .ref xr, .ref la, .ref lb, .ref sa, .int 0, .int 0, .ref ba, .int 0, .ref se, .ref si, .ref pa, .ref he]))] := hD
      refine lv_iload_n hx hb dX11_end_19 rfl (lv_at hl 1 rfl) ?_
      have hP9 : va_P g.1 vwCl [] H := hP.sub [] rfl
      have hD9 : va_D A [] := ⟨fun i j p q h => by simp at h, fun k q h => by simp at h⟩
      exact W.iret (v := p0) hx hb hr (fun t ht hW => ⟨⟨p0, (), rfl, (by rw [Fr, if_pos (by have e0 : (0 : Int32).toInt = 0 := (by decide); simp only [Int32.lt_iff_toInt_lt, Int32.le_iff_toInt_le, ← Int32.toInt_inj, e0] at c_1 c_2 ⊢; omega)]), by rw [ht]; exact hP9, by rw [hAe]; exact hD9⟩, hS.F ht⟩) hS.2.2 dX11_end_20
    · refine lv_iconst (v := (-1)) hx hb dX11_end_12 (by decide) ?_
      have hP9 : va_P g.1 vwCl [] H := hP.sub [] rfl
      have hD9 : va_D A [] := ⟨fun i j p q h => by simp at h, fun k q h => by simp at h⟩
      exact W.iret (v := (-1)) hx hb hr (fun t ht hW => ⟨⟨(-1), (), rfl, (by rw [Fr, if_neg (by have e0 : (0 : Int32).toInt = 0 := (by decide); simp only [Int32.lt_iff_toInt_lt, Int32.le_iff_toInt_le, ← Int32.toInt_inj, e0] at c_1 c_2 ⊢; omega)]), by rw [ht]; exact hP9, by rw [hAe]; exact hD9⟩, hS.F ht⟩) hS.2.2 dX11_end_13

theorem bw_176 : Cond.fieldLink RX11 106 "DuelDelays$Reader" "faultCode" "I" ∈ gT := gT_tb 128 (by decide +kernel) (by decide +kernel)
theorem bw_177 : Cond.fieldLink RX11 109 "DuelDelays$Reader" "faultPlace" "I" ∈ gT := gT_tb 130 (by decide +kernel) (by decide +kernel)
theorem bw_178 : Cond.code yX11_fault cX11_fault 2 (some .int) ∈ gT := gT_tb 838 (by decide +kernel) (by decide +kernel)
theorem dX11_fault_0 : decode cX11_fault 0 = .ok (.iload_n 1, 1) := by decide +kernel
theorem dX11_fault_1 : decode cX11_fault 1 = .ok (.lookupswitch 43 #[(0, 27), (1, 35)], 27) := by decide +kernel
theorem dX11_fault_28 : decode cX11_fault 28 = .ok (.aload_n 0, 1) := by decide +kernel
theorem dX11_fault_29 : decode cX11_fault 29 = .ok (.getfield 16, 3) := by decide +kernel
theorem dX11_fault_32 : decode cX11_fault 32 = .ok (.getfield 106, 3) := by decide +kernel
theorem dX11_fault_35 : decode cX11_fault 35 = .ok (.ireturn, 1) := by decide +kernel
theorem dX11_fault_36 : decode cX11_fault 36 = .ok (.aload_n 0, 1) := by decide +kernel
theorem dX11_fault_37 : decode cX11_fault 37 = .ok (.getfield 16, 3) := by decide +kernel
theorem dX11_fault_40 : decode cX11_fault 40 = .ok (.getfield 109, 3) := by decide +kernel
theorem dX11_fault_43 : decode cX11_fault 43 = .ok (.ireturn, 1) := by decide +kernel
theorem dX11_fault_44 : decode cX11_fault 44 = .ok (.iconst (-1), 1) := by decide +kernel
theorem dX11_fault_45 : decode cX11_fault 45 = .ok (.ireturn, 1) := by decide +kernel
set_option maxHeartbeats 4000000 in
set_option maxRecDepth 100000 in
theorem c_X11_fault (l : Launch) (g : GG) (sz : Nat) (x : Nat) (xt : Nat) (xr : Nat) (la : Nat) (lb : Nat) (sa : Nat) (ba : Nat) (se : Nat) (si : Nat) (pa : Nat) (he : Nat) (tk : Nat) (p0 : Int32) : Met l yX11_fault (.code yX11_fault cX11_fault 2 (some .int) :: gT) ({ frames := 0, cells := 0, slots := 0, locals := 0 }) (va_Pc [.ref x, .int p0] (Pst g sz [(x, .inr (11, [.ref xt, .int 0, .ref xr, .ref la, .ref lb, .ref sa, .int 0, .int 0, .ref ba, .int 0, .ref se, .ref si, .ref pa, .ref he])), (xr, .inr (5, [.int 0, .int (-1), .ref tk, .null, .int 0, .int 0, .int 0]))] nX)) (va_Qi (fun (r : Int32) (_ : Unit) => r = Fz 0 p0) (Qst g [] sz (fun _ => [])) (va_A [] sz)) 0 0 (va_A [] sz) := by
  refine Met.ofW (cc := cX11_fault) (maxL := 2) (ret := (some .int)) (by decide) rfl ?_
  intro p e s m args below meth c s₁ B hml hv
  obtain ⟨rfl, hsz, hP, hK, hD0, hX⟩ := hv
  have hx := B.exec
  have hb := B.bytes
  have hr := B.returns
  have hT : ∀ w ∈ gT, w.before _ s = true := fun w h => atoms_spec (ws := .code yX11_fault cX11_fault 2 (some .int) :: gT) B.pre w (List.mem_cons_of_mem _ h)
  have hown : s.vm.findClass RX11 = some m.cls := findClass_of_methodNamed B.named
  have hlocks := B.notSynchronized
  subst hsz
  have hD := hD0
  generalize hAe : va_A [] s.heap.size = A at ⊢
  have hA : ∀ q : Nat, s.heap.size ≤ q → A q := fun q h => by rw [← hAe]; exact Or.inr h
  have hS : va_S A s.heap s.heap [] := va_S.rf
  have hl := lv_entry ([.ref x, .int p0]) (n := 2) (Nat.le_of_ble_eq_true rfl)
  rw [lg_entry_eq]
  generalize (lg_sl ([.ref x, .int p0]) ++ List.replicate (2 - (lg_sl ([.ref x, .int p0])).length) Slot.unset).toArray = ls at hl ⊢
  have hl : lv_has ls 2 [(0, .ref x), (1, .int p0)] := hl
  refine p_nH (fun H hH => ?_)
  have hP : va_P g.1 vwCl [(x, .inr (11, [.ref xt, .int 0, .ref xr, .ref la, .ref lb, .ref sa, .int 0, .int 0, .ref ba, .int 0, .ref se, .ref si, .ref pa, .ref he])), (xr, .inr (5, [.int 0, .int (-1), .ref tk, .null, .int 0, .int 0, .int 0]))] H := by rw [hH]; exact hP
  have hS : va_S A s.heap H [] := by rw [hH]; exact hS
  refine lv_iload_n hx hb dX11_fault_0 rfl (lv_at hl 1 rfl) ?_
  rcases tsplit p0 2 (by decide) with h_1 | ⟨j, hj, eh_1⟩
  · refine lv_lookup (tgt := 44) hx hb dX11_fault_1 (by decide) (off := 43) (by have k0 : ¬ (0 : Int) = p0.toInt := (by omega); have k1 : ¬ (1 : Int) = p0.toInt := (by omega); simp [Op.lookupswitch.offset, k0, k1]) (by decide) ?_
    refine lv_iconst (v := (-1)) hx hb dX11_fault_44 (by decide) ?_
    have hP9 : va_P g.1 vwCl [] H := hP.sub [] rfl
    have hD9 : va_D A [] := ⟨fun i j p q h => by simp at h, fun k q h => by simp at h⟩
    exact W.iret (v := (-1)) hx hb hr (fun t ht hW => ⟨⟨(-1), (), rfl, (by rw [Fz, if_neg (by have e0 : (0 : Int32).toInt = 0 := (by decide); simp only [Int32.lt_iff_toInt_lt, Int32.le_iff_toInt_le, ← Int32.toInt_inj, e0] at h_1 ⊢; omega)]), by rw [ht]; exact hP9, by rw [hAe]; exact hD9⟩, hS.F ht⟩) hS.2.2 dX11_fault_45
  · rcases (show j = 0 ∨ j = 1 by omega) with rfl | rfl
    · obtain rfl : p0 = 0 := eh_1
      refine lv_lookup (tgt := 28) hx hb dX11_fault_1 (by decide) (off := 27) (by decide) (by decide) ?_
      refine lv_aload_n hx hb dX11_fault_28 rfl (lv_at hl 0 rfl) ?_
      refine va_get (D := g.1) (ci := 11) (v := .ref xr) (C := RX11) (T := TX11) (N := 14) hx hb hT inF_X11 hown hK.1 hP 0 rfl rfl 2 (by decide) (hT _ bw_159) (fun _ h9 => h9) rfl dX11_fault_29 ?_
      refine va_get (D := g.1) (ci := 5) (v := .int 0) (C := RX5) (T := TX5) (N := 7) hx hb hT inF_X5 hown hK.1 hP 1 rfl rfl 0 (by decide) (hT _ bw_176) (fun _ h9 => h9) rfl dX11_fault_32 ?_
      have hP9 : va_P g.1 vwCl [] H := hP.sub [] rfl
      have hD9 : va_D A [] := ⟨fun i j p q h => by simp at h, fun k q h => by simp at h⟩
      exact W.iret (v := 0) hx hb hr (fun t ht hW => ⟨⟨0, (), rfl, by decide, by rw [ht]; exact hP9, by rw [hAe]; exact hD9⟩, hS.F ht⟩) hS.2.2 dX11_fault_35
    · obtain rfl : p0 = 1 := eh_1
      refine lv_lookup (tgt := 36) hx hb dX11_fault_1 (by decide) (off := 35) (by decide) (by decide) ?_
      refine lv_aload_n hx hb dX11_fault_36 rfl (lv_at hl 0 rfl) ?_
      refine va_get (D := g.1) (ci := 11) (v := .ref xr) (C := RX11) (T := TX11) (N := 14) hx hb hT inF_X11 hown hK.1 hP 0 rfl rfl 2 (by decide) (hT _ bw_159) (fun _ h9 => h9) rfl dX11_fault_37 ?_
      refine va_get (D := g.1) (ci := 5) (v := .int (-1)) (C := RX5) (T := TX5) (N := 7) hx hb hT inF_X5 hown hK.1 hP 1 rfl rfl 1 (by decide) (hT _ bw_177) (fun _ h9 => h9) rfl dX11_fault_40 ?_
      have hP9 : va_P g.1 vwCl [] H := hP.sub [] rfl
      have hD9 : va_D A [] := ⟨fun i j p q h => by simp at h, fun k q h => by simp at h⟩
      exact W.iret (v := (-1)) hx hb hr (fun t ht hW => ⟨⟨(-1), (), rfl, by decide, by rw [ht]; exact hP9, by rw [hAe]; exact hD9⟩, hS.F ht⟩) hS.2.2 dX11_fault_43

theorem bw_179 : Cond.fieldLink RX11 323 "DuelDelays$Sights" "time" "I" ∈ gT := gT_tb 387 (by decide +kernel) (by decide +kernel)
theorem bw_180 : Cond.constant RX11 326 (100000) ∈ gT := gT_tb 1266 (by decide +kernel) (by decide +kernel)
theorem bw_181 : Cond.code yX11_later cX11_later 2 (some .int) ∈ gT := gT_tb 1265 (by decide +kernel) (by decide +kernel)
theorem dX11_later_0 : decode cX11_later 0 = .ok (.iload_n 1, 1) := by decide +kernel
theorem dX11_later_1 : decode cX11_later 1 = .ok (.ifCond .lt 25, 3) := by decide +kernel
theorem dX11_later_4 : decode cX11_later 4 = .ok (.iload_n 1, 1) := by decide +kernel
theorem dX11_later_5 : decode cX11_later 5 = .ok (.sipush 1000, 3) := by decide +kernel
theorem dX11_later_8 : decode cX11_later 8 = .ok (.if_icmp .gt 18, 3) := by decide +kernel
theorem dX11_later_11 : decode cX11_later 11 = .ok (.aload_n 0, 1) := by decide +kernel
theorem dX11_later_12 : decode cX11_later 12 = .ok (.getfield 49, 3) := by decide +kernel
theorem dX11_later_15 : decode cX11_later 15 = .ok (.getfield 323, 3) := by decide +kernel
theorem dX11_later_18 : decode cX11_later 18 = .ok (.iload_n 1, 1) := by decide +kernel
theorem dX11_later_19 : decode cX11_later 19 = .ok (.iadd, 1) := by decide +kernel
theorem dX11_later_20 : decode cX11_later 20 = .ok (.ldc_w 326, 3) := by decide +kernel
theorem dX11_later_23 : decode cX11_later 23 = .ok (.if_icmp .le 5, 3) := by decide +kernel
theorem dX11_later_26 : decode cX11_later 26 = .ok (.iconst (-1), 1) := by decide +kernel
theorem dX11_later_27 : decode cX11_later 27 = .ok (.ireturn, 1) := by decide +kernel
theorem dX11_later_28 : decode cX11_later 28 = .ok (.aload_n 0, 1) := by decide +kernel
theorem dX11_later_29 : decode cX11_later 29 = .ok (.getfield 49, 3) := by decide +kernel
theorem dX11_later_32 : decode cX11_later 32 = .ok (.dup, 1) := by decide +kernel
theorem dX11_later_33 : decode cX11_later 33 = .ok (.getfield 323, 3) := by decide +kernel
theorem dX11_later_36 : decode cX11_later 36 = .ok (.iload_n 1, 1) := by decide +kernel
theorem dX11_later_37 : decode cX11_later 37 = .ok (.iadd, 1) := by decide +kernel
theorem dX11_later_38 : decode cX11_later 38 = .ok (.putfield 323, 3) := by decide +kernel
theorem dX11_later_41 : decode cX11_later 41 = .ok (.aload_n 0, 1) := by decide +kernel
theorem dX11_later_42 : decode cX11_later 42 = .ok (.getfield 49, 3) := by decide +kernel
theorem dX11_later_45 : decode cX11_later 45 = .ok (.getfield 323, 3) := by decide +kernel
theorem dX11_later_48 : decode cX11_later 48 = .ok (.ireturn, 1) := by decide +kernel
set_option maxHeartbeats 4000000 in
set_option maxRecDepth 100000 in
theorem c_X11_later (l : Launch) (g : GG) (sz : Nat) (x : Nat) (xt : Nat) (xr : Nat) (la : Nat) (lb : Nat) (sa : Nat) (ba : Nat) (se : Nat) (si : Nat) (pa : Nat) (he : Nat) (i1 : Nat) (i2 : Nat) (i3 : Nat) (i4 : Nat) (p0 : Int32) : Met l yX11_later (.code yX11_later cX11_later 2 (some .int) :: gT) ({ frames := 0, cells := 0, slots := 0, locals := 0 }) (va_Pc [.ref x, .int p0] (Pst g sz [(x, .inr (11, [.ref xt, .int 0, .ref xr, .ref la, .ref lb, .ref sa, .int 0, .int 0, .ref ba, .int 0, .ref se, .ref si, .ref pa, .ref he])), (si, .inr (8, [.int 0, .int 0, .ref i1, .ref i2, .ref i3, .ref i4]))] nX)) (va_Qi (fun (r : Int32) (_ : Unit) => r = Fr 1000 p0) (Qst g [(x, .inr (11, [.ref xt, .int 0, .ref xr, .ref la, .ref lb, .ref sa, .int 0, .int 0, .ref ba, .int 0, .ref se, .ref si, .ref pa, .ref he])), (si, .inr (8, [.int 0, .int 0, .ref i1, .ref i2, .ref i3, .ref i4]))] sz (fun _ => [])) (va_A [(x, .inr (11, [.ref xt, .int 0, .ref xr, .ref la, .ref lb, .ref sa, .int 0, .int 0, .ref ba, .int 0, .ref se, .ref si, .ref pa, .ref he])), (si, .inr (8, [.int 0, .int 0, .ref i1, .ref i2, .ref i3, .ref i4]))] sz)) 0 0 (va_A [(x, .inr (11, [.ref xt, .int 0, .ref xr, .ref la, .ref lb, .ref sa, .int 0, .int 0, .ref ba, .int 0, .ref se, .ref si, .ref pa, .ref he])), (si, .inr (8, [.int 0, .int 0, .ref i1, .ref i2, .ref i3, .ref i4]))] sz) := by
  refine Met.ofW (cc := cX11_later) (maxL := 2) (ret := (some .int)) (by decide) rfl ?_
  intro p e s m args below meth c s₁ B hml hv
  obtain ⟨rfl, hsz, hP, hK, hD0, hX⟩ := hv
  have hx := B.exec
  have hb := B.bytes
  have hr := B.returns
  have hT : ∀ w ∈ gT, w.before _ s = true := fun w h => atoms_spec (ws := .code yX11_later cX11_later 2 (some .int) :: gT) B.pre w (List.mem_cons_of_mem _ h)
  have hown : s.vm.findClass RX11 = some m.cls := findClass_of_methodNamed B.named
  have hlocks := B.notSynchronized
  subst hsz
  have hD := hD0.self (sz := s.heap.size)
  generalize hAe : va_A [(x, .inr (11, [.ref xt, .int 0, .ref xr, .ref la, .ref lb, .ref sa, .int 0, .int 0, .ref ba, .int 0, .ref se, .ref si, .ref pa, .ref he])), (si, .inr (8, [.int 0, .int 0, .ref i1, .ref i2, .ref i3, .ref i4]))] s.heap.size = A at hD ⊢
  have hA : ∀ q : Nat, s.heap.size ≤ q → A q := fun q h => by rw [← hAe]; exact Or.inr h
  have hS : va_S A s.heap s.heap [] := va_S.rf
  have hl := lv_entry ([.ref x, .int p0]) (n := 2) (Nat.le_of_ble_eq_true rfl)
  rw [lg_entry_eq]
  generalize (lg_sl ([.ref x, .int p0]) ++ List.replicate (2 - (lg_sl ([.ref x, .int p0])).length) Slot.unset).toArray = ls at hl ⊢
  have hl : lv_has ls 2 [(0, .ref x), (1, .int p0)] := hl
  refine p_nH (fun H hH => ?_)
  have hP : va_P g.1 vwCl [(x, .inr (11, [.ref xt, .int 0, .ref xr, .ref la, .ref lb, .ref sa, .int 0, .int 0, .ref ba, .int 0, .ref se, .ref si, .ref pa, .ref he])), (si, .inr (8, [.int 0, .int 0, .ref i1, .ref i2, .ref i3, .ref i4]))] H := by rw [hH]; exact hP
  have hS : va_S A s.heap H [] := by rw [hH]; exact hS
  refine lv_iload_n hx hb dX11_later_0 rfl (lv_at hl 1 rfl) ?_
  refine lv_if_lt (tgt := 26) hx hb dX11_later_1 (by decide) (fun c_1 => ?_) (fun c_1 => ?_)
  · refine lv_iconst (v := (-1)) hx hb dX11_later_26 (by decide) ?_
    have hP9 : va_P g.1 vwCl [] H := hP.sub [] rfl
    have hD9 : va_D A [] := ⟨fun i j p q h => by simp at h, fun k q h => by simp at h⟩
    exact W.iret (v := (-1)) hx hb hr (fun t ht hW => ⟨⟨(-1), (), rfl, (by rw [Fr, if_neg (by have e0 : (0 : Int32).toInt = 0 := (by decide); have e1 : (1000 : Int32).toInt = 1000 := (by decide); simp only [Int32.lt_iff_toInt_lt, Int32.le_iff_toInt_le, ← Int32.toInt_inj, e0, e1] at c_1 ⊢; omega)]), by rw [ht]; exact hP9, by rw [hAe]; exact hD9⟩, hS.F ht⟩) hS.2.2 dX11_later_27
  · refine lv_iload_n hx hb dX11_later_4 rfl (lv_at hl 1 rfl) ?_
    refine lv_sipush (v := 1000) hx hb dX11_later_5 (by decide) ?_
    refine lv_icmp_gt (tgt := 26) hx hb dX11_later_8 (by decide) (fun c_2 => ?_) (fun c_2 => ?_)
    · refine lv_iconst (v := (-1)) hx hb dX11_later_26 (by decide) ?_
      have hP9 : va_P g.1 vwCl [] H := hP.sub [] rfl
      have hD9 : va_D A [] := ⟨fun i j p q h => by simp at h, fun k q h => by simp at h⟩
      exact W.iret (v := (-1)) hx hb hr (fun t ht hW => ⟨⟨(-1), (), rfl, (by rw [Fr, if_neg (by have e0 : (0 : Int32).toInt = 0 := (by decide); have e1 : (1000 : Int32).toInt = 1000 := (by decide); simp only [Int32.lt_iff_toInt_lt, Int32.le_iff_toInt_le, ← Int32.toInt_inj, e0, e1] at c_1 c_2 ⊢; omega)]), by rw [ht]; exact hP9, by rw [hAe]; exact hD9⟩, hS.F ht⟩) hS.2.2 dX11_later_27
    · refine lv_aload_n hx hb dX11_later_11 rfl (lv_at hl 0 rfl) ?_
      refine va_get (D := g.1) (ci := 11) (v := .ref si) (C := RX11) (T := TX11) (N := 14) hx hb hT inF_X11 hown hK.1 hP 0 rfl rfl 11 (by decide) (hT _ bw_63) (fun _ h9 => h9) rfl dX11_later_12 ?_
      refine va_get (D := g.1) (ci := 8) (v := .int 0) (C := RX8) (T := TX8) (N := 6) hx hb hT inF_X8 hown hK.1 hP 1 rfl rfl 0 (by decide) (hT _ bw_179) (fun _ h9 => h9) rfl dX11_later_15 ?_
      refine lv_iload_n hx hb dX11_later_18 rfl (lv_at hl 1 rfl) ?_
      refine lv_iadd hx hb dX11_later_19 ?_
      refine p_ti (v := p0) (Int32.zero_add _) ?_
      refine lv_ldcw (v := 100000) hx hb hown (hT _ bw_180) dX11_later_20 ?_
      refine lv_icmp_le (tgt := 28) hx hb dX11_later_23 (by decide) (fun _ => ?_) (fun c9 => absurd (by have e0 : (0 : Int32).toInt = 0 := (by decide); have e1 : (1000 : Int32).toInt = 1000 := (by decide); have e2 : (100000 : Int32).toInt = 100000 := (by decide); simp only [Int32.lt_iff_toInt_lt, Int32.le_iff_toInt_le, ← Int32.toInt_inj, e0, e1, e2] at c_1 c_2 ⊢; omega) c9)
      refine lv_aload_n hx hb dX11_later_28 rfl (lv_at hl 0 rfl) ?_
      refine va_get (D := g.1) (ci := 11) (v := .ref si) (C := RX11) (T := TX11) (N := 14) hx hb hT inF_X11 hown hK.1 hP 0 rfl rfl 11 (by decide) (hT _ bw_63) (fun _ h9 => h9) rfl dX11_later_29 ?_
      refine lv_dup hx hb dX11_later_32 rfl ?_
      refine va_get (D := g.1) (ci := 8) (v := .int 0) (C := RX8) (T := TX8) (N := 6) hx hb hT inF_X8 hown hK.1 hP 1 rfl rfl 0 (by decide) (hT _ bw_179) (fun _ h9 => h9) rfl dX11_later_33 ?_
      refine lv_iload_n hx hb dX11_later_36 rfl (lv_at hl 1 rfl) ?_
      refine lv_iadd hx hb dX11_later_37 ?_
      refine p_ti (v := p0) (Int32.zero_add _) ?_
      refine va_put (D := g.1) (ci := 8) (v := .int p0) (ty := .int) (C := RX8) (T := TX8) (N := 6) hx hb hT inF_X8 tyX8 tyX8_ok nmX8 hown hK.1 hP hD hS 1 rfl rfl 0 (by decide) (hT _ bw_179) (fun _ h9 => h9) rfl (by decide +kernel) rfl rfl (Nat.le_of_ble_eq_true rfl) dX11_later_38 (fun H locs hP hD hS => ?_)
      have hP : va_P g.1 vwCl [(x, .inr (11, [.ref xt, .int 0, .ref xr, .ref la, .ref lb, .ref sa, .int 0, .int 0, .ref ba, .int 0, .ref se, .ref si, .ref pa, .ref he])), (si, .inr (8, [.int p0, .int 0, .ref i1, .ref i2, .ref i3, .ref i4]))] H := hP
      have hD : va_D A [(x, .inr (11, [.ref xt, .int 0, .ref xr, .ref la, .ref lb, .ref sa, .int 0, .int 0, .ref ba, .int 0, .ref se, .ref si, .ref pa, .ref he])), (si, .inr (8, [.int p0, .int 0, .ref i1, .ref i2, .ref i3, .ref i4]))] := hD
      refine lv_aload_n hx hb dX11_later_41 rfl (lv_at hl 0 rfl) ?_
      refine va_get (D := g.1) (ci := 11) (v := .ref si) (C := RX11) (T := TX11) (N := 14) hx hb hT inF_X11 hown hK.1 hP 0 rfl rfl 11 (by decide) (hT _ bw_63) (fun _ h9 => h9) rfl dX11_later_42 ?_
      refine va_get (D := g.1) (ci := 8) (v := .int p0) (C := RX8) (T := TX8) (N := 6) hx hb hT inF_X8 hown hK.1 hP 1 rfl rfl 0 (by decide) (hT _ bw_179) (fun _ h9 => h9) rfl dX11_later_45 ?_
      have hP9 : va_P g.1 vwCl [] H := hP.sub [] rfl
      have hD9 : va_D A [] := ⟨fun i j p q h => by simp at h, fun k q h => by simp at h⟩
      exact W.iret (v := p0) hx hb hr (fun t ht hW => ⟨⟨p0, (), rfl, (by rw [Fr, if_pos (by have e0 : (0 : Int32).toInt = 0 := (by decide); have e1 : (1000 : Int32).toInt = 1000 := (by decide); simp only [Int32.lt_iff_toInt_lt, Int32.le_iff_toInt_le, ← Int32.toInt_inj, e0, e1] at c_1 c_2 ⊢; omega)]), by rw [ht]; exact hP9, by rw [hAe]; exact hD9⟩, hS.F ht⟩) hS.2.2 dX11_later_48

theorem bw_182 : Cond.constant RJ6 265 (1431655765) ∈ gT := gT_tb 870 (by decide +kernel) (by decide +kernel)
theorem bw_183 : Cond.constant RJ6 266 (858993459) ∈ gT := gT_tb 871 (by decide +kernel) (by decide +kernel)
theorem bw_184 : Cond.constant RJ6 267 (252645135) ∈ gT := gT_tb 872 (by decide +kernel) (by decide +kernel)
theorem bw_185 : Cond.code yJ6_bitCount_0f7a4 cJ6_bitCount_0f7a4 1 (some .int) ∈ gT := gT_tb 869 (by decide +kernel) (by decide +kernel)
theorem dJ6_bitCount_0f7a4_0 : decode cJ6_bitCount_0f7a4 0 = .ok (.iload_n 0, 1) := by decide +kernel
theorem dJ6_bitCount_0f7a4_1 : decode cJ6_bitCount_0f7a4 1 = .ok (.iload_n 0, 1) := by decide +kernel
theorem dJ6_bitCount_0f7a4_2 : decode cJ6_bitCount_0f7a4 2 = .ok (.iconst 1, 1) := by decide +kernel
theorem dJ6_bitCount_0f7a4_3 : decode cJ6_bitCount_0f7a4 3 = .ok (.iushr, 1) := by decide +kernel
theorem dJ6_bitCount_0f7a4_4 : decode cJ6_bitCount_0f7a4 4 = .ok (.ldc_w 265, 3) := by decide +kernel
theorem dJ6_bitCount_0f7a4_7 : decode cJ6_bitCount_0f7a4 7 = .ok (.iand, 1) := by decide +kernel
theorem dJ6_bitCount_0f7a4_8 : decode cJ6_bitCount_0f7a4 8 = .ok (.isub, 1) := by decide +kernel
theorem dJ6_bitCount_0f7a4_9 : decode cJ6_bitCount_0f7a4 9 = .ok (.istore_n 0, 1) := by decide +kernel
theorem dJ6_bitCount_0f7a4_10 : decode cJ6_bitCount_0f7a4 10 = .ok (.iload_n 0, 1) := by decide +kernel
theorem dJ6_bitCount_0f7a4_11 : decode cJ6_bitCount_0f7a4 11 = .ok (.ldc_w 266, 3) := by decide +kernel
theorem dJ6_bitCount_0f7a4_14 : decode cJ6_bitCount_0f7a4 14 = .ok (.iand, 1) := by decide +kernel
theorem dJ6_bitCount_0f7a4_15 : decode cJ6_bitCount_0f7a4 15 = .ok (.iload_n 0, 1) := by decide +kernel
theorem dJ6_bitCount_0f7a4_16 : decode cJ6_bitCount_0f7a4 16 = .ok (.iconst 2, 1) := by decide +kernel
theorem dJ6_bitCount_0f7a4_17 : decode cJ6_bitCount_0f7a4 17 = .ok (.iushr, 1) := by decide +kernel
theorem dJ6_bitCount_0f7a4_18 : decode cJ6_bitCount_0f7a4 18 = .ok (.ldc_w 266, 3) := by decide +kernel
theorem dJ6_bitCount_0f7a4_21 : decode cJ6_bitCount_0f7a4 21 = .ok (.iand, 1) := by decide +kernel
theorem dJ6_bitCount_0f7a4_22 : decode cJ6_bitCount_0f7a4 22 = .ok (.iadd, 1) := by decide +kernel
theorem dJ6_bitCount_0f7a4_23 : decode cJ6_bitCount_0f7a4 23 = .ok (.istore_n 0, 1) := by decide +kernel
theorem dJ6_bitCount_0f7a4_24 : decode cJ6_bitCount_0f7a4 24 = .ok (.iload_n 0, 1) := by decide +kernel
theorem dJ6_bitCount_0f7a4_25 : decode cJ6_bitCount_0f7a4 25 = .ok (.iload_n 0, 1) := by decide +kernel
theorem dJ6_bitCount_0f7a4_26 : decode cJ6_bitCount_0f7a4 26 = .ok (.iconst 4, 1) := by decide +kernel
theorem dJ6_bitCount_0f7a4_27 : decode cJ6_bitCount_0f7a4 27 = .ok (.iushr, 1) := by decide +kernel
theorem dJ6_bitCount_0f7a4_28 : decode cJ6_bitCount_0f7a4 28 = .ok (.iadd, 1) := by decide +kernel
theorem dJ6_bitCount_0f7a4_29 : decode cJ6_bitCount_0f7a4 29 = .ok (.ldc_w 267, 3) := by decide +kernel
theorem dJ6_bitCount_0f7a4_32 : decode cJ6_bitCount_0f7a4 32 = .ok (.iand, 1) := by decide +kernel
theorem dJ6_bitCount_0f7a4_33 : decode cJ6_bitCount_0f7a4 33 = .ok (.istore_n 0, 1) := by decide +kernel
theorem dJ6_bitCount_0f7a4_34 : decode cJ6_bitCount_0f7a4 34 = .ok (.iload_n 0, 1) := by decide +kernel
theorem dJ6_bitCount_0f7a4_35 : decode cJ6_bitCount_0f7a4 35 = .ok (.iload_n 0, 1) := by decide +kernel
theorem dJ6_bitCount_0f7a4_36 : decode cJ6_bitCount_0f7a4 36 = .ok (.bipush 8, 2) := by decide +kernel
theorem dJ6_bitCount_0f7a4_38 : decode cJ6_bitCount_0f7a4 38 = .ok (.iushr, 1) := by decide +kernel
theorem dJ6_bitCount_0f7a4_39 : decode cJ6_bitCount_0f7a4 39 = .ok (.iadd, 1) := by decide +kernel
theorem dJ6_bitCount_0f7a4_40 : decode cJ6_bitCount_0f7a4 40 = .ok (.istore_n 0, 1) := by decide +kernel
theorem dJ6_bitCount_0f7a4_41 : decode cJ6_bitCount_0f7a4 41 = .ok (.iload_n 0, 1) := by decide +kernel
theorem dJ6_bitCount_0f7a4_42 : decode cJ6_bitCount_0f7a4 42 = .ok (.iload_n 0, 1) := by decide +kernel
theorem dJ6_bitCount_0f7a4_43 : decode cJ6_bitCount_0f7a4 43 = .ok (.bipush 16, 2) := by decide +kernel
theorem dJ6_bitCount_0f7a4_45 : decode cJ6_bitCount_0f7a4 45 = .ok (.iushr, 1) := by decide +kernel
theorem dJ6_bitCount_0f7a4_46 : decode cJ6_bitCount_0f7a4 46 = .ok (.iadd, 1) := by decide +kernel
theorem dJ6_bitCount_0f7a4_47 : decode cJ6_bitCount_0f7a4 47 = .ok (.istore_n 0, 1) := by decide +kernel
theorem dJ6_bitCount_0f7a4_48 : decode cJ6_bitCount_0f7a4 48 = .ok (.iload_n 0, 1) := by decide +kernel
theorem dJ6_bitCount_0f7a4_49 : decode cJ6_bitCount_0f7a4 49 = .ok (.bipush 63, 2) := by decide +kernel
theorem dJ6_bitCount_0f7a4_51 : decode cJ6_bitCount_0f7a4 51 = .ok (.iand, 1) := by decide +kernel
theorem dJ6_bitCount_0f7a4_52 : decode cJ6_bitCount_0f7a4 52 = .ok (.ireturn, 1) := by decide +kernel
set_option maxHeartbeats 4000000 in
set_option maxRecDepth 100000 in
theorem c_J6_bitCount_0f7a4 (l : Launch) (g : GG) (sz : Nat) : Met l yJ6_bitCount_0f7a4 (.code yJ6_bitCount_0f7a4 cJ6_bitCount_0f7a4 1 (some .int) :: gT) ({ frames := 0, cells := 0, slots := 0, locals := 0 }) (va_Pc [.int 0] (Pst g sz [] nX)) (va_Qi (fun (r : Int32) (_ : Unit) => r = 0) (Qst g [] sz (fun _ => [])) (va_A [] sz)) 0 0 (va_A [] sz) := by
  refine Met.ofW (cc := cJ6_bitCount_0f7a4) (maxL := 1) (ret := (some .int)) (by decide) rfl ?_
  intro p e s m args below meth c s₁ B hml hv
  obtain ⟨rfl, hsz, hP, hK, hD0, hX⟩ := hv
  have hx := B.exec
  have hb := B.bytes
  have hr := B.returns
  have hT : ∀ w ∈ gT, w.before _ s = true := fun w h => atoms_spec (ws := .code yJ6_bitCount_0f7a4 cJ6_bitCount_0f7a4 1 (some .int) :: gT) B.pre w (List.mem_cons_of_mem _ h)
  have hown : s.vm.findClass RJ6 = some m.cls := findClass_of_methodNamed B.named
  have hlocks := B.notSynchronized
  subst hsz
  have hD := hD0
  generalize hAe : va_A [] s.heap.size = A at ⊢
  have hA : ∀ q : Nat, s.heap.size ≤ q → A q := fun q h => by rw [← hAe]; exact Or.inr h
  have hS : va_S A s.heap s.heap [] := va_S.rf
  have hl := lv_entry ([.int 0]) (n := 1) (Nat.le_of_ble_eq_true rfl)
  rw [lg_entry_eq]
  generalize (lg_sl ([.int 0]) ++ List.replicate (1 - (lg_sl ([.int 0])).length) Slot.unset).toArray = ls at hl ⊢
  have hl : lv_has ls 1 [(0, .int 0)] := hl
  refine p_nH (fun H hH => ?_)
  have hP : va_P g.1 vwCl [] H := by rw [hH]; exact hP
  have hS : va_S A s.heap H [] := by rw [hH]; exact hS
  refine lv_iload_n hx hb dJ6_bitCount_0f7a4_0 rfl (lv_at hl 0 rfl) ?_
  refine lv_iload_n hx hb dJ6_bitCount_0f7a4_1 rfl (lv_at hl 0 rfl) ?_
  refine lv_iconst (v := 1) hx hb dJ6_bitCount_0f7a4_2 (by decide) ?_
  refine lv_iushr (v := 0) hx hb dJ6_bitCount_0f7a4_3 (by decide +kernel) ?_
  refine lv_ldcw (v := 1431655765) hx hb hown (hT _ bw_182) dJ6_bitCount_0f7a4_4 ?_
  refine lv_iand hx hb dJ6_bitCount_0f7a4_7 ?_
  refine p_ti (v := 0) (by decide +kernel) ?_
  refine lv_isub hx hb dJ6_bitCount_0f7a4_8 ?_
  refine p_ti (v := 0) (by decide +kernel) ?_
  refine lv_istore_n (lv' := [(0, .int 0)]) hx hb dJ6_bitCount_0f7a4_9 rfl hl (by decide) rfl (fun ls hl => ?_)
  refine lv_iload_n hx hb dJ6_bitCount_0f7a4_10 rfl (lv_at hl 0 rfl) ?_
  refine lv_ldcw (v := 858993459) hx hb hown (hT _ bw_183) dJ6_bitCount_0f7a4_11 ?_
  refine lv_iand hx hb dJ6_bitCount_0f7a4_14 ?_
  refine p_ti (v := 0) (by decide +kernel) ?_
  refine lv_iload_n hx hb dJ6_bitCount_0f7a4_15 rfl (lv_at hl 0 rfl) ?_
  refine lv_iconst (v := 2) hx hb dJ6_bitCount_0f7a4_16 (by decide) ?_
  refine lv_iushr (v := 0) hx hb dJ6_bitCount_0f7a4_17 (by decide +kernel) ?_
  refine lv_ldcw (v := 858993459) hx hb hown (hT _ bw_183) dJ6_bitCount_0f7a4_18 ?_
  refine lv_iand hx hb dJ6_bitCount_0f7a4_21 ?_
  refine p_ti (v := 0) (by decide +kernel) ?_
  refine lv_iadd hx hb dJ6_bitCount_0f7a4_22 ?_
  refine p_ti (v := 0) (by decide +kernel) ?_
  refine lv_istore_n (lv' := [(0, .int 0)]) hx hb dJ6_bitCount_0f7a4_23 rfl hl (by decide) rfl (fun ls hl => ?_)
  refine lv_iload_n hx hb dJ6_bitCount_0f7a4_24 rfl (lv_at hl 0 rfl) ?_
  refine lv_iload_n hx hb dJ6_bitCount_0f7a4_25 rfl (lv_at hl 0 rfl) ?_
  refine lv_iconst (v := 4) hx hb dJ6_bitCount_0f7a4_26 (by decide) ?_
  refine lv_iushr (v := 0) hx hb dJ6_bitCount_0f7a4_27 (by decide +kernel) ?_
  refine lv_iadd hx hb dJ6_bitCount_0f7a4_28 ?_
  refine p_ti (v := 0) (by decide +kernel) ?_
  refine lv_ldcw (v := 252645135) hx hb hown (hT _ bw_184) dJ6_bitCount_0f7a4_29 ?_
  refine lv_iand hx hb dJ6_bitCount_0f7a4_32 ?_
  refine p_ti (v := 0) (by decide +kernel) ?_
  refine lv_istore_n (lv' := [(0, .int 0)]) hx hb dJ6_bitCount_0f7a4_33 rfl hl (by decide) rfl (fun ls hl => ?_)
  refine lv_iload_n hx hb dJ6_bitCount_0f7a4_34 rfl (lv_at hl 0 rfl) ?_
  refine lv_iload_n hx hb dJ6_bitCount_0f7a4_35 rfl (lv_at hl 0 rfl) ?_
  refine lv_bipush (v := 8) hx hb dJ6_bitCount_0f7a4_36 (by decide) ?_
  refine lv_iushr (v := 0) hx hb dJ6_bitCount_0f7a4_38 (by decide +kernel) ?_
  refine lv_iadd hx hb dJ6_bitCount_0f7a4_39 ?_
  refine p_ti (v := 0) (by decide +kernel) ?_
  refine lv_istore_n (lv' := [(0, .int 0)]) hx hb dJ6_bitCount_0f7a4_40 rfl hl (by decide) rfl (fun ls hl => ?_)
  refine lv_iload_n hx hb dJ6_bitCount_0f7a4_41 rfl (lv_at hl 0 rfl) ?_
  refine lv_iload_n hx hb dJ6_bitCount_0f7a4_42 rfl (lv_at hl 0 rfl) ?_
  refine lv_bipush (v := 16) hx hb dJ6_bitCount_0f7a4_43 (by decide) ?_
  refine lv_iushr (v := 0) hx hb dJ6_bitCount_0f7a4_45 (by decide +kernel) ?_
  refine lv_iadd hx hb dJ6_bitCount_0f7a4_46 ?_
  refine p_ti (v := 0) (by decide +kernel) ?_
  refine lv_istore_n (lv' := [(0, .int 0)]) hx hb dJ6_bitCount_0f7a4_47 rfl hl (by decide) rfl (fun ls hl => ?_)
  refine lv_iload_n hx hb dJ6_bitCount_0f7a4_48 rfl (lv_at hl 0 rfl) ?_
  refine lv_bipush (v := 63) hx hb dJ6_bitCount_0f7a4_49 (by decide) ?_
  refine lv_iand hx hb dJ6_bitCount_0f7a4_51 ?_
  refine p_ti (v := 0) (by decide +kernel) ?_
  have hP9 : va_P g.1 vwCl [] H := hP.sub [] rfl
  have hD9 : va_D A [] := ⟨fun i j p q h => by simp at h, fun k q h => by simp at h⟩
  exact W.iret (v := 0) hx hb hr (fun t ht hW => ⟨⟨0, (), rfl, rfl, by rw [ht]; exact hP9, by rw [hAe]; exact hD9⟩, hS.F ht⟩) hS.2.2 dJ6_bitCount_0f7a4_52

theorem bw_186 : Cond.fieldLink RX11 331 "DuelDelays$Land" "formulas" "LDuelDelays$Formulas;" ∈ gT := gT_tb 291 (by decide +kernel) (by decide +kernel)
theorem bw_187 : Cond.fieldLink RX11 335 "DuelDelays$Formulas" "count" "I" ∈ gT := gT_tb 202 (by decide +kernel) (by decide +kernel)
theorem bw_188 : Cond.fieldLink RX11 338 "DuelDelays$Reasons" "count" "I" ∈ gT := gT_tb 240 (by decide +kernel) (by decide +kernel)
theorem bw_189 : Cond.fieldLink RX11 207 "DuelDelays$State" "duels" "I" ∈ gT := gT_tb 460 (by decide +kernel) (by decide +kernel)
theorem bw_190 : Cond.fieldLink RX11 243 "DuelDelays$State" "day" "I" ∈ gT := gT_tb 449 (by decide +kernel) (by decide +kernel)
theorem bw_191 : Cond.fieldLink RX11 339 "DuelDelays$State" "seed" "I" ∈ gT := gT_tb 451 (by decide +kernel) (by decide +kernel)
theorem bw_192 : Cond.fieldLink RX11 342 "DuelDelays$State" "alive" "I" ∈ gT := gT_tb 453 (by decide +kernel) (by decide +kernel)
theorem bw_193 : Cond.fieldLink RX11 345 "DuelDelays$State" "open" "I" ∈ gT := gT_tb 457 (by decide +kernel) (by decide +kernel)
theorem bw_194 : Cond.methodLink RX11 151 yJ6_bitCount_0f7a4 ∈ gT := gT_tb 867 (by decide +kernel) (by decide +kernel)
theorem bw_195 : Cond.static yJ6_bitCount_0f7a4 ∈ gT := gT_tb 868 (by decide +kernel) (by decide +kernel)
theorem bw_196 : Cond.initialized yJ6_bitCount_0f7a4.cls ∈ gT := gT_tb 22 (by decide +kernel) (by decide +kernel)
theorem bw_197 : Cond.fieldLink RX11 348 "DuelDelays$Sights" "count" "I" ∈ gT := gT_tb 389 (by decide +kernel) (by decide +kernel)
theorem bw_198 : Cond.fieldLink RX11 349 "DuelDelays$Formulas" "units" "I" ∈ gT := gT_tb 204 (by decide +kernel) (by decide +kernel)
theorem bw_199 : Cond.code yX11_about cX11_about 3 (some .int) ∈ gT := gT_tb 1286 (by decide +kernel) (by decide +kernel)
theorem dX11_about_0 : decode cX11_about 0 = .ok (.aload_n 0, 1) := by decide +kernel
theorem dX11_about_1 : decode cX11_about 1 = .ok (.getfield 32, 3) := by decide +kernel
theorem dX11_about_4 : decode cX11_about 4 = .ok (.aload_n 0, 1) := by decide +kernel
theorem dX11_about_5 : decode cX11_about 5 = .ok (.getfield 84, 3) := by decide +kernel
theorem dX11_about_8 : decode cX11_about 8 = .ok (.aaload, 1) := by decide +kernel
theorem dX11_about_9 : decode cX11_about 9 = .ok (.astore_n 2, 1) := by decide +kernel
theorem dX11_about_10 : decode cX11_about 10 = .ok (.iload_n 1, 1) := by decide +kernel
theorem dX11_about_11 : decode cX11_about 11 = .ok (.tableswitch 198 0 15 #[77, 88, 99, 110, 115, 120, 125, 130, 138, 143, 148, 158, 166, 174, 179, 190], 77) := by decide +kernel
theorem dX11_about_88 : decode cX11_about 88 = .ok (.aload_n 0, 1) := by decide +kernel
theorem dX11_about_89 : decode cX11_about 89 = .ok (.getfield 23, 3) := by decide +kernel
theorem dX11_about_92 : decode cX11_about 92 = .ok (.getfield 97, 3) := by decide +kernel
theorem dX11_about_95 : decode cX11_about 95 = .ok (.getfield 101, 3) := by decide +kernel
theorem dX11_about_98 : decode cX11_about 98 = .ok (.ireturn, 1) := by decide +kernel
theorem dX11_about_99 : decode cX11_about 99 = .ok (.aload_n 0, 1) := by decide +kernel
theorem dX11_about_100 : decode cX11_about 100 = .ok (.getfield 23, 3) := by decide +kernel
theorem dX11_about_103 : decode cX11_about 103 = .ok (.getfield 331, 3) := by decide +kernel
theorem dX11_about_106 : decode cX11_about 106 = .ok (.getfield 335, 3) := by decide +kernel
theorem dX11_about_109 : decode cX11_about 109 = .ok (.ireturn, 1) := by decide +kernel
theorem dX11_about_110 : decode cX11_about 110 = .ok (.aload_n 0, 1) := by decide +kernel
theorem dX11_about_111 : decode cX11_about 111 = .ok (.getfield 23, 3) := by decide +kernel
theorem dX11_about_114 : decode cX11_about 114 = .ok (.getfield 157, 3) := by decide +kernel
theorem dX11_about_117 : decode cX11_about 117 = .ok (.getfield 338, 3) := by decide +kernel
theorem dX11_about_120 : decode cX11_about 120 = .ok (.ireturn, 1) := by decide +kernel
theorem dX11_about_121 : decode cX11_about 121 = .ok (.aload_n 2, 1) := by decide +kernel
theorem dX11_about_122 : decode cX11_about 122 = .ok (.getfield 207, 3) := by decide +kernel
theorem dX11_about_125 : decode cX11_about 125 = .ok (.ireturn, 1) := by decide +kernel
theorem dX11_about_126 : decode cX11_about 126 = .ok (.aload_n 2, 1) := by decide +kernel
theorem dX11_about_127 : decode cX11_about 127 = .ok (.getfield 243, 3) := by decide +kernel
theorem dX11_about_130 : decode cX11_about 130 = .ok (.ireturn, 1) := by decide +kernel
theorem dX11_about_131 : decode cX11_about 131 = .ok (.aload_n 2, 1) := by decide +kernel
theorem dX11_about_132 : decode cX11_about 132 = .ok (.getfield 339, 3) := by decide +kernel
theorem dX11_about_135 : decode cX11_about 135 = .ok (.ireturn, 1) := by decide +kernel
theorem dX11_about_136 : decode cX11_about 136 = .ok (.aload_n 2, 1) := by decide +kernel
theorem dX11_about_137 : decode cX11_about 137 = .ok (.getfield 342, 3) := by decide +kernel
theorem dX11_about_140 : decode cX11_about 140 = .ok (.ireturn, 1) := by decide +kernel
theorem dX11_about_141 : decode cX11_about 141 = .ok (.aload_n 2, 1) := by decide +kernel
theorem dX11_about_142 : decode cX11_about 142 = .ok (.getfield 345, 3) := by decide +kernel
theorem dX11_about_145 : decode cX11_about 145 = .ok (.invokestatic 151, 3) := by decide +kernel
theorem dX11_about_148 : decode cX11_about 148 = .ok (.ireturn, 1) := by decide +kernel
theorem dX11_about_149 : decode cX11_about 149 = .ok (.aload_n 2, 1) := by decide +kernel
theorem dX11_about_150 : decode cX11_about 150 = .ok (.getfield 311, 3) := by decide +kernel
theorem dX11_about_153 : decode cX11_about 153 = .ok (.ireturn, 1) := by decide +kernel
theorem dX11_about_154 : decode cX11_about 154 = .ok (.aload_n 0, 1) := by decide +kernel
theorem dX11_about_155 : decode cX11_about 155 = .ok (.getfield 84, 3) := by decide +kernel
theorem dX11_about_158 : decode cX11_about 158 = .ok (.ireturn, 1) := by decide +kernel
theorem dX11_about_159 : decode cX11_about 159 = .ok (.aload_n 0, 1) := by decide +kernel
theorem dX11_about_160 : decode cX11_about 160 = .ok (.getfield 87, 3) := by decide +kernel
theorem dX11_about_163 : decode cX11_about 163 = .ok (.aload_n 0, 1) := by decide +kernel
theorem dX11_about_164 : decode cX11_about 164 = .ok (.getfield 84, 3) := by decide +kernel
theorem dX11_about_167 : decode cX11_about 167 = .ok (.isub, 1) := by decide +kernel
theorem dX11_about_168 : decode cX11_about 168 = .ok (.ireturn, 1) := by decide +kernel
theorem dX11_about_169 : decode cX11_about 169 = .ok (.aload_n 0, 1) := by decide +kernel
theorem dX11_about_170 : decode cX11_about 170 = .ok (.getfield 49, 3) := by decide +kernel
theorem dX11_about_173 : decode cX11_about 173 = .ok (.getfield 348, 3) := by decide +kernel
theorem dX11_about_176 : decode cX11_about 176 = .ok (.ireturn, 1) := by decide +kernel
theorem dX11_about_177 : decode cX11_about 177 = .ok (.aload_n 0, 1) := by decide +kernel
theorem dX11_about_178 : decode cX11_about 178 = .ok (.getfield 49, 3) := by decide +kernel
theorem dX11_about_181 : decode cX11_about 181 = .ok (.getfield 323, 3) := by decide +kernel
theorem dX11_about_184 : decode cX11_about 184 = .ok (.ireturn, 1) := by decide +kernel
theorem dX11_about_185 : decode cX11_about 185 = .ok (.aload_n 0, 1) := by decide +kernel
theorem dX11_about_186 : decode cX11_about 186 = .ok (.getfield 72, 3) := by decide +kernel
theorem dX11_about_189 : decode cX11_about 189 = .ok (.ireturn, 1) := by decide +kernel
theorem dX11_about_190 : decode cX11_about 190 = .ok (.aload_n 0, 1) := by decide +kernel
theorem dX11_about_191 : decode cX11_about 191 = .ok (.getfield 23, 3) := by decide +kernel
theorem dX11_about_194 : decode cX11_about 194 = .ok (.getfield 331, 3) := by decide +kernel
theorem dX11_about_197 : decode cX11_about 197 = .ok (.getfield 349, 3) := by decide +kernel
theorem dX11_about_200 : decode cX11_about 200 = .ok (.ireturn, 1) := by decide +kernel
theorem dX11_about_201 : decode cX11_about 201 = .ok (.aload_n 0, 1) := by decide +kernel
theorem dX11_about_202 : decode cX11_about 202 = .ok (.getfield 63, 3) := by decide +kernel
theorem dX11_about_205 : decode cX11_about 205 = .ok (.getfield 307, 3) := by decide +kernel
theorem dX11_about_208 : decode cX11_about 208 = .ok (.ireturn, 1) := by decide +kernel
theorem dX11_about_209 : decode cX11_about 209 = .ok (.iconst (-1), 1) := by decide +kernel
theorem dX11_about_210 : decode cX11_about 210 = .ok (.ireturn, 1) := by decide +kernel
set_option maxHeartbeats 4000000 in
set_option maxRecDepth 100000 in
theorem c_X11_about (l : Launch) (g : GG) (sz : Nat) (x : Nat) (xt : Nat) (xr : Nat) (la : Nat) (lb : Nat) (sa : Nat) (ba : Nat) (se : Nat) (si : Nat) (pa : Nat) (he : Nat) (mea : Nat) (foa : Nat) (rea : Nat) (d1a : Nat) (d2a : Nat) (d3a : Nat) (m1a : Nat) (m2a : Nat) (m3a : Nat) (m4a : Nat) (f1a : Nat) (f2a : Nat) (f3a : Nat) (f4a : Nat) (r1a : Nat) (r2a : Nat) (r3a : Nat) (r4a : Nat) (r5a : Nat) (r6a : Nat) (r7a : Nat) (s1 : Nat) (s0 : Nat) (t1u : Nat) (t2u : Nat) (t3u : Nat) (t4u : Nat) (t5u : Nat) (t6u : Nat) (t7u : Nat) (i1 : Nat) (i2 : Nat) (i3 : Nat) (i4 : Nat) (k3 : Nat) (fs : Nat → Option Nat) (p0 : Int32) : Met l yX11_about (.code yX11_about cX11_about 3 (some .int) :: gT) ({ frames := 1, cells := 0, slots := 0, locals := 20 }) (va_Pc [.ref x, .int p0] (Pst g sz [(x, .inr (11, [.ref xt, .int 0, .ref xr, .ref la, .ref lb, .ref sa, .int 0, .int 0, .ref ba, .int 0, .ref se, .ref si, .ref pa, .ref he])), (la, .inr (2, [.ref mea, .ref foa, .ref rea, .int 0, .ref d1a, .ref d2a, .int 9, .int 0, .ref d3a])), (mea, .inr (3, [.int 0, .ref m1a, .ref m2a, .ref m3a, .ref m4a])), (foa, .inr (0, [.int 0, .int 0, .ref f1a, .int 0, .int 0, .ref f2a, .ref f3a, .ref f4a])), (rea, .inr (6, [.int 0, .ref r1a, .ref r2a, .ref r3a, .ref r4a, .ref r5a, .ref r6a, .ref r7a])), (sa, aO g 41 (va_up (va_up fs 0 (some s0)) 1 (some s1))), (s0, .inr (9, [.int 0, .int 0, .int 0, .int 0, .int 0, .int 0, .int 0, .ref t1u, .ref t2u, .ref t3u, .ref t4u, .ref t5u, .ref t6u, .ref t7u])), (si, .inr (8, [.int 0, .int 0, .ref i1, .ref i2, .ref i3, .ref i4])), (he, .inr (1, [.int 0, .ref k3]))] nX)) (va_Qi (fun (r : Int32) (_ : Unit) => r = Fz 15 p0) (Qst g [] sz (fun _ => [])) (va_A [] sz)) 0 0 (va_A [] sz) := by
  refine Met.ofW (cc := cX11_about) (maxL := 3) (ret := (some .int)) (by decide) rfl ?_
  intro p e s m args below meth c s₁ B hml hv
  obtain ⟨rfl, hsz, hP, hK, hD0, hX⟩ := hv
  have hx := B.exec
  have hb := B.bytes
  have hr := B.returns
  have hT : ∀ w ∈ gT, w.before _ s = true := fun w h => atoms_spec (ws := .code yX11_about cX11_about 3 (some .int) :: gT) B.pre w (List.mem_cons_of_mem _ h)
  have hown : s.vm.findClass RX11 = some m.cls := findClass_of_methodNamed B.named
  have hlocks := B.notSynchronized
  subst hsz
  have hD := hD0
  generalize hAe : va_A [] s.heap.size = A at ⊢
  have hA : ∀ q : Nat, s.heap.size ≤ q → A q := fun q h => by rw [← hAe]; exact Or.inr h
  have hS : va_S A s.heap s.heap [] := va_S.rf
  have hl := lv_entry ([.ref x, .int p0]) (n := 3) (Nat.le_of_ble_eq_true rfl)
  rw [lg_entry_eq]
  generalize (lg_sl ([.ref x, .int p0]) ++ List.replicate (3 - (lg_sl ([.ref x, .int p0])).length) Slot.unset).toArray = ls at hl ⊢
  have hl : lv_has ls 3 [(0, .ref x), (1, .int p0)] := hl
  refine p_nH (fun H hH => ?_)
  have hP : va_P g.1 vwCl [(x, .inr (11, [.ref xt, .int 0, .ref xr, .ref la, .ref lb, .ref sa, .int 0, .int 0, .ref ba, .int 0, .ref se, .ref si, .ref pa, .ref he])), (la, .inr (2, [.ref mea, .ref foa, .ref rea, .int 0, .ref d1a, .ref d2a, .int 9, .int 0, .ref d3a])), (mea, .inr (3, [.int 0, .ref m1a, .ref m2a, .ref m3a, .ref m4a])), (foa, .inr (0, [.int 0, .int 0, .ref f1a, .int 0, .int 0, .ref f2a, .ref f3a, .ref f4a])), (rea, .inr (6, [.int 0, .ref r1a, .ref r2a, .ref r3a, .ref r4a, .ref r5a, .ref r6a, .ref r7a])), (sa, aO g 41 (va_up (va_up fs 0 (some s0)) 1 (some s1))), (s0, .inr (9, [.int 0, .int 0, .int 0, .int 0, .int 0, .int 0, .int 0, .ref t1u, .ref t2u, .ref t3u, .ref t4u, .ref t5u, .ref t6u, .ref t7u])), (si, .inr (8, [.int 0, .int 0, .ref i1, .ref i2, .ref i3, .ref i4])), (he, .inr (1, [.int 0, .ref k3]))] H := by rw [hH]; exact hP
  have hS : va_S A s.heap H [] := by rw [hH]; exact hS
  refine lv_aload_n hx hb dX11_about_0 rfl (lv_at hl 0 rfl) ?_
  refine va_get (D := g.1) (ci := 11) (v := .ref sa) (C := RX11) (T := TX11) (N := 14) hx hb hT inF_X11 hown hK.1 hP 0 rfl rfl 5 (by decide) (hT _ bw_20) (fun _ h9 => h9) rfl dX11_about_1 ?_
  refine lv_aload_n hx hb dX11_about_4 rfl (lv_at hl 0 rfl) ?_
  refine va_get (D := g.1) (ci := 11) (v := .int 0) (C := RX11) (T := TX11) (N := 14) hx hb hT inF_X11 hown hK.1 hP 0 rfl rfl 6 (by decide) (hT _ bw_21) (fun _ h9 => h9) rfl dX11_about_5 ?_
  refine va_aldq hx hb hK.1 hP 5 4 rfl rfl (i := 0) (by unfold vp_in; decide) dX11_about_8 ?_
  refine p_tr (x := s0) (rfl) ?_
  refine lv_astore_n (lv' := [(2, .ref s0), (0, .ref x), (1, .int p0)]) hx hb dX11_about_9 rfl hl (by decide) rfl (fun ls hl => ?_)
  refine lv_iload_n hx hb dX11_about_10 rfl (lv_at hl 2 rfl) ?_
  rcases tsplit p0 16 (by decide) with h_1 | ⟨j, hj, eh_1⟩
  · refine lv_tableOut (tgt := 209) hx hb dX11_about_11 (by omega) (by decide) ?_
    refine lv_iconst (v := (-1)) hx hb dX11_about_209 (by decide) ?_
    have hP9 : va_P g.1 vwCl [] H := hP.sub [] rfl
    have hD9 : va_D A [] := ⟨fun i j p q h => by simp at h, fun k q h => by simp at h⟩
    exact W.iret (v := (-1)) hx hb hr (fun t ht hW => ⟨⟨(-1), (), rfl, (by rw [Fz, if_neg (by have e0 : (0 : Int32).toInt = 0 := (by decide); have e1 : (15 : Int32).toInt = 15 := (by decide); simp only [Int32.lt_iff_toInt_lt, Int32.le_iff_toInt_le, ← Int32.toInt_inj, e0, e1] at h_1 ⊢; omega)]), by rw [ht]; exact hP9, by rw [hAe]; exact hD9⟩, hS.F ht⟩) hS.2.2 dX11_about_210
  · rcases (show j = 0 ∨ j = 1 ∨ j = 2 ∨ j = 3 ∨ j = 4 ∨ j = 5 ∨ j = 6 ∨ j = 7 ∨ j = 8 ∨ j = 9 ∨ j = 10 ∨ j = 11 ∨ j = 12 ∨ j = 13 ∨ j = 14 ∨ j = 15 by omega) with rfl | rfl | rfl | rfl | rfl | rfl | rfl | rfl | rfl | rfl | rfl | rfl | rfl | rfl | rfl | rfl
    · obtain rfl : p0 = 0 := eh_1
      refine lv_tableIn (tgt := 88) hx hb dX11_about_11 (by decide) (by decide) (off := 77) (by decide) (by decide) ?_
      refine lv_aload_n hx hb dX11_about_88 rfl (lv_at hl 1 rfl) ?_
      refine va_get (D := g.1) (ci := 11) (v := .ref la) (C := RX11) (T := TX11) (N := 14) hx hb hT inF_X11 hown hK.1 hP 0 rfl rfl 3 (by decide) (hT _ bw_13) (fun _ h9 => h9) rfl dX11_about_89 ?_
      refine va_get (D := g.1) (ci := 2) (v := .ref mea) (C := RX2) (T := TX2) (N := 9) hx hb hT inF_X2 hown hK.1 hP 1 rfl rfl 0 (by decide) (hT _ bw_14) (fun _ h9 => h9) rfl dX11_about_92 ?_
      refine va_get (D := g.1) (ci := 3) (v := .int 0) (C := RX3) (T := TX3) (N := 5) hx hb hT inF_X3 hown hK.1 hP 2 rfl rfl 0 (by decide) (hT _ bw_173) (fun _ h9 => h9) rfl dX11_about_95 ?_
      have hP9 : va_P g.1 vwCl [] H := hP.sub [] rfl
      have hD9 : va_D A [] := ⟨fun i j p q h => by simp at h, fun k q h => by simp at h⟩
      exact W.iret (v := 0) hx hb hr (fun t ht hW => ⟨⟨0, (), rfl, by decide, by rw [ht]; exact hP9, by rw [hAe]; exact hD9⟩, hS.F ht⟩) hS.2.2 dX11_about_98
    · obtain rfl : p0 = 1 := eh_1
      refine lv_tableIn (tgt := 99) hx hb dX11_about_11 (by decide) (by decide) (off := 88) (by decide) (by decide) ?_
      refine lv_aload_n hx hb dX11_about_99 rfl (lv_at hl 1 rfl) ?_
      refine va_get (D := g.1) (ci := 11) (v := .ref la) (C := RX11) (T := TX11) (N := 14) hx hb hT inF_X11 hown hK.1 hP 0 rfl rfl 3 (by decide) (hT _ bw_13) (fun _ h9 => h9) rfl dX11_about_100 ?_
      refine va_get (D := g.1) (ci := 2) (v := .ref foa) (C := RX2) (T := TX2) (N := 9) hx hb hT inF_X2 hown hK.1 hP 1 rfl rfl 1 (by decide) (hT _ bw_186) (fun _ h9 => h9) rfl dX11_about_103 ?_
      refine va_get (D := g.1) (ci := 0) (v := .int 0) (C := RX0) (T := TX0) (N := 8) hx hb hT inF_X0 hown hK.1 hP 3 rfl rfl 0 (by decide) (hT _ bw_187) (fun _ h9 => h9) rfl dX11_about_106 ?_
      have hP9 : va_P g.1 vwCl [] H := hP.sub [] rfl
      have hD9 : va_D A [] := ⟨fun i j p q h => by simp at h, fun k q h => by simp at h⟩
      exact W.iret (v := 0) hx hb hr (fun t ht hW => ⟨⟨0, (), rfl, by decide, by rw [ht]; exact hP9, by rw [hAe]; exact hD9⟩, hS.F ht⟩) hS.2.2 dX11_about_109
    · obtain rfl : p0 = 2 := eh_1
      refine lv_tableIn (tgt := 110) hx hb dX11_about_11 (by decide) (by decide) (off := 99) (by decide) (by decide) ?_
      refine lv_aload_n hx hb dX11_about_110 rfl (lv_at hl 1 rfl) ?_
      refine va_get (D := g.1) (ci := 11) (v := .ref la) (C := RX11) (T := TX11) (N := 14) hx hb hT inF_X11 hown hK.1 hP 0 rfl rfl 3 (by decide) (hT _ bw_13) (fun _ h9 => h9) rfl dX11_about_111 ?_
      refine va_get (D := g.1) (ci := 2) (v := .ref rea) (C := RX2) (T := TX2) (N := 9) hx hb hT inF_X2 hown hK.1 hP 1 rfl rfl 2 (by decide) (hT _ bw_27) (fun _ h9 => h9) rfl dX11_about_114 ?_
      refine va_get (D := g.1) (ci := 6) (v := .int 0) (C := RX6) (T := TX6) (N := 8) hx hb hT inF_X6 hown hK.1 hP 4 rfl rfl 0 (by decide) (hT _ bw_188) (fun _ h9 => h9) rfl dX11_about_117 ?_
      have hP9 : va_P g.1 vwCl [] H := hP.sub [] rfl
      have hD9 : va_D A [] := ⟨fun i j p q h => by simp at h, fun k q h => by simp at h⟩
      exact W.iret (v := 0) hx hb hr (fun t ht hW => ⟨⟨0, (), rfl, by decide, by rw [ht]; exact hP9, by rw [hAe]; exact hD9⟩, hS.F ht⟩) hS.2.2 dX11_about_120
    · obtain rfl : p0 = 3 := eh_1
      refine lv_tableIn (tgt := 121) hx hb dX11_about_11 (by decide) (by decide) (off := 110) (by decide) (by decide) ?_
      refine lv_aload_n hx hb dX11_about_121 rfl (lv_at hl 0 rfl) ?_
      refine va_get (D := g.1) (ci := 9) (v := .int 0) (C := RX9) (T := TX9) (N := 14) hx hb hT inF_X9 hown hK.1 hP 6 rfl rfl 5 (by decide) (hT _ bw_189) (fun _ h9 => h9) rfl dX11_about_122 ?_
      have hP9 : va_P g.1 vwCl [] H := hP.sub [] rfl
      have hD9 : va_D A [] := ⟨fun i j p q h => by simp at h, fun k q h => by simp at h⟩
      exact W.iret (v := 0) hx hb hr (fun t ht hW => ⟨⟨0, (), rfl, by decide, by rw [ht]; exact hP9, by rw [hAe]; exact hD9⟩, hS.F ht⟩) hS.2.2 dX11_about_125
    · obtain rfl : p0 = 4 := eh_1
      refine lv_tableIn (tgt := 126) hx hb dX11_about_11 (by decide) (by decide) (off := 115) (by decide) (by decide) ?_
      refine lv_aload_n hx hb dX11_about_126 rfl (lv_at hl 0 rfl) ?_
      refine va_get (D := g.1) (ci := 9) (v := .int 0) (C := RX9) (T := TX9) (N := 14) hx hb hT inF_X9 hown hK.1 hP 6 rfl rfl 0 (by decide) (hT _ bw_190) (fun _ h9 => h9) rfl dX11_about_127 ?_
      have hP9 : va_P g.1 vwCl [] H := hP.sub [] rfl
      have hD9 : va_D A [] := ⟨fun i j p q h => by simp at h, fun k q h => by simp at h⟩
      exact W.iret (v := 0) hx hb hr (fun t ht hW => ⟨⟨0, (), rfl, by decide, by rw [ht]; exact hP9, by rw [hAe]; exact hD9⟩, hS.F ht⟩) hS.2.2 dX11_about_130
    · obtain rfl : p0 = 5 := eh_1
      refine lv_tableIn (tgt := 131) hx hb dX11_about_11 (by decide) (by decide) (off := 120) (by decide) (by decide) ?_
      refine lv_aload_n hx hb dX11_about_131 rfl (lv_at hl 0 rfl) ?_
      refine va_get (D := g.1) (ci := 9) (v := .int 0) (C := RX9) (T := TX9) (N := 14) hx hb hT inF_X9 hown hK.1 hP 6 rfl rfl 1 (by decide) (hT _ bw_191) (fun _ h9 => h9) rfl dX11_about_132 ?_
      have hP9 : va_P g.1 vwCl [] H := hP.sub [] rfl
      have hD9 : va_D A [] := ⟨fun i j p q h => by simp at h, fun k q h => by simp at h⟩
      exact W.iret (v := 0) hx hb hr (fun t ht hW => ⟨⟨0, (), rfl, by decide, by rw [ht]; exact hP9, by rw [hAe]; exact hD9⟩, hS.F ht⟩) hS.2.2 dX11_about_135
    · obtain rfl : p0 = 6 := eh_1
      refine lv_tableIn (tgt := 136) hx hb dX11_about_11 (by decide) (by decide) (off := 125) (by decide) (by decide) ?_
      refine lv_aload_n hx hb dX11_about_136 rfl (lv_at hl 0 rfl) ?_
      refine va_get (D := g.1) (ci := 9) (v := .int 0) (C := RX9) (T := TX9) (N := 14) hx hb hT inF_X9 hown hK.1 hP 6 rfl rfl 2 (by decide) (hT _ bw_192) (fun _ h9 => h9) rfl dX11_about_137 ?_
      have hP9 : va_P g.1 vwCl [] H := hP.sub [] rfl
      have hD9 : va_D A [] := ⟨fun i j p q h => by simp at h, fun k q h => by simp at h⟩
      exact W.iret (v := 0) hx hb hr (fun t ht hW => ⟨⟨0, (), rfl, by decide, by rw [ht]; exact hP9, by rw [hAe]; exact hD9⟩, hS.F ht⟩) hS.2.2 dX11_about_140
    · obtain rfl : p0 = 7 := eh_1
      refine lv_tableIn (tgt := 141) hx hb dX11_about_11 (by decide) (by decide) (off := 130) (by decide) (by decide) ?_
      refine lv_aload_n hx hb dX11_about_141 rfl (lv_at hl 0 rfl) ?_
      refine va_get (D := g.1) (ci := 9) (v := .int 0) (C := RX9) (T := TX9) (N := 14) hx hb hT inF_X9 hown hK.1 hP 6 rfl rfl 4 (by decide) (hT _ bw_193) (fun _ h9 => h9) rfl dX11_about_142 ?_
      refine k_iR (k_S (n := 1) ⟨hx, hb, hml, hown, hT⟩ hK hP hD [] rfl (by decide) (c_J6_bitCount_0f7a4 l g H.size) (gS bw_194 bw_195 bw_196 bw_185) rfl rfl (by decide +kernel) ⟨by decide, by decide⟩ (fun _ _ _ _ _ => trivial) (fun _ _ _ => trivial) rfl rfl hl.1 (Nat.le_of_ble_eq_true rfl) dX11_about_145 ⟨by decide, by decide⟩) hP hS hA (fun r_2 _ H locs hw hP hS => ?_)
      have hw : r_2 = 0 := hw
      subst hw
      have hP9 : va_P g.1 vwCl [] H := hP.sub [] rfl
      have hD9 : va_D A [] := ⟨fun i j p q h => by simp at h, fun k q h => by simp at h⟩
      exact W.iret (v := 0) hx hb hr (fun t ht hW => ⟨⟨0, (), rfl, by decide, by rw [ht]; exact hP9, by rw [hAe]; exact hD9⟩, hS.F ht⟩) hS.2.2 dX11_about_148
    · obtain rfl : p0 = 8 := eh_1
      refine lv_tableIn (tgt := 149) hx hb dX11_about_11 (by decide) (by decide) (off := 138) (by decide) (by decide) ?_
      refine lv_aload_n hx hb dX11_about_149 rfl (lv_at hl 0 rfl) ?_
      refine va_get (D := g.1) (ci := 9) (v := .int 0) (C := RX9) (T := TX9) (N := 14) hx hb hT inF_X9 hown hK.1 hP 6 rfl rfl 6 (by decide) (hT _ bw_59) (fun _ h9 => h9) rfl dX11_about_150 ?_
      have hP9 : va_P g.1 vwCl [] H := hP.sub [] rfl
      have hD9 : va_D A [] := ⟨fun i j p q h => by simp at h, fun k q h => by simp at h⟩
      exact W.iret (v := 0) hx hb hr (fun t ht hW => ⟨⟨0, (), rfl, by decide, by rw [ht]; exact hP9, by rw [hAe]; exact hD9⟩, hS.F ht⟩) hS.2.2 dX11_about_153
    · obtain rfl : p0 = 9 := eh_1
      refine lv_tableIn (tgt := 154) hx hb dX11_about_11 (by decide) (by decide) (off := 143) (by decide) (by decide) ?_
      refine lv_aload_n hx hb dX11_about_154 rfl (lv_at hl 1 rfl) ?_
      refine va_get (D := g.1) (ci := 11) (v := .int 0) (C := RX11) (T := TX11) (N := 14) hx hb hT inF_X11 hown hK.1 hP 0 rfl rfl 6 (by decide) (hT _ bw_21) (fun _ h9 => h9) rfl dX11_about_155 ?_
      have hP9 : va_P g.1 vwCl [] H := hP.sub [] rfl
      have hD9 : va_D A [] := ⟨fun i j p q h => by simp at h, fun k q h => by simp at h⟩
      exact W.iret (v := 0) hx hb hr (fun t ht hW => ⟨⟨0, (), rfl, by decide, by rw [ht]; exact hP9, by rw [hAe]; exact hD9⟩, hS.F ht⟩) hS.2.2 dX11_about_158
    · obtain rfl : p0 = 10 := eh_1
      refine lv_tableIn (tgt := 159) hx hb dX11_about_11 (by decide) (by decide) (off := 148) (by decide) (by decide) ?_
      refine lv_aload_n hx hb dX11_about_159 rfl (lv_at hl 1 rfl) ?_
      refine va_get (D := g.1) (ci := 11) (v := .int 0) (C := RX11) (T := TX11) (N := 14) hx hb hT inF_X11 hown hK.1 hP 0 rfl rfl 7 (by decide) (hT _ bw_47) (fun _ h9 => h9) rfl dX11_about_160 ?_
      refine lv_aload_n hx hb dX11_about_163 rfl (lv_at hl 1 rfl) ?_
      refine va_get (D := g.1) (ci := 11) (v := .int 0) (C := RX11) (T := TX11) (N := 14) hx hb hT inF_X11 hown hK.1 hP 0 rfl rfl 6 (by decide) (hT _ bw_21) (fun _ h9 => h9) rfl dX11_about_164 ?_
      refine lv_isub hx hb dX11_about_167 ?_
      refine p_ti (v := 0) (by decide +kernel) ?_
      have hP9 : va_P g.1 vwCl [] H := hP.sub [] rfl
      have hD9 : va_D A [] := ⟨fun i j p q h => by simp at h, fun k q h => by simp at h⟩
      exact W.iret (v := 0) hx hb hr (fun t ht hW => ⟨⟨0, (), rfl, by decide, by rw [ht]; exact hP9, by rw [hAe]; exact hD9⟩, hS.F ht⟩) hS.2.2 dX11_about_168
    · obtain rfl : p0 = 11 := eh_1
      refine lv_tableIn (tgt := 169) hx hb dX11_about_11 (by decide) (by decide) (off := 158) (by decide) (by decide) ?_
      refine lv_aload_n hx hb dX11_about_169 rfl (lv_at hl 1 rfl) ?_
      refine va_get (D := g.1) (ci := 11) (v := .ref si) (C := RX11) (T := TX11) (N := 14) hx hb hT inF_X11 hown hK.1 hP 0 rfl rfl 11 (by decide) (hT _ bw_63) (fun _ h9 => h9) rfl dX11_about_170 ?_
      refine va_get (D := g.1) (ci := 8) (v := .int 0) (C := RX8) (T := TX8) (N := 6) hx hb hT inF_X8 hown hK.1 hP 7 rfl rfl 1 (by decide) (hT _ bw_197) (fun _ h9 => h9) rfl dX11_about_173 ?_
      have hP9 : va_P g.1 vwCl [] H := hP.sub [] rfl
      have hD9 : va_D A [] := ⟨fun i j p q h => by simp at h, fun k q h => by simp at h⟩
      exact W.iret (v := 0) hx hb hr (fun t ht hW => ⟨⟨0, (), rfl, by decide, by rw [ht]; exact hP9, by rw [hAe]; exact hD9⟩, hS.F ht⟩) hS.2.2 dX11_about_176
    · obtain rfl : p0 = 12 := eh_1
      refine lv_tableIn (tgt := 177) hx hb dX11_about_11 (by decide) (by decide) (off := 166) (by decide) (by decide) ?_
      refine lv_aload_n hx hb dX11_about_177 rfl (lv_at hl 1 rfl) ?_
      refine va_get (D := g.1) (ci := 11) (v := .ref si) (C := RX11) (T := TX11) (N := 14) hx hb hT inF_X11 hown hK.1 hP 0 rfl rfl 11 (by decide) (hT _ bw_63) (fun _ h9 => h9) rfl dX11_about_178 ?_
      refine va_get (D := g.1) (ci := 8) (v := .int 0) (C := RX8) (T := TX8) (N := 6) hx hb hT inF_X8 hown hK.1 hP 7 rfl rfl 0 (by decide) (hT _ bw_179) (fun _ h9 => h9) rfl dX11_about_181 ?_
      have hP9 : va_P g.1 vwCl [] H := hP.sub [] rfl
      have hD9 : va_D A [] := ⟨fun i j p q h => by simp at h, fun k q h => by simp at h⟩
      exact W.iret (v := 0) hx hb hr (fun t ht hW => ⟨⟨0, (), rfl, by decide, by rw [ht]; exact hP9, by rw [hAe]; exact hD9⟩, hS.F ht⟩) hS.2.2 dX11_about_184
    · obtain rfl : p0 = 13 := eh_1
      refine lv_tableIn (tgt := 185) hx hb dX11_about_11 (by decide) (by decide) (off := 174) (by decide) (by decide) ?_
      refine lv_aload_n hx hb dX11_about_185 rfl (lv_at hl 1 rfl) ?_
      refine va_get (D := g.1) (ci := 11) (v := .int 0) (C := RX11) (T := TX11) (N := 14) hx hb hT inF_X11 hown hK.1 hP 0 rfl rfl 1 (by decide) (hT _ bw_161) (fun _ h9 => h9) rfl dX11_about_186 ?_
      have hP9 : va_P g.1 vwCl [] H := hP.sub [] rfl
      have hD9 : va_D A [] := ⟨fun i j p q h => by simp at h, fun k q h => by simp at h⟩
      exact W.iret (v := 0) hx hb hr (fun t ht hW => ⟨⟨0, (), rfl, by decide, by rw [ht]; exact hP9, by rw [hAe]; exact hD9⟩, hS.F ht⟩) hS.2.2 dX11_about_189
    · obtain rfl : p0 = 14 := eh_1
      refine lv_tableIn (tgt := 190) hx hb dX11_about_11 (by decide) (by decide) (off := 179) (by decide) (by decide) ?_
      refine lv_aload_n hx hb dX11_about_190 rfl (lv_at hl 1 rfl) ?_
      refine va_get (D := g.1) (ci := 11) (v := .ref la) (C := RX11) (T := TX11) (N := 14) hx hb hT inF_X11 hown hK.1 hP 0 rfl rfl 3 (by decide) (hT _ bw_13) (fun _ h9 => h9) rfl dX11_about_191 ?_
      refine va_get (D := g.1) (ci := 2) (v := .ref foa) (C := RX2) (T := TX2) (N := 9) hx hb hT inF_X2 hown hK.1 hP 1 rfl rfl 1 (by decide) (hT _ bw_186) (fun _ h9 => h9) rfl dX11_about_194 ?_
      refine va_get (D := g.1) (ci := 0) (v := .int 0) (C := RX0) (T := TX0) (N := 8) hx hb hT inF_X0 hown hK.1 hP 3 rfl rfl 1 (by decide) (hT _ bw_198) (fun _ h9 => h9) rfl dX11_about_197 ?_
      have hP9 : va_P g.1 vwCl [] H := hP.sub [] rfl
      have hD9 : va_D A [] := ⟨fun i j p q h => by simp at h, fun k q h => by simp at h⟩
      exact W.iret (v := 0) hx hb hr (fun t ht hW => ⟨⟨0, (), rfl, by decide, by rw [ht]; exact hP9, by rw [hAe]; exact hD9⟩, hS.F ht⟩) hS.2.2 dX11_about_200
    · obtain rfl : p0 = 15 := eh_1
      refine lv_tableIn (tgt := 201) hx hb dX11_about_11 (by decide) (by decide) (off := 190) (by decide) (by decide) ?_
      refine lv_aload_n hx hb dX11_about_201 rfl (lv_at hl 1 rfl) ?_
      refine va_get (D := g.1) (ci := 11) (v := .ref he) (C := RX11) (T := TX11) (N := 14) hx hb hT inF_X11 hown hK.1 hP 0 rfl rfl 13 (by decide) (hT _ bw_56) (fun _ h9 => h9) rfl dX11_about_202 ?_
      refine va_get (D := g.1) (ci := 1) (v := .int 0) (C := RX1) (T := TX1) (N := 2) hx hb hT inF_X1 hown hK.1 hP 8 rfl rfl 0 (by decide) (hT _ bw_57) (fun _ h9 => h9) rfl dX11_about_205 ?_
      have hP9 : va_P g.1 vwCl [] H := hP.sub [] rfl
      have hD9 : va_D A [] := ⟨fun i j p q h => by simp at h, fun k q h => by simp at h⟩
      exact W.iret (v := 0) hx hb hr (fun t ht hW => ⟨⟨0, (), rfl, by decide, by rw [ht]; exact hP9, by rw [hAe]; exact hD9⟩, hS.F ht⟩) hS.2.2 dX11_about_208
