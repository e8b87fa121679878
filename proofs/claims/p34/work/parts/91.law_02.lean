theorem dL_law_1154 : decode cL_law 1154 = .ok (.invokevirtual 156, 3) := by decide +kernel
theorem dL_law_1157 : decode cL_law 1157 = .ok (.pop, 1) := by decide +kernel
theorem dL_law_1158 : decode cL_law 1158 = .ok (.aload_n 2, 1) := by decide +kernel
theorem dL_law_1159 : decode cL_law 1159 = .ok (.aload_n 0, 1) := by decide +kernel
theorem dL_law_1160 : decode cL_law 1160 = .ok (.iload_n 3, 1) := by decide +kernel
theorem dL_law_1161 : decode cL_law 1161 = .ok (.iconst 1, 1) := by decide +kernel
theorem dL_law_1162 : decode cL_law 1162 = .ok (.iadd, 1) := by decide +kernel
theorem dL_law_1163 : decode cL_law 1163 = .ok (.iaload, 1) := by decide +kernel
theorem dL_law_1164 : decode cL_law 1164 = .ok (.invokevirtual 159, 3) := by decide +kernel
theorem dL_law_1167 : decode cL_law 1167 = .ok (.pop, 1) := by decide +kernel
theorem dL_law_1168 : decode cL_law 1168 = .ok (.goto 49, 3) := by decide +kernel
theorem dL_law_1171 : decode cL_law 1171 = .ok (.aload_n 1, 1) := by decide +kernel
theorem dL_law_1172 : decode cL_law 1172 = .ok (.aload_n 0, 1) := by decide +kernel
theorem dL_law_1173 : decode cL_law 1173 = .ok (.iload_n 3, 1) := by decide +kernel
theorem dL_law_1174 : decode cL_law 1174 = .ok (.iconst 1, 1) := by decide +kernel
theorem dL_law_1175 : decode cL_law 1175 = .ok (.iadd, 1) := by decide +kernel
theorem dL_law_1176 : decode cL_law 1176 = .ok (.iaload, 1) := by decide +kernel
theorem dL_law_1177 : decode cL_law 1177 = .ok (.invokevirtual 160, 3) := by decide +kernel
theorem dL_law_1180 : decode cL_law 1180 = .ok (.pop, 1) := by decide +kernel
theorem dL_law_1181 : decode cL_law 1181 = .ok (.aload_n 2, 1) := by decide +kernel
theorem dL_law_1182 : decode cL_law 1182 = .ok (.aload_n 0, 1) := by decide +kernel
theorem dL_law_1183 : decode cL_law 1183 = .ok (.iload_n 3, 1) := by decide +kernel
theorem dL_law_1184 : decode cL_law 1184 = .ok (.iconst 1, 1) := by decide +kernel
theorem dL_law_1185 : decode cL_law 1185 = .ok (.iadd, 1) := by decide +kernel
theorem dL_law_1186 : decode cL_law 1186 = .ok (.iaload, 1) := by decide +kernel
theorem dL_law_1187 : decode cL_law 1187 = .ok (.invokevirtual 163, 3) := by decide +kernel
theorem dL_law_1190 : decode cL_law 1190 = .ok (.pop, 1) := by decide +kernel
theorem dL_law_1191 : decode cL_law 1191 = .ok (.goto 26, 3) := by decide +kernel
theorem dL_law_1194 : decode cL_law 1194 = .ok (.aload_n 1, 1) := by decide +kernel
theorem dL_law_1195 : decode cL_law 1195 = .ok (.aload_n 0, 1) := by decide +kernel
theorem dL_law_1196 : decode cL_law 1196 = .ok (.iload_n 3, 1) := by decide +kernel
theorem dL_law_1197 : decode cL_law 1197 = .ok (.iconst 1, 1) := by decide +kernel
theorem dL_law_1198 : decode cL_law 1198 = .ok (.iadd, 1) := by decide +kernel
theorem dL_law_1199 : decode cL_law 1199 = .ok (.iaload, 1) := by decide +kernel
theorem dL_law_1200 : decode cL_law 1200 = .ok (.invokevirtual 164, 3) := by decide +kernel
theorem dL_law_1203 : decode cL_law 1203 = .ok (.pop, 1) := by decide +kernel
theorem dL_law_1204 : decode cL_law 1204 = .ok (.aload_n 2, 1) := by decide +kernel
theorem dL_law_1205 : decode cL_law 1205 = .ok (.aload_n 0, 1) := by decide +kernel
theorem dL_law_1206 : decode cL_law 1206 = .ok (.iload_n 3, 1) := by decide +kernel
theorem dL_law_1207 : decode cL_law 1207 = .ok (.iconst 1, 1) := by decide +kernel
theorem dL_law_1208 : decode cL_law 1208 = .ok (.iadd, 1) := by decide +kernel
theorem dL_law_1209 : decode cL_law 1209 = .ok (.iaload, 1) := by decide +kernel
theorem dL_law_1210 : decode cL_law 1210 = .ok (.invokevirtual 167, 3) := by decide +kernel
theorem dL_law_1213 : decode cL_law 1213 = .ok (.pop, 1) := by decide +kernel
theorem dL_law_1214 : decode cL_law 1214 = .ok (.goto 3, 3) := by decide +kernel
theorem dL_law_1217 : decode cL_law 1217 = .ok (.iinc 3 6, 3) := by decide +kernel
theorem dL_law_1220 : decode cL_law 1220 = .ok (.goto (-1202), 3) := by decide +kernel
theorem dL_law_1223 : decode cL_law 1223 = .ok (.iconst 1, 1) := by decide +kernel
theorem dL_law_1224 : decode cL_law 1224 = .ok (.ireturn, 1) := by decide +kernel


abbrev LI (g : GG) (A : Nat → Prop) (s : State) (b : Nat) (n : Nat) (H : Heap) (locs : List Loc) (ls : Array Slot) : Prop := ∃ (u : XRec) (v : MRec) (i : Int32), XOk u ∧ MOk v ∧ (u.2.1 35) = (v.2.1 32) ∧ (0 ≤ i.toInt ∧ i.toInt ≤ 3072) ∧ 3072 - i.toInt ≤ (n : Int) ∧ va_P g.1 vwCl (wX g u ++ wM g v) H ∧ va_D A (wX g u ++ wM g v) ∧ va_S A s.heap H locs ∧ lv_has ls 4 [(3, .int i), (2, .ref (v.1 0)), (1, .ref (u.1 0)), (0, .ref b)]

set_option maxHeartbeats 40000000 in
set_option maxRecDepth 100000 in
theorem law_c0 {p : Program} {e : Env} {s : State} {m : MethodId} {below : List Frame} {meth : Method} {c : Code} (l : Launch) {b L : Nat} {xs : Nat → Int32} (hL : L ≤ 3072) (C0 : lw_At p s m meth c b L xs) {g : GG} {aW : Nat} {fw : Nat → Int32} {A : Nat → Prop} (hK : kE g s) (hX2 : sE g.2.2.2.2.2.2.2 11 aW fw A s s.heap) (hAe : A = fun q : Nat => s.heap.size ≤ q) {u : XRec} {v : MRec} {H : Heap} {locs : List Loc} {ls : Array Slot} (hu : XOk u) (hv : MOk v) (htt : (u.2.1 35) = (v.2.1 32)) {i : Int32} {n : Nat} (hi0 : 0 ≤ i.toInt ∧ i.toInt ≤ 3072) (hm : 3072 - i.toInt ≤ (n : Int)) (hil : i.toInt + 6 ≤ (L : Int)) (hP : va_P g.1 vwCl (wX g u ++ wM g v) H) (hD : va_D A (wX g u ++ wM g v)) (hS : va_S A s.heap H locs) (hl : lv_has ls 4 [(3, .int i), (2, .ref (v.1 0)), (1, .ref (u.1 0)), (0, .ref b)]) (ih : ∀ n', n' < n → ∀ (H : Heap) (locs : List Loc) (ls : Array Slot), LI g A s b n' H locs ls → W p l e room_1 s m #[Value.ref b] below meth c H locs 476 78636 (lw_Z below #[Value.ref b] s) (F0 m 18 ls [])) : W p l e room_1 s m #[Value.ref b] below meth c H locs 476 78636 (lw_Z below #[Value.ref b] s) (F0 m 196 ls []) := by
  obtain ⟨hx, hb, hr, hml, hown, hts, hXs, hbl, hlocks, hgv⟩ := id C0
  have hT : ∀ w ∈ gT, w.before #[Value.ref b] s = true := fun w h => hts w (List.mem_filter.mp h).1
  have hown : s.vm.findClass RL = some m.cls := hown
  have hA : ∀ q : Nat, s.heap.size ≤ q → A q := by rw [hAe]; exact fun _ h => h
  have hbA : ¬ A b := by rw [hAe]; exact Nat.not_le.mpr hbl
  refine lv_aload_n hx hb dL_law_196 rfl (lv_at hl 2 rfl) ?_
  refine lv_aload_n hx hb dL_law_197 rfl (lv_at hl 3 rfl) ?_
  refine lv_iload_n hx hb dL_law_198 rfl (lv_at hl 0 rfl) ?_
  refine lv_iconst (v := 1) hx hb dL_law_199 (by decide) ?_
  refine lv_iadd hx hb dL_law_200 ?_
  refine lv_topi (fun x_1 ex_1 => ?_)
  have fx_1 : x_1.toInt = i.toInt + 1 := by rw [ex_1]; exact I_add rfl (by decide : (1 : Int32).toInt = 1) (by omega) (by omega)
  refine va_sld hx hb hXs hbl hbA hS (i := x_1) (vp_in_iff.mpr (by omega)) dL_law_201 ?_
  refine lv_topi (fun x_2 ex_2 => ?_)
  refine lv_aload_n hx hb dL_law_202 rfl (lv_at hl 3 rfl) ?_
  refine lv_iload_n hx hb dL_law_203 rfl (lv_at hl 0 rfl) ?_
  refine lv_iconst (v := 2) hx hb dL_law_204 (by decide) ?_
  refine lv_iadd hx hb dL_law_205 ?_
  refine lv_topi (fun x_3 ex_3 => ?_)
  have fx_3 : x_3.toInt = i.toInt + 2 := by rw [ex_3]; exact I_add rfl (by decide : (2 : Int32).toInt = 2) (by omega) (by omega)
  refine va_sld hx hb hXs hbl hbA hS (i := x_3) (vp_in_iff.mpr (by omega)) dL_law_206 ?_
  refine lv_topi (fun x_4 ex_4 => ?_)
  refine lv_aload_n hx hb dL_law_207 rfl (lv_at hl 3 rfl) ?_
  refine lv_iload_n hx hb dL_law_208 rfl (lv_at hl 0 rfl) ?_
  refine lv_iconst (v := 3) hx hb dL_law_209 (by decide) ?_
  refine lv_iadd hx hb dL_law_210 ?_
  refine lv_topi (fun x_5 ex_5 => ?_)
  have fx_5 : x_5.toInt = i.toInt + 3 := by rw [ex_5]; exact I_add rfl (by decide : (3 : Int32).toInt = 3) (by omega) (by omega)
  refine va_sld hx hb hXs hbl hbA hS (i := x_5) (vp_in_iff.mpr (by omega)) dL_law_211 ?_
  refine lv_topi (fun x_6 ex_6 => ?_)
  refine lv_aload_n hx hb dL_law_212 rfl (lv_at hl 3 rfl) ?_
  refine lv_iload_n hx hb dL_law_213 rfl (lv_at hl 0 rfl) ?_
  refine lv_iconst (v := 4) hx hb dL_law_214 (by decide) ?_
  refine lv_iadd hx hb dL_law_215 ?_
  refine lv_topi (fun x_7 ex_7 => ?_)
  have fx_7 : x_7.toInt = i.toInt + 4 := by rw [ex_7]; exact I_add rfl (by decide : (4 : Int32).toInt = 4) (by omega) (by omega)
  refine va_sld hx hb hXs hbl hbA hS (i := x_7) (vp_in_iff.mpr (by omega)) dL_law_216 ?_
  refine lv_topi (fun x_8 ex_8 => ?_)
  refine lv_aload_n hx hb dL_law_217 rfl (lv_at hl 3 rfl) ?_
  refine lv_iload_n hx hb dL_law_218 rfl (lv_at hl 0 rfl) ?_
  refine lv_iconst (v := 5) hx hb dL_law_219 (by decide) ?_
  refine lv_iadd hx hb dL_law_220 ?_
  refine lv_topi (fun x_9 ex_9 => ?_)
  have fx_9 : x_9.toInt = i.toInt + 5 := by rw [ex_9]; exact I_add rfl (by decide : (5 : Int32).toInt = 5) (by omega) (by omega)
  refine va_sld hx hb hXs hbl hbA hS (i := x_9) (vp_in_iff.mpr (by omega)) dL_law_221 ?_
  refine lv_topi (fun x_10 ex_10 => ?_)
  refine k_iW (k_VW (n := 5) ⟨hx, hb, hml, hown, hT⟩ hK hP hD (lift_l (X' := nX) (wr := wM g v) (xL_feed l g H.size u hu x_2 x_4 x_6 x_8 x_10) (fun _ _ _ _ _ _ => trivial)) (gV bw_1439 bw_1440 bw_1441 bw_395 bw_396) rfl rfl (by decide +kernel) ⟨by decide, by decide⟩ (ci := 11) rfl (List.mem_append_left _ (List.mem_append_left _ List.mem_cons_self)) (fun _ _ _ _ _ => trivial) (fun _ _ _ => trivial) rfl rfl hl.1 (Nat.le_of_ble_eq_true rfl) dL_law_222 ⟨by decide, by decide⟩) hD hS hA (fun r_11 u_12 H locs hw hP hD hS => ?_)
  obtain ⟨hu_12, heu_12, htu_12⟩ := hw
  have hl : lv_has ls 4 [(3, .int i), (2, .ref (v.1 0)), (1, .ref (u_12.1 0)), (0, .ref b)] := by rw [heu_12]; exact hl
  refine lv_pop hx hb dL_law_225 rfl ?_
  refine lv_aload_n hx hb dL_law_226 rfl (lv_at hl 1 rfl) ?_
  refine lv_aload_n hx hb dL_law_227 rfl (lv_at hl 3 rfl) ?_
  refine lv_iload_n hx hb dL_law_228 rfl (lv_at hl 0 rfl) ?_
  refine lv_iconst (v := 1) hx hb dL_law_229 (by decide) ?_
  refine lv_iadd hx hb dL_law_230 ?_
  refine lv_topi (fun x_13 ex_13 => ?_)
  have fx_13 : x_13.toInt = i.toInt + 1 := by rw [ex_13]; exact I_add rfl (by decide : (1 : Int32).toInt = 1) (by omega) (by omega)
  refine va_sld hx hb hXs hbl hbA hS (i := x_13) (vp_in_iff.mpr (by omega)) dL_law_231 ?_
  refine lv_topi (fun x_14 ex_14 => ?_)
  refine lv_aload_n hx hb dL_law_232 rfl (lv_at hl 3 rfl) ?_
  refine lv_iload_n hx hb dL_law_233 rfl (lv_at hl 0 rfl) ?_
  refine lv_iconst (v := 2) hx hb dL_law_234 (by decide) ?_
  refine lv_iadd hx hb dL_law_235 ?_
  refine lv_topi (fun x_15 ex_15 => ?_)
  have fx_15 : x_15.toInt = i.toInt + 2 := by rw [ex_15]; exact I_add rfl (by decide : (2 : Int32).toInt = 2) (by omega) (by omega)
  refine va_sld hx hb hXs hbl hbA hS (i := x_15) (vp_in_iff.mpr (by omega)) dL_law_236 ?_
  refine lv_topi (fun x_16 ex_16 => ?_)
  refine lv_aload_n hx hb dL_law_237 rfl (lv_at hl 3 rfl) ?_
  refine lv_iload_n hx hb dL_law_238 rfl (lv_at hl 0 rfl) ?_
  refine lv_iconst (v := 3) hx hb dL_law_239 (by decide) ?_
  refine lv_iadd hx hb dL_law_240 ?_
  refine lv_topi (fun x_17 ex_17 => ?_)
  have fx_17 : x_17.toInt = i.toInt + 3 := by rw [ex_17]; exact I_add rfl (by decide : (3 : Int32).toInt = 3) (by omega) (by omega)
  refine va_sld hx hb hXs hbl hbA hS (i := x_17) (vp_in_iff.mpr (by omega)) dL_law_241 ?_
  refine lv_topi (fun x_18 ex_18 => ?_)
  refine lv_aload_n hx hb dL_law_242 rfl (lv_at hl 3 rfl) ?_
  refine lv_iload_n hx hb dL_law_243 rfl (lv_at hl 0 rfl) ?_
  refine lv_iconst (v := 4) hx hb dL_law_244 (by decide) ?_
  refine lv_iadd hx hb dL_law_245 ?_
  refine lv_topi (fun x_19 ex_19 => ?_)
  have fx_19 : x_19.toInt = i.toInt + 4 := by rw [ex_19]; exact I_add rfl (by decide : (4 : Int32).toInt = 4) (by omega) (by omega)
  refine va_sld hx hb hXs hbl hbA hS (i := x_19) (vp_in_iff.mpr (by omega)) dL_law_246 ?_
  refine lv_topi (fun x_20 ex_20 => ?_)
  refine lv_aload_n hx hb dL_law_247 rfl (lv_at hl 3 rfl) ?_
  refine lv_iload_n hx hb dL_law_248 rfl (lv_at hl 0 rfl) ?_
  refine lv_iconst (v := 5) hx hb dL_law_249 (by decide) ?_
  refine lv_iadd hx hb dL_law_250 ?_
  refine lv_topi (fun x_21 ex_21 => ?_)
  have fx_21 : x_21.toInt = i.toInt + 5 := by rw [ex_21]; exact I_add rfl (by decide : (5 : Int32).toInt = 5) (by omega) (by omega)
  refine va_sld hx hb hXs hbl hbA hS (i := x_21) (vp_in_iff.mpr (by omega)) dL_law_251 ?_
  refine lv_topi (fun x_22 ex_22 => ?_)
  refine k_iW (k_VW (n := 5) ⟨hx, hb, hml, hown, hT⟩ hK hP hD (lift_r (X' := nX) (wr := wX g u_12) (mL_feed l g H.size v hv x_14 x_16 x_18 x_20 x_22) (fun _ _ _ _ _ _ => trivial)) (gV bw_1442 bw_1443 bw_1444 bw_840 bw_1032) rfl rfl (by decide +kernel) ⟨by decide, by decide⟩ (ci := 12) rfl (List.mem_append_right _ List.mem_cons_self) (fun _ _ _ _ _ => trivial) (fun _ _ _ => trivial) rfl rfl hl.1 (Nat.le_of_ble_eq_true rfl) dL_law_252 ⟨by decide, by decide⟩) hD hS hA (fun r_23 v_24 H locs hw hP hD hS => ?_)
  obtain ⟨hv_24, hev_24, htv_24⟩ := hw
  have hl : lv_has ls 4 [(3, .int i), (2, .ref (v_24.1 0)), (1, .ref (u_12.1 0)), (0, .ref b)] := by rw [hev_24]; exact hl
  refine lv_pop hx hb dL_law_255 rfl ?_
  refine lv_goto (tgt := 1217) hx hb dL_law_256 (by decide) ?_
  obtain ⟨x_25, ex_25⟩ : ∃ y : Int32, y = i + 6 := ⟨_, rfl⟩
  have fx_25 : x_25.toInt = i.toInt + 6 := by rw [ex_25]; exact I_add rfl (by decide) (by omega) (by omega)
  refine lv_iinc (v := x_25) (lv' := [(3, .int x_25), (2, .ref (v_24.1 0)), (1, .ref (u_12.1 0)), (0, .ref b)]) hx hb dL_law_1217 hl (k := 0) rfl (by rw [ex_25]; rfl) (by decide) rfl (fun ls hl => ?_)
  refine lv_goto (tgt := 18) hx hb dL_law_1220 (by decide) ?_
  exact ih (n - 1) (by omega) H locs ls ⟨u_12, v_24, x_25, hu_12, hv_24, (htu_12.trans (htt.trans htv_24.symm)), by omega, by omega, hP, hD, hS, lv_sub hl [0, 1, 2, 3] rfl⟩

set_option maxHeartbeats 40000000 in
set_option maxRecDepth 100000 in
theorem law_c1 {p : Program} {e : Env} {s : State} {m : MethodId} {below : List Frame} {meth : Method} {c : Code} (l : Launch) {b L : Nat} {xs : Nat → Int32} (hL : L ≤ 3072) (C0 : lw_At p s m meth c b L xs) {g : GG} {aW : Nat} {fw : Nat → Int32} {A : Nat → Prop} (hK : kE g s) (hX2 : sE g.2.2.2.2.2.2.2 11 aW fw A s s.heap) (hAe : A = fun q : Nat => s.heap.size ≤ q) {u : XRec} {v : MRec} {H : Heap} {locs : List Loc} {ls : Array Slot} (hu : XOk u) (hv : MOk v) (htt : (u.2.1 35) = (v.2.1 32)) {i : Int32} {n : Nat} (hi0 : 0 ≤ i.toInt ∧ i.toInt ≤ 3072) (hm : 3072 - i.toInt ≤ (n : Int)) (hil : i.toInt + 6 ≤ (L : Int)) (hP : va_P g.1 vwCl (wX g u ++ wM g v) H) (hD : va_D A (wX g u ++ wM g v)) (hS : va_S A s.heap H locs) (hl : lv_has ls 4 [(3, .int i), (2, .ref (v.1 0)), (1, .ref (u.1 0)), (0, .ref b)]) (ih : ∀ n', n' < n → ∀ (H : Heap) (locs : List Loc) (ls : Array Slot), LI g A s b n' H locs ls → W p l e room_1 s m #[Value.ref b] below meth c H locs 476 78636 (lw_Z below #[Value.ref b] s) (F0 m 18 ls [])) : W p l e room_1 s m #[Value.ref b] below meth c H locs 476 78636 (lw_Z below #[Value.ref b] s) (F0 m 259 ls []) := by
  obtain ⟨hx, hb, hr, hml, hown, hts, hXs, hbl, hlocks, hgv⟩ := id C0
  have hT : ∀ w ∈ gT, w.before #[Value.ref b] s = true := fun w h => hts w (List.mem_filter.mp h).1
  have hown : s.vm.findClass RL = some m.cls := hown
  have hA : ∀ q : Nat, s.heap.size ≤ q → A q := by rw [hAe]; exact fun _ h => h
  have hbA : ¬ A b := by rw [hAe]; exact Nat.not_le.mpr hbl
  refine lv_aload_n hx hb dL_law_259 rfl (lv_at hl 2 rfl) ?_
  refine lv_aload_n hx hb dL_law_260 rfl (lv_at hl 3 rfl) ?_
  refine lv_iload_n hx hb dL_law_261 rfl (lv_at hl 0 rfl) ?_
  refine lv_iconst (v := 1) hx hb dL_law_262 (by decide) ?_
  refine lv_iadd hx hb dL_law_263 ?_
  refine lv_topi (fun x_1 ex_1 => ?_)
  have fx_1 : x_1.toInt = i.toInt + 1 := by rw [ex_1]; exact I_add rfl (by decide : (1 : Int32).toInt = 1) (by omega) (by omega)
  refine va_sld hx hb hXs hbl hbA hS (i := x_1) (vp_in_iff.mpr (by omega)) dL_law_264 ?_
  refine lv_topi (fun x_2 ex_2 => ?_)
  refine k_iW (k_VW (n := 1) ⟨hx, hb, hml, hown, hT⟩ hK hP hD (lift_l (X' := nX) (wr := wM g v) (xL_end l g H.size u hu x_2) (fun _ _ _ _ _ _ => trivial)) (gV bw_1445 bw_1446 bw_1447 bw_395 bw_357) rfl rfl (by decide +kernel) ⟨by decide, by decide⟩ (ci := 11) rfl (List.mem_append_left _ (List.mem_append_left _ List.mem_cons_self)) (fun _ _ _ _ _ => trivial) (fun _ _ _ => trivial) rfl rfl hl.1 (Nat.le_of_ble_eq_true rfl) dL_law_265 ⟨by decide, by decide⟩) hD hS hA (fun r_3 u_4 H locs hw hP hD hS => ?_)
  obtain ⟨hu_4, heu_4, htu_4⟩ := hw
  have hl : lv_has ls 4 [(3, .int i), (2, .ref (v.1 0)), (1, .ref (u_4.1 0)), (0, .ref b)] := by rw [heu_4]; exact hl
  refine lv_pop hx hb dL_law_268 rfl ?_
  refine lv_aload_n hx hb dL_law_269 rfl (lv_at hl 1 rfl) ?_
  refine lv_aload_n hx hb dL_law_270 rfl (lv_at hl 3 rfl) ?_
  refine lv_iload_n hx hb dL_law_271 rfl (lv_at hl 0 rfl) ?_
  refine lv_iconst (v := 1) hx hb dL_law_272 (by decide) ?_
  refine lv_iadd hx hb dL_law_273 ?_
  refine lv_topi (fun x_5 ex_5 => ?_)
  have fx_5 : x_5.toInt = i.toInt + 1 := by rw [ex_5]; exact I_add rfl (by decide : (1 : Int32).toInt = 1) (by omega) (by omega)
  refine va_sld hx hb hXs hbl hbA hS (i := x_5) (vp_in_iff.mpr (by omega)) dL_law_274 ?_
  refine lv_topi (fun x_6 ex_6 => ?_)
  refine k_iW (k_VW (n := 1) ⟨hx, hb, hml, hown, hT⟩ hK hP hD (lift_r (X' := nX) (wr := wX g u_4) (mL_end l g H.size v hv x_6) (fun _ _ _ _ _ _ => trivial)) (gV bw_1448 bw_1449 bw_1450 bw_840 bw_1033) rfl rfl (by decide +kernel) ⟨by decide, by decide⟩ (ci := 12) rfl (List.mem_append_right _ List.mem_cons_self) (fun _ _ _ _ _ => trivial) (fun _ _ _ => trivial) rfl rfl hl.1 (Nat.le_of_ble_eq_true rfl) dL_law_275 ⟨by decide, by decide⟩) hD hS hA (fun r_7 v_8 H locs hw hP hD hS => ?_)
  obtain ⟨hv_8, hev_8, htv_8⟩ := hw
  have hl : lv_has ls 4 [(3, .int i), (2, .ref (v_8.1 0)), (1, .ref (u_4.1 0)), (0, .ref b)] := by rw [hev_8]; exact hl
  refine lv_pop hx hb dL_law_278 rfl ?_
  refine lv_goto (tgt := 1217) hx hb dL_law_279 (by decide) ?_
  obtain ⟨x_9, ex_9⟩ : ∃ y : Int32, y = i + 6 := ⟨_, rfl⟩
  have fx_9 : x_9.toInt = i.toInt + 6 := by rw [ex_9]; exact I_add rfl (by decide) (by omega) (by omega)
  refine lv_iinc (v := x_9) (lv' := [(3, .int x_9), (2, .ref (v_8.1 0)), (1, .ref (u_4.1 0)), (0, .ref b)]) hx hb dL_law_1217 hl (k := 0) rfl (by rw [ex_9]; rfl) (by decide) rfl (fun ls hl => ?_)
  refine lv_goto (tgt := 18) hx hb dL_law_1220 (by decide) ?_
  exact ih (n - 1) (by omega) H locs ls ⟨u_4, v_8, x_9, hu_4, hv_8, (htu_4.trans (htt.trans htv_8.symm)), by omega, by omega, hP, hD, hS, lv_sub hl [0, 1, 2, 3] rfl⟩

set_option maxHeartbeats 40000000 in
set_option maxRecDepth 100000 in
theorem law_c2 {p : Program} {e : Env} {s : State} {m : MethodId} {below : List Frame} {meth : Method} {c : Code} (l : Launch) {b L : Nat} {xs : Nat → Int32} (hL : L ≤ 3072) (C0 : lw_At p s m meth c b L xs) {g : GG} {aW : Nat} {fw : Nat → Int32} {A : Nat → Prop} (hK : kE g s) (hX2 : sE g.2.2.2.2.2.2.2 11 aW fw A s s.heap) (hAe : A = fun q : Nat => s.heap.size ≤ q) {u : XRec} {v : MRec} {H : Heap} {locs : List Loc} {ls : Array Slot} (hu : XOk u) (hv : MOk v) (htt : (u.2.1 35) = (v.2.1 32)) {i : Int32} {n : Nat} (hi0 : 0 ≤ i.toInt ∧ i.toInt ≤ 3072) (hm : 3072 - i.toInt ≤ (n : Int)) (hil : i.toInt + 6 ≤ (L : Int)) (hP : va_P g.1 vwCl (wX g u ++ wM g v) H) (hD : va_D A (wX g u ++ wM g v)) (hS : va_S A s.heap H locs) (hl : lv_has ls 4 [(3, .int i), (2, .ref (v.1 0)), (1, .ref (u.1 0)), (0, .ref b)]) (ih : ∀ n', n' < n → ∀ (H : Heap) (locs : List Loc) (ls : Array Slot), LI g A s b n' H locs ls → W p l e room_1 s m #[Value.ref b] below meth c H locs 476 78636 (lw_Z below #[Value.ref b] s) (F0 m 18 ls [])) : W p l e room_1 s m #[Value.ref b] below meth c H locs 476 78636 (lw_Z below #[Value.ref b] s) (F0 m 282 ls []) := by
  obtain ⟨hx, hb, hr, hml, hown, hts, hXs, hbl, hlocks, hgv⟩ := id C0
  have hT : ∀ w ∈ gT, w.before #[Value.ref b] s = true := fun w h => hts w (List.mem_filter.mp h).1
  have hown : s.vm.findClass RL = some m.cls := hown
  have hA : ∀ q : Nat, s.heap.size ≤ q → A q := by rw [hAe]; exact fun _ h => h
  have hbA : ¬ A b := by rw [hAe]; exact Nat.not_le.mpr hbl
  refine lv_aload_n hx hb dL_law_282 rfl (lv_at hl 2 rfl) ?_
  refine k_iW (k_VW (n := 0) ⟨hx, hb, hml, hown, hT⟩ hK hP hD (lift_l (X' := sX g.2.2.2.2.2.2.2 11 aW fw (va_A (wX g u ++ wM g v) H.size)) (wr := wM g v) (xL_code l g H.size u hu aW fw) (fun U q1 q2 q3 q4 q5 => sE.narrow q5 (A_sub (wr := wM g v) (List.Perm.refl _)))) (gV bw_1451 bw_1452 bw_1453 bw_395 bw_814) rfl rfl (by decide +kernel) ⟨by decide, by decide⟩ (ci := 11) rfl (List.mem_append_left _ (List.mem_append_left _ List.mem_cons_self)) sX.calling (sE.go hX2 hS (fun q9 h9 => h9.elim (fun ⟨k9, e9, z9⟩ => hD.2 k9 _ z9) (fun z9 => hA q9 (Nat.le_trans hS.1 z9)))) rfl rfl hl.1 (Nat.le_of_ble_eq_true rfl) dL_law_283 ⟨by decide, by decide⟩) hD hS hA (fun r_1 u_2 H locs hw hP hD hS => ?_)
  obtain ⟨hu_2, heu_2, htu_2⟩ := hw
  have hl : lv_has ls 4 [(3, .int i), (2, .ref (v.1 0)), (1, .ref (u_2.1 0)), (0, .ref b)] := by rw [heu_2]; exact hl
  refine lv_pop hx hb dL_law_286 rfl ?_
  refine lv_aload_n hx hb dL_law_287 rfl (lv_at hl 1 rfl) ?_
  refine k_iW (k_VW (n := 0) ⟨hx, hb, hml, hown, hT⟩ hK hP hD (lift_r (X' := nX) (wr := wX g u_2) (mL_code l g H.size v hv) (fun _ _ _ _ _ _ => trivial)) (gV bw_1454 bw_1455 bw_1456 bw_840 bw_1322) rfl rfl (by decide +kernel) ⟨by decide, by decide⟩ (ci := 12) rfl (List.mem_append_right _ List.mem_cons_self) (fun _ _ _ _ _ => trivial) (fun _ _ _ => trivial) rfl rfl hl.1 (Nat.le_of_ble_eq_true rfl) dL_law_288 ⟨by decide, by decide⟩) hD hS hA (fun r_3 v_4 H locs hw hP hD hS => ?_)
  obtain ⟨hv_4, hev_4, htv_4⟩ := hw
  have hl : lv_has ls 4 [(3, .int i), (2, .ref (v_4.1 0)), (1, .ref (u_2.1 0)), (0, .ref b)] := by rw [hev_4]; exact hl
  refine lv_pop hx hb dL_law_291 rfl ?_
  refine lv_goto (tgt := 1217) hx hb dL_law_292 (by decide) ?_
  obtain ⟨x_5, ex_5⟩ : ∃ y : Int32, y = i + 6 := ⟨_, rfl⟩
  have fx_5 : x_5.toInt = i.toInt + 6 := by rw [ex_5]; exact I_add rfl (by decide) (by omega) (by omega)
  refine lv_iinc (v := x_5) (lv' := [(3, .int x_5), (2, .ref (v_4.1 0)), (1, .ref (u_2.1 0)), (0, .ref b)]) hx hb dL_law_1217 hl (k := 0) rfl (by rw [ex_5]; rfl) (by decide) rfl (fun ls hl => ?_)
  refine lv_goto (tgt := 18) hx hb dL_law_1220 (by decide) ?_
  exact ih (n - 1) (by omega) H locs ls ⟨u_2, v_4, x_5, hu_2, hv_4, (htu_2.trans (htt.trans htv_4.symm)), by omega, by omega, hP, hD, hS, lv_sub hl [0, 1, 2, 3] rfl⟩

set_option maxHeartbeats 40000000 in
set_option maxRecDepth 100000 in
theorem law_c3 {p : Program} {e : Env} {s : State} {m : MethodId} {below : List Frame} {meth : Method} {c : Code} (l : Launch) {b L : Nat} {xs : Nat → Int32} (hL : L ≤ 3072) (C0 : lw_At p s m meth c b L xs) {g : GG} {aW : Nat} {fw : Nat → Int32} {A : Nat → Prop} (hK : kE g s) (hX2 : sE g.2.2.2.2.2.2.2 11 aW fw A s s.heap) (hAe : A = fun q : Nat => s.heap.size ≤ q) {u : XRec} {v : MRec} {H : Heap} {locs : List Loc} {ls : Array Slot} (hu : XOk u) (hv : MOk v) (htt : (u.2.1 35) = (v.2.1 32)) {i : Int32} {n : Nat} (hi0 : 0 ≤ i.toInt ∧ i.toInt ≤ 3072) (hm : 3072 - i.toInt ≤ (n : Int)) (hil : i.toInt + 6 ≤ (L : Int)) (hP : va_P g.1 vwCl (wX g u ++ wM g v) H) (hD : va_D A (wX g u ++ wM g v)) (hS : va_S A s.heap H locs) (hl : lv_has ls 4 [(3, .int i), (2, .ref (v.1 0)), (1, .ref (u.1 0)), (0, .ref b)]) (ih : ∀ n', n' < n → ∀ (H : Heap) (locs : List Loc) (ls : Array Slot), LI g A s b n' H locs ls → W p l e room_1 s m #[Value.ref b] below meth c H locs 476 78636 (lw_Z below #[Value.ref b] s) (F0 m 18 ls [])) : W p l e room_1 s m #[Value.ref b] below meth c H locs 476 78636 (lw_Z below #[Value.ref b] s) (F0 m 295 ls []) := by
  obtain ⟨hx, hb, hr, hml, hown, hts, hXs, hbl, hlocks, hgv⟩ := id C0
  have hT : ∀ w ∈ gT, w.before #[Value.ref b] s = true := fun w h => hts w (List.mem_filter.mp h).1
  have hown : s.vm.findClass RL = some m.cls := hown
  have hA : ∀ q : Nat, s.heap.size ≤ q → A q := by rw [hAe]; exact fun _ h => h
  have hbA : ¬ A b := by rw [hAe]; exact Nat.not_le.mpr hbl
  refine lv_aload_n hx hb dL_law_295 rfl (lv_at hl 2 rfl) ?_
  refine lv_aload_n hx hb dL_law_296 rfl (lv_at hl 3 rfl) ?_
  refine lv_iload_n hx hb dL_law_297 rfl (lv_at hl 0 rfl) ?_
  refine lv_iconst (v := 1) hx hb dL_law_298 (by decide) ?_
  refine lv_iadd hx hb dL_law_299 ?_
  refine lv_topi (fun x_1 ex_1 => ?_)
  have fx_1 : x_1.toInt = i.toInt + 1 := by rw [ex_1]; exact I_add rfl (by decide : (1 : Int32).toInt = 1) (by omega) (by omega)
  refine va_sld hx hb hXs hbl hbA hS (i := x_1) (vp_in_iff.mpr (by omega)) dL_law_300 ?_
  refine lv_topi (fun x_2 ex_2 => ?_)
  refine k_iW (k_VW (n := 1) ⟨hx, hb, hml, hown, hT⟩ hK hP hD (lift_l (X' := nX) (wr := wM g v) (xL_fault l g H.size u hu x_2) (fun _ _ _ _ _ _ => trivial)) (gV bw_1457 bw_1458 bw_1459 bw_395 bw_361) rfl rfl (by decide +kernel) ⟨by decide, by decide⟩ (ci := 11) rfl (List.mem_append_left _ (List.mem_append_left _ List.mem_cons_self)) (fun _ _ _ _ _ => trivial) (fun _ _ _ => trivial) rfl rfl hl.1 (Nat.le_of_ble_eq_true rfl) dL_law_301 ⟨by decide, by decide⟩) hD hS hA (fun r_3 u_4 H locs hw hP hD hS => ?_)
  obtain ⟨hu_4, heu_4, htu_4⟩ := hw
  have hl : lv_has ls 4 [(3, .int i), (2, .ref (v.1 0)), (1, .ref (u_4.1 0)), (0, .ref b)] := by rw [heu_4]; exact hl
  refine lv_pop hx hb dL_law_304 rfl ?_
  refine lv_aload_n hx hb dL_law_305 rfl (lv_at hl 1 rfl) ?_
  refine lv_aload_n hx hb dL_law_306 rfl (lv_at hl 3 rfl) ?_
  refine lv_iload_n hx hb dL_law_307 rfl (lv_at hl 0 rfl) ?_
  refine lv_iconst (v := 1) hx hb dL_law_308 (by decide) ?_
  refine lv_iadd hx hb dL_law_309 ?_
  refine lv_topi (fun x_5 ex_5 => ?_)
  have fx_5 : x_5.toInt = i.toInt + 1 := by rw [ex_5]; exact I_add rfl (by decide : (1 : Int32).toInt = 1) (by omega) (by omega)
  refine va_sld hx hb hXs hbl hbA hS (i := x_5) (vp_in_iff.mpr (by omega)) dL_law_310 ?_
  refine lv_topi (fun x_6 ex_6 => ?_)
  refine k_iW (k_VW (n := 1) ⟨hx, hb, hml, hown, hT⟩ hK hP hD (lift_r (X' := nX) (wr := wX g u_4) (mL_fault l g H.size v hv x_6) (fun _ _ _ _ _ _ => trivial)) (gV bw_1460 bw_1461 bw_1462 bw_840 bw_822) rfl rfl (by decide +kernel) ⟨by decide, by decide⟩ (ci := 12) rfl (List.mem_append_right _ List.mem_cons_self) (fun _ _ _ _ _ => trivial) (fun _ _ _ => trivial) rfl rfl hl.1 (Nat.le_of_ble_eq_true rfl) dL_law_311 ⟨by decide, by decide⟩) hD hS hA (fun r_7 v_8 H locs hw hP hD hS => ?_)
  obtain ⟨hv_8, hev_8, htv_8⟩ := hw
  have hl : lv_has ls 4 [(3, .int i), (2, .ref (v_8.1 0)), (1, .ref (u_4.1 0)), (0, .ref b)] := by rw [hev_8]; exact hl
  refine lv_pop hx hb dL_law_314 rfl ?_
  refine lv_goto (tgt := 1217) hx hb dL_law_315 (by decide) ?_
  obtain ⟨x_9, ex_9⟩ : ∃ y : Int32, y = i + 6 := ⟨_, rfl⟩
  have fx_9 : x_9.toInt = i.toInt + 6 := by rw [ex_9]; exact I_add rfl (by decide) (by omega) (by omega)
  refine lv_iinc (v := x_9) (lv' := [(3, .int x_9), (2, .ref (v_8.1 0)), (1, .ref (u_4.1 0)), (0, .ref b)]) hx hb dL_law_1217 hl (k := 0) rfl (by rw [ex_9]; rfl) (by decide) rfl (fun ls hl => ?_)
  refine lv_goto (tgt := 18) hx hb dL_law_1220 (by decide) ?_
  exact ih (n - 1) (by omega) H locs ls ⟨u_4, v_8, x_9, hu_4, hv_8, (htu_4.trans (htt.trans htv_8.symm)), by omega, by omega, hP, hD, hS, lv_sub hl [0, 1, 2, 3] rfl⟩

set_option maxHeartbeats 40000000 in
set_option maxRecDepth 100000 in
theorem law_c4 {p : Program} {e : Env} {s : State} {m : MethodId} {below : List Frame} {meth : Method} {c : Code} (l : Launch) {b L : Nat} {xs : Nat → Int32} (hL : L ≤ 3072) (C0 : lw_At p s m meth c b L xs) {g : GG} {aW : Nat} {fw : Nat → Int32} {A : Nat → Prop} (hK : kE g s) (hX2 : sE g.2.2.2.2.2.2.2 11 aW fw A s s.heap) (hAe : A = fun q : Nat => s.heap.size ≤ q) {u : XRec} {v : MRec} {H : Heap} {locs : List Loc} {ls : Array Slot} (hu : XOk u) (hv : MOk v) (htt : (u.2.1 35) = (v.2.1 32)) {i : Int32} {n : Nat} (hi0 : 0 ≤ i.toInt ∧ i.toInt ≤ 3072) (hm : 3072 - i.toInt ≤ (n : Int)) (hil : i.toInt + 6 ≤ (L : Int)) (hP : va_P g.1 vwCl (wX g u ++ wM g v) H) (hD : va_D A (wX g u ++ wM g v)) (hS : va_S A s.heap H locs) (hl : lv_has ls 4 [(3, .int i), (2, .ref (v.1 0)), (1, .ref (u.1 0)), (0, .ref b)]) (ih : ∀ n', n' < n → ∀ (H : Heap) (locs : List Loc) (ls : Array Slot), LI g A s b n' H locs ls → W p l e room_1 s m #[Value.ref b] below meth c H locs 476 78636 (lw_Z below #[Value.ref b] s) (F0 m 18 ls [])) : W p l e room_1 s m #[Value.ref b] below meth c H locs 476 78636 (lw_Z below #[Value.ref b] s) (F0 m 318 ls []) := by
  obtain ⟨hx, hb, hr, hml, hown, hts, hXs, hbl, hlocks, hgv⟩ := id C0
  have hT : ∀ w ∈ gT, w.before #[Value.ref b] s = true := fun w h => hts w (List.mem_filter.mp h).1
  have hown : s.vm.findClass RL = some m.cls := hown
  have hA : ∀ q : Nat, s.heap.size ≤ q → A q := by rw [hAe]; exact fun _ h => h
  have hbA : ¬ A b := by rw [hAe]; exact Nat.not_le.mpr hbl
  refine lv_aload_n hx hb dL_law_318 rfl (lv_at hl 2 rfl) ?_
  refine lv_aload_n hx hb dL_law_319 rfl (lv_at hl 3 rfl) ?_
  refine lv_iload_n hx hb dL_law_320 rfl (lv_at hl 0 rfl) ?_
  refine lv_iconst (v := 1) hx hb dL_law_321 (by decide) ?_
  refine lv_iadd hx hb dL_law_322 ?_
  refine lv_topi (fun x_1 ex_1 => ?_)
  have fx_1 : x_1.toInt = i.toInt + 1 := by rw [ex_1]; exact I_add rfl (by decide : (1 : Int32).toInt = 1) (by omega) (by omega)
  refine va_sld hx hb hXs hbl hbA hS (i := x_1) (vp_in_iff.mpr (by omega)) dL_law_323 ?_
  refine lv_topi (fun x_2 ex_2 => ?_)
  refine lv_aload_n hx hb dL_law_324 rfl (lv_at hl 3 rfl) ?_
  refine lv_iload_n hx hb dL_law_325 rfl (lv_at hl 0 rfl) ?_
  refine lv_iconst (v := 2) hx hb dL_law_326 (by decide) ?_
  refine lv_iadd hx hb dL_law_327 ?_
  refine lv_topi (fun x_3 ex_3 => ?_)
  have fx_3 : x_3.toInt = i.toInt + 2 := by rw [ex_3]; exact I_add rfl (by decide : (2 : Int32).toInt = 2) (by omega) (by omega)
  refine va_sld hx hb hXs hbl hbA hS (i := x_3) (vp_in_iff.mpr (by omega)) dL_law_328 ?_
  refine lv_topi (fun x_4 ex_4 => ?_)
  refine k_iW (k_VW (n := 2) ⟨hx, hb, hml, hown, hT⟩ hK hP hD (lift_l (X' := nX) (wr := wM g v) (xL_man l g H.size u hu x_2 x_4) (fun _ _ _ _ _ _ => trivial)) (gV bw_1463 bw_1464 bw_1465 bw_395 bw_282) rfl rfl (by decide +kernel) ⟨by decide, by decide⟩ (ci := 11) rfl (List.mem_append_left _ (List.mem_append_left _ List.mem_cons_self)) (fun _ _ _ _ _ => trivial) (fun _ _ _ => trivial) rfl rfl hl.1 (Nat.le_of_ble_eq_true rfl) dL_law_329 ⟨by decide, by decide⟩) hD hS hA (fun r_5 u_6 H locs hw hP hD hS => ?_)
  obtain ⟨hu_6, heu_6, htu_6⟩ := hw
  have hl : lv_has ls 4 [(3, .int i), (2, .ref (v.1 0)), (1, .ref (u_6.1 0)), (0, .ref b)] := by rw [heu_6]; exact hl
  refine lv_pop hx hb dL_law_332 rfl ?_
  refine lv_aload_n hx hb dL_law_333 rfl (lv_at hl 1 rfl) ?_
  refine lv_aload_n hx hb dL_law_334 rfl (lv_at hl 3 rfl) ?_
  refine lv_iload_n hx hb dL_law_335 rfl (lv_at hl 0 rfl) ?_
  refine lv_iconst (v := 1) hx hb dL_law_336 (by decide) ?_
  refine lv_iadd hx hb dL_law_337 ?_
  refine lv_topi (fun x_7 ex_7 => ?_)
  have fx_7 : x_7.toInt = i.toInt + 1 := by rw [ex_7]; exact I_add rfl (by decide : (1 : Int32).toInt = 1) (by omega) (by omega)
  refine va_sld hx hb hXs hbl hbA hS (i := x_7) (vp_in_iff.mpr (by omega)) dL_law_338 ?_
  refine lv_topi (fun x_8 ex_8 => ?_)
  refine lv_aload_n hx hb dL_law_339 rfl (lv_at hl 3 rfl) ?_
  refine lv_iload_n hx hb dL_law_340 rfl (lv_at hl 0 rfl) ?_
  refine lv_iconst (v := 2) hx hb dL_law_341 (by decide) ?_
  refine lv_iadd hx hb dL_law_342 ?_
  refine lv_topi (fun x_9 ex_9 => ?_)
  have fx_9 : x_9.toInt = i.toInt + 2 := by rw [ex_9]; exact I_add rfl (by decide : (2 : Int32).toInt = 2) (by omega) (by omega)
  refine va_sld hx hb hXs hbl hbA hS (i := x_9) (vp_in_iff.mpr (by omega)) dL_law_343 ?_
  refine lv_topi (fun x_10 ex_10 => ?_)
  refine k_iW (k_VW (n := 2) ⟨hx, hb, hml, hown, hT⟩ hK hP hD (lift_r (X' := nX) (wr := wX g u_6) (mL_man l g H.size v hv x_8 x_10) (fun _ _ _ _ _ _ => trivial)) (gV bw_1466 bw_1467 bw_1468 bw_840 bw_917) rfl rfl (by decide +kernel) ⟨by decide, by decide⟩ (ci := 12) rfl (List.mem_append_right _ List.mem_cons_self) (fun _ _ _ _ _ => trivial) (fun _ _ _ => trivial) rfl rfl hl.1 (Nat.le_of_ble_eq_true rfl) dL_law_344 ⟨by decide, by decide⟩) hD hS hA (fun r_11 v_12 H locs hw hP hD hS => ?_)
  obtain ⟨hv_12, hev_12, htv_12⟩ := hw
  have hl : lv_has ls 4 [(3, .int i), (2, .ref (v_12.1 0)), (1, .ref (u_6.1 0)), (0, .ref b)] := by rw [hev_12]; exact hl
  refine lv_pop hx hb dL_law_347 rfl ?_
  refine lv_goto (tgt := 1217) hx hb dL_law_348 (by decide) ?_
  obtain ⟨x_13, ex_13⟩ : ∃ y : Int32, y = i + 6 := ⟨_, rfl⟩
  have fx_13 : x_13.toInt = i.toInt + 6 := by rw [ex_13]; exact I_add rfl (by decide) (by omega) (by omega)
  refine lv_iinc (v := x_13) (lv' := [(3, .int x_13), (2, .ref (v_12.1 0)), (1, .ref (u_6.1 0)), (0, .ref b)]) hx hb dL_law_1217 hl (k := 0) rfl (by rw [ex_13]; rfl) (by decide) rfl (fun ls hl => ?_)
  refine lv_goto (tgt := 18) hx hb dL_law_1220 (by decide) ?_
  exact ih (n - 1) (by omega) H locs ls ⟨u_6, v_12, x_13, hu_6, hv_12, (htu_6.trans (htt.trans htv_12.symm)), by omega, by omega, hP, hD, hS, lv_sub hl [0, 1, 2, 3] rfl⟩

set_option maxHeartbeats 40000000 in
set_option maxRecDepth 100000 in
theorem law_c5 {p : Program} {e : Env} {s : State} {m : MethodId} {below : List Frame} {meth : Method} {c : Code} (l : Launch) {b L : Nat} {xs : Nat → Int32} (hL : L ≤ 3072) (C0 : lw_At p s m meth c b L xs) {g : GG} {aW : Nat} {fw : Nat → Int32} {A : Nat → Prop} (hK : kE g s) (hX2 : sE g.2.2.2.2.2.2.2 11 aW fw A s s.heap) (hAe : A = fun q : Nat => s.heap.size ≤ q) {u : XRec} {v : MRec} {H : Heap} {locs : List Loc} {ls : Array Slot} (hu : XOk u) (hv : MOk v) (htt : (u.2.1 35) = (v.2.1 32)) {i : Int32} {n : Nat} (hi0 : 0 ≤ i.toInt ∧ i.toInt ≤ 3072) (hm : 3072 - i.toInt ≤ (n : Int)) (hil : i.toInt + 6 ≤ (L : Int)) (hP : va_P g.1 vwCl (wX g u ++ wM g v) H) (hD : va_D A (wX g u ++ wM g v)) (hS : va_S A s.heap H locs) (hl : lv_has ls 4 [(3, .int i), (2, .ref (v.1 0)), (1, .ref (u.1 0)), (0, .ref b)]) (ih : ∀ n', n' < n → ∀ (H : Heap) (locs : List Loc) (ls : Array Slot), LI g A s b n' H locs ls → W p l e room_1 s m #[Value.ref b] below meth c H locs 476 78636 (lw_Z below #[Value.ref b] s) (F0 m 18 ls [])) : W p l e room_1 s m #[Value.ref b] below meth c H locs 476 78636 (lw_Z below #[Value.ref b] s) (F0 m 351 ls []) := by
  obtain ⟨hx, hb, hr, hml, hown, hts, hXs, hbl, hlocks, hgv⟩ := id C0
  have hT : ∀ w ∈ gT, w.before #[Value.ref b] s = true := fun w h => hts w (List.mem_filter.mp h).1
  have hown : s.vm.findClass RL = some m.cls := hown
  have hA : ∀ q : Nat, s.heap.size ≤ q → A q := by rw [hAe]; exact fun _ h => h
  have hbA : ¬ A b := by rw [hAe]; exact Nat.not_le.mpr hbl
  refine lv_aload_n hx hb dL_law_351 rfl (lv_at hl 2 rfl) ?_
  refine lv_aload_n hx hb dL_law_352 rfl (lv_at hl 3 rfl) ?_
  refine lv_iload_n hx hb dL_law_353 rfl (lv_at hl 0 rfl) ?_
  refine lv_iconst (v := 1) hx hb dL_law_354 (by decide) ?_
  refine lv_iadd hx hb dL_law_355 ?_
  refine lv_topi (fun x_1 ex_1 => ?_)
  have fx_1 : x_1.toInt = i.toInt + 1 := by rw [ex_1]; exact I_add rfl (by decide : (1 : Int32).toInt = 1) (by omega) (by omega)
  refine va_sld hx hb hXs hbl hbA hS (i := x_1) (vp_in_iff.mpr (by omega)) dL_law_356 ?_
  refine lv_topi (fun x_2 ex_2 => ?_)
  refine lv_aload_n hx hb dL_law_357 rfl (lv_at hl 3 rfl) ?_
  refine lv_iload_n hx hb dL_law_358 rfl (lv_at hl 0 rfl) ?_
  refine lv_iconst (v := 2) hx hb dL_law_359 (by decide) ?_
  refine lv_iadd hx hb dL_law_360 ?_
  refine lv_topi (fun x_3 ex_3 => ?_)
  have fx_3 : x_3.toInt = i.toInt + 2 := by rw [ex_3]; exact I_add rfl (by decide : (2 : Int32).toInt = 2) (by omega) (by omega)
  refine va_sld hx hb hXs hbl hbA hS (i := x_3) (vp_in_iff.mpr (by omega)) dL_law_361 ?_
  refine lv_topi (fun x_4 ex_4 => ?_)
  refine k_iW (k_VW (n := 2) ⟨hx, hb, hml, hown, hT⟩ hK hP hD (lift_l (X' := nX) (wr := wM g v) (xL_duel l g H.size u hu x_2 x_4) (fun _ _ _ _ _ _ => trivial)) (gV bw_1469 bw_1470 bw_1471 bw_395 bw_292) rfl rfl (by decide +kernel) ⟨by decide, by decide⟩ (ci := 11) rfl (List.mem_append_left _ (List.mem_append_left _ List.mem_cons_self)) (fun _ _ _ _ _ => trivial) (fun _ _ _ => trivial) rfl rfl hl.1 (Nat.le_of_ble_eq_true rfl) dL_law_362 ⟨by decide, by decide⟩) hD hS hA (fun r_5 u_6 H locs hw hP hD hS => ?_)
  obtain ⟨hu_6, heu_6, htu_6⟩ := hw
  have hl : lv_has ls 4 [(3, .int i), (2, .ref (v.1 0)), (1, .ref (u_6.1 0)), (0, .ref b)] := by rw [heu_6]; exact hl
  refine lv_pop hx hb dL_law_365 rfl ?_
  refine lv_aload_n hx hb dL_law_366 rfl (lv_at hl 1 rfl) ?_
  refine lv_aload_n hx hb dL_law_367 rfl (lv_at hl 3 rfl) ?_
  refine lv_iload_n hx hb dL_law_368 rfl (lv_at hl 0 rfl) ?_
  refine lv_iconst (v := 1) hx hb dL_law_369 (by decide) ?_
  refine lv_iadd hx hb dL_law_370 ?_
  refine lv_topi (fun x_7 ex_7 => ?_)
  have fx_7 : x_7.toInt = i.toInt + 1 := by rw [ex_7]; exact I_add rfl (by decide : (1 : Int32).toInt = 1) (by omega) (by omega)
  refine va_sld hx hb hXs hbl hbA hS (i := x_7) (vp_in_iff.mpr (by omega)) dL_law_371 ?_
  refine lv_topi (fun x_8 ex_8 => ?_)
  refine lv_aload_n hx hb dL_law_372 rfl (lv_at hl 3 rfl) ?_
  refine lv_iload_n hx hb dL_law_373 rfl (lv_at hl 0 rfl) ?_
  refine lv_iconst (v := 2) hx hb dL_law_374 (by decide) ?_
  refine lv_iadd hx hb dL_law_375 ?_
  refine lv_topi (fun x_9 ex_9 => ?_)
  have fx_9 : x_9.toInt = i.toInt + 2 := by rw [ex_9]; exact I_add rfl (by decide : (2 : Int32).toInt = 2) (by omega) (by omega)
  refine va_sld hx hb hXs hbl hbA hS (i := x_9) (vp_in_iff.mpr (by omega)) dL_law_376 ?_
  refine lv_topi (fun x_10 ex_10 => ?_)
  refine k_iW (k_VW (n := 2) ⟨hx, hb, hml, hown, hT⟩ hK hP hD (lift_r (X' := nX) (wr := wX g u_6) (mL_duel l g H.size v hv x_8 x_10) (fun _ _ _ _ _ _ => trivial)) (gV bw_1472 bw_1473 bw_1474 bw_840 bw_918) rfl rfl (by decide +kernel) ⟨by decide, by decide⟩ (ci := 12) rfl (List.mem_append_right _ List.mem_cons_self) (fun _ _ _ _ _ => trivial) (fun _ _ _ => trivial) rfl rfl hl.1 (Nat.le_of_ble_eq_true rfl) dL_law_377 ⟨by decide, by decide⟩) hD hS hA (fun r_11 v_12 H locs hw hP hD hS => ?_)
  obtain ⟨hv_12, hev_12, htv_12⟩ := hw
  have hl : lv_has ls 4 [(3, .int i), (2, .ref (v_12.1 0)), (1, .ref (u_6.1 0)), (0, .ref b)] := by rw [hev_12]; exact hl
  refine lv_pop hx hb dL_law_380 rfl ?_
  refine lv_goto (tgt := 1217) hx hb dL_law_381 (by decide) ?_
  obtain ⟨x_13, ex_13⟩ : ∃ y : Int32, y = i + 6 := ⟨_, rfl⟩
  have fx_13 : x_13.toInt = i.toInt + 6 := by rw [ex_13]; exact I_add rfl (by decide) (by omega) (by omega)
  refine lv_iinc (v := x_13) (lv' := [(3, .int x_13), (2, .ref (v_12.1 0)), (1, .ref (u_6.1 0)), (0, .ref b)]) hx hb dL_law_1217 hl (k := 0) rfl (by rw [ex_13]; rfl) (by decide) rfl (fun ls hl => ?_)
  refine lv_goto (tgt := 18) hx hb dL_law_1220 (by decide) ?_
  exact ih (n - 1) (by omega) H locs ls ⟨u_6, v_12, x_13, hu_6, hv_12, (htu_6.trans (htt.trans htv_12.symm)), by omega, by omega, hP, hD, hS, lv_sub hl [0, 1, 2, 3] rfl⟩

set_option maxHeartbeats 40000000 in
set_option maxRecDepth 100000 in
theorem law_c6 {p : Program} {e : Env} {s : State} {m : MethodId} {below : List Frame} {meth : Method} {c : Code} (l : Launch) {b L : Nat} {xs : Nat → Int32} (hL : L ≤ 3072) (C0 : lw_At p s m meth c b L xs) {g : GG} {aW : Nat} {fw : Nat → Int32} {A : Nat → Prop} (hK : kE g s) (hX2 : sE g.2.2.2.2.2.2.2 11 aW fw A s s.heap) (hAe : A = fun q : Nat => s.heap.size ≤ q) {u : XRec} {v : MRec} {H : Heap} {locs : List Loc} {ls : Array Slot} (hu : XOk u) (hv : MOk v) (htt : (u.2.1 35) = (v.2.1 32)) {i : Int32} {n : Nat} (hi0 : 0 ≤ i.toInt ∧ i.toInt ≤ 3072) (hm : 3072 - i.toInt ≤ (n : Int)) (hil : i.toInt + 6 ≤ (L : Int)) (hP : va_P g.1 vwCl (wX g u ++ wM g v) H) (hD : va_D A (wX g u ++ wM g v)) (hS : va_S A s.heap H locs) (hl : lv_has ls 4 [(3, .int i), (2, .ref (v.1 0)), (1, .ref (u.1 0)), (0, .ref b)]) (ih : ∀ n', n' < n → ∀ (H : Heap) (locs : List Loc) (ls : Array Slot), LI g A s b n' H locs ls → W p l e room_1 s m #[Value.ref b] below meth c H locs 476 78636 (lw_Z below #[Value.ref b] s) (F0 m 18 ls [])) : W p l e room_1 s m #[Value.ref b] below meth c H locs 476 78636 (lw_Z below #[Value.ref b] s) (F0 m 384 ls []) := by
  obtain ⟨hx, hb, hr, hml, hown, hts, hXs, hbl, hlocks, hgv⟩ := id C0
  have hT : ∀ w ∈ gT, w.before #[Value.ref b] s = true := fun w h => hts w (List.mem_filter.mp h).1
  have hown : s.vm.findClass RL = some m.cls := hown
  have hA : ∀ q : Nat, s.heap.size ≤ q → A q := by rw [hAe]; exact fun _ h => h
  have hbA : ¬ A b := by rw [hAe]; exact Nat.not_le.mpr hbl
  refine lv_aload_n hx hb dL_law_384 rfl (lv_at hl 2 rfl) ?_
  refine lv_aload_n hx hb dL_law_385 rfl (lv_at hl 3 rfl) ?_
  refine lv_iload_n hx hb dL_law_386 rfl (lv_at hl 0 rfl) ?_
  refine lv_iconst (v := 1) hx hb dL_law_387 (by decide) ?_
  refine lv_iadd hx hb dL_law_388 ?_
  refine lv_topi (fun x_1 ex_1 => ?_)
  have fx_1 : x_1.toInt = i.toInt + 1 := by rw [ex_1]; exact I_add rfl (by decide : (1 : Int32).toInt = 1) (by omega) (by omega)
  refine va_sld hx hb hXs hbl hbA hS (i := x_1) (vp_in_iff.mpr (by omega)) dL_law_389 ?_
  refine lv_topi (fun x_2 ex_2 => ?_)
  refine lv_aload_n hx hb dL_law_390 rfl (lv_at hl 3 rfl) ?_
  refine lv_iload_n hx hb dL_law_391 rfl (lv_at hl 0 rfl) ?_
  refine lv_iconst (v := 2) hx hb dL_law_392 (by decide) ?_
  refine lv_iadd hx hb dL_law_393 ?_
  refine lv_topi (fun x_3 ex_3 => ?_)
  have fx_3 : x_3.toInt = i.toInt + 2 := by rw [ex_3]; exact I_add rfl (by decide : (2 : Int32).toInt = 2) (by omega) (by omega)
  refine va_sld hx hb hXs hbl hbA hS (i := x_3) (vp_in_iff.mpr (by omega)) dL_law_394 ?_
  refine lv_topi (fun x_4 ex_4 => ?_)
  refine k_iW (k_VW (n := 2) ⟨hx, hb, hml, hown, hT⟩ hK hP hD (lift_l (X' := nX) (wr := wM g v) (xL_reason l g H.size u hu x_2 x_4) (fun _ _ _ _ _ _ => trivial)) (gV bw_1475 bw_1476 bw_1477 bw_395 bw_303) rfl rfl (by decide +kernel) ⟨by decide, by decide⟩ (ci := 11) rfl (List.mem_append_left _ (List.mem_append_left _ List.mem_cons_self)) (fun _ _ _ _ _ => trivial) (fun _ _ _ => trivial) rfl rfl hl.1 (Nat.le_of_ble_eq_true rfl) dL_law_395 ⟨by decide, by decide⟩) hD hS hA (fun r_5 u_6 H locs hw hP hD hS => ?_)
  obtain ⟨hu_6, heu_6, htu_6⟩ := hw
  have hl : lv_has ls 4 [(3, .int i), (2, .ref (v.1 0)), (1, .ref (u_6.1 0)), (0, .ref b)] := by rw [heu_6]; exact hl
  refine lv_pop hx hb dL_law_398 rfl ?_
  refine lv_aload_n hx hb dL_law_399 rfl (lv_at hl 1 rfl) ?_
  refine lv_aload_n hx hb dL_law_400 rfl (lv_at hl 3 rfl) ?_
  refine lv_iload_n hx hb dL_law_401 rfl (lv_at hl 0 rfl) ?_
  refine lv_iconst (v := 1) hx hb dL_law_402 (by decide) ?_
  refine lv_iadd hx hb dL_law_403 ?_
  refine lv_topi (fun x_7 ex_7 => ?_)
  have fx_7 : x_7.toInt = i.toInt + 1 := by rw [ex_7]; exact I_add rfl (by decide : (1 : Int32).toInt = 1) (by omega) (by omega)
  refine va_sld hx hb hXs hbl hbA hS (i := x_7) (vp_in_iff.mpr (by omega)) dL_law_404 ?_
  refine lv_topi (fun x_8 ex_8 => ?_)
  refine lv_aload_n hx hb dL_law_405 rfl (lv_at hl 3 rfl) ?_
  refine lv_iload_n hx hb dL_law_406 rfl (lv_at hl 0 rfl) ?_
  refine lv_iconst (v := 2) hx hb dL_law_407 (by decide) ?_
  refine lv_iadd hx hb dL_law_408 ?_
  refine lv_topi (fun x_9 ex_9 => ?_)
  have fx_9 : x_9.toInt = i.toInt + 2 := by rw [ex_9]; exact I_add rfl (by decide : (2 : Int32).toInt = 2) (by omega) (by omega)
  refine va_sld hx hb hXs hbl hbA hS (i := x_9) (vp_in_iff.mpr (by omega)) dL_law_409 ?_
  refine lv_topi (fun x_10 ex_10 => ?_)
  refine k_iW (k_VW (n := 2) ⟨hx, hb, hml, hown, hT⟩ hK hP hD (lift_r (X' := nX) (wr := wX g u_6) (mL_reason l g H.size v hv x_8 x_10) (fun _ _ _ _ _ _ => trivial)) (gV bw_1478 bw_1479 bw_1480 bw_840 bw_923) rfl rfl (by decide +kernel) ⟨by decide, by decide⟩ (ci := 12) rfl (List.mem_append_right _ List.mem_cons_self) (fun _ _ _ _ _ => trivial) (fun _ _ _ => trivial) rfl rfl hl.1 (Nat.le_of_ble_eq_true rfl) dL_law_410 ⟨by decide, by decide⟩) hD hS hA (fun r_11 v_12 H locs hw hP hD hS => ?_)
  obtain ⟨hv_12, hev_12, htv_12⟩ := hw
  have hl : lv_has ls 4 [(3, .int i), (2, .ref (v_12.1 0)), (1, .ref (u_6.1 0)), (0, .ref b)] := by rw [hev_12]; exact hl
  refine lv_pop hx hb dL_law_413 rfl ?_
  refine lv_goto (tgt := 1217) hx hb dL_law_414 (by decide) ?_
  obtain ⟨x_13, ex_13⟩ : ∃ y : Int32, y = i + 6 := ⟨_, rfl⟩
  have fx_13 : x_13.toInt = i.toInt + 6 := by rw [ex_13]; exact I_add rfl (by decide) (by omega) (by omega)
  refine lv_iinc (v := x_13) (lv' := [(3, .int x_13), (2, .ref (v_12.1 0)), (1, .ref (u_6.1 0)), (0, .ref b)]) hx hb dL_law_1217 hl (k := 0) rfl (by rw [ex_13]; rfl) (by decide) rfl (fun ls hl => ?_)
  refine lv_goto (tgt := 18) hx hb dL_law_1220 (by decide) ?_
  exact ih (n - 1) (by omega) H locs ls ⟨u_6, v_12, x_13, hu_6, hv_12, (htu_6.trans (htt.trans htv_12.symm)), by omega, by omega, hP, hD, hS, lv_sub hl [0, 1, 2, 3] rfl⟩
