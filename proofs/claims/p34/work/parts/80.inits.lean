-- calls with a tail of cells that no row names
section KT
variable {p : Program} {l : Launch} {e : Env} {R : Room} {s : State} {m : MethodId} {args : Array Value} {below : List Frame} {meth : Method} {c : Code} {H : Heap} {locs : List Loc} {cells slots : Nat} {Q : State → Prop}
variable {cc : ByteArray} {pc : Nat} {ls : Array Slot} {rest : List Value} {A : Nat → Prop} {ws wc wa wr T : va_W} {H0 : Heap} {g : GG} {X : State → Prop}
theorem freeT (hD : va_D A (ws ++ T)) {n : Nat} (hA : ∀ q, n ≤ q → A q) (isA : List Nat) (hC : isA.map (fun i => ws[i]?) = wa.map some) : ∀ q, va_A wa n q → A q := by
  intro q h
  rcases A_mem.mp h with ⟨e, he⟩ | he
  · have h1 : some (q, e) ∈ wa.map some := List.mem_map.mpr ⟨_, he, rfl⟩
    rw [← hC] at h1
    obtain ⟨i, -, hi⟩ := List.mem_map.mp h1
    exact (D_iff.mp hD).2 _ (List.mem_append_left _ (List.mem_of_getElem? hi))
  · exact hA q he
theorem k_vT {S : Type} {post : S → Prop} {w1 : S → va_W} {mc ms : Nat} {st0 : List Value} {a : Array Value} (hr : va_Run p l e R s m args below meth c H locs cells slots mc ms (F0 m pc ls st0) rest (va_Qv post (Qst g wa H.size w1) (va_A wa H.size) a) (va_A wa H.size))
    (hP : va_P g.1 vwCl (ws ++ T) H) (hD : va_D A (ws ++ T)) (hS : va_S A H0 H locs) (hA : ∀ q, H0.size ≤ q → A q) (isA isR : List Nat) (hC : isA.map (fun i => ws[i]?) = wa.map some) (hRr : isR.map (fun i => ws[i]?) = wr.map some) (hn : va_nd isR = true) (hdis : ∀ i ∈ isR, i ∉ isA)
    (kk : ∀ (u : S) (H1 : Heap) (locs1 : List Loc), post u → va_P g.1 vwCl ((wr ++ w1 u) ++ T) H1 → va_D A ((wr ++ w1 u) ++ T) → va_S A H0 H1 locs1 → W p l e R s m args below meth c H1 locs1 (cells + mc) (slots + ms) Q (F0 m (pc + 3) ls rest)) : W p l e R s m args below meth c H locs cells slots Q (F0 m pc ls st0) := by
  have hF : ∀ q, va_A wa H.size q → A q := freeT hD (fun q h => hA q (Nat.le_trans hS.1 h)) isA hC
  refine va_callv hr hS (fun q _ h => hF q h) hF (fun u t H1 locs1 ht hvm hw hB hz1 hk1 hS1 => ?_)
  obtain ⟨hP1, hD1⟩ := hB
  rw [ht] at hP1
  obtain ⟨hP2, hD2⟩ := va_joinQ (wr := wr) (w1 := w1 u) hP hD isA isR hC hRr hn hdis hk1 hF hP1 hD1
  exact kk u H1 locs1 hw hP2 hD2 hS1
end KT
theorem pool_push {g : GG} {E : va_W} {r : SRec} {l : List SRec} : ((E ++ cS g r) ++ wS g l).Perm (E ++ wS g (l ++ [r])) := by
  rw [wS_app, wS_cons, List.append_assoc]
  have e : wS g [] = [] := rfl
  rw [e, List.append_nil]
  exact List.Perm.append_left _ List.perm_append_comm
def sr0 (a0 a1 a2 a3 a4 a5 a6 a7 : Nat) : SRec := (fun k => [a0, a1, a2, a3, a4, a5, a6, a7].getD k 0, fun _ => 0, fun _ => z0)
theorem push_row {l : List SRec} {fs : Nat → Option Nat} {i n : Nat} {r : SRec} (hn : n < 2147483648) (hl : l.length = i + n) (hf : ∀ k : Nat, k < n → fs k = (l[i + k]?).map (fun r => r.1 0)) : ∀ k : Nat, k < n + 1 → va_up fs (nI n).toNatClampNeg (some (r.1 0)) k = ((l ++ [r])[i + k]?).map (fun r => r.1 0) := by
  intro k hk
  rw [clampN n hn]
  unfold va_up
  by_cases e : k = n
  · rw [if_pos e, e, ← hl, List.getElem?_append_right (Nat.le_refl _), Nat.sub_self]; rfl
  · rw [if_neg e, hf k (by omega), List.getElem?_append_left (by omega)]
theorem keep_row {l : List SRec} {fs : Nat → Option Nat} {n : Nat} {r : SRec} (hl : n ≤ l.length) (hf : ∀ k : Nat, k < n → fs k = (l[k]?).map (fun r => r.1 0)) : ∀ k : Nat, k < n → fs k = ((l ++ [r])[k]?).map (fun r => r.1 0) := by
  intro k hk
  rw [hf k hk, List.getElem?_append_left (by omega)]
theorem ok_push {l : List SRec} {r : SRec} (h : ∀ z ∈ l, SOk z) (hr : SOk r) : ∀ z ∈ l ++ [r], SOk z := by
  intro z hz
  rcases List.mem_append.mp hz with q | q
  · exact h z q
  · rw [List.mem_singleton.mp q]; exact hr

set_option maxHeartbeats 40000000 in
set_option maxRecDepth 100000 in
theorem c_J0_coder_7d493 (l : Launch) (g : GG) (sz : Nat) (aV : Nat) (fb : Nat → Int32) : Met l yJ0_coder_7d493 (.code yJ0_coder_7d493 cJ0_coder_7d493 1 (some .byte) :: gT) ({ frames := 0, cells := 0, slots := 0, locals := 0 }) (va_Pc [.ref g.2.2.2.2.2.2.1] (Pst g sz [] (sX g.2.2.2.2.2.2.1 109 aV fb (va_A [] sz)))) (va_Qi (fun (r : Int32) (_ : Unit) => r = 0) (Qst g [] sz (fun _ => [])) (va_A [] sz)) 0 0 (va_A [] sz) := by
  refine Met.ofW (cc := cJ0_coder_7d493) (maxL := 1) (ret := (some .byte)) (by decide) rfl ?_
  intro p e s m args below meth c s₁ B hml hv
  obtain ⟨rfl, hsz, hP, hK, hD0, hX⟩ := hv
  have hx := B.exec
  have hb := B.bytes
  have hr := B.returns
  have hT : ∀ w ∈ gT, w.before _ s = true := fun w h => atoms_spec (ws := .code yJ0_coder_7d493 cJ0_coder_7d493 1 (some .byte) :: gT) B.pre w (List.mem_cons_of_mem _ h)
  have hown : s.vm.findClass RJ0 = some m.cls := findClass_of_methodNamed B.named
  have hlocks := B.notSynchronized
  subst hsz
  have hD := hD0
  generalize hAe : va_A [] s.heap.size = A at hX ⊢
  have hA : ∀ q : Nat, s.heap.size ≤ q → A q := fun q h => by rw [← hAe]; exact Or.inr h
  have hS : va_S A s.heap s.heap [] := va_S.rf
  have hl := lv_entry ([.ref g.2.2.2.2.2.2.1]) (n := 1) (Nat.le_of_ble_eq_true rfl)
  rw [lg_entry_eq]
  generalize (lg_sl ([.ref g.2.2.2.2.2.2.1]) ++ List.replicate (1 - (lg_sl ([.ref g.2.2.2.2.2.2.1])).length) Slot.unset).toArray = ls at hl ⊢
  have hl : lv_has ls 1 [(0, .ref g.2.2.2.2.2.2.1)] := hl
  refine p_nH (fun H hH => ?_)
  have hP : va_P g.1 vwCl [] H := by rw [hH]; exact hP
  have hS : va_S A s.heap H [] := by rw [hH]; exact hS
  refine va_gets hx hb hX.2.2.2.2.1 hS hown (hT _ bw_554) (fun _ h9 => h9) dJ0_coder_7d493_0 ?_
  refine lv_if_eq (tgt := 13) hx hb dJ0_coder_7d493_3 (by decide) (fun c9 => absurd c9 (by decide)) (fun _ => ?_)
  refine lv_aload_n hx hb dJ0_coder_7d493_6 rfl (lv_at hl 0 rfl) ?_
  refine vk_getf hx hb hX.2.1 hS hown (hT _ bw_555) (fun _ h9 => h9) dJ0_coder_7d493_7 ?_
  refine lv_goto (tgt := 14) hx hb dJ0_coder_7d493_10 (by decide) ?_
  have hP9 : va_P g.1 vwCl [] H := hP.sub [] rfl
  have hD9 : va_D A [] := ⟨fun i j p q h => by simp at h, fun k q h => by simp at h⟩
  exact W.zret (v := 0) (ty := .byte) hx hb hr rfl (fun t ht hW => ⟨⟨0, (), rfl, rfl, by rw [ht]; exact hP9, by rw [hAe]; exact hD9⟩, hS.F ht⟩) hS.2.2 dJ0_coder_7d493_14

set_option maxHeartbeats 40000000 in
set_option maxRecDepth 100000 in
theorem c_J0_isLatin1_aae02 (l : Launch) (g : GG) (sz : Nat) (aV : Nat) (fb : Nat → Int32) : Met l yJ0_isLatin1_aae02 (.code yJ0_isLatin1_aae02 cJ0_isLatin1_aae02 1 (some .boolean) :: gT) ({ frames := 0, cells := 0, slots := 0, locals := 0 }) (va_Pc [.ref g.2.2.2.2.2.2.1] (Pst g sz [] (sX g.2.2.2.2.2.2.1 109 aV fb (va_A [] sz)))) (va_Qi (fun (r : Int32) (_ : Unit) => r = 1) (Qst g [] sz (fun _ => [])) (va_A [] sz)) 0 0 (va_A [] sz) := by
  refine Met.ofW (cc := cJ0_isLatin1_aae02) (maxL := 1) (ret := (some .boolean)) (by decide) rfl ?_
  intro p e s m args below meth c s₁ B hml hv
  obtain ⟨rfl, hsz, hP, hK, hD0, hX⟩ := hv
  have hx := B.exec
  have hb := B.bytes
  have hr := B.returns
  have hT : ∀ w ∈ gT, w.before _ s = true := fun w h => atoms_spec (ws := .code yJ0_isLatin1_aae02 cJ0_isLatin1_aae02 1 (some .boolean) :: gT) B.pre w (List.mem_cons_of_mem _ h)
  have hown : s.vm.findClass RJ0 = some m.cls := findClass_of_methodNamed B.named
  have hlocks := B.notSynchronized
  subst hsz
  have hD := hD0
  generalize hAe : va_A [] s.heap.size = A at hX ⊢
  have hA : ∀ q : Nat, s.heap.size ≤ q → A q := fun q h => by rw [← hAe]; exact Or.inr h
  have hS : va_S A s.heap s.heap [] := va_S.rf
  have hl := lv_entry ([.ref g.2.2.2.2.2.2.1]) (n := 1) (Nat.le_of_ble_eq_true rfl)
  rw [lg_entry_eq]
  generalize (lg_sl ([.ref g.2.2.2.2.2.2.1]) ++ List.replicate (1 - (lg_sl ([.ref g.2.2.2.2.2.2.1])).length) Slot.unset).toArray = ls at hl ⊢
  have hl : lv_has ls 1 [(0, .ref g.2.2.2.2.2.2.1)] := hl
  refine p_nH (fun H hH => ?_)
  have hP : va_P g.1 vwCl [] H := by rw [hH]; exact hP
  have hS : va_S A s.heap H [] := by rw [hH]; exact hS
  refine va_gets hx hb hX.2.2.2.2.1 hS hown (hT _ bw_554) (fun _ h9 => h9) dJ0_isLatin1_aae02_0 ?_
  refine lv_if_eq (tgt := 17) hx hb dJ0_isLatin1_aae02_3 (by decide) (fun c9 => absurd c9 (by decide)) (fun _ => ?_)
  refine lv_aload_n hx hb dJ0_isLatin1_aae02_6 rfl (lv_at hl 0 rfl) ?_
  refine vk_getf hx hb hX.2.1 hS hown (hT _ bw_555) (fun _ h9 => h9) dJ0_isLatin1_aae02_7 ?_
  refine lv_if_ne (tgt := 17) hx hb dJ0_isLatin1_aae02_10 (by decide) (fun c9 => absurd (by decide) c9) (fun _ => ?_)
  refine lv_iconst (v := 1) hx hb dJ0_isLatin1_aae02_13 (by decide) ?_
  refine lv_goto (tgt := 18) hx hb dJ0_isLatin1_aae02_14 (by decide) ?_
  have hP9 : va_P g.1 vwCl [] H := hP.sub [] rfl
  have hD9 : va_D A [] := ⟨fun i j p q h => by simp at h, fun k q h => by simp at h⟩
  exact W.zret (v := 1) (ty := .boolean) hx hb hr rfl (fun t ht hW => ⟨⟨1, (), rfl, rfl, by rw [ht]; exact hP9, by rw [hAe]; exact hD9⟩, hS.F ht⟩) hS.2.2 dJ0_isLatin1_aae02_18

set_option maxHeartbeats 40000000 in
set_option maxRecDepth 100000 in
theorem c_J0_length_8abf5 (l : Launch) (g : GG) (sz : Nat) (aV : Nat) (fb : Nat → Int32) : Met l yJ0_length_8abf5 (.code yJ0_length_8abf5 cJ0_length_8abf5 1 (some .int) :: gT) ({ frames := 1, cells := 0, slots := 0, locals := 20 }) (va_Pc [.ref g.2.2.2.2.2.2.1] (Pst g sz [] (sX g.2.2.2.2.2.2.1 109 aV fb (va_A [] sz)))) (va_Qi (fun (r : Int32) (_ : Unit) => r = 109) (Qst g [] sz (fun _ => [])) (va_A [] sz)) 0 0 (va_A [] sz) := by
  refine Met.ofW (cc := cJ0_length_8abf5) (maxL := 1) (ret := (some .int)) (by decide) rfl ?_
  intro p e s m args below meth c s₁ B hml hv
  obtain ⟨rfl, hsz, hP, hK, hD0, hX⟩ := hv
  have hx := B.exec
  have hb := B.bytes
  have hr := B.returns
  have hT : ∀ w ∈ gT, w.before _ s = true := fun w h => atoms_spec (ws := .code yJ0_length_8abf5 cJ0_length_8abf5 1 (some .int) :: gT) B.pre w (List.mem_cons_of_mem _ h)
  have hown : s.vm.findClass RJ0 = some m.cls := findClass_of_methodNamed B.named
  have hlocks := B.notSynchronized
  subst hsz
  have hD := hD0
  generalize hAe : va_A [] s.heap.size = A at hX ⊢
  have hA : ∀ q : Nat, s.heap.size ≤ q → A q := fun q h => by rw [← hAe]; exact Or.inr h
  have hS : va_S A s.heap s.heap [] := va_S.rf
  have hl := lv_entry ([.ref g.2.2.2.2.2.2.1]) (n := 1) (Nat.le_of_ble_eq_true rfl)
  rw [lg_entry_eq]
  generalize (lg_sl ([.ref g.2.2.2.2.2.2.1]) ++ List.replicate (1 - (lg_sl ([.ref g.2.2.2.2.2.2.1])).length) Slot.unset).toArray = ls at hl ⊢
  have hl : lv_has ls 1 [(0, .ref g.2.2.2.2.2.2.1)] := hl
  refine p_nH (fun H hH => ?_)
  have hP : va_P g.1 vwCl [] H := by rw [hH]; exact hP
  have hS : va_S A s.heap H [] := by rw [hH]; exact hS
  refine lv_aload_n hx hb dJ0_length_8abf5_0 rfl (lv_at hl 0 rfl) ?_
  refine vk_getf hx hb hX.2.2.1 hS hown (hT _ bw_558) (fun _ h9 => h9) dJ0_length_8abf5_1 ?_
  refine va_tlen (v := 109) hx hb hX.2.2.2.1 hS (by decide) dJ0_length_8abf5_4 ?_
  refine lv_aload_n hx hb dJ0_length_8abf5_5 rfl (lv_at hl 0 rfl) ?_
  refine k_iR (k_Vs (n := 0) ⟨hx, hb, hml, hown, hT⟩ hK hP hD [] rfl (by decide +kernel) (c_J0_coder_7d493 l g H.size aV fb) (gV bw_559 bw_560 bw_561 bw_562 bw_556) rfl rfl (by decide +kernel) ⟨by decide, by decide⟩ (s_recv hX hS) sX.calling (hX.go hS (va_A0 hS hA)) rfl rfl hl.1 (Nat.le_of_ble_eq_true rfl) dJ0_length_8abf5_6 ⟨by decide, by decide⟩) hP hS hA (fun r_1 _ H locs hw hP hS => ?_)
  have hw : r_1 = 0 := hw
  subst hw
  refine lv_ishr hx hb dJ0_length_8abf5_9 ?_
  refine p_ti (v := 109) (by decide +kernel) ?_
  have hP9 : va_P g.1 vwCl [] H := hP.sub [] rfl
  have hD9 : va_D A [] := ⟨fun i j p q h => by simp at h, fun k q h => by simp at h⟩
  exact W.iret (v := 109) hx hb hr (fun t ht hW => ⟨⟨109, (), rfl, rfl, by rw [ht]; exact hP9, by rw [hAe]; exact hD9⟩, hS.F ht⟩) hS.2.2 dJ0_length_8abf5_10

theorem bw_1323 : Cond.code yJ3_checkIndex_8e157 cJ3_checkIndex_8e157 3 (some .int) ∈ gT := gT_tb 72 (by decide +kernel) (by decide +kernel)
theorem dJ3_checkIndex_8e157_0 : decode cJ3_checkIndex_8e157 0 = .ok (.iload_n 0, 1) := by decide +kernel
theorem dJ3_checkIndex_8e157_1 : decode cJ3_checkIndex_8e157 1 = .ok (.ifCond .lt 8, 3) := by decide +kernel
theorem dJ3_checkIndex_8e157_4 : decode cJ3_checkIndex_8e157 4 = .ok (.iload_n 0, 1) := by decide +kernel
theorem dJ3_checkIndex_8e157_5 : decode cJ3_checkIndex_8e157 5 = .ok (.iload_n 1, 1) := by decide +kernel
theorem dJ3_checkIndex_8e157_6 : decode cJ3_checkIndex_8e157 6 = .ok (.if_icmp .lt 10, 3) := by decide +kernel
theorem dJ3_checkIndex_8e157_16 : decode cJ3_checkIndex_8e157 16 = .ok (.iload_n 0, 1) := by decide +kernel
theorem dJ3_checkIndex_8e157_17 : decode cJ3_checkIndex_8e157 17 = .ok (.ireturn, 1) := by decide +kernel
set_option maxHeartbeats 40000000 in
set_option maxRecDepth 100000 in
theorem c_J3_checkIndex_8e157_n (l : Launch) (g : GG) (sz : Nat) (p0 : Int32) (h0 : ¬ p0 < 0) (h1 : p0 < 109) : Met l yJ3_checkIndex_8e157 (.code yJ3_checkIndex_8e157 cJ3_checkIndex_8e157 3 (some .int) :: gT) ({ frames := 0, cells := 0, slots := 0, locals := 0 }) (va_Pc [.int p0, .int 109, .null] (Pst g sz [] nX)) (va_Qi (fun (r : Int32) (_ : Unit) => r = p0) (Qst g [] sz (fun _ => [])) (va_A [] sz)) 0 0 (va_A [] sz) := by
  refine Met.ofW (cc := cJ3_checkIndex_8e157) (maxL := 3) (ret := (some .int)) (by decide) rfl ?_
  intro p e s m args below meth c s₁ B hml hv
  obtain ⟨rfl, hsz, hP, hK, hD0, hX⟩ := hv
  have hx := B.exec
  have hb := B.bytes
  have hr := B.returns
  have hT : ∀ w ∈ gT, w.before _ s = true := fun w h => atoms_spec (ws := .code yJ3_checkIndex_8e157 cJ3_checkIndex_8e157 3 (some .int) :: gT) B.pre w (List.mem_cons_of_mem _ h)
  have hown : s.vm.findClass RJ3 = some m.cls := findClass_of_methodNamed B.named
  have hlocks := B.notSynchronized
  subst hsz
  have hD := hD0
  generalize hAe : va_A [] s.heap.size = A at ⊢
  have hA : ∀ q : Nat, s.heap.size ≤ q → A q := fun q h => by rw [← hAe]; exact Or.inr h
  have hS : va_S A s.heap s.heap [] := va_S.rf
  have hl := lv_entry ([.int p0, .int 109, .null]) (n := 3) (Nat.le_of_ble_eq_true rfl)
  rw [lg_entry_eq]
  generalize (lg_sl ([.int p0, .int 109, .null]) ++ List.replicate (3 - (lg_sl ([.int p0, .int 109, .null])).length) Slot.unset).toArray = ls at hl ⊢
  have hl : lv_has ls 3 [(0, .int p0), (1, .int 109), (2, .null)] := hl
  refine p_nH (fun H hH => ?_)
  have hP : va_P g.1 vwCl [] H := by rw [hH]; exact hP
  have hS : va_S A s.heap H [] := by rw [hH]; exact hS
  refine lv_iload_n hx hb dJ3_checkIndex_8e157_0 rfl (lv_at hl 0 rfl) ?_
  refine lv_if_lt (tgt := 9) hx hb dJ3_checkIndex_8e157_1 (by decide) (fun c9 => absurd c9 (by have e0 : (0 : Int32).toInt = 0 := (by decide); have e1 : (109 : Int32).toInt = 109 := (by decide); simp only [Int32.lt_iff_toInt_lt, Int32.le_iff_toInt_le, ← Int32.toInt_inj, e0, e1] at h0 h1 ⊢; omega)) (fun _ => ?_)
  refine lv_iload_n hx hb dJ3_checkIndex_8e157_4 rfl (lv_at hl 0 rfl) ?_
  refine lv_iload_n hx hb dJ3_checkIndex_8e157_5 rfl (lv_at hl 1 rfl) ?_
  refine lv_icmp_lt (tgt := 16) hx hb dJ3_checkIndex_8e157_6 (by decide) (fun _ => ?_) (fun c9 => absurd (by have e0 : (0 : Int32).toInt = 0 := (by decide); have e1 : (109 : Int32).toInt = 109 := (by decide); simp only [Int32.lt_iff_toInt_lt, Int32.le_iff_toInt_le, ← Int32.toInt_inj, e0, e1] at h0 h1 ⊢; omega) c9)
  refine lv_iload_n hx hb dJ3_checkIndex_8e157_16 rfl (lv_at hl 0 rfl) ?_
  have hP9 : va_P g.1 vwCl [] H := hP.sub [] rfl
  have hD9 : va_D A [] := ⟨fun i j p q h => by simp at h, fun k q h => by simp at h⟩
  exact W.iret (v := p0) hx hb hr (fun t ht hW => ⟨⟨p0, (), rfl, rfl, by rw [ht]; exact hP9, by rw [hAe]; exact hD9⟩, hS.F ht⟩) hS.2.2 dJ3_checkIndex_8e157_17

set_option maxHeartbeats 40000000 in
set_option maxRecDepth 100000 in
theorem c_J3_checkIndex_8e157_r (l : Launch) (g : GG) (sz : Nat) (p0 : Int32) (tq : Nat) (h0 : ¬ p0 < 0) (h1 : p0 < 109) : Met l yJ3_checkIndex_8e157 (.code yJ3_checkIndex_8e157 cJ3_checkIndex_8e157 3 (some .int) :: gT) ({ frames := 0, cells := 0, slots := 0, locals := 0 }) (va_Pc [.int p0, .int 109, .ref tq] (Pst g sz [] nX)) (va_Qi (fun (r : Int32) (_ : Unit) => r = p0) (Qst g [] sz (fun _ => [])) (va_A [] sz)) 0 0 (va_A [] sz) := by
  refine Met.ofW (cc := cJ3_checkIndex_8e157) (maxL := 3) (ret := (some .int)) (by decide) rfl ?_
  intro p e s m args below meth c s₁ B hml hv
  obtain ⟨rfl, hsz, hP, hK, hD0, hX⟩ := hv
  have hx := B.exec
  have hb := B.bytes
  have hr := B.returns
  have hT : ∀ w ∈ gT, w.before _ s = true := fun w h => atoms_spec (ws := .code yJ3_checkIndex_8e157 cJ3_checkIndex_8e157 3 (some .int) :: gT) B.pre w (List.mem_cons_of_mem _ h)
  have hown : s.vm.findClass RJ3 = some m.cls := findClass_of_methodNamed B.named
  have hlocks := B.notSynchronized
  subst hsz
  have hD := hD0
  generalize hAe : va_A [] s.heap.size = A at ⊢
  have hA : ∀ q : Nat, s.heap.size ≤ q → A q := fun q h => by rw [← hAe]; exact Or.inr h
  have hS : va_S A s.heap s.heap [] := va_S.rf
  have hl := lv_entry ([.int p0, .int 109, .ref tq]) (n := 3) (Nat.le_of_ble_eq_true rfl)
  rw [lg_entry_eq]
  generalize (lg_sl ([.int p0, .int 109, .ref tq]) ++ List.replicate (3 - (lg_sl ([.int p0, .int 109, .ref tq])).length) Slot.unset).toArray = ls at hl ⊢
  have hl : lv_has ls 3 [(0, .int p0), (1, .int 109), (2, .ref tq)] := hl
  refine p_nH (fun H hH => ?_)
  have hP : va_P g.1 vwCl [] H := by rw [hH]; exact hP
  have hS : va_S A s.heap H [] := by rw [hH]; exact hS
  refine lv_iload_n hx hb dJ3_checkIndex_8e157_0 rfl (lv_at hl 0 rfl) ?_
  refine lv_if_lt (tgt := 9) hx hb dJ3_checkIndex_8e157_1 (by decide) (fun c9 => absurd c9 (by have e0 : (0 : Int32).toInt = 0 := (by decide); have e1 : (109 : Int32).toInt = 109 := (by decide); simp only [Int32.lt_iff_toInt_lt, Int32.le_iff_toInt_le, ← Int32.toInt_inj, e0, e1] at h0 h1 ⊢; omega)) (fun _ => ?_)
  refine lv_iload_n hx hb dJ3_checkIndex_8e157_4 rfl (lv_at hl 0 rfl) ?_
  refine lv_iload_n hx hb dJ3_checkIndex_8e157_5 rfl (lv_at hl 1 rfl) ?_
  refine lv_icmp_lt (tgt := 16) hx hb dJ3_checkIndex_8e157_6 (by decide) (fun _ => ?_) (fun c9 => absurd (by have e0 : (0 : Int32).toInt = 0 := (by decide); have e1 : (109 : Int32).toInt = 109 := (by decide); simp only [Int32.lt_iff_toInt_lt, Int32.le_iff_toInt_le, ← Int32.toInt_inj, e0, e1] at h0 h1 ⊢; omega) c9)
  refine lv_iload_n hx hb dJ3_checkIndex_8e157_16 rfl (lv_at hl 0 rfl) ?_
  have hP9 : va_P g.1 vwCl [] H := hP.sub [] rfl
  have hD9 : va_D A [] := ⟨fun i j p q h => by simp at h, fun k q h => by simp at h⟩
  exact W.iret (v := p0) hx hb hr (fun t ht hW => ⟨⟨p0, (), rfl, rfl, by rw [ht]; exact hP9, by rw [hAe]; exact hD9⟩, hS.F ht⟩) hS.2.2 dJ3_checkIndex_8e157_17

theorem bw_1324 : Cond.fieldLink RJ0 1053 "jdk/internal/util/Preconditions" "SIOOBE_FORMATTER" "Ljava/util/function/BiFunction;" ∈ gT := gT_tb 68 (by decide +kernel) (by decide +kernel)
theorem bw_1325 : Cond.methodLink RJ0 1059 yJ3_checkIndex_8e157 ∈ gT := gT_tb 70 (by decide +kernel) (by decide +kernel)
theorem bw_1326 : Cond.static yJ3_checkIndex_8e157 ∈ gT := gT_tb 71 (by decide +kernel) (by decide +kernel)
theorem bw_1327 : Cond.initialized yJ3_checkIndex_8e157.cls ∈ gT := gT_tb 6 (by decide +kernel) (by decide +kernel)
theorem bw_1328 : Cond.code yJ0_checkIndex_df160 cJ0_checkIndex_df160 2 none ∈ gT := gT_tb 67 (by decide +kernel) (by decide +kernel)
theorem dJ0_checkIndex_df160_0 : decode cJ0_checkIndex_df160 0 = .ok (.iload_n 0, 1) := by decide +kernel
theorem dJ0_checkIndex_df160_1 : decode cJ0_checkIndex_df160 1 = .ok (.iload_n 1, 1) := by decide +kernel
theorem dJ0_checkIndex_df160_2 : decode cJ0_checkIndex_df160 2 = .ok (.getstatic 1053, 3) := by decide +kernel
theorem dJ0_checkIndex_df160_5 : decode cJ0_checkIndex_df160 5 = .ok (.invokestatic 1059, 3) := by decide +kernel
theorem dJ0_checkIndex_df160_8 : decode cJ0_checkIndex_df160 8 = .ok (.pop, 1) := by decide +kernel
theorem dJ0_checkIndex_df160_9 : decode cJ0_checkIndex_df160 9 = .ok (.return_, 1) := by decide +kernel
set_option maxHeartbeats 40000000 in
set_option maxRecDepth 100000 in
theorem c_J0_checkIndex_df160 (l : Launch) (g : GG) (sz : Nat) (p0 : Int32) (aV : Nat) (fb : Nat → Int32) (h0 : ¬ p0 < 0) (h1 : p0 < 109) : Met l yJ0_checkIndex_df160 (.code yJ0_checkIndex_df160 cJ0_checkIndex_df160 2 none :: gT) ({ frames := 1, cells := 0, slots := 0, locals := 22 }) (va_Pc [.int p0, .int 109] (Pst g sz [] (sX g.2.2.2.2.2.2.1 109 aV fb (va_A [] sz)))) (va_Qv (fun (_ : Unit) => True) (Qst g [] sz (fun _ => [])) (va_A [] sz)) 0 0 (va_A [] sz) := by
  refine Met.ofW (cc := cJ0_checkIndex_df160) (maxL := 2) (ret := none) (by decide) rfl ?_
  intro p e s m args below meth c s₁ B hml hv
  obtain ⟨rfl, hsz, hP, hK, hD0, hX⟩ := hv
  have hx := B.exec
  have hb := B.bytes
  have hr := B.returns
  have hT : ∀ w ∈ gT, w.before _ s = true := fun w h => atoms_spec (ws := .code yJ0_checkIndex_df160 cJ0_checkIndex_df160 2 none :: gT) B.pre w (List.mem_cons_of_mem _ h)
  have hown : s.vm.findClass RJ0 = some m.cls := findClass_of_methodNamed B.named
  have hlocks := B.notSynchronized
  subst hsz
  have hD := hD0
  generalize hAe : va_A [] s.heap.size = A at hX ⊢
  have hA : ∀ q : Nat, s.heap.size ≤ q → A q := fun q h => by rw [← hAe]; exact Or.inr h
  have hS : va_S A s.heap s.heap [] := va_S.rf
  have hl := lv_entry ([.int p0, .int 109]) (n := 2) (Nat.le_of_ble_eq_true rfl)
  rw [lg_entry_eq]
  generalize (lg_sl ([.int p0, .int 109]) ++ List.replicate (2 - (lg_sl ([.int p0, .int 109])).length) Slot.unset).toArray = ls at hl ⊢
  have hl : lv_has ls 2 [(0, .int p0), (1, .int 109)] := hl
  refine p_nH (fun H hH => ?_)
  have hP : va_P g.1 vwCl [] H := by rw [hH]; exact hP
  have hS : va_S A s.heap H [] := by rw [hH]; exact hS
  refine lv_iload_n hx hb dJ0_checkIndex_df160_0 rfl (lv_at hl 0 rfl) ?_
  refine lv_iload_n hx hb dJ0_checkIndex_df160_1 rfl (lv_at hl 1 rfl) ?_
  rcases hX.2.2.2.2.2 with hz | ⟨tz, hz⟩
  · refine va_gets hx hb hz hS hown (hT _ bw_1324) (fun _ h9 => h9) dJ0_checkIndex_df160_2 ?_
    refine k_iR (k_S (n := 3) ⟨hx, hb, hml, hown, hT⟩ hK hP hD [] rfl (by decide +kernel) (c_J3_checkIndex_8e157_n l g H.size p0 (by have e0 : (0 : Int32).toInt = 0 := (by decide); have e1 : (109 : Int32).toInt = 109 := (by decide); simp only [Int32.lt_iff_toInt_lt, Int32.le_iff_toInt_le, ← Int32.toInt_inj, e0, e1] at h0 h1 ⊢; omega) (by have e0 : (0 : Int32).toInt = 0 := (by decide); have e1 : (109 : Int32).toInt = 109 := (by decide); simp only [Int32.lt_iff_toInt_lt, Int32.le_iff_toInt_le, ← Int32.toInt_inj, e0, e1] at h0 h1 ⊢; omega)) (gS bw_1325 bw_1326 bw_1327 bw_1323) rfl rfl (by decide +kernel) ⟨by decide, by decide⟩ (fun _ _ _ _ _ => trivial) (fun _ _ _ => trivial) rfl rfl hl.1 (Nat.le_of_ble_eq_true rfl) dJ0_checkIndex_df160_5 ⟨by decide, by decide⟩) hP hS hA (fun r_1 _ H locs hw hP hS => ?_)
    have hw : r_1 = p0 := hw
    subst hw
    refine lv_pop hx hb dJ0_checkIndex_df160_8 rfl ?_
    have hP9 : va_P g.1 vwCl [] H := hP.sub [] rfl
    have hD9 : va_D A [] := ⟨fun i j p q h => by simp at h, fun k q h => by simp at h⟩
    exact W.vret hx hb hr (fun t ht hW => ⟨⟨(), rfl, trivial, by rw [ht]; exact hP9, by rw [hAe]; exact hD9⟩, hS.F ht⟩) hS.2.2 dJ0_checkIndex_df160_9
  · refine va_gets hx hb hz hS hown (hT _ bw_1324) (fun _ h9 => h9) dJ0_checkIndex_df160_2 ?_
    refine k_iR (k_S (n := 3) ⟨hx, hb, hml, hown, hT⟩ hK hP hD [] rfl (by decide +kernel) (c_J3_checkIndex_8e157_r l g H.size p0 tz (by have e0 : (0 : Int32).toInt = 0 := (by decide); have e1 : (109 : Int32).toInt = 109 := (by decide); simp only [Int32.lt_iff_toInt_lt, Int32.le_iff_toInt_le, ← Int32.toInt_inj, e0, e1] at h0 h1 ⊢; omega) (by have e0 : (0 : Int32).toInt = 0 := (by decide); have e1 : (109 : Int32).toInt = 109 := (by decide); simp only [Int32.lt_iff_toInt_lt, Int32.le_iff_toInt_le, ← Int32.toInt_inj, e0, e1] at h0 h1 ⊢; omega)) (gS bw_1325 bw_1326 bw_1327 bw_1323) rfl rfl (by decide +kernel) ⟨by decide, by decide⟩ (fun _ _ _ _ _ => trivial) (fun _ _ _ => trivial) rfl rfl hl.1 (Nat.le_of_ble_eq_true rfl) dJ0_checkIndex_df160_5 ⟨by decide, by decide⟩) hP hS hA (fun r_2 _ H locs hw hP hS => ?_)
    have hw : r_2 = p0 := hw
    subst hw
    refine lv_pop hx hb dJ0_checkIndex_df160_8 rfl ?_
    have hP9 : va_P g.1 vwCl [] H := hP.sub [] rfl
    have hD9 : va_D A [] := ⟨fun i j p q h => by simp at h, fun k q h => by simp at h⟩
    exact W.vret hx hb hr (fun t ht hW => ⟨⟨(), rfl, trivial, by rw [ht]; exact hP9, by rw [hAe]; exact hD9⟩, hS.F ht⟩) hS.2.2 dJ0_checkIndex_df160_9

theorem bw_1329 : Cond.methodLink RJ1 9 yJ0_checkIndex_df160 ∈ gT := gT_tb 65 (by decide +kernel) (by decide +kernel)
theorem bw_1330 : Cond.static yJ0_checkIndex_df160 ∈ gT := gT_tb 66 (by decide +kernel) (by decide +kernel)
theorem bw_1331 : Cond.initialized yJ0_checkIndex_df160.cls ∈ gT := gT_tb 4 (by decide +kernel) (by decide +kernel)
theorem bw_1332 : Cond.code yJ1_charAt_3b067 cJ1_charAt_3b067 2 (some .char) ∈ gT := gT_tb 64 (by decide +kernel) (by decide +kernel)
theorem dJ1_charAt_3b067_0 : decode cJ1_charAt_3b067 0 = .ok (.iload_n 1, 1) := by decide +kernel
theorem dJ1_charAt_3b067_1 : decode cJ1_charAt_3b067 1 = .ok (.aload_n 0, 1) := by decide +kernel
theorem dJ1_charAt_3b067_2 : decode cJ1_charAt_3b067 2 = .ok (.arraylength, 1) := by decide +kernel
theorem dJ1_charAt_3b067_3 : decode cJ1_charAt_3b067 3 = .ok (.invokestatic 9, 3) := by decide +kernel
theorem dJ1_charAt_3b067_6 : decode cJ1_charAt_3b067 6 = .ok (.aload_n 0, 1) := by decide +kernel
theorem dJ1_charAt_3b067_7 : decode cJ1_charAt_3b067 7 = .ok (.iload_n 1, 1) := by decide +kernel
theorem dJ1_charAt_3b067_8 : decode cJ1_charAt_3b067 8 = .ok (.baload, 1) := by decide +kernel
theorem dJ1_charAt_3b067_9 : decode cJ1_charAt_3b067 9 = .ok (.sipush 255, 3) := by decide +kernel
theorem dJ1_charAt_3b067_12 : decode cJ1_charAt_3b067 12 = .ok (.iand, 1) := by decide +kernel
theorem dJ1_charAt_3b067_13 : decode cJ1_charAt_3b067 13 = .ok (.i2c, 1) := by decide +kernel
theorem dJ1_charAt_3b067_14 : decode cJ1_charAt_3b067 14 = .ok (.ireturn, 1) := by decide +kernel
set_option maxHeartbeats 40000000 in
set_option maxRecDepth 100000 in
theorem c_J1_charAt_3b067 (l : Launch) (g : GG) (sz : Nat) (p0 : Int32) (aV : Nat) (fb : Nat → Int32) (h0 : ¬ p0 < 0) (h1 : p0 < 109) : Met l yJ1_charAt_3b067 (.code yJ1_charAt_3b067 cJ1_charAt_3b067 2 (some .char) :: gT) ({ frames := 2, cells := 0, slots := 0, locals := 43 }) (va_Pc [.ref aV, .int p0] (Pst g sz [] (sX g.2.2.2.2.2.2.1 109 aV fb (va_A [] sz)))) (va_Qi (fun (r : Int32) (_ : Unit) => narrow .char (.int r) = .int r) (Qst g [] sz (fun _ => [])) (va_A [] sz)) 0 0 (va_A [] sz) := by
  refine Met.ofW (cc := cJ1_charAt_3b067) (maxL := 2) (ret := (some .char)) (by decide) rfl ?_
  intro p e s m args below meth c s₁ B hml hv
  obtain ⟨rfl, hsz, hP, hK, hD0, hX⟩ := hv
  have hx := B.exec
  have hb := B.bytes
  have hr := B.returns
  have hT : ∀ w ∈ gT, w.before _ s = true := fun w h => atoms_spec (ws := .code yJ1_charAt_3b067 cJ1_charAt_3b067 2 (some .char) :: gT) B.pre w (List.mem_cons_of_mem _ h)
  have hown : s.vm.findClass RJ1 = some m.cls := findClass_of_methodNamed B.named
  have hlocks := B.notSynchronized
  subst hsz
  have hD := hD0
  generalize hAe : va_A [] s.heap.size = A at hX ⊢
  have hA : ∀ q : Nat, s.heap.size ≤ q → A q := fun q h => by rw [← hAe]; exact Or.inr h
  have hS : va_S A s.heap s.heap [] := va_S.rf
  have hl := lv_entry ([.ref aV, .int p0]) (n := 2) (Nat.le_of_ble_eq_true rfl)
  rw [lg_entry_eq]
  generalize (lg_sl ([.ref aV, .int p0]) ++ List.replicate (2 - (lg_sl ([.ref aV, .int p0])).length) Slot.unset).toArray = ls at hl ⊢
  have hl : lv_has ls 2 [(0, .ref aV), (1, .int p0)] := hl
  refine p_nH (fun H hH => ?_)
  have hP : va_P g.1 vwCl [] H := by rw [hH]; exact hP
  have hS : va_S A s.heap H [] := by rw [hH]; exact hS
  refine lv_iload_n hx hb dJ1_charAt_3b067_0 rfl (lv_at hl 1 rfl) ?_
  refine lv_aload_n hx hb dJ1_charAt_3b067_1 rfl (lv_at hl 0 rfl) ?_
  refine va_tlen (v := 109) hx hb hX.2.2.2.1 hS (by decide) dJ1_charAt_3b067_2 ?_
  refine k_vR (k_S (n := 2) ⟨hx, hb, hml, hown, hT⟩ hK hP hD [] rfl (by decide +kernel) (c_J0_checkIndex_df160 l g H.size p0 aV fb (by have e0 : (0 : Int32).toInt = 0 := (by decide); have e1 : (109 : Int32).toInt = 109 := (by decide); simp only [Int32.lt_iff_toInt_lt, Int32.le_iff_toInt_le, ← Int32.toInt_inj, e0, e1] at h0 h1 ⊢; omega) (by have e0 : (0 : Int32).toInt = 0 := (by decide); have e1 : (109 : Int32).toInt = 109 := (by decide); simp only [Int32.lt_iff_toInt_lt, Int32.le_iff_toInt_le, ← Int32.toInt_inj, e0, e1] at h0 h1 ⊢; omega)) (gS bw_1329 bw_1330 bw_1331 bw_1328) rfl rfl (by decide +kernel) ⟨by decide, by decide⟩ sX.calling (hX.go hS (va_A0 hS hA)) rfl rfl hl.1 (Nat.le_of_ble_eq_true rfl) dJ1_charAt_3b067_3 ⟨by decide, by decide⟩) hP hS hA (fun  _ H locs hw hP hS => ?_)
  refine lv_aload_n hx hb dJ1_charAt_3b067_6 rfl (lv_at hl 0 rfl) ?_
  refine lv_iload_n hx hb dJ1_charAt_3b067_7 rfl (lv_at hl 1 rfl) ?_
  refine va_tb hx hb hX.2.2.2.1 hS (vp_in_iff.mpr (by have e0 : (0 : Int32).toInt = 0 := (by decide); have e1 : (109 : Int32).toInt = 109 := (by decide); simp only [Int32.lt_iff_toInt_lt, Int32.le_iff_toInt_le, ← Int32.toInt_inj, e0, e1] at h0 h1 ⊢; omega)) rfl dJ1_charAt_3b067_8 ?_
  refine lv_topi (fun x_1 ex_1 => ?_)
  refine lv_sipush (v := 255) hx hb dJ1_charAt_3b067_9 (by decide) ?_
  refine lv_iand hx hb dJ1_charAt_3b067_12 ?_
  refine lv_topi (fun x_2 ex_2 => ?_)
  obtain ⟨x_3, ex_3⟩ : ∃ y : Int32, (x_2.toUInt32 % 65536).toInt32 = y := ⟨_, rfl⟩
  refine lv_i2c (v := x_3) hx hb dJ1_charAt_3b067_13 ex_3 ?_
  have hP9 : va_P g.1 vwCl [] H := hP.sub [] rfl
  have hD9 : va_D A [] := ⟨fun i j p q h => by simp at h, fun k q h => by simp at h⟩
  exact W.zret (v := x_3) (ty := .char) hx hb hr (by rw [← ex_3]; exact pk_nc _) (fun t ht hW => ⟨⟨x_3, (), rfl, (by rw [← ex_3]; exact pk_nc _), by rw [ht]; exact hP9, by rw [hAe]; exact hD9⟩, hS.F ht⟩) hS.2.2 dJ1_charAt_3b067_14

theorem bw_1333 : Cond.methodLink RJ0 495 yJ1_charAt_3b067 ∈ gT := gT_tb 62 (by decide +kernel) (by decide +kernel)
theorem bw_1334 : Cond.static yJ1_charAt_3b067 ∈ gT := gT_tb 63 (by decide +kernel) (by decide +kernel)
theorem bw_1335 : Cond.initialized yJ1_charAt_3b067.cls ∈ gT := gT_tb 5 (by decide +kernel) (by decide +kernel)
theorem bw_1336 : Cond.code yJ0_charAt_5068e cJ0_charAt_5068e 2 (some .char) ∈ gT := gT_tb 57 (by decide +kernel) (by decide +kernel)
theorem dJ0_charAt_5068e_0 : decode cJ0_charAt_5068e 0 = .ok (.aload_n 0, 1) := by decide +kernel
theorem dJ0_charAt_5068e_1 : decode cJ0_charAt_5068e 1 = .ok (.invokevirtual 492, 3) := by decide +kernel
theorem dJ0_charAt_5068e_4 : decode cJ0_charAt_5068e 4 = .ok (.ifCond .eq 12, 3) := by decide +kernel
theorem dJ0_charAt_5068e_7 : decode cJ0_charAt_5068e 7 = .ok (.aload_n 0, 1) := by decide +kernel
theorem dJ0_charAt_5068e_8 : decode cJ0_charAt_5068e 8 = .ok (.getfield 9, 3) := by decide +kernel
theorem dJ0_charAt_5068e_11 : decode cJ0_charAt_5068e 11 = .ok (.iload_n 1, 1) := by decide +kernel
theorem dJ0_charAt_5068e_12 : decode cJ0_charAt_5068e 12 = .ok (.invokestatic 495, 3) := by decide +kernel
theorem dJ0_charAt_5068e_15 : decode cJ0_charAt_5068e 15 = .ok (.ireturn, 1) := by decide +kernel
set_option maxHeartbeats 40000000 in
set_option maxRecDepth 100000 in
theorem c_J0_charAt_5068e (l : Launch) (g : GG) (sz : Nat) (p0 : Int32) (aV : Nat) (fb : Nat → Int32) (h0 : ¬ p0 < 0) (h1 : p0 < 109) : Met l yJ0_charAt_5068e (.code yJ0_charAt_5068e cJ0_charAt_5068e 2 (some .char) :: gT) ({ frames := 3, cells := 0, slots := 0, locals := 64 }) (va_Pc [.ref g.2.2.2.2.2.2.1, .int p0] (Pst g sz [] (sX g.2.2.2.2.2.2.1 109 aV fb (va_A [] sz)))) (va_Qi (fun (r : Int32) (_ : Unit) => narrow .char (.int r) = .int r) (Qst g [] sz (fun _ => [])) (va_A [] sz)) 0 0 (va_A [] sz) := by
  refine Met.ofW (cc := cJ0_charAt_5068e) (maxL := 2) (ret := (some .char)) (by decide) rfl ?_
  intro p e s m args below meth c s₁ B hml hv
  obtain ⟨rfl, hsz, hP, hK, hD0, hX⟩ := hv
  have hx := B.exec
  have hb := B.bytes
  have hr := B.returns
  have hT : ∀ w ∈ gT, w.before _ s = true := fun w h => atoms_spec (ws := .code yJ0_charAt_5068e cJ0_charAt_5068e 2 (some .char) :: gT) B.pre w (List.mem_cons_of_mem _ h)
  have hown : s.vm.findClass RJ0 = some m.cls := findClass_of_methodNamed B.named
  have hlocks := B.notSynchronized
  subst hsz
  have hD := hD0
  generalize hAe : va_A [] s.heap.size = A at hX ⊢
  have hA : ∀ q : Nat, s.heap.size ≤ q → A q := fun q h => by rw [← hAe]; exact Or.inr h
  have hS : va_S A s.heap s.heap [] := va_S.rf
  have hl := lv_entry ([.ref g.2.2.2.2.2.2.1, .int p0]) (n := 2) (Nat.le_of_ble_eq_true rfl)
  rw [lg_entry_eq]
  generalize (lg_sl ([.ref g.2.2.2.2.2.2.1, .int p0]) ++ List.replicate (2 - (lg_sl ([.ref g.2.2.2.2.2.2.1, .int p0])).length) Slot.unset).toArray = ls at hl ⊢
  have hl : lv_has ls 2 [(0, .ref g.2.2.2.2.2.2.1), (1, .int p0)] := hl
  refine p_nH (fun H hH => ?_)
  have hP : va_P g.1 vwCl [] H := by rw [hH]; exact hP
  have hS : va_S A s.heap H [] := by rw [hH]; exact hS
  refine lv_aload_n hx hb dJ0_charAt_5068e_0 rfl (lv_at hl 0 rfl) ?_
  refine k_iR (k_Vs (n := 0) ⟨hx, hb, hml, hown, hT⟩ hK hP hD [] rfl (by decide +kernel) (c_J0_isLatin1_aae02 l g H.size aV fb) (gV bw_575 bw_576 bw_577 bw_562 bw_557) rfl rfl (by decide +kernel) ⟨by decide, by decide⟩ (s_recv hX hS) sX.calling (hX.go hS (va_A0 hS hA)) rfl rfl hl.1 (Nat.le_of_ble_eq_true rfl) dJ0_charAt_5068e_1 ⟨by decide, by decide⟩) hP hS hA (fun r_1 _ H locs hw hP hS => ?_)
  have hw : r_1 = 1 := hw
  subst hw
  refine lv_if_eq (tgt := 16) hx hb dJ0_charAt_5068e_4 (by decide) (fun c9 => absurd c9 (by decide)) (fun _ => ?_)
  refine lv_aload_n hx hb dJ0_charAt_5068e_7 rfl (lv_at hl 0 rfl) ?_
  refine vk_getf hx hb hX.2.2.1 hS hown (hT _ bw_558) (fun _ h9 => h9) dJ0_charAt_5068e_8 ?_
  refine lv_iload_n hx hb dJ0_charAt_5068e_11 rfl (lv_at hl 1 rfl) ?_
  refine k_iR (k_S (n := 2) ⟨hx, hb, hml, hown, hT⟩ hK hP hD [] rfl (by decide +kernel) (c_J1_charAt_3b067 l g H.size p0 aV fb (by have e0 : (0 : Int32).toInt = 0 := (by decide); have e1 : (109 : Int32).toInt = 109 := (by decide); simp only [Int32.lt_iff_toInt_lt, Int32.le_iff_toInt_le, ← Int32.toInt_inj, e0, e1] at h0 h1 ⊢; omega) (by have e0 : (0 : Int32).toInt = 0 := (by decide); have e1 : (109 : Int32).toInt = 109 := (by decide); simp only [Int32.lt_iff_toInt_lt, Int32.le_iff_toInt_le, ← Int32.toInt_inj, e0, e1] at h0 h1 ⊢; omega)) (gS bw_1333 bw_1334 bw_1335 bw_1332) rfl rfl (by decide +kernel) ⟨by decide, by decide⟩ sX.calling (hX.go hS (va_A0 hS hA)) rfl rfl hl.1 (Nat.le_of_ble_eq_true rfl) dJ0_charAt_5068e_12 ⟨by decide, by decide⟩) hP hS hA (fun r_2 _ H locs hw hP hS => ?_)
  have hP9 : va_P g.1 vwCl [] H := hP.sub [] rfl
  have hD9 : va_D A [] := ⟨fun i j p q h => by simp at h, fun k q h => by simp at h⟩
  exact W.zret (v := r_2) (ty := .char) hx hb hr hw (fun t ht hW => ⟨⟨r_2, (), rfl, hw, by rw [ht]; exact hP9, by rw [hAe]; exact hD9⟩, hS.F ht⟩) hS.2.2 dJ0_charAt_5068e_15

set_option maxHeartbeats 40000000 in
set_option maxRecDepth 100000 in
theorem c_X10_withLetter (l : Launch) (g : GG) (sz : Nat) (z0_ : Int64) (p0 : Int32) : Met l yX10_withLetter (.code yX10_withLetter cX10_withLetter 3 (some .long) :: gT) ({ frames := 0, cells := 0, slots := 0, locals := 0 }) (va_Pc [.long z0_, .int p0] (Pst g sz [] nX)) (va_Ql (fun (r : Int64) (_ : Unit) => True) (Qst g [] sz (fun _ => [])) (va_A [] sz)) 0 0 (va_A [] sz) := by
  refine Met.ofW (cc := cX10_withLetter) (maxL := 3) (ret := (some .long)) (by decide) rfl ?_
  intro p e s m args below meth c s₁ B hml hv
  obtain ⟨rfl, hsz, hP, hK, hD0, hX⟩ := hv
  have hx := B.exec
  have hb := B.bytes
  have hr := B.returns
  have hT : ∀ w ∈ gT, w.before _ s = true := fun w h => atoms_spec (ws := .code yX10_withLetter cX10_withLetter 3 (some .long) :: gT) B.pre w (List.mem_cons_of_mem _ h)
  have hown : s.vm.findClass RX10 = some m.cls := findClass_of_methodNamed B.named
  have hlocks := B.notSynchronized
  subst hsz
  have hD := hD0
  generalize hAe : va_A [] s.heap.size = A at ⊢
  have hA : ∀ q : Nat, s.heap.size ≤ q → A q := fun q h => by rw [← hAe]; exact Or.inr h
  have hS : va_S A s.heap s.heap [] := va_S.rf
  have hl := lv_entry ([.long z0_, .int p0]) (n := 3) (Nat.le_of_ble_eq_true rfl)
  rw [lg_entry_eq]
  generalize (lg_sl ([.long z0_, .int p0]) ++ List.replicate (3 - (lg_sl ([.long z0_, .int p0])).length) Slot.unset).toArray = ls at hl ⊢
  have hl : lv_has ls 3 [(0, .long z0_), (2, .int p0)] := hl
  refine p_nH (fun H hH => ?_)
  have hP : va_P g.1 vwCl [] H := by rw [hH]; exact hP
  have hS : va_S A s.heap H [] := by rw [hH]; exact hS
  refine lv_lload_n hx hb dX10_withLetter_0 rfl (lv_at hl 0 rfl) ?_
  refine lv_ldc2 (v := 32) hx hb hown (hT _ bw_407) dX10_withLetter_1 ?_
  refine lv_lmul hx hb dX10_withLetter_4 ?_
  refine lv_topl (fun x_1 ex_1 => ?_)
  refine lv_iload_n hx hb dX10_withLetter_5 rfl (lv_at hl 1 rfl) ?_
  refine lv_bipush (v := 97) hx hb dX10_withLetter_6 (by decide) ?_
  refine lv_isub hx hb dX10_withLetter_8 ?_
  refine lv_topi (fun x_2 ex_2 => ?_)
  refine lv_iconst (v := 1) hx hb dX10_withLetter_9 (by decide) ?_
  refine lv_iadd hx hb dX10_withLetter_10 ?_
  refine lv_topi (fun x_3 ex_3 => ?_)
  obtain ⟨x_4, ex_4⟩ : ∃ y : Int64, x_3.toInt64 = y := ⟨_, rfl⟩
  refine lv_i2l (v := x_4) hx hb dX10_withLetter_11 ex_4 ?_
  refine lv_ladd hx hb dX10_withLetter_12 ?_
  refine lv_topl (fun x_5 ex_5 => ?_)
  have hP9 : va_P g.1 vwCl [] H := hP.sub [] rfl
  have hD9 : va_D A [] := ⟨fun i j p q h => by simp at h, fun k q h => by simp at h⟩
  exact W.lret (v := x_5) hx hb hr (fun t ht hW => ⟨⟨x_5, (), rfl, trivial, by rw [ht]; exact hP9, by rw [hAe]; exact hD9⟩, hS.F ht⟩) hS.2.2 dX10_withLetter_13

theorem bw_1337 : Cond.methodLink RX10 3 objectInit ∈ gT := gT_tb 42 (by decide +kernel) (by decide +kernel)
theorem bw_1338 : Cond.instanceMethod objectInit ∈ gT := gT_tb 29 (by decide +kernel) (by decide +kernel)
theorem bw_1339 : Cond.code objectInit ⟨#[0xb1]⟩ 1 none ∈ gT := gT_tb 30 (by decide +kernel) (by decide +kernel)
theorem bw_1340 : Cond.arrayClass .long ∈ gT := gT_tb 126 (by decide +kernel) (by decide +kernel)
theorem bw_1341 : Cond.methodLink RX10 17 yJ0_length_8abf5 ∈ gT := gT_tb 44 (by decide +kernel) (by decide +kernel)
theorem bw_1342 : Cond.methodLink RX10 23 yJ0_charAt_5068e ∈ gT := gT_tb 54 (by decide +kernel) (by decide +kernel)
theorem bw_1343 : Cond.instanceMethod yJ0_charAt_5068e ∈ gT := gT_tb 55 (by decide +kernel) (by decide +kernel)
theorem bw_1344 : Cond.selects RJ0 yJ0_charAt_5068e yJ0_charAt_5068e ∈ gT := gT_tb 56 (by decide +kernel) (by decide +kernel)
theorem bw_1345 : Cond.code yX10_init cX10_init 5 none ∈ gT := gT_tb 41 (by decide +kernel) (by decide +kernel)
theorem dX10_init_0 : decode cX10_init 0 = .ok (.aload_n 0, 1) := by decide +kernel
theorem dX10_init_1 : decode cX10_init 1 = .ok (.invokespecial 3, 3) := by decide +kernel
theorem dX10_init_4 : decode cX10_init 4 = .ok (.aload_n 0, 1) := by decide +kernel
theorem dX10_init_5 : decode cX10_init 5 = .ok (.bipush 24, 2) := by decide +kernel
theorem dX10_init_7 : decode cX10_init 7 = .ok (.newarray .long, 2) := by decide +kernel
theorem dX10_init_9 : decode cX10_init 9 = .ok (.putfield 9, 3) := by decide +kernel
theorem dX10_init_12 : decode cX10_init 12 = .ok (.iconst 0, 1) := by decide +kernel
theorem dX10_init_13 : decode cX10_init 13 = .ok (.istore_n 1, 1) := by decide +kernel
theorem dX10_init_14 : decode cX10_init 14 = .ok (.iconst 0, 1) := by decide +kernel
theorem dX10_init_15 : decode cX10_init 15 = .ok (.istore_n 2, 1) := by decide +kernel
theorem dX10_init_16 : decode cX10_init 16 = .ok (.iload_n 2, 1) := by decide +kernel
theorem dX10_init_17 : decode cX10_init 17 = .ok (.bipush 24, 2) := by decide +kernel
theorem dX10_init_19 : decode cX10_init 19 = .ok (.if_icmp .ge 58, 3) := by decide +kernel
theorem dX10_init_22 : decode cX10_init 22 = .ok (.lconst 0, 1) := by decide +kernel
theorem dX10_init_23 : decode cX10_init 23 = .ok (.lstore_n 3, 1) := by decide +kernel
theorem dX10_init_24 : decode cX10_init 24 = .ok (.iload_n 1, 1) := by decide +kernel
theorem dX10_init_25 : decode cX10_init 25 = .ok (.ldc 15, 2) := by decide +kernel
theorem dX10_init_27 : decode cX10_init 27 = .ok (.invokevirtual 17, 3) := by decide +kernel
theorem dX10_init_30 : decode cX10_init 30 = .ok (.if_icmp .ge 31, 3) := by decide +kernel
theorem dX10_init_33 : decode cX10_init 33 = .ok (.ldc 15, 2) := by decide +kernel
theorem dX10_init_35 : decode cX10_init 35 = .ok (.iload_n 1, 1) := by decide +kernel
theorem dX10_init_36 : decode cX10_init 36 = .ok (.invokevirtual 23, 3) := by decide +kernel
theorem dX10_init_39 : decode cX10_init 39 = .ok (.bipush 32, 2) := by decide +kernel
theorem dX10_init_41 : decode cX10_init 41 = .ok (.if_icmp .eq 20, 3) := by decide +kernel
theorem dX10_init_44 : decode cX10_init 44 = .ok (.lload_n 3, 1) := by decide +kernel
theorem dX10_init_45 : decode cX10_init 45 = .ok (.ldc 15, 2) := by decide +kernel
theorem dX10_init_47 : decode cX10_init 47 = .ok (.iload_n 1, 1) := by decide +kernel
theorem dX10_init_48 : decode cX10_init 48 = .ok (.invokevirtual 23, 3) := by decide +kernel
theorem dX10_init_51 : decode cX10_init 51 = .ok (.invokestatic 27, 3) := by decide +kernel
theorem dX10_init_54 : decode cX10_init 54 = .ok (.lstore_n 3, 1) := by decide +kernel
theorem dX10_init_55 : decode cX10_init 55 = .ok (.iinc 1 1, 3) := by decide +kernel
theorem dX10_init_58 : decode cX10_init 58 = .ok (.goto (-34), 3) := by decide +kernel
theorem dX10_init_61 : decode cX10_init 61 = .ok (.aload_n 0, 1) := by decide +kernel
theorem dX10_init_62 : decode cX10_init 62 = .ok (.getfield 9, 3) := by decide +kernel
theorem dX10_init_65 : decode cX10_init 65 = .ok (.iload_n 2, 1) := by decide +kernel
theorem dX10_init_66 : decode cX10_init 66 = .ok (.lload_n 3, 1) := by decide +kernel
theorem dX10_init_67 : decode cX10_init 67 = .ok (.lastore, 1) := by decide +kernel
theorem dX10_init_68 : decode cX10_init 68 = .ok (.iinc 1 1, 3) := by decide +kernel
theorem dX10_init_71 : decode cX10_init 71 = .ok (.iinc 2 1, 3) := by decide +kernel
theorem dX10_init_74 : decode cX10_init 74 = .ok (.goto (-58), 3) := by decide +kernel
theorem dX10_init_77 : decode cX10_init 77 = .ok (.return_, 1) := by decide +kernel
set_option maxHeartbeats 40000000 in
set_option maxRecDepth 100000 in
theorem c_X10_init (l : Launch) (g : GG) (sz : Nat) (h : Nat) (aV : Nat) (fb : Nat → Int32) : Met l yX10_init (.code yX10_init cX10_init 5 none :: gT) ({ frames := 4, cells := 1, slots := 24, locals := 85 }) (va_Pc [.ref h] (Pst g sz [(h, .inr (10, [.int 0, .int 0, .int 0, .long 0, .null, .int 0, .int 0, .null]))] (sX g.2.2.2.2.2.2.1 109 aV fb (va_A [(h, .inr (10, [.int 0, .int 0, .int 0, .long 0, .null, .int 0, .int 0, .null]))] sz)))) (va_Qv (fun (_ : Nat × (Nat → Int64)) => True) (Qst g [(h, .inr (10, [.int 0, .int 0, .int 0, .long 0, .null, .int 0, .int 0, .null]))] sz (fun ((q_1, f) : Nat × (Nat → Int64)) => [(h, .inr (10, [.int 0, .int 0, .int 0, .long 0, .null, .int 0, .int 0, .ref q_1])), (q_1, aJ g 24 f)])) (va_A [(h, .inr (10, [.int 0, .int 0, .int 0, .long 0, .null, .int 0, .int 0, .null]))] sz)) 1 24 (va_A [(h, .inr (10, [.int 0, .int 0, .int 0, .long 0, .null, .int 0, .int 0, .null]))] sz) := by
  refine Met.ofW (cc := cX10_init) (maxL := 5) (ret := none) (by decide) rfl ?_
  intro p e s m args below meth c s₁ B hml hv
  obtain ⟨rfl, hsz, hP, hK, hD0, hX⟩ := hv
  have hx := B.exec
  have hb := B.bytes
  have hr := B.returns
  have hT : ∀ w ∈ gT, w.before _ s = true := fun w h => atoms_spec (ws := .code yX10_init cX10_init 5 none :: gT) B.pre w (List.mem_cons_of_mem _ h)
  have hown : s.vm.findClass RX10 = some m.cls := findClass_of_methodNamed B.named
  have hlocks := B.notSynchronized
  have hin : meth.name = "<init>" := (name_of_methodNamed B.named B.method).1
  subst hsz
  have hD := hD0.self (sz := s.heap.size)
  generalize hAe : va_A [(h, .inr (10, [.int 0, .int 0, .int 0, .long 0, .null, .int 0, .int 0, .null]))] s.heap.size = A at hD hX ⊢
  have hA : ∀ q : Nat, s.heap.size ≤ q → A q := fun q h => by rw [← hAe]; exact Or.inr h
  have hS : va_S A s.heap s.heap [] := va_S.rf
  have hl := lv_entry ([.ref h]) (n := 5) (Nat.le_of_ble_eq_true rfl)
  rw [lg_entry_eq]
  generalize (lg_sl ([.ref h]) ++ List.replicate (5 - (lg_sl ([.ref h])).length) Slot.unset).toArray = ls at hl ⊢
  have hl : lv_has ls 5 [(0, .ref h)] := hl
  refine p_nH (fun H hH => ?_)
  have hP : va_P g.1 vwCl [(h, .inr (10, [.int 0, .int 0, .int 0, .long 0, .null, .int 0, .int 0, .null]))] H := by rw [hH]; exact hP
  have hS : va_S A s.heap H [] := by rw [hH]; exact hS
  refine lv_aload_n hx hb dX10_init_0 rfl (lv_at hl 0 rfl) ?_
  refine W.objInit hx hb hown (hT _ bw_1337) (hT _ bw_1338) (hT _ bw_1339) rfl (by rw [hml]; exact hl.1) rfl dX10_init_1 (Nat.le_of_ble_eq_true rfl) (Nat.le_of_ble_eq_true rfl) ?_
  refine W.eq (g2 := F0 m 4 ls []) rfl ?_
  refine lv_aload_n hx hb dX10_init_4 rfl (lv_at hl 0 rfl) ?_
  refine lv_bipush (v := 24) hx hb dX10_init_5 (by decide) ?_
  refine p_newa (atype := .long) (ty := .long) hx hb (hT _ bw_1340) rfl hK.1 hP hD hS hA 2 rfl (fun _ h9 => h9) (a0 := (24, .inr (.inl zL))) (fun _ => rfl) (by decide) (N' := 24) rfl (by decide) (by decide) (by decide) dX10_init_7 (fun q_1 H hP hD hS => ?_)
  have hP : va_P g.1 vwCl [(h, .inr (10, [.int 0, .int 0, .int 0, .long 0, .null, .int 0, .int 0, .null])), (q_1, aJ g 24 zL)] H := hP
  have hD : va_D A [(h, .inr (10, [.int 0, .int 0, .int 0, .long 0, .null, .int 0, .int 0, .null])), (q_1, aJ g 24 zL)] := hD
  refine W.widen (k := 1) (n := 24) (by decide) (by decide) ?_
  refine va_putF (D := g.1) (ci := 10) (v := .ref q_1) (ty := .array .long) (C := RX10) (T := TX10) (N := 8) hx hb hT inF_X10 tyX10 tyX10_ok nmX10 hown hK.1 hP hD hS 0 rfl rfl 7 (by decide) (hT _ bw_592) (fun _ h9 => h9) rfl hin rfl (by decide +kernel) rfl rfl (Nat.le_of_ble_eq_true rfl) dX10_init_9 (fun H locs hP hD hS => ?_)
  have hP : va_P g.1 vwCl [(h, .inr (10, [.int 0, .int 0, .int 0, .long 0, .null, .int 0, .int 0, .ref q_1])), (q_1, aJ g 24 zL)] H := hP
  have hD : va_D A [(h, .inr (10, [.int 0, .int 0, .int 0, .long 0, .null, .int 0, .int 0, .ref q_1])), (q_1, aJ g 24 zL)] := hD
  refine lv_iconst (v := 0) hx hb dX10_init_12 (by decide) ?_
  refine lv_istore_n (lv' := [(1, .int 0), (0, .ref h)]) hx hb dX10_init_13 rfl hl (by decide) rfl (fun ls hl => ?_)
  refine lv_iconst (v := 0) hx hb dX10_init_14 (by decide) ?_
  refine lv_istore_n (lv' := [(2, .int 0), (1, .int 0), (0, .ref h)]) hx hb dX10_init_15 rfl hl (by decide) rfl (fun ls hl => ?_)
  refine k_loop 24 16 (fun i H locs ls => ∃ (a : Nat) (f : Nat → Int64), a ≤ 109 + i ∧ va_P g.1 vwCl [(h, .inr (10, [.int 0, .int 0, .int 0, .long 0, .null, .int 0, .int 0, .ref q_1])), (q_1, aJ g 24 f)] H ∧ va_D A [(h, .inr (10, [.int 0, .int 0, .int 0, .long 0, .null, .int 0, .int 0, .ref q_1])), (q_1, aJ g 24 f)] ∧ va_S A s.heap H locs ∧ lv_has ls 5 [(2, .int (nI i)), (1, .int (nI a)), (0, .ref h)]) (fun _ => 1) (fun _ => 24) (fun i hi H locs ls hI ih => ?_) (fun H locs ls hI => ?_) 0 (by decide) ⟨0, zL, by omega, hP, hD, hS, hl⟩
  · obtain ⟨a, f, ha, hP, hD, hS, hl⟩ := hI
    refine lv_iload_n hx hb dX10_init_16 rfl (lv_at hl 0 rfl) ?_
    refine lv_bipush (v := 24) hx hb dX10_init_17 (by decide) ?_
    refine lv_icmp_ge (tgt := 77) hx hb dX10_init_19 (by decide) (fun c9 => absurd c9 (nI_ge (b := 24) hi (by decide))) (fun _ => ?_)
    refine lv_lconst (v := 0) hx hb dX10_init_22 (by decide) ?_
    refine lv_lstore_n (lv' := [(3, .long 0), (2, .int (nI i)), (1, .int (nI a)), (0, .ref h)]) hx hb dX10_init_23 rfl hl (by decide) rfl (fun ls hl => ?_)
    refine k_floop 24 (fun n H locs ls => ∃ (a : Nat) (z : Int64), a ≤ 109 + i ∧ a + n = 300 ∧ va_P g.1 vwCl [(h, .inr (10, [.int 0, .int 0, .int 0, .long 0, .null, .int 0, .int 0, .ref q_1])), (q_1, aJ g 24 f)] H ∧ va_D A [(h, .inr (10, [.int 0, .int 0, .int 0, .long 0, .null, .int 0, .int 0, .ref q_1])), (q_1, aJ g 24 f)] ∧ va_S A s.heap H locs ∧ lv_has ls 5 [(3, .long z), (2, .int (nI i)), (1, .int (nI a)), (0, .ref h)]) (fun n H locs ls hI ih2 => ?_) (300 - a) ⟨a, 0, ha, by omega, hP, hD, hS, hl⟩
    obtain ⟨a, z, ha, hn, hP, hD, hS, hl⟩ := hI
    refine lv_iload_n hx hb dX10_init_24 rfl (lv_at hl 2 rfl) ?_
    refine va_ldcS hx hb hown (eW_tx hK.2) dX10_init_25 ?_
    refine k_iR (k_Vs (n := 0) ⟨hx, hb, hml, hown, hT⟩ hK hP hD [] rfl (by decide +kernel) (c_J0_length_8abf5 l g H.size aV fb) (gV bw_1341 bw_579 bw_580 bw_562 bw_563) rfl rfl (by decide +kernel) ⟨by decide, by decide⟩ (s_recv hX hS) sX.calling (hX.go hS (va_A0 hS hA)) rfl rfl hl.1 (Nat.le_of_ble_eq_true rfl) dX10_init_27 ⟨by decide, by decide⟩) hP hS hA (fun r_2 _ H locs hw hP hS => ?_)
    have hw : r_2 = 109 := hw
    subst hw
    refine lv_icmp_ge (tgt := 61) hx hb dX10_init_30 (by decide) (fun c_3 => ?_) (fun c_3 => ?_)
    · refine lv_aload_n hx hb dX10_init_61 rfl (lv_at hl 3 rfl) ?_
      refine va_get (D := g.1) (ci := 10) (v := .ref q_1) (C := RX10) (T := TX10) (N := 8) hx hb hT inF_X10 hown hK.1 hP 0 rfl rfl 7 (by decide) (hT _ bw_592) (fun _ h9 => h9) rfl dX10_init_62 ?_
      refine lv_iload_n hx hb dX10_init_65 rfl (lv_at hl 1 rfl) ?_
      refine lv_lload_n hx hb dX10_init_66 rfl (lv_at hl 0 rfl) ?_
      refine va_last hx hb hK.1 hP hD hS 1 2 rfl rfl (i := (nI i)) (x := z) (vp_in_nI hi (by decide)) dX10_init_67 (fun H locs hP hD hS => ?_)
      generalize vp_updL f ((nI i) : Int32).toNatClampNeg z = f_4 at hP hD
      have hP : va_P g.1 vwCl [(h, .inr (10, [.int 0, .int 0, .int 0, .long 0, .null, .int 0, .int 0, .ref q_1])), (q_1, aJ g 24 f_4)] H := hP
      have hD : va_D A [(h, .inr (10, [.int 0, .int 0, .int 0, .long 0, .null, .int 0, .int 0, .ref q_1])), (q_1, aJ g 24 f_4)] := hD
      refine lv_iinc (v := nI (a + 1)) (lv' := [(1, .int (nI (a + 1))), (3, .long z), (2, .int (nI i)), (0, .ref h)]) hx hb dX10_init_68 hl (k := 2) rfl (nI_1 a) (by decide) rfl (fun ls hl => ?_)
      refine lv_iinc (v := nI (i + 1)) (lv' := [(2, .int (nI (i + 1))), (1, .int (nI (a + 1))), (3, .long z), (0, .ref h)]) hx hb dX10_init_71 hl (k := 2) rfl (nI_1 i) (by decide) rfl (fun ls hl => ?_)
      refine lv_goto (tgt := 16) hx hb dX10_init_74 (by decide) ?_
      exact ih H locs ls ⟨_, f_4, (by omega : a + 1 ≤ 109 + (i + 1)), hP.sub [0, 1] rfl, hD.sub [0, 1] (by decide) rfl, hS, lv_sub hl [0, 1, 3] rfl⟩
    · refine va_ldcS hx hb hown (eW_tx hK.2) dX10_init_33 ?_
      refine lv_iload_n hx hb dX10_init_35 rfl (lv_at hl 2 rfl) ?_
      refine k_iR (k_Vs (n := 1) ⟨hx, hb, hml, hown, hT⟩ hK hP hD [] rfl (by decide +kernel) (c_J0_charAt_5068e l g H.size (nI a) aV fb (nI_pos (by omega)) (Int32.not_le.mp c_3)) (gV bw_1342 bw_1343 bw_1344 bw_562 bw_1336) rfl rfl (by decide +kernel) ⟨by decide, by decide⟩ (s_recv hX hS) sX.calling (hX.go hS (va_A0 hS hA)) rfl rfl hl.1 (Nat.le_of_ble_eq_true rfl) dX10_init_36 ⟨by decide, by decide⟩) hP hS hA (fun r_5 _ H locs hw hP hS => ?_)
      refine lv_bipush (v := 32) hx hb dX10_init_39 (by decide) ?_
      refine lv_icmp_eq (tgt := 61) hx hb dX10_init_41 (by decide) (fun c_6 => ?_) (fun c_6 => ?_)
      · refine lv_aload_n hx hb dX10_init_61 rfl (lv_at hl 3 rfl) ?_
        refine va_get (D := g.1) (ci := 10) (v := .ref q_1) (C := RX10) (T := TX10) (N := 8) hx hb hT inF_X10 hown hK.1 hP 0 rfl rfl 7 (by decide) (hT _ bw_592) (fun _ h9 => h9) rfl dX10_init_62 ?_
        refine lv_iload_n hx hb dX10_init_65 rfl (lv_at hl 1 rfl) ?_
        refine lv_lload_n hx hb dX10_init_66 rfl (lv_at hl 0 rfl) ?_
        refine va_last hx hb hK.1 hP hD hS 1 2 rfl rfl (i := (nI i)) (x := z) (vp_in_nI hi (by decide)) dX10_init_67 (fun H locs hP hD hS => ?_)
        generalize vp_updL f ((nI i) : Int32).toNatClampNeg z = f_7 at hP hD
        have hP : va_P g.1 vwCl [(h, .inr (10, [.int 0, .int 0, .int 0, .long 0, .null, .int 0, .int 0, .ref q_1])), (q_1, aJ g 24 f_7)] H := hP
        have hD : va_D A [(h, .inr (10, [.int 0, .int 0, .int 0, .long 0, .null, .int 0, .int 0, .ref q_1])), (q_1, aJ g 24 f_7)] := hD
        refine lv_iinc (v := nI (a + 1)) (lv' := [(1, .int (nI (a + 1))), (3, .long z), (2, .int (nI i)), (0, .ref h)]) hx hb dX10_init_68 hl (k := 2) rfl (nI_1 a) (by decide) rfl (fun ls hl => ?_)
        refine lv_iinc (v := nI (i + 1)) (lv' := [(2, .int (nI (i + 1))), (1, .int (nI (a + 1))), (3, .long z), (0, .ref h)]) hx hb dX10_init_71 hl (k := 2) rfl (nI_1 i) (by decide) rfl (fun ls hl => ?_)
        refine lv_goto (tgt := 16) hx hb dX10_init_74 (by decide) ?_
        exact ih H locs ls ⟨_, f_7, (by omega : a + 1 ≤ 109 + (i + 1)), hP.sub [0, 1] rfl, hD.sub [0, 1] (by decide) rfl, hS, lv_sub hl [0, 1, 3] rfl⟩
      · refine lv_lload_n hx hb dX10_init_44 rfl (lv_at hl 0 rfl) ?_
        refine va_ldcS hx hb hown (eW_tx hK.2) dX10_init_45 ?_
        refine lv_iload_n hx hb dX10_init_47 rfl (lv_at hl 2 rfl) ?_
        refine k_iR (k_Vs (n := 1) ⟨hx, hb, hml, hown, hT⟩ hK hP hD [] rfl (by decide +kernel) (c_J0_charAt_5068e l g H.size (nI a) aV fb (nI_pos (by omega)) (Int32.not_le.mp c_3)) (gV bw_1342 bw_1343 bw_1344 bw_562 bw_1336) rfl rfl (by decide +kernel) ⟨by decide, by decide⟩ (s_recv hX hS) sX.calling (hX.go hS (va_A0 hS hA)) rfl rfl hl.1 (Nat.le_of_ble_eq_true rfl) dX10_init_48 ⟨by decide, by decide⟩) hP hS hA (fun r_8 _ H locs hw hP hS => ?_)
        refine k_lR (k_S (n := 2) ⟨hx, hb, hml, hown, hT⟩ hK hP hD [] rfl (by decide +kernel) (c_X10_withLetter l g H.size z r_8) (gS bw_601 bw_602 bw_603 bw_408) rfl rfl (by decide +kernel) ⟨by decide, by decide⟩ (fun _ _ _ _ _ => trivial) (fun _ _ _ => trivial) rfl rfl hl.1 (Nat.le_of_ble_eq_true rfl) dX10_init_51 ⟨by decide, by decide⟩) hP hS hA (fun r_9 _ H locs hw hP hS => ?_)
        refine lv_lstore_n (lv' := [(3, .long r_9), (2, .int (nI i)), (1, .int (nI a)), (0, .ref h)]) hx hb dX10_init_54 rfl hl (by decide) rfl (fun ls hl => ?_)
        refine lv_iinc (v := nI (a + 1)) (lv' := [(1, .int (nI (a + 1))), (3, .long r_9), (2, .int (nI i)), (0, .ref h)]) hx hb dX10_init_55 hl (k := 2) rfl (nI_1 a) (by decide) rfl (fun ls hl => ?_)
        refine lv_goto (tgt := 24) hx hb dX10_init_58 (by decide) ?_
        have ha9 : a < 109 := Nat.lt_of_not_le (fun h => c_3 (nI_le (a := 109) h (by omega)))
        exact ih2 (n - 1) (by omega) H locs ls ⟨a + 1, r_9, by omega, by omega, hP.sub [0, 1] rfl, hD.sub [0, 1] (by decide) rfl, hS, lv_sub hl [1, 2, 0, 3] rfl⟩
  · obtain ⟨a, f, ha, hP, hD, hS, hl⟩ := hI
    have hl : lv_has ls 5 [(2, .int 24), (1, .int (nI a)), (0, .ref h)] := hl
    have hP : va_P g.1 vwCl [(h, .inr (10, [.int 0, .int 0, .int 0, .long 0, .null, .int 0, .int 0, .ref q_1])), (q_1, aJ g 24 f)] H := hP
    have hD : va_D A [(h, .inr (10, [.int 0, .int 0, .int 0, .long 0, .null, .int 0, .int 0, .ref q_1])), (q_1, aJ g 24 f)] := hD
    refine lv_iload_n hx hb dX10_init_16 rfl (lv_at hl 0 rfl) ?_
    refine lv_bipush (v := 24) hx hb dX10_init_17 (by decide) ?_
    refine lv_icmp_ge (tgt := 77) hx hb dX10_init_19 (by decide) (fun _ => ?_) (fun c9 => absurd (by decide) c9)
    have hP9 : va_P g.1 vwCl [(h, .inr (10, [.int 0, .int 0, .int 0, .long 0, .null, .int 0, .int 0, .ref q_1])), (q_1, aJ g 24 f)] H := hP.sub [0, 1] rfl
    have hD9 : va_D A [(h, .inr (10, [.int 0, .int 0, .int 0, .long 0, .null, .int 0, .int 0, .ref q_1])), (q_1, aJ g 24 f)] := hD.sub [0, 1] (by decide +kernel) rfl
    exact W.vret hx hb hr (fun t ht hW => ⟨⟨(q_1, f), rfl, trivial, by rw [ht]; exact hP9, by rw [hAe]; exact hD9⟩, hS.F ht⟩) hS.2.2 dX10_init_77

theorem bw_1346 : Cond.methodLink RX5 3 objectInit ∈ gT := gT_tb 36 (by decide +kernel) (by decide +kernel)
theorem bw_1347 : Cond.classLink RX5 15 RX10 ∈ gT := gT_tb 37 (by decide +kernel) (by decide +kernel)
theorem bw_1348 : Cond.instantiable RX10 8 ∈ gT := gT_tb 38 (by decide +kernel) (by decide +kernel)
theorem bw_1349 : Cond.initialized yX10_init.cls ∈ gT := gT_tb 3 (by decide +kernel) (by decide +kernel)
theorem bw_1350 : Cond.methodLink RX5 17 yX10_init ∈ gT := gT_tb 39 (by decide +kernel) (by decide +kernel)
theorem bw_1351 : Cond.instanceMethod yX10_init ∈ gT := gT_tb 40 (by decide +kernel) (by decide +kernel)
theorem bw_1352 : Cond.code yX5_init cX5_init 1 none ∈ gT := gT_tb 35 (by decide +kernel) (by decide +kernel)
theorem dX5_init_0 : decode cX5_init 0 = .ok (.aload_n 0, 1) := by decide +kernel
theorem dX5_init_1 : decode cX5_init 1 = .ok (.invokespecial 3, 3) := by decide +kernel
theorem dX5_init_4 : decode cX5_init 4 = .ok (.aload_n 0, 1) := by decide +kernel
theorem dX5_init_5 : decode cX5_init 5 = .ok (.iconst (-1), 1) := by decide +kernel
theorem dX5_init_6 : decode cX5_init 6 = .ok (.putfield 9, 3) := by decide +kernel
theorem dX5_init_9 : decode cX5_init 9 = .ok (.aload_n 0, 1) := by decide +kernel
theorem dX5_init_10 : decode cX5_init 10 = .ok (.new 15, 3) := by decide +kernel
theorem dX5_init_13 : decode cX5_init 13 = .ok (.dup, 1) := by decide +kernel
theorem dX5_init_14 : decode cX5_init 14 = .ok (.invokespecial 17, 3) := by decide +kernel
theorem dX5_init_17 : decode cX5_init 17 = .ok (.putfield 18, 3) := by decide +kernel
theorem dX5_init_20 : decode cX5_init 20 = .ok (.return_, 1) := by decide +kernel
set_option maxHeartbeats 40000000 in
set_option maxRecDepth 100000 in
theorem c_X5_init (l : Launch) (g : GG) (sz : Nat) (h : Nat) (aV : Nat) (fb : Nat → Int32) : Met l yX5_init (.code yX5_init cX5_init 1 none :: gT) ({ frames := 5, cells := 2, slots := 32, locals := 109 }) (va_Pc [.ref h] (Pst g sz [(h, .inr (5, [.int 0, .int 0, .null, .null, .int 0, .int 0, .int 0]))] (sX g.2.2.2.2.2.2.1 109 aV fb (va_A [(h, .inr (5, [.int 0, .int 0, .null, .null, .int 0, .int 0, .int 0]))] sz)))) (va_Qv (fun (_ : Nat × Nat × (Nat → Int64)) => True) (Qst g [(h, .inr (5, [.int 0, .int 0, .null, .null, .int 0, .int 0, .int 0]))] sz (fun ((q_1, q_2, f_3) : Nat × Nat × (Nat → Int64)) => [(h, .inr (5, [.int 0, .int (-1), .ref q_1, .null, .int 0, .int 0, .int 0])), (q_1, .inr (10, [.int 0, .int 0, .int 0, .long 0, .null, .int 0, .int 0, .ref q_2])), (q_2, aJ g 24 f_3)])) (va_A [(h, .inr (5, [.int 0, .int 0, .null, .null, .int 0, .int 0, .int 0]))] sz)) 2 32 (va_A [(h, .inr (5, [.int 0, .int 0, .null, .null, .int 0, .int 0, .int 0]))] sz) := by
  refine Met.ofW (cc := cX5_init) (maxL := 1) (ret := none) (by decide) rfl ?_
  intro p e s m args below meth c s₁ B hml hv
  obtain ⟨rfl, hsz, hP, hK, hD0, hX⟩ := hv
  have hx := B.exec
  have hb := B.bytes
  have hr := B.returns
  have hT : ∀ w ∈ gT, w.before _ s = true := fun w h => atoms_spec (ws := .code yX5_init cX5_init 1 none :: gT) B.pre w (List.mem_cons_of_mem _ h)
  have hown : s.vm.findClass RX5 = some m.cls := findClass_of_methodNamed B.named
  have hlocks := B.notSynchronized
  have hin : meth.name = "<init>" := (name_of_methodNamed B.named B.method).1
  subst hsz
  have hD := hD0.self (sz := s.heap.size)
  generalize hAe : va_A [(h, .inr (5, [.int 0, .int 0, .null, .null, .int 0, .int 0, .int 0]))] s.heap.size = A at hD hX ⊢
  have hA : ∀ q : Nat, s.heap.size ≤ q → A q := fun q h => by rw [← hAe]; exact Or.inr h
  have hS : va_S A s.heap s.heap [] := va_S.rf
  have hl := lv_entry ([.ref h]) (n := 1) (Nat.le_of_ble_eq_true rfl)
  rw [lg_entry_eq]
  generalize (lg_sl ([.ref h]) ++ List.replicate (1 - (lg_sl ([.ref h])).length) Slot.unset).toArray = ls at hl ⊢
  have hl : lv_has ls 1 [(0, .ref h)] := hl
  refine p_nH (fun H hH => ?_)
  have hP : va_P g.1 vwCl [(h, .inr (5, [.int 0, .int 0, .null, .null, .int 0, .int 0, .int 0]))] H := by rw [hH]; exact hP
  have hS : va_S A s.heap H [] := by rw [hH]; exact hS
  refine lv_aload_n hx hb dX5_init_0 rfl (lv_at hl 0 rfl) ?_
  refine W.objInit hx hb hown (hT _ bw_1346) (hT _ bw_1338) (hT _ bw_1339) rfl (by rw [hml]; exact hl.1) rfl dX5_init_1 (Nat.le_of_ble_eq_true rfl) (Nat.le_of_ble_eq_true rfl) ?_
  refine W.eq (g2 := F0 m 4 ls []) rfl ?_
  refine lv_aload_n hx hb dX5_init_4 rfl (lv_at hl 0 rfl) ?_
  refine lv_iconst (v := (-1)) hx hb dX5_init_5 (by decide) ?_
  refine va_put (D := g.1) (ci := 5) (v := .int (-1)) (ty := .int) (C := RX5) (T := TX5) (N := 7) hx hb hT inF_X5 tyX5 tyX5_ok nmX5 hown hK.1 hP hD hS 0 rfl rfl 1 (by decide) (hT _ bw_636) (fun _ h9 => h9) rfl (by decide +kernel) rfl rfl (Nat.le_of_ble_eq_true rfl) dX5_init_6 (fun H locs hP hD hS => ?_)
  have hP : va_P g.1 vwCl [(h, .inr (5, [.int 0, .int (-1), .null, .null, .int 0, .int 0, .int 0]))] H := hP
  have hD : va_D A [(h, .inr (5, [.int 0, .int (-1), .null, .null, .int 0, .int 0, .int 0]))] := hD
  refine lv_aload_n hx hb dX5_init_9 rfl (lv_at hl 0 rfl) ?_
  refine va_new (D := g.1) (ci := 10) (fs := [.int 0, .int 0, .int 0, .long 0, .null, .int 0, .int 0, .null]) (C := RX10) (T := TX10) (N := 8) hx hb hT inF_X10 tyX10 tyX10_ok hown (hT _ bw_1347) (hT _ bw_1348) (hT _ bw_616) hK.1 hP hD hS hA rfl (by decide +kernel) (by decide) (by decide) dX5_init_10 (fun q_1 H hP hD hS => ?_)
  have hP : va_P g.1 vwCl [(h, .inr (5, [.int 0, .int (-1), .null, .null, .int 0, .int 0, .int 0])), (q_1, .inr (10, [.int 0, .int 0, .int 0, .long 0, .null, .int 0, .int 0, .null]))] H := hP
  have hD : va_D A [(h, .inr (5, [.int 0, .int (-1), .null, .null, .int 0, .int 0, .int 0])), (q_1, .inr (10, [.int 0, .int 0, .int 0, .long 0, .null, .int 0, .int 0, .null]))] := hD
  refine W.widen (k := 1) (n := 8) (by decide) (by decide) ?_
  refine lv_dup hx hb dX5_init_13 rfl ?_
  refine k_v (wr := [(h, .inr (5, [.int 0, .int (-1), .null, .null, .int 0, .int 0, .int 0]))]) (k_I (n := 0) ⟨hx, hb, hml, hown, hT⟩ hK hP hD [1] rfl (by decide +kernel) (c_X10_init l g H.size q_1 aV fb) (gI bw_1345) bw_1349 bw_1350 bw_1351 rfl rfl rfl (by decide +kernel) ⟨by decide, by decide⟩ sX.calling (hX.go hS (va_free (wc := [(q_1, .inr (10, [.int 0, .int 0, .int 0, .long 0, .null, .int 0, .int 0, .null]))]) hD hS hA [1] rfl)) rfl rfl hl.1 (Nat.le_of_ble_eq_true rfl) dX5_init_14 ⟨by decide, by decide⟩) hP hD hS hA [1] [0] rfl rfl (by decide +kernel) (by decide +kernel) (fun u H locs hw hP hD hS => ?_)
  obtain ⟨q_2, f_3⟩ := u
  have hP : va_P g.1 vwCl [(h, .inr (5, [.int 0, .int (-1), .null, .null, .int 0, .int 0, .int 0])), (q_1, .inr (10, [.int 0, .int 0, .int 0, .long 0, .null, .int 0, .int 0, .ref q_2])), (q_2, aJ g 24 f_3)] H := hP
  have hD : va_D A [(h, .inr (5, [.int 0, .int (-1), .null, .null, .int 0, .int 0, .int 0])), (q_1, .inr (10, [.int 0, .int 0, .int 0, .long 0, .null, .int 0, .int 0, .ref q_2])), (q_2, aJ g 24 f_3)] := hD
  refine W.widen (k := 2) (n := 32) (by decide) (by decide) ?_
  refine va_putF (D := g.1) (ci := 5) (v := .ref q_1) (ty := .object "DuelDelays$Tokens") (C := RX5) (T := TX5) (N := 7) hx hb hT inF_X5 tyX5 tyX5_ok nmX5 hown hK.1 hP hD hS 0 rfl rfl 2 (by decide) (hT _ bw_632) (fun _ h9 => h9) rfl hin rfl (by decide +kernel) rfl rfl (Nat.le_of_ble_eq_true rfl) dX5_init_17 (fun H locs hP hD hS => ?_)
  have hP : va_P g.1 vwCl [(h, .inr (5, [.int 0, .int (-1), .ref q_1, .null, .int 0, .int 0, .int 0])), (q_1, .inr (10, [.int 0, .int 0, .int 0, .long 0, .null, .int 0, .int 0, .ref q_2])), (q_2, aJ g 24 f_3)] H := hP
  have hD : va_D A [(h, .inr (5, [.int 0, .int (-1), .ref q_1, .null, .int 0, .int 0, .int 0])), (q_1, .inr (10, [.int 0, .int 0, .int 0, .long 0, .null, .int 0, .int 0, .ref q_2])), (q_2, aJ g 24 f_3)] := hD
  have hP9 : va_P g.1 vwCl [(h, .inr (5, [.int 0, .int (-1), .ref q_1, .null, .int 0, .int 0, .int 0])), (q_1, .inr (10, [.int 0, .int 0, .int 0, .long 0, .null, .int 0, .int 0, .ref q_2])), (q_2, aJ g 24 f_3)] H := hP.sub [0, 1, 2] rfl
  have hD9 : va_D A [(h, .inr (5, [.int 0, .int (-1), .ref q_1, .null, .int 0, .int 0, .int 0])), (q_1, .inr (10, [.int 0, .int 0, .int 0, .long 0, .null, .int 0, .int 0, .ref q_2])), (q_2, aJ g 24 f_3)] := hD.sub [0, 1, 2] (by decide +kernel) rfl
  exact W.vret hx hb hr (fun t ht hW => ⟨⟨(q_1, q_2, f_3), rfl, trivial, by rw [ht]; exact hP9, by rw [hAe]; exact hD9⟩, hS.F ht⟩) hS.2.2 dX5_init_20

theorem bw_1353 : Cond.methodLink RX1 3 objectInit ∈ gT := gT_tb 433 (by decide +kernel) (by decide +kernel)
theorem bw_1354 : Cond.arrayClass .int ∈ gT := gT_tb 193 (by decide +kernel) (by decide +kernel)
theorem bw_1355 : Cond.code yX1_init cX1_init 1 none ∈ gT := gT_tb 432 (by decide +kernel) (by decide +kernel)
theorem dX1_init_0 : decode cX1_init 0 = .ok (.aload_n 0, 1) := by decide +kernel
theorem dX1_init_1 : decode cX1_init 1 = .ok (.invokespecial 3, 3) := by decide +kernel
theorem dX1_init_4 : decode cX1_init 4 = .ok (.aload_n 0, 1) := by decide +kernel
theorem dX1_init_5 : decode cX1_init 5 = .ok (.bipush 16, 2) := by decide +kernel
theorem dX1_init_7 : decode cX1_init 7 = .ok (.newarray .int, 2) := by decide +kernel
theorem dX1_init_9 : decode cX1_init 9 = .ok (.putfield 9, 3) := by decide +kernel
theorem dX1_init_12 : decode cX1_init 12 = .ok (.return_, 1) := by decide +kernel
set_option maxHeartbeats 40000000 in
set_option maxRecDepth 100000 in
theorem c_X1_init (l : Launch) (g : GG) (sz : Nat) (h : Nat) : Met l yX1_init (.code yX1_init cX1_init 1 none :: gT) ({ frames := 1, cells := 1, slots := 16, locals := 40 }) (va_Pc [.ref h] (Pst g sz [(h, .inr (1, [.int 0, .null]))] nX)) (va_Qv (fun (_ : Nat) => True) (Qst g [(h, .inr (1, [.int 0, .null]))] sz (fun (q_1 : Nat) => [(h, .inr (1, [.int 0, .ref q_1])), (q_1, aI g 16 z0)])) (va_A [(h, .inr (1, [.int 0, .null]))] sz)) 1 16 (va_A [(h, .inr (1, [.int 0, .null]))] sz) := by
  refine Met.ofW (cc := cX1_init) (maxL := 1) (ret := none) (by decide) rfl ?_
  intro p e s m args below meth c s₁ B hml hv
  obtain ⟨rfl, hsz, hP, hK, hD0, hX⟩ := hv
  have hx := B.exec
  have hb := B.bytes
  have hr := B.returns
  have hT : ∀ w ∈ gT, w.before _ s = true := fun w h => atoms_spec (ws := .code yX1_init cX1_init 1 none :: gT) B.pre w (List.mem_cons_of_mem _ h)
  have hown : s.vm.findClass RX1 = some m.cls := findClass_of_methodNamed B.named
  have hlocks := B.notSynchronized
  have hin : meth.name = "<init>" := (name_of_methodNamed B.named B.method).1
  subst hsz
  have hD := hD0.self (sz := s.heap.size)
  generalize hAe : va_A [(h, .inr (1, [.int 0, .null]))] s.heap.size = A at hD ⊢
  have hA : ∀ q : Nat, s.heap.size ≤ q → A q := fun q h => by rw [← hAe]; exact Or.inr h
  have hS : va_S A s.heap s.heap [] := va_S.rf
  have hl := lv_entry ([.ref h]) (n := 1) (Nat.le_of_ble_eq_true rfl)
  rw [lg_entry_eq]
  generalize (lg_sl ([.ref h]) ++ List.replicate (1 - (lg_sl ([.ref h])).length) Slot.unset).toArray = ls at hl ⊢
  have hl : lv_has ls 1 [(0, .ref h)] := hl
  refine p_nH (fun H hH => ?_)
  have hP : va_P g.1 vwCl [(h, .inr (1, [.int 0, .null]))] H := by rw [hH]; exact hP
  have hS : va_S A s.heap H [] := by rw [hH]; exact hS
  refine lv_aload_n hx hb dX1_init_0 rfl (lv_at hl 0 rfl) ?_
  refine W.objInit hx hb hown (hT _ bw_1353) (hT _ bw_1338) (hT _ bw_1339) rfl (by rw [hml]; exact hl.1) rfl dX1_init_1 (Nat.le_of_ble_eq_true rfl) (Nat.le_of_ble_eq_true rfl) ?_
  refine W.eq (g2 := F0 m 4 ls []) rfl ?_
  refine lv_aload_n hx hb dX1_init_4 rfl (lv_at hl 0 rfl) ?_
  refine lv_bipush (v := 16) hx hb dX1_init_5 (by decide) ?_
  refine p_newa (atype := .int) (ty := .int) hx hb (hT _ bw_1354) rfl hK.1 hP hD hS hA 1 rfl (fun _ h9 => h9) (a0 := (16, .inl z0)) (fun _ => rfl) (by decide) (N' := 16) rfl (by decide) (by decide) (by decide) dX1_init_7 (fun q_1 H hP hD hS => ?_)
  have hP : va_P g.1 vwCl [(h, .inr (1, [.int 0, .null])), (q_1, aI g 16 z0)] H := hP
  have hD : va_D A [(h, .inr (1, [.int 0, .null])), (q_1, aI g 16 z0)] := hD
  refine W.widen (k := 1) (n := 16) (by decide) (by decide) ?_
  refine va_putF (D := g.1) (ci := 1) (v := .ref q_1) (ty := .array .int) (C := RX1) (T := TX1) (N := 2) hx hb hT inF_X1 tyX1 tyX1_ok nmX1 hown hK.1 hP hD hS 0 rfl rfl 1 (by decide) (hT _ bw_2) (fun _ h9 => h9) rfl hin rfl (by decide +kernel) rfl rfl (Nat.le_of_ble_eq_true rfl) dX1_init_9 (fun H locs hP hD hS => ?_)
  have hP : va_P g.1 vwCl [(h, .inr (1, [.int 0, .ref q_1])), (q_1, aI g 16 z0)] H := hP
  have hD : va_D A [(h, .inr (1, [.int 0, .ref q_1])), (q_1, aI g 16 z0)] := hD
  have hP9 : va_P g.1 vwCl [(h, .inr (1, [.int 0, .ref q_1])), (q_1, aI g 16 z0)] H := hP.sub [0, 1] rfl
  have hD9 : va_D A [(h, .inr (1, [.int 0, .ref q_1])), (q_1, aI g 16 z0)] := hD.sub [0, 1] (by decide +kernel) rfl
  exact W.vret hx hb hr (fun t ht hW => ⟨⟨q_1, rfl, trivial, by rw [ht]; exact hP9, by rw [hAe]; exact hD9⟩, hS.F ht⟩) hS.2.2 dX1_init_12

theorem bw_1356 : Cond.methodLink RX3 3 objectInit ∈ gT := gT_tb 162 (by decide +kernel) (by decide +kernel)
theorem bw_1357 : Cond.fieldLink RX3 9 "DuelDelays$Men" "names" "[J" ∈ gT := gT_tb 168 (by decide +kernel) (by decide +kernel)
theorem bw_1358 : Cond.fieldLink RX3 15 "DuelDelays$Men" "dies" "[I" ∈ gT := gT_tb 170 (by decide +kernel) (by decide +kernel)
theorem bw_1359 : Cond.fieldLink RX3 19 "DuelDelays$Men" "coins" "[I" ∈ gT := gT_tb 175 (by decide +kernel) (by decide +kernel)
theorem bw_1360 : Cond.fieldLink RX3 22 "DuelDelays$Men" "fathers" "[I" ∈ gT := gT_tb 178 (by decide +kernel) (by decide +kernel)
theorem bw_1361 : Cond.code yX3_init cX3_init 1 none ∈ gT := gT_tb 161 (by decide +kernel) (by decide +kernel)
theorem dX3_init_0 : decode cX3_init 0 = .ok (.aload_n 0, 1) := by decide +kernel
theorem dX3_init_1 : decode cX3_init 1 = .ok (.invokespecial 3, 3) := by decide +kernel
theorem dX3_init_4 : decode cX3_init 4 = .ok (.aload_n 0, 1) := by decide +kernel
theorem dX3_init_5 : decode cX3_init 5 = .ok (.bipush 6, 2) := by decide +kernel
theorem dX3_init_7 : decode cX3_init 7 = .ok (.newarray .long, 2) := by decide +kernel
theorem dX3_init_9 : decode cX3_init 9 = .ok (.putfield 9, 3) := by decide +kernel
theorem dX3_init_12 : decode cX3_init 12 = .ok (.aload_n 0, 1) := by decide +kernel
theorem dX3_init_13 : decode cX3_init 13 = .ok (.bipush 6, 2) := by decide +kernel
theorem dX3_init_15 : decode cX3_init 15 = .ok (.newarray .int, 2) := by decide +kernel
theorem dX3_init_17 : decode cX3_init 17 = .ok (.putfield 15, 3) := by decide +kernel
theorem dX3_init_20 : decode cX3_init 20 = .ok (.aload_n 0, 1) := by decide +kernel
theorem dX3_init_21 : decode cX3_init 21 = .ok (.bipush 6, 2) := by decide +kernel
theorem dX3_init_23 : decode cX3_init 23 = .ok (.newarray .int, 2) := by decide +kernel
theorem dX3_init_25 : decode cX3_init 25 = .ok (.putfield 19, 3) := by decide +kernel
theorem dX3_init_28 : decode cX3_init 28 = .ok (.aload_n 0, 1) := by decide +kernel
theorem dX3_init_29 : decode cX3_init 29 = .ok (.bipush 6, 2) := by decide +kernel
theorem dX3_init_31 : decode cX3_init 31 = .ok (.newarray .int, 2) := by decide +kernel
theorem dX3_init_33 : decode cX3_init 33 = .ok (.putfield 22, 3) := by decide +kernel
theorem dX3_init_36 : decode cX3_init 36 = .ok (.return_, 1) := by decide +kernel
set_option maxHeartbeats 40000000 in
set_option maxRecDepth 100000 in
theorem c_X3_init (l : Launch) (g : GG) (sz : Nat) (h : Nat) : Met l yX3_init (.code yX3_init cX3_init 1 none :: gT) ({ frames := 1, cells := 4, slots := 24, locals := 40 }) (va_Pc [.ref h] (Pst g sz [(h, .inr (3, [.int 0, .null, .null, .null, .null]))] nX)) (va_Qv (fun (_ : Nat × Nat × Nat × Nat) => True) (Qst g [(h, .inr (3, [.int 0, .null, .null, .null, .null]))] sz (fun ((q_1, q_2, q_3, q_4) : Nat × Nat × Nat × Nat) => [(h, .inr (3, [.int 0, .ref q_1, .ref q_2, .ref q_3, .ref q_4])), (q_1, aJ g 6 zL), (q_2, aI g 6 z0), (q_3, aI g 6 z0), (q_4, aI g 6 z0)])) (va_A [(h, .inr (3, [.int 0, .null, .null, .null, .null]))] sz)) 4 24 (va_A [(h, .inr (3, [.int 0, .null, .null, .null, .null]))] sz) := by
  refine Met.ofW (cc := cX3_init) (maxL := 1) (ret := none) (by decide) rfl ?_
  intro p e s m args below meth c s₁ B hml hv
  obtain ⟨rfl, hsz, hP, hK, hD0, hX⟩ := hv
  have hx := B.exec
  have hb := B.bytes
  have hr := B.returns
  have hT : ∀ w ∈ gT, w.before _ s = true := fun w h => atoms_spec (ws := .code yX3_init cX3_init 1 none :: gT) B.pre w (List.mem_cons_of_mem _ h)
  have hown : s.vm.findClass RX3 = some m.cls := findClass_of_methodNamed B.named
  have hlocks := B.notSynchronized
  have hin : meth.name = "<init>" := (name_of_methodNamed B.named B.method).1
  subst hsz
  have hD := hD0.self (sz := s.heap.size)
  generalize hAe : va_A [(h, .inr (3, [.int 0, .null, .null, .null, .null]))] s.heap.size = A at hD ⊢
  have hA : ∀ q : Nat, s.heap.size ≤ q → A q := fun q h => by rw [← hAe]; exact Or.inr h
  have hS : va_S A s.heap s.heap [] := va_S.rf
  have hl := lv_entry ([.ref h]) (n := 1) (Nat.le_of_ble_eq_true rfl)
  rw [lg_entry_eq]
  generalize (lg_sl ([.ref h]) ++ List.replicate (1 - (lg_sl ([.ref h])).length) Slot.unset).toArray = ls at hl ⊢
  have hl : lv_has ls 1 [(0, .ref h)] := hl
  refine p_nH (fun H hH => ?_)
  have hP : va_P g.1 vwCl [(h, .inr (3, [.int 0, .null, .null, .null, .null]))] H := by rw [hH]; exact hP
  have hS : va_S A s.heap H [] := by rw [hH]; exact hS
  refine lv_aload_n hx hb dX3_init_0 rfl (lv_at hl 0 rfl) ?_
  refine W.objInit hx hb hown (hT _ bw_1356) (hT _ bw_1338) (hT _ bw_1339) rfl (by rw [hml]; exact hl.1) rfl dX3_init_1 (Nat.le_of_ble_eq_true rfl) (Nat.le_of_ble_eq_true rfl) ?_
  refine W.eq (g2 := F0 m 4 ls []) rfl ?_
  refine lv_aload_n hx hb dX3_init_4 rfl (lv_at hl 0 rfl) ?_
  refine lv_bipush (v := 6) hx hb dX3_init_5 (by decide) ?_
  refine p_newa (atype := .long) (ty := .long) hx hb (hT _ bw_1340) rfl hK.1 hP hD hS hA 2 rfl (fun _ h9 => h9) (a0 := (6, .inr (.inl zL))) (fun _ => rfl) (by decide) (N' := 6) rfl (by decide) (by decide) (by decide) dX3_init_7 (fun q_1 H hP hD hS => ?_)
  have hP : va_P g.1 vwCl [(h, .inr (3, [.int 0, .null, .null, .null, .null])), (q_1, aJ g 6 zL)] H := hP
  have hD : va_D A [(h, .inr (3, [.int 0, .null, .null, .null, .null])), (q_1, aJ g 6 zL)] := hD
  refine W.widen (k := 1) (n := 6) (by decide) (by decide) ?_
  refine va_putF (D := g.1) (ci := 3) (v := .ref q_1) (ty := .array .long) (C := RX3) (T := TX3) (N := 5) hx hb hT inF_X3 tyX3 tyX3_ok nmX3 hown hK.1 hP hD hS 0 rfl rfl 1 (by decide) (hT _ bw_1357) (fun _ h9 => h9) rfl hin rfl (by decide +kernel) rfl rfl (Nat.le_of_ble_eq_true rfl) dX3_init_9 (fun H locs hP hD hS => ?_)
  have hP : va_P g.1 vwCl [(h, .inr (3, [.int 0, .ref q_1, .null, .null, .null])), (q_1, aJ g 6 zL)] H := hP
  have hD : va_D A [(h, .inr (3, [.int 0, .ref q_1, .null, .null, .null])), (q_1, aJ g 6 zL)] := hD
  refine lv_aload_n hx hb dX3_init_12 rfl (lv_at hl 0 rfl) ?_
  refine lv_bipush (v := 6) hx hb dX3_init_13 (by decide) ?_
  refine p_newa (atype := .int) (ty := .int) hx hb (hT _ bw_1354) rfl hK.1 hP hD hS hA 1 rfl (fun _ h9 => h9) (a0 := (6, .inl z0)) (fun _ => rfl) (by decide) (N' := 6) rfl (by decide) (by decide) (by decide) dX3_init_15 (fun q_2 H hP hD hS => ?_)
  have hP : va_P g.1 vwCl [(h, .inr (3, [.int 0, .ref q_1, .null, .null, .null])), (q_1, aJ g 6 zL), (q_2, aI g 6 z0)] H := hP
  have hD : va_D A [(h, .inr (3, [.int 0, .ref q_1, .null, .null, .null])), (q_1, aJ g 6 zL), (q_2, aI g 6 z0)] := hD
  refine W.widen (k := 2) (n := 12) (by decide) (by decide) ?_
  refine va_putF (D := g.1) (ci := 3) (v := .ref q_2) (ty := .array .int) (C := RX3) (T := TX3) (N := 5) hx hb hT inF_X3 tyX3 tyX3_ok nmX3 hown hK.1 hP hD hS 0 rfl rfl 2 (by decide) (hT _ bw_1358) (fun _ h9 => h9) rfl hin rfl (by decide +kernel) rfl rfl (Nat.le_of_ble_eq_true rfl) dX3_init_17 (fun H locs hP hD hS => ?_)
  have hP : va_P g.1 vwCl [(h, .inr (3, [.int 0, .ref q_1, .ref q_2, .null, .null])), (q_1, aJ g 6 zL), (q_2, aI g 6 z0)] H := hP
  have hD : va_D A [(h, .inr (3, [.int 0, .ref q_1, .ref q_2, .null, .null])), (q_1, aJ g 6 zL), (q_2, aI g 6 z0)] := hD
  refine lv_aload_n hx hb dX3_init_20 rfl (lv_at hl 0 rfl) ?_
  refine lv_bipush (v := 6) hx hb dX3_init_21 (by decide) ?_
  refine p_newa (atype := .int) (ty := .int) hx hb (hT _ bw_1354) rfl hK.1 hP hD hS hA 1 rfl (fun _ h9 => h9) (a0 := (6, .inl z0)) (fun _ => rfl) (by decide) (N' := 6) rfl (by decide) (by decide) (by decide) dX3_init_23 (fun q_3 H hP hD hS => ?_)
  have hP : va_P g.1 vwCl [(h, .inr (3, [.int 0, .ref q_1, .ref q_2, .null, .null])), (q_1, aJ g 6 zL), (q_2, aI g 6 z0), (q_3, aI g 6 z0)] H := hP
  have hD : va_D A [(h, .inr (3, [.int 0, .ref q_1, .ref q_2, .null, .null])), (q_1, aJ g 6 zL), (q_2, aI g 6 z0), (q_3, aI g 6 z0)] := hD
  refine W.widen (k := 3) (n := 18) (by decide) (by decide) ?_
  refine va_putF (D := g.1) (ci := 3) (v := .ref q_3) (ty := .array .int) (C := RX3) (T := TX3) (N := 5) hx hb hT inF_X3 tyX3 tyX3_ok nmX3 hown hK.1 hP hD hS 0 rfl rfl 3 (by decide) (hT _ bw_1359) (fun _ h9 => h9) rfl hin rfl (by decide +kernel) rfl rfl (Nat.le_of_ble_eq_true rfl) dX3_init_25 (fun H locs hP hD hS => ?_)
  have hP : va_P g.1 vwCl [(h, .inr (3, [.int 0, .ref q_1, .ref q_2, .ref q_3, .null])), (q_1, aJ g 6 zL), (q_2, aI g 6 z0), (q_3, aI g 6 z0)] H := hP
  have hD : va_D A [(h, .inr (3, [.int 0, .ref q_1, .ref q_2, .ref q_3, .null])), (q_1, aJ g 6 zL), (q_2, aI g 6 z0), (q_3, aI g 6 z0)] := hD
  refine lv_aload_n hx hb dX3_init_28 rfl (lv_at hl 0 rfl) ?_
  refine lv_bipush (v := 6) hx hb dX3_init_29 (by decide) ?_
  refine p_newa (atype := .int) (ty := .int) hx hb (hT _ bw_1354) rfl hK.1 hP hD hS hA 1 rfl (fun _ h9 => h9) (a0 := (6, .inl z0)) (fun _ => rfl) (by decide) (N' := 6) rfl (by decide) (by decide) (by decide) dX3_init_31 (fun q_4 H hP hD hS => ?_)
  have hP : va_P g.1 vwCl [(h, .inr (3, [.int 0, .ref q_1, .ref q_2, .ref q_3, .null])), (q_1, aJ g 6 zL), (q_2, aI g 6 z0), (q_3, aI g 6 z0), (q_4, aI g 6 z0)] H := hP
  have hD : va_D A [(h, .inr (3, [.int 0, .ref q_1, .ref q_2, .ref q_3, .null])), (q_1, aJ g 6 zL), (q_2, aI g 6 z0), (q_3, aI g 6 z0), (q_4, aI g 6 z0)] := hD
  refine W.widen (k := 4) (n := 24) (by decide) (by decide) ?_
  refine va_putF (D := g.1) (ci := 3) (v := .ref q_4) (ty := .array .int) (C := RX3) (T := TX3) (N := 5) hx hb hT inF_X3 tyX3 tyX3_ok nmX3 hown hK.1 hP hD hS 0 rfl rfl 4 (by decide) (hT _ bw_1360) (fun _ h9 => h9) rfl hin rfl (by decide +kernel) rfl rfl (Nat.le_of_ble_eq_true rfl) dX3_init_33 (fun H locs hP hD hS => ?_)
  have hP : va_P g.1 vwCl [(h, .inr (3, [.int 0, .ref q_1, .ref q_2, .ref q_3, .ref q_4])), (q_1, aJ g 6 zL), (q_2, aI g 6 z0), (q_3, aI g 6 z0), (q_4, aI g 6 z0)] H := hP
  have hD : va_D A [(h, .inr (3, [.int 0, .ref q_1, .ref q_2, .ref q_3, .ref q_4])), (q_1, aJ g 6 zL), (q_2, aI g 6 z0), (q_3, aI g 6 z0), (q_4, aI g 6 z0)] := hD
  have hP9 : va_P g.1 vwCl [(h, .inr (3, [.int 0, .ref q_1, .ref q_2, .ref q_3, .ref q_4])), (q_1, aJ g 6 zL), (q_2, aI g 6 z0), (q_3, aI g 6 z0), (q_4, aI g 6 z0)] H := hP.sub [0, 1, 2, 3, 4] rfl
  have hD9 : va_D A [(h, .inr (3, [.int 0, .ref q_1, .ref q_2, .ref q_3, .ref q_4])), (q_1, aJ g 6 zL), (q_2, aI g 6 z0), (q_3, aI g 6 z0), (q_4, aI g 6 z0)] := hD.sub [0, 1, 2, 3, 4] (by decide +kernel) rfl
  exact W.vret hx hb hr (fun t ht hW => ⟨⟨(q_1, q_2, q_3, q_4), rfl, trivial, by rw [ht]; exact hP9, by rw [hAe]; exact hD9⟩, hS.F ht⟩) hS.2.2 dX3_init_36

theorem bw_1362 : Cond.methodLink RX0 3 objectInit ∈ gT := gT_tb 199 (by decide +kernel) (by decide +kernel)
theorem bw_1363 : Cond.fieldLink RX0 9 "DuelDelays$Formulas" "names" "[J" ∈ gT := gT_tb 205 (by decide +kernel) (by decide +kernel)
theorem bw_1364 : Cond.code yX0_init cX0_init 1 none ∈ gT := gT_tb 198 (by decide +kernel) (by decide +kernel)
theorem dX0_init_0 : decode cX0_init 0 = .ok (.aload_n 0, 1) := by decide +kernel
theorem dX0_init_1 : decode cX0_init 1 = .ok (.invokespecial 3, 3) := by decide +kernel
theorem dX0_init_4 : decode cX0_init 4 = .ok (.aload_n 0, 1) := by decide +kernel
theorem dX0_init_5 : decode cX0_init 5 = .ok (.iconst 4, 1) := by decide +kernel
theorem dX0_init_6 : decode cX0_init 6 = .ok (.newarray .long, 2) := by decide +kernel
theorem dX0_init_8 : decode cX0_init 8 = .ok (.putfield 9, 3) := by decide +kernel
theorem dX0_init_11 : decode cX0_init 11 = .ok (.aload_n 0, 1) := by decide +kernel
theorem dX0_init_12 : decode cX0_init 12 = .ok (.iconst 5, 1) := by decide +kernel
theorem dX0_init_13 : decode cX0_init 13 = .ok (.newarray .int, 2) := by decide +kernel
theorem dX0_init_15 : decode cX0_init 15 = .ok (.putfield 15, 3) := by decide +kernel
theorem dX0_init_18 : decode cX0_init 18 = .ok (.aload_n 0, 1) := by decide +kernel
theorem dX0_init_19 : decode cX0_init 19 = .ok (.sipush 640, 3) := by decide +kernel
theorem dX0_init_22 : decode cX0_init 22 = .ok (.newarray .int, 2) := by decide +kernel
theorem dX0_init_24 : decode cX0_init 24 = .ok (.putfield 19, 3) := by decide +kernel
theorem dX0_init_27 : decode cX0_init 27 = .ok (.aload_n 0, 1) := by decide +kernel
theorem dX0_init_28 : decode cX0_init 28 = .ok (.bipush 32, 2) := by decide +kernel
theorem dX0_init_30 : decode cX0_init 30 = .ok (.newarray .int, 2) := by decide +kernel
theorem dX0_init_32 : decode cX0_init 32 = .ok (.putfield 22, 3) := by decide +kernel
theorem dX0_init_35 : decode cX0_init 35 = .ok (.return_, 1) := by decide +kernel
set_option maxHeartbeats 40000000 in
set_option maxRecDepth 100000 in
theorem c_X0_init (l : Launch) (g : GG) (sz : Nat) (h : Nat) : Met l yX0_init (.code yX0_init cX0_init 1 none :: gT) ({ frames := 1, cells := 4, slots := 681, locals := 40 }) (va_Pc [.ref h] (Pst g sz [(h, .inr (0, [.int 0, .int 0, .null, .int 0, .int 0, .null, .null, .null]))] nX)) (va_Qv (fun (_ : Nat × Nat × Nat × Nat) => True) (Qst g [(h, .inr (0, [.int 0, .int 0, .null, .int 0, .int 0, .null, .null, .null]))] sz (fun ((q_1, q_2, q_3, q_4) : Nat × Nat × Nat × Nat) => [(h, .inr (0, [.int 0, .int 0, .ref q_1, .int 0, .int 0, .ref q_2, .ref q_3, .ref q_4])), (q_1, aJ g 4 zL), (q_2, aI g 5 z0), (q_3, aI g 640 z0), (q_4, aI g 32 z0)])) (va_A [(h, .inr (0, [.int 0, .int 0, .null, .int 0, .int 0, .null, .null, .null]))] sz)) 4 681 (va_A [(h, .inr (0, [.int 0, .int 0, .null, .int 0, .int 0, .null, .null, .null]))] sz) := by
  refine Met.ofW (cc := cX0_init) (maxL := 1) (ret := none) (by decide) rfl ?_
  intro p e s m args below meth c s₁ B hml hv
  obtain ⟨rfl, hsz, hP, hK, hD0, hX⟩ := hv
  have hx := B.exec
  have hb := B.bytes
  have hr := B.returns
  have hT : ∀ w ∈ gT, w.before _ s = true := fun w h => atoms_spec (ws := .code yX0_init cX0_init 1 none :: gT) B.pre w (List.mem_cons_of_mem _ h)
  have hown : s.vm.findClass RX0 = some m.cls := findClass_of_methodNamed B.named
  have hlocks := B.notSynchronized
  have hin : meth.name = "<init>" := (name_of_methodNamed B.named B.method).1
  subst hsz
  have hD := hD0.self (sz := s.heap.size)
  generalize hAe : va_A [(h, .inr (0, [.int 0, .int 0, .null, .int 0, .int 0, .null, .null, .null]))] s.heap.size = A at hD ⊢
  have hA : ∀ q : Nat, s.heap.size ≤ q → A q := fun q h => by rw [← hAe]; exact Or.inr h
  have hS : va_S A s.heap s.heap [] := va_S.rf
  have hl := lv_entry ([.ref h]) (n := 1) (Nat.le_of_ble_eq_true rfl)
  rw [lg_entry_eq]
  generalize (lg_sl ([.ref h]) ++ List.replicate (1 - (lg_sl ([.ref h])).length) Slot.unset).toArray = ls at hl ⊢
  have hl : lv_has ls 1 [(0, .ref h)] := hl
  refine p_nH (fun H hH => ?_)
  have hP : va_P g.1 vwCl [(h, .inr (0, [.int 0, .int 0, .null, .int 0, .int 0, .null, .null, .null]))] H := by rw [hH]; exact hP
  have hS : va_S A s.heap H [] := by rw [hH]; exact hS
  refine lv_aload_n hx hb dX0_init_0 rfl (lv_at hl 0 rfl) ?_
  refine W.objInit hx hb hown (hT _ bw_1362) (hT _ bw_1338) (hT _ bw_1339) rfl (by rw [hml]; exact hl.1) rfl dX0_init_1 (Nat.le_of_ble_eq_true rfl) (Nat.le_of_ble_eq_true rfl) ?_
  refine W.eq (g2 := F0 m 4 ls []) rfl ?_
  refine lv_aload_n hx hb dX0_init_4 rfl (lv_at hl 0 rfl) ?_
  refine lv_iconst (v := 4) hx hb dX0_init_5 (by decide) ?_
  refine p_newa (atype := .long) (ty := .long) hx hb (hT _ bw_1340) rfl hK.1 hP hD hS hA 2 rfl (fun _ h9 => h9) (a0 := (4, .inr (.inl zL))) (fun _ => rfl) (by decide) (N' := 4) rfl (by decide) (by decide) (by decide) dX0_init_6 (fun q_1 H hP hD hS => ?_)
  have hP : va_P g.1 vwCl [(h, .inr (0, [.int 0, .int 0, .null, .int 0, .int 0, .null, .null, .null])), (q_1, aJ g 4 zL)] H := hP
  have hD : va_D A [(h, .inr (0, [.int 0, .int 0, .null, .int 0, .int 0, .null, .null, .null])), (q_1, aJ g 4 zL)] := hD
  refine W.widen (k := 1) (n := 4) (by decide) (by decide) ?_
  refine va_putF (D := g.1) (ci := 0) (v := .ref q_1) (ty := .array .long) (C := RX0) (T := TX0) (N := 8) hx hb hT inF_X0 tyX0 tyX0_ok nmX0 hown hK.1 hP hD hS 0 rfl rfl 2 (by decide) (hT _ bw_1363) (fun _ h9 => h9) rfl hin rfl (by decide +kernel) rfl rfl (Nat.le_of_ble_eq_true rfl) dX0_init_8 (fun H locs hP hD hS => ?_)
  have hP : va_P g.1 vwCl [(h, .inr (0, [.int 0, .int 0, .ref q_1, .int 0, .int 0, .null, .null, .null])), (q_1, aJ g 4 zL)] H := hP
  have hD : va_D A [(h, .inr (0, [.int 0, .int 0, .ref q_1, .int 0, .int 0, .null, .null, .null])), (q_1, aJ g 4 zL)] := hD
  refine lv_aload_n hx hb dX0_init_11 rfl (lv_at hl 0 rfl) ?_
  refine lv_iconst (v := 5) hx hb dX0_init_12 (by decide) ?_
  refine p_newa (atype := .int) (ty := .int) hx hb (hT _ bw_1354) rfl hK.1 hP hD hS hA 1 rfl (fun _ h9 => h9) (a0 := (5, .inl z0)) (fun _ => rfl) (by decide) (N' := 5) rfl (by decide) (by decide) (by decide) dX0_init_13 (fun q_2 H hP hD hS => ?_)
  have hP : va_P g.1 vwCl [(h, .inr (0, [.int 0, .int 0, .ref q_1, .int 0, .int 0, .null, .null, .null])), (q_1, aJ g 4 zL), (q_2, aI g 5 z0)] H := hP
  have hD : va_D A [(h, .inr (0, [.int 0, .int 0, .ref q_1, .int 0, .int 0, .null, .null, .null])), (q_1, aJ g 4 zL), (q_2, aI g 5 z0)] := hD
  refine W.widen (k := 2) (n := 9) (by decide) (by decide) ?_
  refine va_putF (D := g.1) (ci := 0) (v := .ref q_2) (ty := .array .int) (C := RX0) (T := TX0) (N := 8) hx hb hT inF_X0 tyX0 tyX0_ok nmX0 hown hK.1 hP hD hS 0 rfl rfl 5 (by decide) (hT _ bw_121) (fun _ h9 => h9) rfl hin rfl (by decide +kernel) rfl rfl (Nat.le_of_ble_eq_true rfl) dX0_init_15 (fun H locs hP hD hS => ?_)
  have hP : va_P g.1 vwCl [(h, .inr (0, [.int 0, .int 0, .ref q_1, .int 0, .int 0, .ref q_2, .null, .null])), (q_1, aJ g 4 zL), (q_2, aI g 5 z0)] H := hP
  have hD : va_D A [(h, .inr (0, [.int 0, .int 0, .ref q_1, .int 0, .int 0, .ref q_2, .null, .null])), (q_1, aJ g 4 zL), (q_2, aI g 5 z0)] := hD
  refine lv_aload_n hx hb dX0_init_18 rfl (lv_at hl 0 rfl) ?_
  refine lv_sipush (v := 640) hx hb dX0_init_19 (by decide) ?_
  refine p_newa (atype := .int) (ty := .int) hx hb (hT _ bw_1354) rfl hK.1 hP hD hS hA 1 rfl (fun _ h9 => h9) (a0 := (640, .inl z0)) (fun _ => rfl) (by decide) (N' := 640) rfl (by decide) (by decide) (by decide) dX0_init_22 (fun q_3 H hP hD hS => ?_)
  have hP : va_P g.1 vwCl [(h, .inr (0, [.int 0, .int 0, .ref q_1, .int 0, .int 0, .ref q_2, .null, .null])), (q_1, aJ g 4 zL), (q_2, aI g 5 z0), (q_3, aI g 640 z0)] H := hP
  have hD : va_D A [(h, .inr (0, [.int 0, .int 0, .ref q_1, .int 0, .int 0, .ref q_2, .null, .null])), (q_1, aJ g 4 zL), (q_2, aI g 5 z0), (q_3, aI g 640 z0)] := hD
  refine W.widen (k := 3) (n := 649) (by decide) (by decide) ?_
  refine va_putF (D := g.1) (ci := 0) (v := .ref q_3) (ty := .array .int) (C := RX0) (T := TX0) (N := 8) hx hb hT inF_X0 tyX0 tyX0_ok nmX0 hown hK.1 hP hD hS 0 rfl rfl 6 (by decide) (hT _ bw_125) (fun _ h9 => h9) rfl hin rfl (by decide +kernel) rfl rfl (Nat.le_of_ble_eq_true rfl) dX0_init_24 (fun H locs hP hD hS => ?_)
  have hP : va_P g.1 vwCl [(h, .inr (0, [.int 0, .int 0, .ref q_1, .int 0, .int 0, .ref q_2, .ref q_3, .null])), (q_1, aJ g 4 zL), (q_2, aI g 5 z0), (q_3, aI g 640 z0)] H := hP
  have hD : va_D A [(h, .inr (0, [.int 0, .int 0, .ref q_1, .int 0, .int 0, .ref q_2, .ref q_3, .null])), (q_1, aJ g 4 zL), (q_2, aI g 5 z0), (q_3, aI g 640 z0)] := hD
  refine lv_aload_n hx hb dX0_init_27 rfl (lv_at hl 0 rfl) ?_
  refine lv_bipush (v := 32) hx hb dX0_init_28 (by decide) ?_
  refine p_newa (atype := .int) (ty := .int) hx hb (hT _ bw_1354) rfl hK.1 hP hD hS hA 1 rfl (fun _ h9 => h9) (a0 := (32, .inl z0)) (fun _ => rfl) (by decide) (N' := 32) rfl (by decide) (by decide) (by decide) dX0_init_30 (fun q_4 H hP hD hS => ?_)
  have hP : va_P g.1 vwCl [(h, .inr (0, [.int 0, .int 0, .ref q_1, .int 0, .int 0, .ref q_2, .ref q_3, .null])), (q_1, aJ g 4 zL), (q_2, aI g 5 z0), (q_3, aI g 640 z0), (q_4, aI g 32 z0)] H := hP
  have hD : va_D A [(h, .inr (0, [.int 0, .int 0, .ref q_1, .int 0, .int 0, .ref q_2, .ref q_3, .null])), (q_1, aJ g 4 zL), (q_2, aI g 5 z0), (q_3, aI g 640 z0), (q_4, aI g 32 z0)] := hD
  refine W.widen (k := 4) (n := 681) (by decide) (by decide) ?_
  refine va_putF (D := g.1) (ci := 0) (v := .ref q_4) (ty := .array .int) (C := RX0) (T := TX0) (N := 8) hx hb hT inF_X0 tyX0 tyX0_ok nmX0 hown hK.1 hP hD hS 0 rfl rfl 7 (by decide) (hT _ bw_129) (fun _ h9 => h9) rfl hin rfl (by decide +kernel) rfl rfl (Nat.le_of_ble_eq_true rfl) dX0_init_32 (fun H locs hP hD hS => ?_)
  have hP : va_P g.1 vwCl [(h, .inr (0, [.int 0, .int 0, .ref q_1, .int 0, .int 0, .ref q_2, .ref q_3, .ref q_4])), (q_1, aJ g 4 zL), (q_2, aI g 5 z0), (q_3, aI g 640 z0), (q_4, aI g 32 z0)] H := hP
  have hD : va_D A [(h, .inr (0, [.int 0, .int 0, .ref q_1, .int 0, .int 0, .ref q_2, .ref q_3, .ref q_4])), (q_1, aJ g 4 zL), (q_2, aI g 5 z0), (q_3, aI g 640 z0), (q_4, aI g 32 z0)] := hD
  have hP9 : va_P g.1 vwCl [(h, .inr (0, [.int 0, .int 0, .ref q_1, .int 0, .int 0, .ref q_2, .ref q_3, .ref q_4])), (q_1, aJ g 4 zL), (q_2, aI g 5 z0), (q_3, aI g 640 z0), (q_4, aI g 32 z0)] H := hP.sub [0, 1, 2, 3, 4] rfl
  have hD9 : va_D A [(h, .inr (0, [.int 0, .int 0, .ref q_1, .int 0, .int 0, .ref q_2, .ref q_3, .ref q_4])), (q_1, aJ g 4 zL), (q_2, aI g 5 z0), (q_3, aI g 640 z0), (q_4, aI g 32 z0)] := hD.sub [0, 1, 2, 3, 4] (by decide +kernel) rfl
  exact W.vret hx hb hr (fun t ht hW => ⟨⟨(q_1, q_2, q_3, q_4), rfl, trivial, by rw [ht]; exact hP9, by rw [hAe]; exact hD9⟩, hS.F ht⟩) hS.2.2 dX0_init_35

theorem bw_1365 : Cond.methodLink RX6 3 objectInit ∈ gT := gT_tb 234 (by decide +kernel) (by decide +kernel)
theorem bw_1366 : Cond.fieldLink RX6 9 "DuelDelays$Reasons" "names" "[J" ∈ gT := gT_tb 241 (by decide +kernel) (by decide +kernel)
theorem bw_1367 : Cond.fieldLink RX6 15 "DuelDelays$Reasons" "kinds" "[I" ∈ gT := gT_tb 243 (by decide +kernel) (by decide +kernel)
theorem bw_1368 : Cond.fieldLink RX6 19 "DuelDelays$Reasons" "owners" "[I" ∈ gT := gT_tb 248 (by decide +kernel) (by decide +kernel)
theorem bw_1369 : Cond.fieldLink RX6 31 "DuelDelays$Reasons" "sorts" "[I" ∈ gT := gT_tb 261 (by decide +kernel) (by decide +kernel)
theorem bw_1370 : Cond.code yX6_init cX6_init 1 none ∈ gT := gT_tb 233 (by decide +kernel) (by decide +kernel)
theorem dX6_init_0 : decode cX6_init 0 = .ok (.aload_n 0, 1) := by decide +kernel
theorem dX6_init_1 : decode cX6_init 1 = .ok (.invokespecial 3, 3) := by decide +kernel
theorem dX6_init_4 : decode cX6_init 4 = .ok (.aload_n 0, 1) := by decide +kernel
theorem dX6_init_5 : decode cX6_init 5 = .ok (.bipush 8, 2) := by decide +kernel
theorem dX6_init_7 : decode cX6_init 7 = .ok (.newarray .long, 2) := by decide +kernel
theorem dX6_init_9 : decode cX6_init 9 = .ok (.putfield 9, 3) := by decide +kernel
theorem dX6_init_12 : decode cX6_init 12 = .ok (.aload_n 0, 1) := by decide +kernel
theorem dX6_init_13 : decode cX6_init 13 = .ok (.bipush 8, 2) := by decide +kernel
theorem dX6_init_15 : decode cX6_init 15 = .ok (.newarray .int, 2) := by decide +kernel
theorem dX6_init_17 : decode cX6_init 17 = .ok (.putfield 15, 3) := by decide +kernel
theorem dX6_init_20 : decode cX6_init 20 = .ok (.aload_n 0, 1) := by decide +kernel
theorem dX6_init_21 : decode cX6_init 21 = .ok (.bipush 8, 2) := by decide +kernel
theorem dX6_init_23 : decode cX6_init 23 = .ok (.newarray .int, 2) := by decide +kernel
theorem dX6_init_25 : decode cX6_init 25 = .ok (.putfield 19, 3) := by decide +kernel
theorem dX6_init_28 : decode cX6_init 28 = .ok (.aload_n 0, 1) := by decide +kernel
theorem dX6_init_29 : decode cX6_init 29 = .ok (.bipush 8, 2) := by decide +kernel
theorem dX6_init_31 : decode cX6_init 31 = .ok (.newarray .int, 2) := by decide +kernel
theorem dX6_init_33 : decode cX6_init 33 = .ok (.putfield 22, 3) := by decide +kernel
theorem dX6_init_36 : decode cX6_init 36 = .ok (.aload_n 0, 1) := by decide +kernel
theorem dX6_init_37 : decode cX6_init 37 = .ok (.bipush 8, 2) := by decide +kernel
theorem dX6_init_39 : decode cX6_init 39 = .ok (.newarray .int, 2) := by decide +kernel
theorem dX6_init_41 : decode cX6_init 41 = .ok (.putfield 25, 3) := by decide +kernel
theorem dX6_init_44 : decode cX6_init 44 = .ok (.aload_n 0, 1) := by decide +kernel
theorem dX6_init_45 : decode cX6_init 45 = .ok (.bipush 8, 2) := by decide +kernel
theorem dX6_init_47 : decode cX6_init 47 = .ok (.newarray .int, 2) := by decide +kernel
theorem dX6_init_49 : decode cX6_init 49 = .ok (.putfield 28, 3) := by decide +kernel
theorem dX6_init_52 : decode cX6_init 52 = .ok (.aload_n 0, 1) := by decide +kernel
theorem dX6_init_53 : decode cX6_init 53 = .ok (.bipush 8, 2) := by decide +kernel
theorem dX6_init_55 : decode cX6_init 55 = .ok (.newarray .int, 2) := by decide +kernel
theorem dX6_init_57 : decode cX6_init 57 = .ok (.putfield 31, 3) := by decide +kernel
theorem dX6_init_60 : decode cX6_init 60 = .ok (.return_, 1) := by decide +kernel
set_option maxHeartbeats 40000000 in
set_option maxRecDepth 100000 in
theorem c_X6_init (l : Launch) (g : GG) (sz : Nat) (h : Nat) : Met l yX6_init (.code yX6_init cX6_init 1 none :: gT) ({ frames := 1, cells := 7, slots := 56, locals := 40 }) (va_Pc [.ref h] (Pst g sz [(h, .inr (6, [.int 0, .null, .null, .null, .null, .null, .null, .null]))] nX)) (va_Qv (fun (_ : Nat × Nat × Nat × Nat × Nat × Nat × Nat) => True) (Qst g [(h, .inr (6, [.int 0, .null, .null, .null, .null, .null, .null, .null]))] sz (fun ((q_1, q_2, q_3, q_4, q_5, q_6, q_7) : Nat × Nat × Nat × Nat × Nat × Nat × Nat) => [(h, .inr (6, [.int 0, .ref q_1, .ref q_2, .ref q_3, .ref q_4, .ref q_5, .ref q_6, .ref q_7])), (q_1, aJ g 8 zL), (q_2, aI g 8 z0), (q_3, aI g 8 z0), (q_4, aI g 8 z0), (q_5, aI g 8 z0), (q_6, aI g 8 z0), (q_7, aI g 8 z0)])) (va_A [(h, .inr (6, [.int 0, .null, .null, .null, .null, .null, .null, .null]))] sz)) 7 56 (va_A [(h, .inr (6, [.int 0, .null, .null, .null, .null, .null, .null, .null]))] sz) := by
  refine Met.ofW (cc := cX6_init) (maxL := 1) (ret := none) (by decide) rfl ?_
  intro p e s m args below meth c s₁ B hml hv
  obtain ⟨rfl, hsz, hP, hK, hD0, hX⟩ := hv
  have hx := B.exec
  have hb := B.bytes
  have hr := B.returns
  have hT : ∀ w ∈ gT, w.before _ s = true := fun w h => atoms_spec (ws := .code yX6_init cX6_init 1 none :: gT) B.pre w (List.mem_cons_of_mem _ h)
  have hown : s.vm.findClass RX6 = some m.cls := findClass_of_methodNamed B.named
  have hlocks := B.notSynchronized
  have hin : meth.name = "<init>" := (name_of_methodNamed B.named B.method).1
  subst hsz
  have hD := hD0.self (sz := s.heap.size)
  generalize hAe : va_A [(h, .inr (6, [.int 0, .null, .null, .null, .null, .null, .null, .null]))] s.heap.size = A at hD ⊢
  have hA : ∀ q : Nat, s.heap.size ≤ q → A q := fun q h => by rw [← hAe]; exact Or.inr h
  have hS : va_S A s.heap s.heap [] := va_S.rf
  have hl := lv_entry ([.ref h]) (n := 1) (Nat.le_of_ble_eq_true rfl)
  rw [lg_entry_eq]
  generalize (lg_sl ([.ref h]) ++ List.replicate (1 - (lg_sl ([.ref h])).length) Slot.unset).toArray = ls at hl ⊢
  have hl : lv_has ls 1 [(0, .ref h)] := hl
  refine p_nH (fun H hH => ?_)
  have hP : va_P g.1 vwCl [(h, .inr (6, [.int 0, .null, .null, .null, .null, .null, .null, .null]))] H := by rw [hH]; exact hP
  have hS : va_S A s.heap H [] := by rw [hH]; exact hS
  refine lv_aload_n hx hb dX6_init_0 rfl (lv_at hl 0 rfl) ?_
  refine W.objInit hx hb hown (hT _ bw_1365) (hT _ bw_1338) (hT _ bw_1339) rfl (by rw [hml]; exact hl.1) rfl dX6_init_1 (Nat.le_of_ble_eq_true rfl) (Nat.le_of_ble_eq_true rfl) ?_
  refine W.eq (g2 := F0 m 4 ls []) rfl ?_
  refine lv_aload_n hx hb dX6_init_4 rfl (lv_at hl 0 rfl) ?_
  refine lv_bipush (v := 8) hx hb dX6_init_5 (by decide) ?_
  refine p_newa (atype := .long) (ty := .long) hx hb (hT _ bw_1340) rfl hK.1 hP hD hS hA 2 rfl (fun _ h9 => h9) (a0 := (8, .inr (.inl zL))) (fun _ => rfl) (by decide) (N' := 8) rfl (by decide) (by decide) (by decide) dX6_init_7 (fun q_1 H hP hD hS => ?_)
  have hP : va_P g.1 vwCl [(h, .inr (6, [.int 0, .null, .null, .null, .null, .null, .null, .null])), (q_1, aJ g 8 zL)] H := hP
  have hD : va_D A [(h, .inr (6, [.int 0, .null, .null, .null, .null, .null, .null, .null])), (q_1, aJ g 8 zL)] := hD
  refine W.widen (k := 1) (n := 8) (by decide) (by decide) ?_
  refine va_putF (D := g.1) (ci := 6) (v := .ref q_1) (ty := .array .long) (C := RX6) (T := TX6) (N := 8) hx hb hT inF_X6 tyX6 tyX6_ok nmX6 hown hK.1 hP hD hS 0 rfl rfl 1 (by decide) (hT _ bw_1366) (fun _ h9 => h9) rfl hin rfl (by decide +kernel) rfl rfl (Nat.le_of_ble_eq_true rfl) dX6_init_9 (fun H locs hP hD hS => ?_)
  have hP : va_P g.1 vwCl [(h, .inr (6, [.int 0, .ref q_1, .null, .null, .null, .null, .null, .null])), (q_1, aJ g 8 zL)] H := hP
  have hD : va_D A [(h, .inr (6, [.int 0, .ref q_1, .null, .null, .null, .null, .null, .null])), (q_1, aJ g 8 zL)] := hD
  refine lv_aload_n hx hb dX6_init_12 rfl (lv_at hl 0 rfl) ?_
  refine lv_bipush (v := 8) hx hb dX6_init_13 (by decide) ?_
  refine p_newa (atype := .int) (ty := .int) hx hb (hT _ bw_1354) rfl hK.1 hP hD hS hA 1 rfl (fun _ h9 => h9) (a0 := (8, .inl z0)) (fun _ => rfl) (by decide) (N' := 8) rfl (by decide) (by decide) (by decide) dX6_init_15 (fun q_2 H hP hD hS => ?_)
  have hP : va_P g.1 vwCl [(h, .inr (6, [.int 0, .ref q_1, .null, .null, .null, .null, .null, .null])), (q_1, aJ g 8 zL), (q_2, aI g 8 z0)] H := hP
  have hD : va_D A [(h, .inr (6, [.int 0, .ref q_1, .null, .null, .null, .null, .null, .null])), (q_1, aJ g 8 zL), (q_2, aI g 8 z0)] := hD
  refine W.widen (k := 2) (n := 16) (by decide) (by decide) ?_
  refine va_putF (D := g.1) (ci := 6) (v := .ref q_2) (ty := .array .int) (C := RX6) (T := TX6) (N := 8) hx hb hT inF_X6 tyX6 tyX6_ok nmX6 hown hK.1 hP hD hS 0 rfl rfl 2 (by decide) (hT _ bw_1367) (fun _ h9 => h9) rfl hin rfl (by decide +kernel) rfl rfl (Nat.le_of_ble_eq_true rfl) dX6_init_17 (fun H locs hP hD hS => ?_)
  have hP : va_P g.1 vwCl [(h, .inr (6, [.int 0, .ref q_1, .ref q_2, .null, .null, .null, .null, .null])), (q_1, aJ g 8 zL), (q_2, aI g 8 z0)] H := hP
  have hD : va_D A [(h, .inr (6, [.int 0, .ref q_1, .ref q_2, .null, .null, .null, .null, .null])), (q_1, aJ g 8 zL), (q_2, aI g 8 z0)] := hD
  refine lv_aload_n hx hb dX6_init_20 rfl (lv_at hl 0 rfl) ?_
  refine lv_bipush (v := 8) hx hb dX6_init_21 (by decide) ?_
  refine p_newa (atype := .int) (ty := .int) hx hb (hT _ bw_1354) rfl hK.1 hP hD hS hA 1 rfl (fun _ h9 => h9) (a0 := (8, .inl z0)) (fun _ => rfl) (by decide) (N' := 8) rfl (by decide) (by decide) (by decide) dX6_init_23 (fun q_3 H hP hD hS => ?_)
  have hP : va_P g.1 vwCl [(h, .inr (6, [.int 0, .ref q_1, .ref q_2, .null, .null, .null, .null, .null])), (q_1, aJ g 8 zL), (q_2, aI g 8 z0), (q_3, aI g 8 z0)] H := hP
  have hD : va_D A [(h, .inr (6, [.int 0, .ref q_1, .ref q_2, .null, .null, .null, .null, .null])), (q_1, aJ g 8 zL), (q_2, aI g 8 z0), (q_3, aI g 8 z0)] := hD
  refine W.widen (k := 3) (n := 24) (by decide) (by decide) ?_
  refine va_putF (D := g.1) (ci := 6) (v := .ref q_3) (ty := .array .int) (C := RX6) (T := TX6) (N := 8) hx hb hT inF_X6 tyX6 tyX6_ok nmX6 hown hK.1 hP hD hS 0 rfl rfl 3 (by decide) (hT _ bw_1368) (fun _ h9 => h9) rfl hin rfl (by decide +kernel) rfl rfl (Nat.le_of_ble_eq_true rfl) dX6_init_25 (fun H locs hP hD hS => ?_)
  have hP : va_P g.1 vwCl [(h, .inr (6, [.int 0, .ref q_1, .ref q_2, .ref q_3, .null, .null, .null, .null])), (q_1, aJ g 8 zL), (q_2, aI g 8 z0), (q_3, aI g 8 z0)] H := hP
  have hD : va_D A [(h, .inr (6, [.int 0, .ref q_1, .ref q_2, .ref q_3, .null, .null, .null, .null])), (q_1, aJ g 8 zL), (q_2, aI g 8 z0), (q_3, aI g 8 z0)] := hD
  refine lv_aload_n hx hb dX6_init_28 rfl (lv_at hl 0 rfl) ?_
  refine lv_bipush (v := 8) hx hb dX6_init_29 (by decide) ?_
  refine p_newa (atype := .int) (ty := .int) hx hb (hT _ bw_1354) rfl hK.1 hP hD hS hA 1 rfl (fun _ h9 => h9) (a0 := (8, .inl z0)) (fun _ => rfl) (by decide) (N' := 8) rfl (by decide) (by decide) (by decide) dX6_init_31 (fun q_4 H hP hD hS => ?_)
  have hP : va_P g.1 vwCl [(h, .inr (6, [.int 0, .ref q_1, .ref q_2, .ref q_3, .null, .null, .null, .null])), (q_1, aJ g 8 zL), (q_2, aI g 8 z0), (q_3, aI g 8 z0), (q_4, aI g 8 z0)] H := hP
  have hD : va_D A [(h, .inr (6, [.int 0, .ref q_1, .ref q_2, .ref q_3, .null, .null, .null, .null])), (q_1, aJ g 8 zL), (q_2, aI g 8 z0), (q_3, aI g 8 z0), (q_4, aI g 8 z0)] := hD
  refine W.widen (k := 4) (n := 32) (by decide) (by decide) ?_
  refine va_putF (D := g.1) (ci := 6) (v := .ref q_4) (ty := .array .int) (C := RX6) (T := TX6) (N := 8) hx hb hT inF_X6 tyX6 tyX6_ok nmX6 hown hK.1 hP hD hS 0 rfl rfl 4 (by decide) (hT _ bw_8) (fun _ h9 => h9) rfl hin rfl (by decide +kernel) rfl rfl (Nat.le_of_ble_eq_true rfl) dX6_init_33 (fun H locs hP hD hS => ?_)
  have hP : va_P g.1 vwCl [(h, .inr (6, [.int 0, .ref q_1, .ref q_2, .ref q_3, .ref q_4, .null, .null, .null])), (q_1, aJ g 8 zL), (q_2, aI g 8 z0), (q_3, aI g 8 z0), (q_4, aI g 8 z0)] H := hP
  have hD : va_D A [(h, .inr (6, [.int 0, .ref q_1, .ref q_2, .ref q_3, .ref q_4, .null, .null, .null])), (q_1, aJ g 8 zL), (q_2, aI g 8 z0), (q_3, aI g 8 z0), (q_4, aI g 8 z0)] := hD
  refine lv_aload_n hx hb dX6_init_36 rfl (lv_at hl 0 rfl) ?_
  refine lv_bipush (v := 8) hx hb dX6_init_37 (by decide) ?_
  refine p_newa (atype := .int) (ty := .int) hx hb (hT _ bw_1354) rfl hK.1 hP hD hS hA 1 rfl (fun _ h9 => h9) (a0 := (8, .inl z0)) (fun _ => rfl) (by decide) (N' := 8) rfl (by decide) (by decide) (by decide) dX6_init_39 (fun q_5 H hP hD hS => ?_)
  have hP : va_P g.1 vwCl [(h, .inr (6, [.int 0, .ref q_1, .ref q_2, .ref q_3, .ref q_4, .null, .null, .null])), (q_1, aJ g 8 zL), (q_2, aI g 8 z0), (q_3, aI g 8 z0), (q_4, aI g 8 z0), (q_5, aI g 8 z0)] H := hP
  have hD : va_D A [(h, .inr (6, [.int 0, .ref q_1, .ref q_2, .ref q_3, .ref q_4, .null, .null, .null])), (q_1, aJ g 8 zL), (q_2, aI g 8 z0), (q_3, aI g 8 z0), (q_4, aI g 8 z0), (q_5, aI g 8 z0)] := hD
  refine W.widen (k := 5) (n := 40) (by decide) (by decide) ?_
  refine va_putF (D := g.1) (ci := 6) (v := .ref q_5) (ty := .array .int) (C := RX6) (T := TX6) (N := 8) hx hb hT inF_X6 tyX6 tyX6_ok nmX6 hown hK.1 hP hD hS 0 rfl rfl 5 (by decide) (hT _ bw_9) (fun _ h9 => h9) rfl hin rfl (by decide +kernel) rfl rfl (Nat.le_of_ble_eq_true rfl) dX6_init_41 (fun H locs hP hD hS => ?_)
  have hP : va_P g.1 vwCl [(h, .inr (6, [.int 0, .ref q_1, .ref q_2, .ref q_3, .ref q_4, .ref q_5, .null, .null])), (q_1, aJ g 8 zL), (q_2, aI g 8 z0), (q_3, aI g 8 z0), (q_4, aI g 8 z0), (q_5, aI g 8 z0)] H := hP
  have hD : va_D A [(h, .inr (6, [.int 0, .ref q_1, .ref q_2, .ref q_3, .ref q_4, .ref q_5, .null, .null])), (q_1, aJ g 8 zL), (q_2, aI g 8 z0), (q_3, aI g 8 z0), (q_4, aI g 8 z0), (q_5, aI g 8 z0)] := hD
  refine lv_aload_n hx hb dX6_init_44 rfl (lv_at hl 0 rfl) ?_
  refine lv_bipush (v := 8) hx hb dX6_init_45 (by decide) ?_
  refine p_newa (atype := .int) (ty := .int) hx hb (hT _ bw_1354) rfl hK.1 hP hD hS hA 1 rfl (fun _ h9 => h9) (a0 := (8, .inl z0)) (fun _ => rfl) (by decide) (N' := 8) rfl (by decide) (by decide) (by decide) dX6_init_47 (fun q_6 H hP hD hS => ?_)
  have hP : va_P g.1 vwCl [(h, .inr (6, [.int 0, .ref q_1, .ref q_2, .ref q_3, .ref q_4, .ref q_5, .null, .null])), (q_1, aJ g 8 zL), (q_2, aI g 8 z0), (q_3, aI g 8 z0), (q_4, aI g 8 z0), (q_5, aI g 8 z0), (q_6, aI g 8 z0)] H := hP
  have hD : va_D A [(h, .inr (6, [.int 0, .ref q_1, .ref q_2, .ref q_3, .ref q_4, .ref q_5, .null, .null])), (q_1, aJ g 8 zL), (q_2, aI g 8 z0), (q_3, aI g 8 z0), (q_4, aI g 8 z0), (q_5, aI g 8 z0), (q_6, aI g 8 z0)] := hD
  refine W.widen (k := 6) (n := 48) (by decide) (by decide) ?_
  refine va_putF (D := g.1) (ci := 6) (v := .ref q_6) (ty := .array .int) (C := RX6) (T := TX6) (N := 8) hx hb hT inF_X6 tyX6 tyX6_ok nmX6 hown hK.1 hP hD hS 0 rfl rfl 6 (by decide) (hT _ bw_11) (fun _ h9 => h9) rfl hin rfl (by decide +kernel) rfl rfl (Nat.le_of_ble_eq_true rfl) dX6_init_49 (fun H locs hP hD hS => ?_)
  have hP : va_P g.1 vwCl [(h, .inr (6, [.int 0, .ref q_1, .ref q_2, .ref q_3, .ref q_4, .ref q_5, .ref q_6, .null])), (q_1, aJ g 8 zL), (q_2, aI g 8 z0), (q_3, aI g 8 z0), (q_4, aI g 8 z0), (q_5, aI g 8 z0), (q_6, aI g 8 z0)] H := hP
  have hD : va_D A [(h, .inr (6, [.int 0, .ref q_1, .ref q_2, .ref q_3, .ref q_4, .ref q_5, .ref q_6, .null])), (q_1, aJ g 8 zL), (q_2, aI g 8 z0), (q_3, aI g 8 z0), (q_4, aI g 8 z0), (q_5, aI g 8 z0), (q_6, aI g 8 z0)] := hD
  refine lv_aload_n hx hb dX6_init_52 rfl (lv_at hl 0 rfl) ?_
  refine lv_bipush (v := 8) hx hb dX6_init_53 (by decide) ?_
  refine p_newa (atype := .int) (ty := .int) hx hb (hT _ bw_1354) rfl hK.1 hP hD hS hA 1 rfl (fun _ h9 => h9) (a0 := (8, .inl z0)) (fun _ => rfl) (by decide) (N' := 8) rfl (by decide) (by decide) (by decide) dX6_init_55 (fun q_7 H hP hD hS => ?_)
  have hP : va_P g.1 vwCl [(h, .inr (6, [.int 0, .ref q_1, .ref q_2, .ref q_3, .ref q_4, .ref q_5, .ref q_6, .null])), (q_1, aJ g 8 zL), (q_2, aI g 8 z0), (q_3, aI g 8 z0), (q_4, aI g 8 z0), (q_5, aI g 8 z0), (q_6, aI g 8 z0), (q_7, aI g 8 z0)] H := hP
  have hD : va_D A [(h, .inr (6, [.int 0, .ref q_1, .ref q_2, .ref q_3, .ref q_4, .ref q_5, .ref q_6, .null])), (q_1, aJ g 8 zL), (q_2, aI g 8 z0), (q_3, aI g 8 z0), (q_4, aI g 8 z0), (q_5, aI g 8 z0), (q_6, aI g 8 z0), (q_7, aI g 8 z0)] := hD
  refine W.widen (k := 7) (n := 56) (by decide) (by decide) ?_
  refine va_putF (D := g.1) (ci := 6) (v := .ref q_7) (ty := .array .int) (C := RX6) (T := TX6) (N := 8) hx hb hT inF_X6 tyX6 tyX6_ok nmX6 hown hK.1 hP hD hS 0 rfl rfl 7 (by decide) (hT _ bw_1369) (fun _ h9 => h9) rfl hin rfl (by decide +kernel) rfl rfl (Nat.le_of_ble_eq_true rfl) dX6_init_57 (fun H locs hP hD hS => ?_)
  have hP : va_P g.1 vwCl [(h, .inr (6, [.int 0, .ref q_1, .ref q_2, .ref q_3, .ref q_4, .ref q_5, .ref q_6, .ref q_7])), (q_1, aJ g 8 zL), (q_2, aI g 8 z0), (q_3, aI g 8 z0), (q_4, aI g 8 z0), (q_5, aI g 8 z0), (q_6, aI g 8 z0), (q_7, aI g 8 z0)] H := hP
  have hD : va_D A [(h, .inr (6, [.int 0, .ref q_1, .ref q_2, .ref q_3, .ref q_4, .ref q_5, .ref q_6, .ref q_7])), (q_1, aJ g 8 zL), (q_2, aI g 8 z0), (q_3, aI g 8 z0), (q_4, aI g 8 z0), (q_5, aI g 8 z0), (q_6, aI g 8 z0), (q_7, aI g 8 z0)] := hD
  have hP9 : va_P g.1 vwCl [(h, .inr (6, [.int 0, .ref q_1, .ref q_2, .ref q_3, .ref q_4, .ref q_5, .ref q_6, .ref q_7])), (q_1, aJ g 8 zL), (q_2, aI g 8 z0), (q_3, aI g 8 z0), (q_4, aI g 8 z0), (q_5, aI g 8 z0), (q_6, aI g 8 z0), (q_7, aI g 8 z0)] H := hP.sub [0, 1, 2, 3, 4, 5, 6, 7] rfl
  have hD9 : va_D A [(h, .inr (6, [.int 0, .ref q_1, .ref q_2, .ref q_3, .ref q_4, .ref q_5, .ref q_6, .ref q_7])), (q_1, aJ g 8 zL), (q_2, aI g 8 z0), (q_3, aI g 8 z0), (q_4, aI g 8 z0), (q_5, aI g 8 z0), (q_6, aI g 8 z0), (q_7, aI g 8 z0)] := hD.sub [0, 1, 2, 3, 4, 5, 6, 7] (by decide +kernel) rfl
  exact W.vret hx hb hr (fun t ht hW => ⟨⟨(q_1, q_2, q_3, q_4, q_5, q_6, q_7), rfl, trivial, by rw [ht]; exact hP9, by rw [hAe]; exact hD9⟩, hS.F ht⟩) hS.2.2 dX6_init_60

theorem bw_1371 : Cond.methodLink RX8 3 objectInit ∈ gT := gT_tb 385 (by decide +kernel) (by decide +kernel)
theorem bw_1372 : Cond.code yX8_init cX8_init 1 none ∈ gT := gT_tb 384 (by decide +kernel) (by decide +kernel)
theorem dX8_init_0 : decode cX8_init 0 = .ok (.aload_n 0, 1) := by decide +kernel
theorem dX8_init_1 : decode cX8_init 1 = .ok (.invokespecial 3, 3) := by decide +kernel
theorem dX8_init_4 : decode cX8_init 4 = .ok (.aload_n 0, 1) := by decide +kernel
theorem dX8_init_5 : decode cX8_init 5 = .ok (.bipush 30, 2) := by decide +kernel
theorem dX8_init_7 : decode cX8_init 7 = .ok (.newarray .int, 2) := by decide +kernel
theorem dX8_init_9 : decode cX8_init 9 = .ok (.putfield 9, 3) := by decide +kernel
theorem dX8_init_12 : decode cX8_init 12 = .ok (.aload_n 0, 1) := by decide +kernel
theorem dX8_init_13 : decode cX8_init 13 = .ok (.bipush 30, 2) := by decide +kernel
theorem dX8_init_15 : decode cX8_init 15 = .ok (.newarray .int, 2) := by decide +kernel
theorem dX8_init_17 : decode cX8_init 17 = .ok (.putfield 15, 3) := by decide +kernel
theorem dX8_init_20 : decode cX8_init 20 = .ok (.aload_n 0, 1) := by decide +kernel
theorem dX8_init_21 : decode cX8_init 21 = .ok (.bipush 30, 2) := by decide +kernel
theorem dX8_init_23 : decode cX8_init 23 = .ok (.newarray .int, 2) := by decide +kernel
theorem dX8_init_25 : decode cX8_init 25 = .ok (.putfield 18, 3) := by decide +kernel
theorem dX8_init_28 : decode cX8_init 28 = .ok (.aload_n 0, 1) := by decide +kernel
theorem dX8_init_29 : decode cX8_init 29 = .ok (.bipush 30, 2) := by decide +kernel
theorem dX8_init_31 : decode cX8_init 31 = .ok (.newarray .int, 2) := by decide +kernel
theorem dX8_init_33 : decode cX8_init 33 = .ok (.putfield 21, 3) := by decide +kernel
theorem dX8_init_36 : decode cX8_init 36 = .ok (.return_, 1) := by decide +kernel
set_option maxHeartbeats 40000000 in
set_option maxRecDepth 100000 in
theorem c_X8_init (l : Launch) (g : GG) (sz : Nat) (h : Nat) : Met l yX8_init (.code yX8_init cX8_init 1 none :: gT) ({ frames := 1, cells := 4, slots := 120, locals := 40 }) (va_Pc [.ref h] (Pst g sz [(h, .inr (8, [.int 0, .int 0, .null, .null, .null, .null]))] nX)) (va_Qv (fun (_ : Nat × Nat × Nat × Nat) => True) (Qst g [(h, .inr (8, [.int 0, .int 0, .null, .null, .null, .null]))] sz (fun ((q_1, q_2, q_3, q_4) : Nat × Nat × Nat × Nat) => [(h, .inr (8, [.int 0, .int 0, .ref q_1, .ref q_2, .ref q_3, .ref q_4])), (q_1, aI g 30 z0), (q_2, aI g 30 z0), (q_3, aI g 30 z0), (q_4, aI g 30 z0)])) (va_A [(h, .inr (8, [.int 0, .int 0, .null, .null, .null, .null]))] sz)) 4 120 (va_A [(h, .inr (8, [.int 0, .int 0, .null, .null, .null, .null]))] sz) := by
  refine Met.ofW (cc := cX8_init) (maxL := 1) (ret := none) (by decide) rfl ?_
  intro p e s m args below meth c s₁ B hml hv
  obtain ⟨rfl, hsz, hP, hK, hD0, hX⟩ := hv
  have hx := B.exec
  have hb := B.bytes
  have hr := B.returns
  have hT : ∀ w ∈ gT, w.before _ s = true := fun w h => atoms_spec (ws := .code yX8_init cX8_init 1 none :: gT) B.pre w (List.mem_cons_of_mem _ h)
  have hown : s.vm.findClass RX8 = some m.cls := findClass_of_methodNamed B.named
  have hlocks := B.notSynchronized
  have hin : meth.name = "<init>" := (name_of_methodNamed B.named B.method).1
  subst hsz
  have hD := hD0.self (sz := s.heap.size)
  generalize hAe : va_A [(h, .inr (8, [.int 0, .int 0, .null, .null, .null, .null]))] s.heap.size = A at hD ⊢
  have hA : ∀ q : Nat, s.heap.size ≤ q → A q := fun q h => by rw [← hAe]; exact Or.inr h
  have hS : va_S A s.heap s.heap [] := va_S.rf
  have hl := lv_entry ([.ref h]) (n := 1) (Nat.le_of_ble_eq_true rfl)
  rw [lg_entry_eq]
  generalize (lg_sl ([.ref h]) ++ List.replicate (1 - (lg_sl ([.ref h])).length) Slot.unset).toArray = ls at hl ⊢
  have hl : lv_has ls 1 [(0, .ref h)] := hl
  refine p_nH (fun H hH => ?_)
  have hP : va_P g.1 vwCl [(h, .inr (8, [.int 0, .int 0, .null, .null, .null, .null]))] H := by rw [hH]; exact hP
  have hS : va_S A s.heap H [] := by rw [hH]; exact hS
  refine lv_aload_n hx hb dX8_init_0 rfl (lv_at hl 0 rfl) ?_
  refine W.objInit hx hb hown (hT _ bw_1371) (hT _ bw_1338) (hT _ bw_1339) rfl (by rw [hml]; exact hl.1) rfl dX8_init_1 (Nat.le_of_ble_eq_true rfl) (Nat.le_of_ble_eq_true rfl) ?_
  refine W.eq (g2 := F0 m 4 ls []) rfl ?_
  refine lv_aload_n hx hb dX8_init_4 rfl (lv_at hl 0 rfl) ?_
  refine lv_bipush (v := 30) hx hb dX8_init_5 (by decide) ?_
  refine p_newa (atype := .int) (ty := .int) hx hb (hT _ bw_1354) rfl hK.1 hP hD hS hA 1 rfl (fun _ h9 => h9) (a0 := (30, .inl z0)) (fun _ => rfl) (by decide) (N' := 30) rfl (by decide) (by decide) (by decide) dX8_init_7 (fun q_1 H hP hD hS => ?_)
  have hP : va_P g.1 vwCl [(h, .inr (8, [.int 0, .int 0, .null, .null, .null, .null])), (q_1, aI g 30 z0)] H := hP
  have hD : va_D A [(h, .inr (8, [.int 0, .int 0, .null, .null, .null, .null])), (q_1, aI g 30 z0)] := hD
  refine W.widen (k := 1) (n := 30) (by decide) (by decide) ?_
  refine va_putF (D := g.1) (ci := 8) (v := .ref q_1) (ty := .array .int) (C := RX8) (T := TX8) (N := 6) hx hb hT inF_X8 tyX8 tyX8_ok nmX8 hown hK.1 hP hD hS 0 rfl rfl 2 (by decide) (hT _ bw_15) (fun _ h9 => h9) rfl hin rfl (by decide +kernel) rfl rfl (Nat.le_of_ble_eq_true rfl) dX8_init_9 (fun H locs hP hD hS => ?_)
  have hP : va_P g.1 vwCl [(h, .inr (8, [.int 0, .int 0, .ref q_1, .null, .null, .null])), (q_1, aI g 30 z0)] H := hP
  have hD : va_D A [(h, .inr (8, [.int 0, .int 0, .ref q_1, .null, .null, .null])), (q_1, aI g 30 z0)] := hD
  refine lv_aload_n hx hb dX8_init_12 rfl (lv_at hl 0 rfl) ?_
  refine lv_bipush (v := 30) hx hb dX8_init_13 (by decide) ?_
  refine p_newa (atype := .int) (ty := .int) hx hb (hT _ bw_1354) rfl hK.1 hP hD hS hA 1 rfl (fun _ h9 => h9) (a0 := (30, .inl z0)) (fun _ => rfl) (by decide) (N' := 30) rfl (by decide) (by decide) (by decide) dX8_init_15 (fun q_2 H hP hD hS => ?_)
  have hP : va_P g.1 vwCl [(h, .inr (8, [.int 0, .int 0, .ref q_1, .null, .null, .null])), (q_1, aI g 30 z0), (q_2, aI g 30 z0)] H := hP
  have hD : va_D A [(h, .inr (8, [.int 0, .int 0, .ref q_1, .null, .null, .null])), (q_1, aI g 30 z0), (q_2, aI g 30 z0)] := hD
  refine W.widen (k := 2) (n := 60) (by decide) (by decide) ?_
  refine va_putF (D := g.1) (ci := 8) (v := .ref q_2) (ty := .array .int) (C := RX8) (T := TX8) (N := 6) hx hb hT inF_X8 tyX8 tyX8_ok nmX8 hown hK.1 hP hD hS 0 rfl rfl 3 (by decide) (hT _ bw_16) (fun _ h9 => h9) rfl hin rfl (by decide +kernel) rfl rfl (Nat.le_of_ble_eq_true rfl) dX8_init_17 (fun H locs hP hD hS => ?_)
  have hP : va_P g.1 vwCl [(h, .inr (8, [.int 0, .int 0, .ref q_1, .ref q_2, .null, .null])), (q_1, aI g 30 z0), (q_2, aI g 30 z0)] H := hP
  have hD : va_D A [(h, .inr (8, [.int 0, .int 0, .ref q_1, .ref q_2, .null, .null])), (q_1, aI g 30 z0), (q_2, aI g 30 z0)] := hD
  refine lv_aload_n hx hb dX8_init_20 rfl (lv_at hl 0 rfl) ?_
  refine lv_bipush (v := 30) hx hb dX8_init_21 (by decide) ?_
  refine p_newa (atype := .int) (ty := .int) hx hb (hT _ bw_1354) rfl hK.1 hP hD hS hA 1 rfl (fun _ h9 => h9) (a0 := (30, .inl z0)) (fun _ => rfl) (by decide) (N' := 30) rfl (by decide) (by decide) (by decide) dX8_init_23 (fun q_3 H hP hD hS => ?_)
  have hP : va_P g.1 vwCl [(h, .inr (8, [.int 0, .int 0, .ref q_1, .ref q_2, .null, .null])), (q_1, aI g 30 z0), (q_2, aI g 30 z0), (q_3, aI g 30 z0)] H := hP
  have hD : va_D A [(h, .inr (8, [.int 0, .int 0, .ref q_1, .ref q_2, .null, .null])), (q_1, aI g 30 z0), (q_2, aI g 30 z0), (q_3, aI g 30 z0)] := hD
  refine W.widen (k := 3) (n := 90) (by decide) (by decide) ?_
  refine va_putF (D := g.1) (ci := 8) (v := .ref q_3) (ty := .array .int) (C := RX8) (T := TX8) (N := 6) hx hb hT inF_X8 tyX8 tyX8_ok nmX8 hown hK.1 hP hD hS 0 rfl rfl 4 (by decide) (hT _ bw_17) (fun _ h9 => h9) rfl hin rfl (by decide +kernel) rfl rfl (Nat.le_of_ble_eq_true rfl) dX8_init_25 (fun H locs hP hD hS => ?_)
  have hP : va_P g.1 vwCl [(h, .inr (8, [.int 0, .int 0, .ref q_1, .ref q_2, .ref q_3, .null])), (q_1, aI g 30 z0), (q_2, aI g 30 z0), (q_3, aI g 30 z0)] H := hP
  have hD : va_D A [(h, .inr (8, [.int 0, .int 0, .ref q_1, .ref q_2, .ref q_3, .null])), (q_1, aI g 30 z0), (q_2, aI g 30 z0), (q_3, aI g 30 z0)] := hD
  refine lv_aload_n hx hb dX8_init_28 rfl (lv_at hl 0 rfl) ?_
  refine lv_bipush (v := 30) hx hb dX8_init_29 (by decide) ?_
  refine p_newa (atype := .int) (ty := .int) hx hb (hT _ bw_1354) rfl hK.1 hP hD hS hA 1 rfl (fun _ h9 => h9) (a0 := (30, .inl z0)) (fun _ => rfl) (by decide) (N' := 30) rfl (by decide) (by decide) (by decide) dX8_init_31 (fun q_4 H hP hD hS => ?_)
  have hP : va_P g.1 vwCl [(h, .inr (8, [.int 0, .int 0, .ref q_1, .ref q_2, .ref q_3, .null])), (q_1, aI g 30 z0), (q_2, aI g 30 z0), (q_3, aI g 30 z0), (q_4, aI g 30 z0)] H := hP
  have hD : va_D A [(h, .inr (8, [.int 0, .int 0, .ref q_1, .ref q_2, .ref q_3, .null])), (q_1, aI g 30 z0), (q_2, aI g 30 z0), (q_3, aI g 30 z0), (q_4, aI g 30 z0)] := hD
  refine W.widen (k := 4) (n := 120) (by decide) (by decide) ?_
  refine va_putF (D := g.1) (ci := 8) (v := .ref q_4) (ty := .array .int) (C := RX8) (T := TX8) (N := 6) hx hb hT inF_X8 tyX8 tyX8_ok nmX8 hown hK.1 hP hD hS 0 rfl rfl 5 (by decide) (hT _ bw_19) (fun _ h9 => h9) rfl hin rfl (by decide +kernel) rfl rfl (Nat.le_of_ble_eq_true rfl) dX8_init_33 (fun H locs hP hD hS => ?_)
  have hP : va_P g.1 vwCl [(h, .inr (8, [.int 0, .int 0, .ref q_1, .ref q_2, .ref q_3, .ref q_4])), (q_1, aI g 30 z0), (q_2, aI g 30 z0), (q_3, aI g 30 z0), (q_4, aI g 30 z0)] H := hP
  have hD : va_D A [(h, .inr (8, [.int 0, .int 0, .ref q_1, .ref q_2, .ref q_3, .ref q_4])), (q_1, aI g 30 z0), (q_2, aI g 30 z0), (q_3, aI g 30 z0), (q_4, aI g 30 z0)] := hD
  have hP9 : va_P g.1 vwCl [(h, .inr (8, [.int 0, .int 0, .ref q_1, .ref q_2, .ref q_3, .ref q_4])), (q_1, aI g 30 z0), (q_2, aI g 30 z0), (q_3, aI g 30 z0), (q_4, aI g 30 z0)] H := hP.sub [0, 1, 2, 3, 4] rfl
  have hD9 : va_D A [(h, .inr (8, [.int 0, .int 0, .ref q_1, .ref q_2, .ref q_3, .ref q_4])), (q_1, aI g 30 z0), (q_2, aI g 30 z0), (q_3, aI g 30 z0), (q_4, aI g 30 z0)] := hD.sub [0, 1, 2, 3, 4] (by decide +kernel) rfl
  exact W.vret hx hb hr (fun t ht hW => ⟨⟨(q_1, q_2, q_3, q_4), rfl, trivial, by rw [ht]; exact hP9, by rw [hAe]; exact hD9⟩, hS.F ht⟩) hS.2.2 dX8_init_36

theorem bw_1373 : Cond.methodLink RX4 3 objectInit ∈ gT := gT_tb 412 (by decide +kernel) (by decide +kernel)
theorem bw_1374 : Cond.code yX4_init cX4_init 1 none ∈ gT := gT_tb 411 (by decide +kernel) (by decide +kernel)
theorem dX4_init_0 : decode cX4_init 0 = .ok (.aload_n 0, 1) := by decide +kernel
theorem dX4_init_1 : decode cX4_init 1 = .ok (.invokespecial 3, 3) := by decide +kernel
theorem dX4_init_4 : decode cX4_init 4 = .ok (.aload_n 0, 1) := by decide +kernel
theorem dX4_init_5 : decode cX4_init 5 = .ok (.sipush 128, 3) := by decide +kernel
theorem dX4_init_8 : decode cX4_init 8 = .ok (.newarray .int, 2) := by decide +kernel
theorem dX4_init_10 : decode cX4_init 10 = .ok (.putfield 9, 3) := by decide +kernel
theorem dX4_init_13 : decode cX4_init 13 = .ok (.aload_n 0, 1) := by decide +kernel
theorem dX4_init_14 : decode cX4_init 14 = .ok (.bipush 8, 2) := by decide +kernel
theorem dX4_init_16 : decode cX4_init 16 = .ok (.newarray .int, 2) := by decide +kernel
theorem dX4_init_18 : decode cX4_init 18 = .ok (.putfield 15, 3) := by decide +kernel
theorem dX4_init_21 : decode cX4_init 21 = .ok (.return_, 1) := by decide +kernel
set_option maxHeartbeats 40000000 in
set_option maxRecDepth 100000 in
theorem c_X4_init (l : Launch) (g : GG) (sz : Nat) (h : Nat) : Met l yX4_init (.code yX4_init cX4_init 1 none :: gT) ({ frames := 1, cells := 2, slots := 136, locals := 40 }) (va_Pc [.ref h] (Pst g sz [(h, .inr (4, [.int 0, .int 0, .null, .null]))] nX)) (va_Qv (fun (_ : Nat × Nat) => True) (Qst g [(h, .inr (4, [.int 0, .int 0, .null, .null]))] sz (fun ((q_1, q_2) : Nat × Nat) => [(h, .inr (4, [.int 0, .int 0, .ref q_1, .ref q_2])), (q_1, aI g 128 z0), (q_2, aI g 8 z0)])) (va_A [(h, .inr (4, [.int 0, .int 0, .null, .null]))] sz)) 2 136 (va_A [(h, .inr (4, [.int 0, .int 0, .null, .null]))] sz) := by
  refine Met.ofW (cc := cX4_init) (maxL := 1) (ret := none) (by decide) rfl ?_
  intro p e s m args below meth c s₁ B hml hv
  obtain ⟨rfl, hsz, hP, hK, hD0, hX⟩ := hv
  have hx := B.exec
  have hb := B.bytes
  have hr := B.returns
  have hT : ∀ w ∈ gT, w.before _ s = true := fun w h => atoms_spec (ws := .code yX4_init cX4_init 1 none :: gT) B.pre w (List.mem_cons_of_mem _ h)
  have hown : s.vm.findClass RX4 = some m.cls := findClass_of_methodNamed B.named
  have hlocks := B.notSynchronized
  have hin : meth.name = "<init>" := (name_of_methodNamed B.named B.method).1
  subst hsz
  have hD := hD0.self (sz := s.heap.size)
  generalize hAe : va_A [(h, .inr (4, [.int 0, .int 0, .null, .null]))] s.heap.size = A at hD ⊢
  have hA : ∀ q : Nat, s.heap.size ≤ q → A q := fun q h => by rw [← hAe]; exact Or.inr h
  have hS : va_S A s.heap s.heap [] := va_S.rf
  have hl := lv_entry ([.ref h]) (n := 1) (Nat.le_of_ble_eq_true rfl)
  rw [lg_entry_eq]
  generalize (lg_sl ([.ref h]) ++ List.replicate (1 - (lg_sl ([.ref h])).length) Slot.unset).toArray = ls at hl ⊢
  have hl : lv_has ls 1 [(0, .ref h)] := hl
  refine p_nH (fun H hH => ?_)
  have hP : va_P g.1 vwCl [(h, .inr (4, [.int 0, .int 0, .null, .null]))] H := by rw [hH]; exact hP
  have hS : va_S A s.heap H [] := by rw [hH]; exact hS
  refine lv_aload_n hx hb dX4_init_0 rfl (lv_at hl 0 rfl) ?_
  refine W.objInit hx hb hown (hT _ bw_1373) (hT _ bw_1338) (hT _ bw_1339) rfl (by rw [hml]; exact hl.1) rfl dX4_init_1 (Nat.le_of_ble_eq_true rfl) (Nat.le_of_ble_eq_true rfl) ?_
  refine W.eq (g2 := F0 m 4 ls []) rfl ?_
  refine lv_aload_n hx hb dX4_init_4 rfl (lv_at hl 0 rfl) ?_
  refine lv_sipush (v := 128) hx hb dX4_init_5 (by decide) ?_
  refine p_newa (atype := .int) (ty := .int) hx hb (hT _ bw_1354) rfl hK.1 hP hD hS hA 1 rfl (fun _ h9 => h9) (a0 := (128, .inl z0)) (fun _ => rfl) (by decide) (N' := 128) rfl (by decide) (by decide) (by decide) dX4_init_8 (fun q_1 H hP hD hS => ?_)
  have hP : va_P g.1 vwCl [(h, .inr (4, [.int 0, .int 0, .null, .null])), (q_1, aI g 128 z0)] H := hP
  have hD : va_D A [(h, .inr (4, [.int 0, .int 0, .null, .null])), (q_1, aI g 128 z0)] := hD
  refine W.widen (k := 1) (n := 128) (by decide) (by decide) ?_
  refine va_putF (D := g.1) (ci := 4) (v := .ref q_1) (ty := .array .int) (C := RX4) (T := TX4) (N := 4) hx hb hT inF_X4 tyX4 tyX4_ok nmX4 hown hK.1 hP hD hS 0 rfl rfl 2 (by decide) (hT _ bw_221) (fun _ h9 => h9) rfl hin rfl (by decide +kernel) rfl rfl (Nat.le_of_ble_eq_true rfl) dX4_init_10 (fun H locs hP hD hS => ?_)
  have hP : va_P g.1 vwCl [(h, .inr (4, [.int 0, .int 0, .ref q_1, .null])), (q_1, aI g 128 z0)] H := hP
  have hD : va_D A [(h, .inr (4, [.int 0, .int 0, .ref q_1, .null])), (q_1, aI g 128 z0)] := hD
  refine lv_aload_n hx hb dX4_init_13 rfl (lv_at hl 0 rfl) ?_
  refine lv_bipush (v := 8) hx hb dX4_init_14 (by decide) ?_
  refine p_newa (atype := .int) (ty := .int) hx hb (hT _ bw_1354) rfl hK.1 hP hD hS hA 1 rfl (fun _ h9 => h9) (a0 := (8, .inl z0)) (fun _ => rfl) (by decide) (N' := 8) rfl (by decide) (by decide) (by decide) dX4_init_16 (fun q_2 H hP hD hS => ?_)
  have hP : va_P g.1 vwCl [(h, .inr (4, [.int 0, .int 0, .ref q_1, .null])), (q_1, aI g 128 z0), (q_2, aI g 8 z0)] H := hP
  have hD : va_D A [(h, .inr (4, [.int 0, .int 0, .ref q_1, .null])), (q_1, aI g 128 z0), (q_2, aI g 8 z0)] := hD
  refine W.widen (k := 2) (n := 136) (by decide) (by decide) ?_
  refine va_putF (D := g.1) (ci := 4) (v := .ref q_2) (ty := .array .int) (C := RX4) (T := TX4) (N := 4) hx hb hT inF_X4 tyX4 tyX4_ok nmX4 hown hK.1 hP hD hS 0 rfl rfl 3 (by decide) (hT _ bw_220) (fun _ h9 => h9) rfl hin rfl (by decide +kernel) rfl rfl (Nat.le_of_ble_eq_true rfl) dX4_init_18 (fun H locs hP hD hS => ?_)
  have hP : va_P g.1 vwCl [(h, .inr (4, [.int 0, .int 0, .ref q_1, .ref q_2])), (q_1, aI g 128 z0), (q_2, aI g 8 z0)] H := hP
  have hD : va_D A [(h, .inr (4, [.int 0, .int 0, .ref q_1, .ref q_2])), (q_1, aI g 128 z0), (q_2, aI g 8 z0)] := hD
  have hP9 : va_P g.1 vwCl [(h, .inr (4, [.int 0, .int 0, .ref q_1, .ref q_2])), (q_1, aI g 128 z0), (q_2, aI g 8 z0)] H := hP.sub [0, 1, 2] rfl
  have hD9 : va_D A [(h, .inr (4, [.int 0, .int 0, .ref q_1, .ref q_2])), (q_1, aI g 128 z0), (q_2, aI g 8 z0)] := hD.sub [0, 1, 2] (by decide +kernel) rfl
  exact W.vret hx hb hr (fun t ht hW => ⟨⟨(q_1, q_2), rfl, trivial, by rw [ht]; exact hP9, by rw [hAe]; exact hD9⟩, hS.F ht⟩) hS.2.2 dX4_init_21

theorem bw_1375 : Cond.methodLink RX7 5 objectInit ∈ gT := gT_tb 341 (by decide +kernel) (by decide +kernel)
theorem bw_1376 : Cond.arrayClass .boolean ∈ gT := gT_tb 379 (by decide +kernel) (by decide +kernel)
theorem bw_1377 : Cond.code yX7_init cX7_init 1 none ∈ gT := gT_tb 340 (by decide +kernel) (by decide +kernel)
theorem dX7_init_0 : decode cX7_init 0 = .ok (.aload_n 0, 1) := by decide +kernel
theorem dX7_init_1 : decode cX7_init 1 = .ok (.invokespecial 5, 3) := by decide +kernel
theorem dX7_init_4 : decode cX7_init 4 = .ok (.aload_n 0, 1) := by decide +kernel
theorem dX7_init_5 : decode cX7_init 5 = .ok (.bipush 16, 2) := by decide +kernel
theorem dX7_init_7 : decode cX7_init 7 = .ok (.newarray .int, 2) := by decide +kernel
theorem dX7_init_9 : decode cX7_init 9 = .ok (.putfield 11, 3) := by decide +kernel
theorem dX7_init_12 : decode cX7_init 12 = .ok (.aload_n 0, 1) := by decide +kernel
theorem dX7_init_13 : decode cX7_init 13 = .ok (.bipush 16, 2) := by decide +kernel
theorem dX7_init_15 : decode cX7_init 15 = .ok (.newarray .int, 2) := by decide +kernel
theorem dX7_init_17 : decode cX7_init 17 = .ok (.putfield 15, 3) := by decide +kernel
theorem dX7_init_20 : decode cX7_init 20 = .ok (.aload_n 0, 1) := by decide +kernel
theorem dX7_init_21 : decode cX7_init 21 = .ok (.sipush 3000, 3) := by decide +kernel
theorem dX7_init_24 : decode cX7_init 24 = .ok (.newarray .int, 2) := by decide +kernel
theorem dX7_init_26 : decode cX7_init 26 = .ok (.putfield 18, 3) := by decide +kernel
theorem dX7_init_29 : decode cX7_init 29 = .ok (.aload_n 0, 1) := by decide +kernel
theorem dX7_init_30 : decode cX7_init 30 = .ok (.sipush 3000, 3) := by decide +kernel
theorem dX7_init_33 : decode cX7_init 33 = .ok (.newarray .int, 2) := by decide +kernel
theorem dX7_init_35 : decode cX7_init 35 = .ok (.putfield 21, 3) := by decide +kernel
theorem dX7_init_38 : decode cX7_init 38 = .ok (.aload_n 0, 1) := by decide +kernel
theorem dX7_init_39 : decode cX7_init 39 = .ok (.sipush 3000, 3) := by decide +kernel
theorem dX7_init_42 : decode cX7_init 42 = .ok (.newarray .boolean, 2) := by decide +kernel
theorem dX7_init_44 : decode cX7_init 44 = .ok (.putfield 24, 3) := by decide +kernel
theorem dX7_init_47 : decode cX7_init 47 = .ok (.aload_n 0, 1) := by decide +kernel
theorem dX7_init_48 : decode cX7_init 48 = .ok (.sipush 8192, 3) := by decide +kernel
theorem dX7_init_51 : decode cX7_init 51 = .ok (.newarray .int, 2) := by decide +kernel
theorem dX7_init_53 : decode cX7_init 53 = .ok (.putfield 28, 3) := by decide +kernel
theorem dX7_init_56 : decode cX7_init 56 = .ok (.aload_n 0, 1) := by decide +kernel
theorem dX7_init_57 : decode cX7_init 57 = .ok (.iconst 4, 1) := by decide +kernel
theorem dX7_init_58 : decode cX7_init 58 = .ok (.newarray .int, 2) := by decide +kernel
theorem dX7_init_60 : decode cX7_init 60 = .ok (.putfield 31, 3) := by decide +kernel
theorem dX7_init_63 : decode cX7_init 63 = .ok (.aload_n 0, 1) := by decide +kernel
theorem dX7_init_64 : decode cX7_init 64 = .ok (.bipush 16, 2) := by decide +kernel
theorem dX7_init_66 : decode cX7_init 66 = .ok (.newarray .int, 2) := by decide +kernel
theorem dX7_init_68 : decode cX7_init 68 = .ok (.putfield 34, 3) := by decide +kernel
theorem dX7_init_71 : decode cX7_init 71 = .ok (.return_, 1) := by decide +kernel
set_option maxHeartbeats 40000000 in
set_option maxRecDepth 100000 in
theorem c_X7_init (l : Launch) (g : GG) (sz : Nat) (h : Nat) : Met l yX7_init (.code yX7_init cX7_init 1 none :: gT) ({ frames := 1, cells := 8, slots := 17244, locals := 40 }) (va_Pc [.ref h] (Pst g sz [(h, .inr (7, [.null, .int 0, .null, .null, .null, .null, .int 0, .null, .null, .int 0, .null, .null]))] nX)) (va_Qv (fun (_ : Nat × Nat × Nat × Nat × Nat × Nat × Nat × Nat) => True) (Qst g [(h, .inr (7, [.null, .int 0, .null, .null, .null, .null, .int 0, .null, .null, .int 0, .null, .null]))] sz (fun ((q_1, q_2, q_3, q_4, q_5, q_6, q_7, q_8) : Nat × Nat × Nat × Nat × Nat × Nat × Nat × Nat) => [(h, .inr (7, [.null, .int 0, .ref q_1, .ref q_2, .ref q_3, .ref q_4, .int 0, .ref q_5, .ref q_6, .int 0, .ref q_7, .ref q_8])), (q_1, aI g 16 z0), (q_2, aI g 16 z0), (q_3, aI g 3000 z0), (q_4, aI g 3000 z0), (q_5, aZ g 3000 z0), (q_6, aI g 8192 z0), (q_7, aI g 4 z0), (q_8, aI g 16 z0)])) (va_A [(h, .inr (7, [.null, .int 0, .null, .null, .null, .null, .int 0, .null, .null, .int 0, .null, .null]))] sz)) 8 17244 (va_A [(h, .inr (7, [.null, .int 0, .null, .null, .null, .null, .int 0, .null, .null, .int 0, .null, .null]))] sz) := by
  refine Met.ofW (cc := cX7_init) (maxL := 1) (ret := none) (by decide) rfl ?_
  intro p e s m args below meth c s₁ B hml hv
  obtain ⟨rfl, hsz, hP, hK, hD0, hX⟩ := hv
  have hx := B.exec
  have hb := B.bytes
  have hr := B.returns
  have hT : ∀ w ∈ gT, w.before _ s = true := fun w h => atoms_spec (ws := .code yX7_init cX7_init 1 none :: gT) B.pre w (List.mem_cons_of_mem _ h)
  have hown : s.vm.findClass RX7 = some m.cls := findClass_of_methodNamed B.named
  have hlocks := B.notSynchronized
  have hin : meth.name = "<init>" := (name_of_methodNamed B.named B.method).1
  subst hsz
  have hD := hD0.self (sz := s.heap.size)
  generalize hAe : va_A [(h, .inr (7, [.null, .int 0, .null, .null, .null, .null, .int 0, .null, .null, .int 0, .null, .null]))] s.heap.size = A at hD ⊢
  have hA : ∀ q : Nat, s.heap.size ≤ q → A q := fun q h => by rw [← hAe]; exact Or.inr h
  have hS : va_S A s.heap s.heap [] := va_S.rf
  have hl := lv_entry ([.ref h]) (n := 1) (Nat.le_of_ble_eq_true rfl)
  rw [lg_entry_eq]
  generalize (lg_sl ([.ref h]) ++ List.replicate (1 - (lg_sl ([.ref h])).length) Slot.unset).toArray = ls at hl ⊢
  have hl : lv_has ls 1 [(0, .ref h)] := hl
  refine p_nH (fun H hH => ?_)
  have hP : va_P g.1 vwCl [(h, .inr (7, [.null, .int 0, .null, .null, .null, .null, .int 0, .null, .null, .int 0, .null, .null]))] H := by rw [hH]; exact hP
  have hS : va_S A s.heap H [] := by rw [hH]; exact hS
  refine lv_aload_n hx hb dX7_init_0 rfl (lv_at hl 0 rfl) ?_
  refine W.objInit hx hb hown (hT _ bw_1375) (hT _ bw_1338) (hT _ bw_1339) rfl (by rw [hml]; exact hl.1) rfl dX7_init_1 (Nat.le_of_ble_eq_true rfl) (Nat.le_of_ble_eq_true rfl) ?_
  refine W.eq (g2 := F0 m 4 ls []) rfl ?_
  refine lv_aload_n hx hb dX7_init_4 rfl (lv_at hl 0 rfl) ?_
  refine lv_bipush (v := 16) hx hb dX7_init_5 (by decide) ?_
  refine p_newa (atype := .int) (ty := .int) hx hb (hT _ bw_1354) rfl hK.1 hP hD hS hA 1 rfl (fun _ h9 => h9) (a0 := (16, .inl z0)) (fun _ => rfl) (by decide) (N' := 16) rfl (by decide) (by decide) (by decide) dX7_init_7 (fun q_1 H hP hD hS => ?_)
  have hP : va_P g.1 vwCl [(h, .inr (7, [.null, .int 0, .null, .null, .null, .null, .int 0, .null, .null, .int 0, .null, .null])), (q_1, aI g 16 z0)] H := hP
  have hD : va_D A [(h, .inr (7, [.null, .int 0, .null, .null, .null, .null, .int 0, .null, .null, .int 0, .null, .null])), (q_1, aI g 16 z0)] := hD
  refine W.widen (k := 1) (n := 16) (by decide) (by decide) ?_
  refine va_putF (D := g.1) (ci := 7) (v := .ref q_1) (ty := .array .int) (C := RX7) (T := TX7) (N := 12) hx hb hT inF_X7 tyX7 tyX7_ok nmX7 hown hK.1 hP hD hS 0 rfl rfl 2 (by decide) (hT _ bw_427) (fun _ h9 => h9) rfl hin rfl (by decide +kernel) rfl rfl (Nat.le_of_ble_eq_true rfl) dX7_init_9 (fun H locs hP hD hS => ?_)
  have hP : va_P g.1 vwCl [(h, .inr (7, [.null, .int 0, .ref q_1, .null, .null, .null, .int 0, .null, .null, .int 0, .null, .null])), (q_1, aI g 16 z0)] H := hP
  have hD : va_D A [(h, .inr (7, [.null, .int 0, .ref q_1, .null, .null, .null, .int 0, .null, .null, .int 0, .null, .null])), (q_1, aI g 16 z0)] := hD
  refine lv_aload_n hx hb dX7_init_12 rfl (lv_at hl 0 rfl) ?_
  refine lv_bipush (v := 16) hx hb dX7_init_13 (by decide) ?_
  refine p_newa (atype := .int) (ty := .int) hx hb (hT _ bw_1354) rfl hK.1 hP hD hS hA 1 rfl (fun _ h9 => h9) (a0 := (16, .inl z0)) (fun _ => rfl) (by decide) (N' := 16) rfl (by decide) (by decide) (by decide) dX7_init_15 (fun q_2 H hP hD hS => ?_)
  have hP : va_P g.1 vwCl [(h, .inr (7, [.null, .int 0, .ref q_1, .null, .null, .null, .int 0, .null, .null, .int 0, .null, .null])), (q_1, aI g 16 z0), (q_2, aI g 16 z0)] H := hP
  have hD : va_D A [(h, .inr (7, [.null, .int 0, .ref q_1, .null, .null, .null, .int 0, .null, .null, .int 0, .null, .null])), (q_1, aI g 16 z0), (q_2, aI g 16 z0)] := hD
  refine W.widen (k := 2) (n := 32) (by decide) (by decide) ?_
  refine va_putF (D := g.1) (ci := 7) (v := .ref q_2) (ty := .array .int) (C := RX7) (T := TX7) (N := 12) hx hb hT inF_X7 tyX7 tyX7_ok nmX7 hown hK.1 hP hD hS 0 rfl rfl 3 (by decide) (hT _ bw_434) (fun _ h9 => h9) rfl hin rfl (by decide +kernel) rfl rfl (Nat.le_of_ble_eq_true rfl) dX7_init_17 (fun H locs hP hD hS => ?_)
  have hP : va_P g.1 vwCl [(h, .inr (7, [.null, .int 0, .ref q_1, .ref q_2, .null, .null, .int 0, .null, .null, .int 0, .null, .null])), (q_1, aI g 16 z0), (q_2, aI g 16 z0)] H := hP
  have hD : va_D A [(h, .inr (7, [.null, .int 0, .ref q_1, .ref q_2, .null, .null, .int 0, .null, .null, .int 0, .null, .null])), (q_1, aI g 16 z0), (q_2, aI g 16 z0)] := hD
  refine lv_aload_n hx hb dX7_init_20 rfl (lv_at hl 0 rfl) ?_
  refine lv_sipush (v := 3000) hx hb dX7_init_21 (by decide) ?_
  refine p_newa (atype := .int) (ty := .int) hx hb (hT _ bw_1354) rfl hK.1 hP hD hS hA 1 rfl (fun _ h9 => h9) (a0 := (3000, .inl z0)) (fun _ => rfl) (by decide) (N' := 3000) rfl (by decide) (by decide) (by decide) dX7_init_24 (fun q_3 H hP hD hS => ?_)
  have hP : va_P g.1 vwCl [(h, .inr (7, [.null, .int 0, .ref q_1, .ref q_2, .null, .null, .int 0, .null, .null, .int 0, .null, .null])), (q_1, aI g 16 z0), (q_2, aI g 16 z0), (q_3, aI g 3000 z0)] H := hP
  have hD : va_D A [(h, .inr (7, [.null, .int 0, .ref q_1, .ref q_2, .null, .null, .int 0, .null, .null, .int 0, .null, .null])), (q_1, aI g 16 z0), (q_2, aI g 16 z0), (q_3, aI g 3000 z0)] := hD
  refine W.widen (k := 3) (n := 3032) (by decide) (by decide) ?_
  refine va_putF (D := g.1) (ci := 7) (v := .ref q_3) (ty := .array .int) (C := RX7) (T := TX7) (N := 12) hx hb hT inF_X7 tyX7 tyX7_ok nmX7 hown hK.1 hP hD hS 0 rfl rfl 4 (by decide) (hT _ bw_417) (fun _ h9 => h9) rfl hin rfl (by decide +kernel) rfl rfl (Nat.le_of_ble_eq_true rfl) dX7_init_26 (fun H locs hP hD hS => ?_)
  have hP : va_P g.1 vwCl [(h, .inr (7, [.null, .int 0, .ref q_1, .ref q_2, .ref q_3, .null, .int 0, .null, .null, .int 0, .null, .null])), (q_1, aI g 16 z0), (q_2, aI g 16 z0), (q_3, aI g 3000 z0)] H := hP
  have hD : va_D A [(h, .inr (7, [.null, .int 0, .ref q_1, .ref q_2, .ref q_3, .null, .int 0, .null, .null, .int 0, .null, .null])), (q_1, aI g 16 z0), (q_2, aI g 16 z0), (q_3, aI g 3000 z0)] := hD
  refine lv_aload_n hx hb dX7_init_29 rfl (lv_at hl 0 rfl) ?_
  refine lv_sipush (v := 3000) hx hb dX7_init_30 (by decide) ?_
  refine p_newa (atype := .int) (ty := .int) hx hb (hT _ bw_1354) rfl hK.1 hP hD hS hA 1 rfl (fun _ h9 => h9) (a0 := (3000, .inl z0)) (fun _ => rfl) (by decide) (N' := 3000) rfl (by decide) (by decide) (by decide) dX7_init_33 (fun q_4 H hP hD hS => ?_)
  have hP : va_P g.1 vwCl [(h, .inr (7, [.null, .int 0, .ref q_1, .ref q_2, .ref q_3, .null, .int 0, .null, .null, .int 0, .null, .null])), (q_1, aI g 16 z0), (q_2, aI g 16 z0), (q_3, aI g 3000 z0), (q_4, aI g 3000 z0)] H := hP
  have hD : va_D A [(h, .inr (7, [.null, .int 0, .ref q_1, .ref q_2, .ref q_3, .null, .int 0, .null, .null, .int 0, .null, .null])), (q_1, aI g 16 z0), (q_2, aI g 16 z0), (q_3, aI g 3000 z0), (q_4, aI g 3000 z0)] := hD
  refine W.widen (k := 4) (n := 6032) (by decide) (by decide) ?_
  refine va_putF (D := g.1) (ci := 7) (v := .ref q_4) (ty := .array .int) (C := RX7) (T := TX7) (N := 12) hx hb hT inF_X7 tyX7 tyX7_ok nmX7 hown hK.1 hP hD hS 0 rfl rfl 5 (by decide) (hT _ bw_441) (fun _ h9 => h9) rfl hin rfl (by decide +kernel) rfl rfl (Nat.le_of_ble_eq_true rfl) dX7_init_35 (fun H locs hP hD hS => ?_)
  have hP : va_P g.1 vwCl [(h, .inr (7, [.null, .int 0, .ref q_1, .ref q_2, .ref q_3, .ref q_4, .int 0, .null, .null, .int 0, .null, .null])), (q_1, aI g 16 z0), (q_2, aI g 16 z0), (q_3, aI g 3000 z0), (q_4, aI g 3000 z0)] H := hP
  have hD : va_D A [(h, .inr (7, [.null, .int 0, .ref q_1, .ref q_2, .ref q_3, .ref q_4, .int 0, .null, .null, .int 0, .null, .null])), (q_1, aI g 16 z0), (q_2, aI g 16 z0), (q_3, aI g 3000 z0), (q_4, aI g 3000 z0)] := hD
  refine lv_aload_n hx hb dX7_init_38 rfl (lv_at hl 0 rfl) ?_
  refine lv_sipush (v := 3000) hx hb dX7_init_39 (by decide) ?_
  refine p_newa (atype := .boolean) (ty := .boolean) hx hb (hT _ bw_1376) rfl hK.1 hP hD hS hA 3 rfl (fun _ h9 => h9) (a0 := (3000, .inl z0)) (fun _ => rfl) (by decide) (N' := 3000) rfl (by decide) (by decide) (by decide) dX7_init_42 (fun q_5 H hP hD hS => ?_)
  have hP : va_P g.1 vwCl [(h, .inr (7, [.null, .int 0, .ref q_1, .ref q_2, .ref q_3, .ref q_4, .int 0, .null, .null, .int 0, .null, .null])), (q_1, aI g 16 z0), (q_2, aI g 16 z0), (q_3, aI g 3000 z0), (q_4, aI g 3000 z0), (q_5, aZ g 3000 z0)] H := hP
  have hD : va_D A [(h, .inr (7, [.null, .int 0, .ref q_1, .ref q_2, .ref q_3, .ref q_4, .int 0, .null, .null, .int 0, .null, .null])), (q_1, aI g 16 z0), (q_2, aI g 16 z0), (q_3, aI g 3000 z0), (q_4, aI g 3000 z0), (q_5, aZ g 3000 z0)] := hD
  refine W.widen (k := 5) (n := 9032) (by decide) (by decide) ?_
  refine va_putF (D := g.1) (ci := 7) (v := .ref q_5) (ty := .array .boolean) (C := RX7) (T := TX7) (N := 12) hx hb hT inF_X7 tyX7 tyX7_ok nmX7 hown hK.1 hP hD hS 0 rfl rfl 7 (by decide) (hT _ bw_495) (fun _ h9 => h9) rfl hin rfl (by decide +kernel) rfl rfl (Nat.le_of_ble_eq_true rfl) dX7_init_44 (fun H locs hP hD hS => ?_)
  have hP : va_P g.1 vwCl [(h, .inr (7, [.null, .int 0, .ref q_1, .ref q_2, .ref q_3, .ref q_4, .int 0, .ref q_5, .null, .int 0, .null, .null])), (q_1, aI g 16 z0), (q_2, aI g 16 z0), (q_3, aI g 3000 z0), (q_4, aI g 3000 z0), (q_5, aZ g 3000 z0)] H := hP
  have hD : va_D A [(h, .inr (7, [.null, .int 0, .ref q_1, .ref q_2, .ref q_3, .ref q_4, .int 0, .ref q_5, .null, .int 0, .null, .null])), (q_1, aI g 16 z0), (q_2, aI g 16 z0), (q_3, aI g 3000 z0), (q_4, aI g 3000 z0), (q_5, aZ g 3000 z0)] := hD
  refine lv_aload_n hx hb dX7_init_47 rfl (lv_at hl 0 rfl) ?_
  refine lv_sipush (v := 8192) hx hb dX7_init_48 (by decide) ?_
  refine p_newa (atype := .int) (ty := .int) hx hb (hT _ bw_1354) rfl hK.1 hP hD hS hA 1 rfl (fun _ h9 => h9) (a0 := (8192, .inl z0)) (fun _ => rfl) (by decide) (N' := 8192) rfl (by decide) (by decide) (by decide) dX7_init_51 (fun q_6 H hP hD hS => ?_)
  have hP : va_P g.1 vwCl [(h, .inr (7, [.null, .int 0, .ref q_1, .ref q_2, .ref q_3, .ref q_4, .int 0, .ref q_5, .null, .int 0, .null, .null])), (q_1, aI g 16 z0), (q_2, aI g 16 z0), (q_3, aI g 3000 z0), (q_4, aI g 3000 z0), (q_5, aZ g 3000 z0), (q_6, aI g 8192 z0)] H := hP
  have hD : va_D A [(h, .inr (7, [.null, .int 0, .ref q_1, .ref q_2, .ref q_3, .ref q_4, .int 0, .ref q_5, .null, .int 0, .null, .null])), (q_1, aI g 16 z0), (q_2, aI g 16 z0), (q_3, aI g 3000 z0), (q_4, aI g 3000 z0), (q_5, aZ g 3000 z0), (q_6, aI g 8192 z0)] := hD
  refine W.widen (k := 6) (n := 17224) (by decide) (by decide) ?_
  refine va_putF (D := g.1) (ci := 7) (v := .ref q_6) (ty := .array .int) (C := RX7) (T := TX7) (N := 12) hx hb hT inF_X7 tyX7 tyX7_ok nmX7 hown hK.1 hP hD hS 0 rfl rfl 8 (by decide) (hT _ bw_420) (fun _ h9 => h9) rfl hin rfl (by decide +kernel) rfl rfl (Nat.le_of_ble_eq_true rfl) dX7_init_53 (fun H locs hP hD hS => ?_)
  have hP : va_P g.1 vwCl [(h, .inr (7, [.null, .int 0, .ref q_1, .ref q_2, .ref q_3, .ref q_4, .int 0, .ref q_5, .ref q_6, .int 0, .null, .null])), (q_1, aI g 16 z0), (q_2, aI g 16 z0), (q_3, aI g 3000 z0), (q_4, aI g 3000 z0), (q_5, aZ g 3000 z0), (q_6, aI g 8192 z0)] H := hP
  have hD : va_D A [(h, .inr (7, [.null, .int 0, .ref q_1, .ref q_2, .ref q_3, .ref q_4, .int 0, .ref q_5, .ref q_6, .int 0, .null, .null])), (q_1, aI g 16 z0), (q_2, aI g 16 z0), (q_3, aI g 3000 z0), (q_4, aI g 3000 z0), (q_5, aZ g 3000 z0), (q_6, aI g 8192 z0)] := hD
  refine lv_aload_n hx hb dX7_init_56 rfl (lv_at hl 0 rfl) ?_
  refine lv_iconst (v := 4) hx hb dX7_init_57 (by decide) ?_
  refine p_newa (atype := .int) (ty := .int) hx hb (hT _ bw_1354) rfl hK.1 hP hD hS hA 1 rfl (fun _ h9 => h9) (a0 := (4, .inl z0)) (fun _ => rfl) (by decide) (N' := 4) rfl (by decide) (by decide) (by decide) dX7_init_58 (fun q_7 H hP hD hS => ?_)
  have hP : va_P g.1 vwCl [(h, .inr (7, [.null, .int 0, .ref q_1, .ref q_2, .ref q_3, .ref q_4, .int 0, .ref q_5, .ref q_6, .int 0, .null, .null])), (q_1, aI g 16 z0), (q_2, aI g 16 z0), (q_3, aI g 3000 z0), (q_4, aI g 3000 z0), (q_5, aZ g 3000 z0), (q_6, aI g 8192 z0), (q_7, aI g 4 z0)] H := hP
  have hD : va_D A [(h, .inr (7, [.null, .int 0, .ref q_1, .ref q_2, .ref q_3, .ref q_4, .int 0, .ref q_5, .ref q_6, .int 0, .null, .null])), (q_1, aI g 16 z0), (q_2, aI g 16 z0), (q_3, aI g 3000 z0), (q_4, aI g 3000 z0), (q_5, aZ g 3000 z0), (q_6, aI g 8192 z0), (q_7, aI g 4 z0)] := hD
  refine W.widen (k := 7) (n := 17228) (by decide) (by decide) ?_
  refine va_putF (D := g.1) (ci := 7) (v := .ref q_7) (ty := .array .int) (C := RX7) (T := TX7) (N := 12) hx hb hT inF_X7 tyX7 tyX7_ok nmX7 hown hK.1 hP hD hS 0 rfl rfl 10 (by decide) (hT _ bw_437) (fun _ h9 => h9) rfl hin rfl (by decide +kernel) rfl rfl (Nat.le_of_ble_eq_true rfl) dX7_init_60 (fun H locs hP hD hS => ?_)
  have hP : va_P g.1 vwCl [(h, .inr (7, [.null, .int 0, .ref q_1, .ref q_2, .ref q_3, .ref q_4, .int 0, .ref q_5, .ref q_6, .int 0, .ref q_7, .null])), (q_1, aI g 16 z0), (q_2, aI g 16 z0), (q_3, aI g 3000 z0), (q_4, aI g 3000 z0), (q_5, aZ g 3000 z0), (q_6, aI g 8192 z0), (q_7, aI g 4 z0)] H := hP
  have hD : va_D A [(h, .inr (7, [.null, .int 0, .ref q_1, .ref q_2, .ref q_3, .ref q_4, .int 0, .ref q_5, .ref q_6, .int 0, .ref q_7, .null])), (q_1, aI g 16 z0), (q_2, aI g 16 z0), (q_3, aI g 3000 z0), (q_4, aI g 3000 z0), (q_5, aZ g 3000 z0), (q_6, aI g 8192 z0), (q_7, aI g 4 z0)] := hD
  refine lv_aload_n hx hb dX7_init_63 rfl (lv_at hl 0 rfl) ?_
  refine lv_bipush (v := 16) hx hb dX7_init_64 (by decide) ?_
  refine p_newa (atype := .int) (ty := .int) hx hb (hT _ bw_1354) rfl hK.1 hP hD hS hA 1 rfl (fun _ h9 => h9) (a0 := (16, .inl z0)) (fun _ => rfl) (by decide) (N' := 16) rfl (by decide) (by decide) (by decide) dX7_init_66 (fun q_8 H hP hD hS => ?_)
  have hP : va_P g.1 vwCl [(h, .inr (7, [.null, .int 0, .ref q_1, .ref q_2, .ref q_3, .ref q_4, .int 0, .ref q_5, .ref q_6, .int 0, .ref q_7, .null])), (q_1, aI g 16 z0), (q_2, aI g 16 z0), (q_3, aI g 3000 z0), (q_4, aI g 3000 z0), (q_5, aZ g 3000 z0), (q_6, aI g 8192 z0), (q_7, aI g 4 z0), (q_8, aI g 16 z0)] H := hP
  have hD : va_D A [(h, .inr (7, [.null, .int 0, .ref q_1, .ref q_2, .ref q_3, .ref q_4, .int 0, .ref q_5, .ref q_6, .int 0, .ref q_7, .null])), (q_1, aI g 16 z0), (q_2, aI g 16 z0), (q_3, aI g 3000 z0), (q_4, aI g 3000 z0), (q_5, aZ g 3000 z0), (q_6, aI g 8192 z0), (q_7, aI g 4 z0), (q_8, aI g 16 z0)] := hD
  refine W.widen (k := 8) (n := 17244) (by decide) (by decide) ?_
  refine va_putF (D := g.1) (ci := 7) (v := .ref q_8) (ty := .array .int) (C := RX7) (T := TX7) (N := 12) hx hb hT inF_X7 tyX7 tyX7_ok nmX7 hown hK.1 hP hD hS 0 rfl rfl 11 (by decide) (hT _ bw_415) (fun _ h9 => h9) rfl hin rfl (by decide +kernel) rfl rfl (Nat.le_of_ble_eq_true rfl) dX7_init_68 (fun H locs hP hD hS => ?_)
  have hP : va_P g.1 vwCl [(h, .inr (7, [.null, .int 0, .ref q_1, .ref q_2, .ref q_3, .ref q_4, .int 0, .ref q_5, .ref q_6, .int 0, .ref q_7, .ref q_8])), (q_1, aI g 16 z0), (q_2, aI g 16 z0), (q_3, aI g 3000 z0), (q_4, aI g 3000 z0), (q_5, aZ g 3000 z0), (q_6, aI g 8192 z0), (q_7, aI g 4 z0), (q_8, aI g 16 z0)] H := hP
  have hD : va_D A [(h, .inr (7, [.null, .int 0, .ref q_1, .ref q_2, .ref q_3, .ref q_4, .int 0, .ref q_5, .ref q_6, .int 0, .ref q_7, .ref q_8])), (q_1, aI g 16 z0), (q_2, aI g 16 z0), (q_3, aI g 3000 z0), (q_4, aI g 3000 z0), (q_5, aZ g 3000 z0), (q_6, aI g 8192 z0), (q_7, aI g 4 z0), (q_8, aI g 16 z0)] := hD
  have hP9 : va_P g.1 vwCl [(h, .inr (7, [.null, .int 0, .ref q_1, .ref q_2, .ref q_3, .ref q_4, .int 0, .ref q_5, .ref q_6, .int 0, .ref q_7, .ref q_8])), (q_1, aI g 16 z0), (q_2, aI g 16 z0), (q_3, aI g 3000 z0), (q_4, aI g 3000 z0), (q_5, aZ g 3000 z0), (q_6, aI g 8192 z0), (q_7, aI g 4 z0), (q_8, aI g 16 z0)] H := hP.sub [0, 1, 2, 3, 4, 5, 6, 7, 8] rfl
  have hD9 : va_D A [(h, .inr (7, [.null, .int 0, .ref q_1, .ref q_2, .ref q_3, .ref q_4, .int 0, .ref q_5, .ref q_6, .int 0, .ref q_7, .ref q_8])), (q_1, aI g 16 z0), (q_2, aI g 16 z0), (q_3, aI g 3000 z0), (q_4, aI g 3000 z0), (q_5, aZ g 3000 z0), (q_6, aI g 8192 z0), (q_7, aI g 4 z0), (q_8, aI g 16 z0)] := hD.sub [0, 1, 2, 3, 4, 5, 6, 7, 8] (by decide +kernel) rfl
  exact W.vret hx hb hr (fun t ht hW => ⟨⟨(q_1, q_2, q_3, q_4, q_5, q_6, q_7, q_8), rfl, trivial, by rw [ht]; exact hP9, by rw [hAe]; exact hD9⟩, hS.F ht⟩) hS.2.2 dX7_init_71

theorem bw_1378 : Cond.methodLink RX9 3 objectInit ∈ gT := gT_tb 447 (by decide +kernel) (by decide +kernel)
theorem bw_1379 : Cond.code yX9_init cX9_init 1 none ∈ gT := gT_tb 446 (by decide +kernel) (by decide +kernel)
theorem dX9_init_0 : decode cX9_init 0 = .ok (.aload_n 0, 1) := by decide +kernel
theorem dX9_init_1 : decode cX9_init 1 = .ok (.invokespecial 3, 3) := by decide +kernel
theorem dX9_init_4 : decode cX9_init 4 = .ok (.aload_n 0, 1) := by decide +kernel
theorem dX9_init_5 : decode cX9_init 5 = .ok (.bipush 6, 2) := by decide +kernel
theorem dX9_init_7 : decode cX9_init 7 = .ok (.newarray .int, 2) := by decide +kernel
theorem dX9_init_9 : decode cX9_init 9 = .ok (.putfield 9, 3) := by decide +kernel
theorem dX9_init_12 : decode cX9_init 12 = .ok (.aload_n 0, 1) := by decide +kernel
theorem dX9_init_13 : decode cX9_init 13 = .ok (.bipush 6, 2) := by decide +kernel
theorem dX9_init_15 : decode cX9_init 15 = .ok (.newarray .int, 2) := by decide +kernel
theorem dX9_init_17 : decode cX9_init 17 = .ok (.putfield 15, 3) := by decide +kernel
theorem dX9_init_20 : decode cX9_init 20 = .ok (.aload_n 0, 1) := by decide +kernel
theorem dX9_init_21 : decode cX9_init 21 = .ok (.bipush 8, 2) := by decide +kernel
theorem dX9_init_23 : decode cX9_init 23 = .ok (.newarray .int, 2) := by decide +kernel
theorem dX9_init_25 : decode cX9_init 25 = .ok (.putfield 18, 3) := by decide +kernel
theorem dX9_init_28 : decode cX9_init 28 = .ok (.aload_n 0, 1) := by decide +kernel
theorem dX9_init_29 : decode cX9_init 29 = .ok (.bipush 8, 2) := by decide +kernel
theorem dX9_init_31 : decode cX9_init 31 = .ok (.newarray .int, 2) := by decide +kernel
theorem dX9_init_33 : decode cX9_init 33 = .ok (.putfield 21, 3) := by decide +kernel
theorem dX9_init_36 : decode cX9_init 36 = .ok (.aload_n 0, 1) := by decide +kernel
theorem dX9_init_37 : decode cX9_init 37 = .ok (.bipush 8, 2) := by decide +kernel
theorem dX9_init_39 : decode cX9_init 39 = .ok (.newarray .int, 2) := by decide +kernel
theorem dX9_init_41 : decode cX9_init 41 = .ok (.putfield 24, 3) := by decide +kernel
theorem dX9_init_44 : decode cX9_init 44 = .ok (.aload_n 0, 1) := by decide +kernel
theorem dX9_init_45 : decode cX9_init 45 = .ok (.bipush 16, 2) := by decide +kernel
theorem dX9_init_47 : decode cX9_init 47 = .ok (.newarray .int, 2) := by decide +kernel
theorem dX9_init_49 : decode cX9_init 49 = .ok (.putfield 27, 3) := by decide +kernel
theorem dX9_init_52 : decode cX9_init 52 = .ok (.aload_n 0, 1) := by decide +kernel
theorem dX9_init_53 : decode cX9_init 53 = .ok (.bipush 60, 2) := by decide +kernel
theorem dX9_init_55 : decode cX9_init 55 = .ok (.newarray .int, 2) := by decide +kernel
theorem dX9_init_57 : decode cX9_init 57 = .ok (.putfield 30, 3) := by decide +kernel
theorem dX9_init_60 : decode cX9_init 60 = .ok (.return_, 1) := by decide +kernel
set_option maxHeartbeats 40000000 in
set_option maxRecDepth 100000 in
theorem c_X9_init (l : Launch) (g : GG) (sz : Nat) (h : Nat) : Met l yX9_init (.code yX9_init cX9_init 1 none :: gT) ({ frames := 1, cells := 7, slots := 112, locals := 40 }) (va_Pc [.ref h] (Pst g sz [(h, .inr (9, [.int 0, .int 0, .int 0, .int 0, .int 0, .int 0, .int 0, .null, .null, .null, .null, .null, .null, .null]))] nX)) (va_Qv (fun (_ : Nat × Nat × Nat × Nat × Nat × Nat × Nat) => True) (Qst g [(h, .inr (9, [.int 0, .int 0, .int 0, .int 0, .int 0, .int 0, .int 0, .null, .null, .null, .null, .null, .null, .null]))] sz (fun ((q_1, q_2, q_3, q_4, q_5, q_6, q_7) : Nat × Nat × Nat × Nat × Nat × Nat × Nat) => [(h, .inr (9, [.int 0, .int 0, .int 0, .int 0, .int 0, .int 0, .int 0, .ref q_1, .ref q_2, .ref q_3, .ref q_4, .ref q_5, .ref q_6, .ref q_7])), (q_1, aI g 6 z0), (q_2, aI g 6 z0), (q_3, aI g 8 z0), (q_4, aI g 8 z0), (q_5, aI g 8 z0), (q_6, aI g 16 z0), (q_7, aI g 60 z0)])) (va_A [(h, .inr (9, [.int 0, .int 0, .int 0, .int 0, .int 0, .int 0, .int 0, .null, .null, .null, .null, .null, .null, .null]))] sz)) 7 112 (va_A [(h, .inr (9, [.int 0, .int 0, .int 0, .int 0, .int 0, .int 0, .int 0, .null, .null, .null, .null, .null, .null, .null]))] sz) := by
  refine Met.ofW (cc := cX9_init) (maxL := 1) (ret := none) (by decide) rfl ?_
  intro p e s m args below meth c s₁ B hml hv
  obtain ⟨rfl, hsz, hP, hK, hD0, hX⟩ := hv
  have hx := B.exec
  have hb := B.bytes
  have hr := B.returns
  have hT : ∀ w ∈ gT, w.before _ s = true := fun w h => atoms_spec (ws := .code yX9_init cX9_init 1 none :: gT) B.pre w (List.mem_cons_of_mem _ h)
  have hown : s.vm.findClass RX9 = some m.cls := findClass_of_methodNamed B.named
  have hlocks := B.notSynchronized
  have hin : meth.name = "<init>" := (name_of_methodNamed B.named B.method).1
  subst hsz
  have hD := hD0.self (sz := s.heap.size)
  generalize hAe : va_A [(h, .inr (9, [.int 0, .int 0, .int 0, .int 0, .int 0, .int 0, .int 0, .null, .null, .null, .null, .null, .null, .null]))] s.heap.size = A at hD ⊢
  have hA : ∀ q : Nat, s.heap.size ≤ q → A q := fun q h => by rw [← hAe]; exact Or.inr h
  have hS : va_S A s.heap s.heap [] := va_S.rf
  have hl := lv_entry ([.ref h]) (n := 1) (Nat.le_of_ble_eq_true rfl)
  rw [lg_entry_eq]
  generalize (lg_sl ([.ref h]) ++ List.replicate (1 - (lg_sl ([.ref h])).length) Slot.unset).toArray = ls at hl ⊢
  have hl : lv_has ls 1 [(0, .ref h)] := hl
  refine p_nH (fun H hH => ?_)
  have hP : va_P g.1 vwCl [(h, .inr (9, [.int 0, .int 0, .int 0, .int 0, .int 0, .int 0, .int 0, .null, .null, .null, .null, .null, .null, .null]))] H := by rw [hH]; exact hP
  have hS : va_S A s.heap H [] := by rw [hH]; exact hS
  refine lv_aload_n hx hb dX9_init_0 rfl (lv_at hl 0 rfl) ?_
  refine W.objInit hx hb hown (hT _ bw_1378) (hT _ bw_1338) (hT _ bw_1339) rfl (by rw [hml]; exact hl.1) rfl dX9_init_1 (Nat.le_of_ble_eq_true rfl) (Nat.le_of_ble_eq_true rfl) ?_
  refine W.eq (g2 := F0 m 4 ls []) rfl ?_
  refine lv_aload_n hx hb dX9_init_4 rfl (lv_at hl 0 rfl) ?_
  refine lv_bipush (v := 6) hx hb dX9_init_5 (by decide) ?_
  refine p_newa (atype := .int) (ty := .int) hx hb (hT _ bw_1354) rfl hK.1 hP hD hS hA 1 rfl (fun _ h9 => h9) (a0 := (6, .inl z0)) (fun _ => rfl) (by decide) (N' := 6) rfl (by decide) (by decide) (by decide) dX9_init_7 (fun q_1 H hP hD hS => ?_)
  have hP : va_P g.1 vwCl [(h, .inr (9, [.int 0, .int 0, .int 0, .int 0, .int 0, .int 0, .int 0, .null, .null, .null, .null, .null, .null, .null])), (q_1, aI g 6 z0)] H := hP
  have hD : va_D A [(h, .inr (9, [.int 0, .int 0, .int 0, .int 0, .int 0, .int 0, .int 0, .null, .null, .null, .null, .null, .null, .null])), (q_1, aI g 6 z0)] := hD
  refine W.widen (k := 1) (n := 6) (by decide) (by decide) ?_
  refine va_putF (D := g.1) (ci := 9) (v := .ref q_1) (ty := .array .int) (C := RX9) (T := TX9) (N := 14) hx hb hT inF_X9 tyX9 tyX9_ok nmX9 hown hK.1 hP hD hS 0 rfl rfl 7 (by decide) (hT _ bw_100) (fun _ h9 => h9) rfl hin rfl (by decide +kernel) rfl rfl (Nat.le_of_ble_eq_true rfl) dX9_init_9 (fun H locs hP hD hS => ?_)
  have hP : va_P g.1 vwCl [(h, .inr (9, [.int 0, .int 0, .int 0, .int 0, .int 0, .int 0, .int 0, .ref q_1, .null, .null, .null, .null, .null, .null])), (q_1, aI g 6 z0)] H := hP
  have hD : va_D A [(h, .inr (9, [.int 0, .int 0, .int 0, .int 0, .int 0, .int 0, .int 0, .ref q_1, .null, .null, .null, .null, .null, .null])), (q_1, aI g 6 z0)] := hD
  refine lv_aload_n hx hb dX9_init_12 rfl (lv_at hl 0 rfl) ?_
  refine lv_bipush (v := 6) hx hb dX9_init_13 (by decide) ?_
  refine p_newa (atype := .int) (ty := .int) hx hb (hT _ bw_1354) rfl hK.1 hP hD hS hA 1 rfl (fun _ h9 => h9) (a0 := (6, .inl z0)) (fun _ => rfl) (by decide) (N' := 6) rfl (by decide) (by decide) (by decide) dX9_init_15 (fun q_2 H hP hD hS => ?_)
  have hP : va_P g.1 vwCl [(h, .inr (9, [.int 0, .int 0, .int 0, .int 0, .int 0, .int 0, .int 0, .ref q_1, .null, .null, .null, .null, .null, .null])), (q_1, aI g 6 z0), (q_2, aI g 6 z0)] H := hP
  have hD : va_D A [(h, .inr (9, [.int 0, .int 0, .int 0, .int 0, .int 0, .int 0, .int 0, .ref q_1, .null, .null, .null, .null, .null, .null])), (q_1, aI g 6 z0), (q_2, aI g 6 z0)] := hD
  refine W.widen (k := 2) (n := 12) (by decide) (by decide) ?_
  refine va_putF (D := g.1) (ci := 9) (v := .ref q_2) (ty := .array .int) (C := RX9) (T := TX9) (N := 14) hx hb hT inF_X9 tyX9 tyX9_ok nmX9 hown hK.1 hP hD hS 0 rfl rfl 8 (by decide) (hT _ bw_105) (fun _ h9 => h9) rfl hin rfl (by decide +kernel) rfl rfl (Nat.le_of_ble_eq_true rfl) dX9_init_17 (fun H locs hP hD hS => ?_)
  have hP : va_P g.1 vwCl [(h, .inr (9, [.int 0, .int 0, .int 0, .int 0, .int 0, .int 0, .int 0, .ref q_1, .ref q_2, .null, .null, .null, .null, .null])), (q_1, aI g 6 z0), (q_2, aI g 6 z0)] H := hP
  have hD : va_D A [(h, .inr (9, [.int 0, .int 0, .int 0, .int 0, .int 0, .int 0, .int 0, .ref q_1, .ref q_2, .null, .null, .null, .null, .null])), (q_1, aI g 6 z0), (q_2, aI g 6 z0)] := hD
  refine lv_aload_n hx hb dX9_init_20 rfl (lv_at hl 0 rfl) ?_
  refine lv_bipush (v := 8) hx hb dX9_init_21 (by decide) ?_
  refine p_newa (atype := .int) (ty := .int) hx hb (hT _ bw_1354) rfl hK.1 hP hD hS hA 1 rfl (fun _ h9 => h9) (a0 := (8, .inl z0)) (fun _ => rfl) (by decide) (N' := 8) rfl (by decide) (by decide) (by decide) dX9_init_23 (fun q_3 H hP hD hS => ?_)
  have hP : va_P g.1 vwCl [(h, .inr (9, [.int 0, .int 0, .int 0, .int 0, .int 0, .int 0, .int 0, .ref q_1, .ref q_2, .null, .null, .null, .null, .null])), (q_1, aI g 6 z0), (q_2, aI g 6 z0), (q_3, aI g 8 z0)] H := hP
  have hD : va_D A [(h, .inr (9, [.int 0, .int 0, .int 0, .int 0, .int 0, .int 0, .int 0, .ref q_1, .ref q_2, .null, .null, .null, .null, .null])), (q_1, aI g 6 z0), (q_2, aI g 6 z0), (q_3, aI g 8 z0)] := hD
  refine W.widen (k := 3) (n := 20) (by decide) (by decide) ?_
  refine va_putF (D := g.1) (ci := 9) (v := .ref q_3) (ty := .array .int) (C := RX9) (T := TX9) (N := 14) hx hb hT inF_X9 tyX9 tyX9_ok nmX9 hown hK.1 hP hD hS 0 rfl rfl 9 (by decide) (hT _ bw_51) (fun _ h9 => h9) rfl hin rfl (by decide +kernel) rfl rfl (Nat.le_of_ble_eq_true rfl) dX9_init_25 (fun H locs hP hD hS => ?_)
  have hP : va_P g.1 vwCl [(h, .inr (9, [.int 0, .int 0, .int 0, .int 0, .int 0, .int 0, .int 0, .ref q_1, .ref q_2, .ref q_3, .null, .null, .null, .null])), (q_1, aI g 6 z0), (q_2, aI g 6 z0), (q_3, aI g 8 z0)] H := hP
  have hD : va_D A [(h, .inr (9, [.int 0, .int 0, .int 0, .int 0, .int 0, .int 0, .int 0, .ref q_1, .ref q_2, .ref q_3, .null, .null, .null, .null])), (q_1, aI g 6 z0), (q_2, aI g 6 z0), (q_3, aI g 8 z0)] := hD
  refine lv_aload_n hx hb dX9_init_28 rfl (lv_at hl 0 rfl) ?_
  refine lv_bipush (v := 8) hx hb dX9_init_29 (by decide) ?_
  refine p_newa (atype := .int) (ty := .int) hx hb (hT _ bw_1354) rfl hK.1 hP hD hS hA 1 rfl (fun _ h9 => h9) (a0 := (8, .inl z0)) (fun _ => rfl) (by decide) (N' := 8) rfl (by decide) (by decide) (by decide) dX9_init_31 (fun q_4 H hP hD hS => ?_)
  have hP : va_P g.1 vwCl [(h, .inr (9, [.int 0, .int 0, .int 0, .int 0, .int 0, .int 0, .int 0, .ref q_1, .ref q_2, .ref q_3, .null, .null, .null, .null])), (q_1, aI g 6 z0), (q_2, aI g 6 z0), (q_3, aI g 8 z0), (q_4, aI g 8 z0)] H := hP
  have hD : va_D A [(h, .inr (9, [.int 0, .int 0, .int 0, .int 0, .int 0, .int 0, .int 0, .ref q_1, .ref q_2, .ref q_3, .null, .null, .null, .null])), (q_1, aI g 6 z0), (q_2, aI g 6 z0), (q_3, aI g 8 z0), (q_4, aI g 8 z0)] := hD
  refine W.widen (k := 4) (n := 28) (by decide) (by decide) ?_
  refine va_putF (D := g.1) (ci := 9) (v := .ref q_4) (ty := .array .int) (C := RX9) (T := TX9) (N := 14) hx hb hT inF_X9 tyX9 tyX9_ok nmX9 hown hK.1 hP hD hS 0 rfl rfl 10 (by decide) (hT _ bw_70) (fun _ h9 => h9) rfl hin rfl (by decide +kernel) rfl rfl (Nat.le_of_ble_eq_true rfl) dX9_init_33 (fun H locs hP hD hS => ?_)
  have hP : va_P g.1 vwCl [(h, .inr (9, [.int 0, .int 0, .int 0, .int 0, .int 0, .int 0, .int 0, .ref q_1, .ref q_2, .ref q_3, .ref q_4, .null, .null, .null])), (q_1, aI g 6 z0), (q_2, aI g 6 z0), (q_3, aI g 8 z0), (q_4, aI g 8 z0)] H := hP
  have hD : va_D A [(h, .inr (9, [.int 0, .int 0, .int 0, .int 0, .int 0, .int 0, .int 0, .ref q_1, .ref q_2, .ref q_3, .ref q_4, .null, .null, .null])), (q_1, aI g 6 z0), (q_2, aI g 6 z0), (q_3, aI g 8 z0), (q_4, aI g 8 z0)] := hD
  refine lv_aload_n hx hb dX9_init_36 rfl (lv_at hl 0 rfl) ?_
  refine lv_bipush (v := 8) hx hb dX9_init_37 (by decide) ?_
  refine p_newa (atype := .int) (ty := .int) hx hb (hT _ bw_1354) rfl hK.1 hP hD hS hA 1 rfl (fun _ h9 => h9) (a0 := (8, .inl z0)) (fun _ => rfl) (by decide) (N' := 8) rfl (by decide) (by decide) (by decide) dX9_init_39 (fun q_5 H hP hD hS => ?_)
  have hP : va_P g.1 vwCl [(h, .inr (9, [.int 0, .int 0, .int 0, .int 0, .int 0, .int 0, .int 0, .ref q_1, .ref q_2, .ref q_3, .ref q_4, .null, .null, .null])), (q_1, aI g 6 z0), (q_2, aI g 6 z0), (q_3, aI g 8 z0), (q_4, aI g 8 z0), (q_5, aI g 8 z0)] H := hP
  have hD : va_D A [(h, .inr (9, [.int 0, .int 0, .int 0, .int 0, .int 0, .int 0, .int 0, .ref q_1, .ref q_2, .ref q_3, .ref q_4, .null, .null, .null])), (q_1, aI g 6 z0), (q_2, aI g 6 z0), (q_3, aI g 8 z0), (q_4, aI g 8 z0), (q_5, aI g 8 z0)] := hD
  refine W.widen (k := 5) (n := 36) (by decide) (by decide) ?_
  refine va_putF (D := g.1) (ci := 9) (v := .ref q_5) (ty := .array .int) (C := RX9) (T := TX9) (N := 14) hx hb hT inF_X9 tyX9 tyX9_ok nmX9 hown hK.1 hP hD hS 0 rfl rfl 11 (by decide) (hT _ bw_60) (fun _ h9 => h9) rfl hin rfl (by decide +kernel) rfl rfl (Nat.le_of_ble_eq_true rfl) dX9_init_41 (fun H locs hP hD hS => ?_)
  have hP : va_P g.1 vwCl [(h, .inr (9, [.int 0, .int 0, .int 0, .int 0, .int 0, .int 0, .int 0, .ref q_1, .ref q_2, .ref q_3, .ref q_4, .ref q_5, .null, .null])), (q_1, aI g 6 z0), (q_2, aI g 6 z0), (q_3, aI g 8 z0), (q_4, aI g 8 z0), (q_5, aI g 8 z0)] H := hP
  have hD : va_D A [(h, .inr (9, [.int 0, .int 0, .int 0, .int 0, .int 0, .int 0, .int 0, .ref q_1, .ref q_2, .ref q_3, .ref q_4, .ref q_5, .null, .null])), (q_1, aI g 6 z0), (q_2, aI g 6 z0), (q_3, aI g 8 z0), (q_4, aI g 8 z0), (q_5, aI g 8 z0)] := hD
  refine lv_aload_n hx hb dX9_init_44 rfl (lv_at hl 0 rfl) ?_
  refine lv_bipush (v := 16) hx hb dX9_init_45 (by decide) ?_
  refine p_newa (atype := .int) (ty := .int) hx hb (hT _ bw_1354) rfl hK.1 hP hD hS hA 1 rfl (fun _ h9 => h9) (a0 := (16, .inl z0)) (fun _ => rfl) (by decide) (N' := 16) rfl (by decide) (by decide) (by decide) dX9_init_47 (fun q_6 H hP hD hS => ?_)
  have hP : va_P g.1 vwCl [(h, .inr (9, [.int 0, .int 0, .int 0, .int 0, .int 0, .int 0, .int 0, .ref q_1, .ref q_2, .ref q_3, .ref q_4, .ref q_5, .null, .null])), (q_1, aI g 6 z0), (q_2, aI g 6 z0), (q_3, aI g 8 z0), (q_4, aI g 8 z0), (q_5, aI g 8 z0), (q_6, aI g 16 z0)] H := hP
  have hD : va_D A [(h, .inr (9, [.int 0, .int 0, .int 0, .int 0, .int 0, .int 0, .int 0, .ref q_1, .ref q_2, .ref q_3, .ref q_4, .ref q_5, .null, .null])), (q_1, aI g 6 z0), (q_2, aI g 6 z0), (q_3, aI g 8 z0), (q_4, aI g 8 z0), (q_5, aI g 8 z0), (q_6, aI g 16 z0)] := hD
  refine W.widen (k := 6) (n := 52) (by decide) (by decide) ?_
  refine va_putF (D := g.1) (ci := 9) (v := .ref q_6) (ty := .array .int) (C := RX9) (T := TX9) (N := 14) hx hb hT inF_X9 tyX9 tyX9_ok nmX9 hown hK.1 hP hD hS 0 rfl rfl 12 (by decide) (hT _ bw_35) (fun _ h9 => h9) rfl hin rfl (by decide +kernel) rfl rfl (Nat.le_of_ble_eq_true rfl) dX9_init_49 (fun H locs hP hD hS => ?_)
  have hP : va_P g.1 vwCl [(h, .inr (9, [.int 0, .int 0, .int 0, .int 0, .int 0, .int 0, .int 0, .ref q_1, .ref q_2, .ref q_3, .ref q_4, .ref q_5, .ref q_6, .null])), (q_1, aI g 6 z0), (q_2, aI g 6 z0), (q_3, aI g 8 z0), (q_4, aI g 8 z0), (q_5, aI g 8 z0), (q_6, aI g 16 z0)] H := hP
  have hD : va_D A [(h, .inr (9, [.int 0, .int 0, .int 0, .int 0, .int 0, .int 0, .int 0, .ref q_1, .ref q_2, .ref q_3, .ref q_4, .ref q_5, .ref q_6, .null])), (q_1, aI g 6 z0), (q_2, aI g 6 z0), (q_3, aI g 8 z0), (q_4, aI g 8 z0), (q_5, aI g 8 z0), (q_6, aI g 16 z0)] := hD
  refine lv_aload_n hx hb dX9_init_52 rfl (lv_at hl 0 rfl) ?_
  refine lv_bipush (v := 60) hx hb dX9_init_53 (by decide) ?_
  refine p_newa (atype := .int) (ty := .int) hx hb (hT _ bw_1354) rfl hK.1 hP hD hS hA 1 rfl (fun _ h9 => h9) (a0 := (60, .inl z0)) (fun _ => rfl) (by decide) (N' := 60) rfl (by decide) (by decide) (by decide) dX9_init_55 (fun q_7 H hP hD hS => ?_)
  have hP : va_P g.1 vwCl [(h, .inr (9, [.int 0, .int 0, .int 0, .int 0, .int 0, .int 0, .int 0, .ref q_1, .ref q_2, .ref q_3, .ref q_4, .ref q_5, .ref q_6, .null])), (q_1, aI g 6 z0), (q_2, aI g 6 z0), (q_3, aI g 8 z0), (q_4, aI g 8 z0), (q_5, aI g 8 z0), (q_6, aI g 16 z0), (q_7, aI g 60 z0)] H := hP
  have hD : va_D A [(h, .inr (9, [.int 0, .int 0, .int 0, .int 0, .int 0, .int 0, .int 0, .ref q_1, .ref q_2, .ref q_3, .ref q_4, .ref q_5, .ref q_6, .null])), (q_1, aI g 6 z0), (q_2, aI g 6 z0), (q_3, aI g 8 z0), (q_4, aI g 8 z0), (q_5, aI g 8 z0), (q_6, aI g 16 z0), (q_7, aI g 60 z0)] := hD
  refine W.widen (k := 7) (n := 112) (by decide) (by decide) ?_
  refine va_putF (D := g.1) (ci := 9) (v := .ref q_7) (ty := .array .int) (C := RX9) (T := TX9) (N := 14) hx hb hT inF_X9 tyX9 tyX9_ok nmX9 hown hK.1 hP hD hS 0 rfl rfl 13 (by decide) (hT _ bw_38) (fun _ h9 => h9) rfl hin rfl (by decide +kernel) rfl rfl (Nat.le_of_ble_eq_true rfl) dX9_init_57 (fun H locs hP hD hS => ?_)
  have hP : va_P g.1 vwCl [(h, .inr (9, [.int 0, .int 0, .int 0, .int 0, .int 0, .int 0, .int 0, .ref q_1, .ref q_2, .ref q_3, .ref q_4, .ref q_5, .ref q_6, .ref q_7])), (q_1, aI g 6 z0), (q_2, aI g 6 z0), (q_3, aI g 8 z0), (q_4, aI g 8 z0), (q_5, aI g 8 z0), (q_6, aI g 16 z0), (q_7, aI g 60 z0)] H := hP
  have hD : va_D A [(h, .inr (9, [.int 0, .int 0, .int 0, .int 0, .int 0, .int 0, .int 0, .ref q_1, .ref q_2, .ref q_3, .ref q_4, .ref q_5, .ref q_6, .ref q_7])), (q_1, aI g 6 z0), (q_2, aI g 6 z0), (q_3, aI g 8 z0), (q_4, aI g 8 z0), (q_5, aI g 8 z0), (q_6, aI g 16 z0), (q_7, aI g 60 z0)] := hD
  have hP9 : va_P g.1 vwCl [(h, .inr (9, [.int 0, .int 0, .int 0, .int 0, .int 0, .int 0, .int 0, .ref q_1, .ref q_2, .ref q_3, .ref q_4, .ref q_5, .ref q_6, .ref q_7])), (q_1, aI g 6 z0), (q_2, aI g 6 z0), (q_3, aI g 8 z0), (q_4, aI g 8 z0), (q_5, aI g 8 z0), (q_6, aI g 16 z0), (q_7, aI g 60 z0)] H := hP.sub [0, 1, 2, 3, 4, 5, 6, 7] rfl
  have hD9 : va_D A [(h, .inr (9, [.int 0, .int 0, .int 0, .int 0, .int 0, .int 0, .int 0, .ref q_1, .ref q_2, .ref q_3, .ref q_4, .ref q_5, .ref q_6, .ref q_7])), (q_1, aI g 6 z0), (q_2, aI g 6 z0), (q_3, aI g 8 z0), (q_4, aI g 8 z0), (q_5, aI g 8 z0), (q_6, aI g 16 z0), (q_7, aI g 60 z0)] := hD.sub [0, 1, 2, 3, 4, 5, 6, 7] (by decide +kernel) rfl
  exact W.vret hx hb hr (fun t ht hW => ⟨⟨(q_1, q_2, q_3, q_4, q_5, q_6, q_7), rfl, trivial, by rw [ht]; exact hP9, by rw [hAe]; exact hD9⟩, hS.F ht⟩) hS.2.2 dX9_init_60

theorem bw_1380 : Cond.methodLink RX2 3 objectInit ∈ gT := gT_tb 156 (by decide +kernel) (by decide +kernel)
theorem bw_1381 : Cond.classLink RX2 9 RX3 ∈ gT := gT_tb 157 (by decide +kernel) (by decide +kernel)
theorem bw_1382 : Cond.instantiable RX3 5 ∈ gT := gT_tb 158 (by decide +kernel) (by decide +kernel)
theorem bw_1383 : Cond.initialized yX3_init.cls ∈ gT := gT_tb 9 (by decide +kernel) (by decide +kernel)
theorem bw_1384 : Cond.instanceMethod yX3_init ∈ gT := gT_tb 160 (by decide +kernel) (by decide +kernel)
theorem bw_1385 : Cond.classLink RX2 18 RX0 ∈ gT := gT_tb 194 (by decide +kernel) (by decide +kernel)
theorem bw_1386 : Cond.instantiable RX0 8 ∈ gT := gT_tb 195 (by decide +kernel) (by decide +kernel)
theorem bw_1387 : Cond.initialized yX0_init.cls ∈ gT := gT_tb 10 (by decide +kernel) (by decide +kernel)
theorem bw_1388 : Cond.instanceMethod yX0_init ∈ gT := gT_tb 197 (by decide +kernel) (by decide +kernel)
theorem bw_1389 : Cond.classLink RX2 25 RX6 ∈ gT := gT_tb 229 (by decide +kernel) (by decide +kernel)
theorem bw_1390 : Cond.instantiable RX6 8 ∈ gT := gT_tb 230 (by decide +kernel) (by decide +kernel)
theorem bw_1391 : Cond.initialized yX6_init.cls ∈ gT := gT_tb 11 (by decide +kernel) (by decide +kernel)
theorem bw_1392 : Cond.instanceMethod yX6_init ∈ gT := gT_tb 232 (by decide +kernel) (by decide +kernel)
theorem bw_1393 : Cond.fieldLink RX2 36 "DuelDelays$Land" "duelMornings" "[I" ∈ gT := gT_tb 304 (by decide +kernel) (by decide +kernel)
theorem bw_1394 : Cond.code yX2_init cX2_init 1 none ∈ gT := gT_tb 155 (by decide +kernel) (by decide +kernel)
theorem dX2_init_0 : decode cX2_init 0 = .ok (.aload_n 0, 1) := by decide +kernel
theorem dX2_init_1 : decode cX2_init 1 = .ok (.invokespecial 3, 3) := by decide +kernel
theorem dX2_init_4 : decode cX2_init 4 = .ok (.aload_n 0, 1) := by decide +kernel
theorem dX2_init_5 : decode cX2_init 5 = .ok (.new 9, 3) := by decide +kernel
theorem dX2_init_8 : decode cX2_init 8 = .ok (.dup, 1) := by decide +kernel
theorem dX2_init_9 : decode cX2_init 9 = .ok (.invokespecial 11, 3) := by decide +kernel
theorem dX2_init_12 : decode cX2_init 12 = .ok (.putfield 12, 3) := by decide +kernel
theorem dX2_init_15 : decode cX2_init 15 = .ok (.aload_n 0, 1) := by decide +kernel
theorem dX2_init_16 : decode cX2_init 16 = .ok (.new 18, 3) := by decide +kernel
theorem dX2_init_19 : decode cX2_init 19 = .ok (.dup, 1) := by decide +kernel
theorem dX2_init_20 : decode cX2_init 20 = .ok (.invokespecial 20, 3) := by decide +kernel
theorem dX2_init_23 : decode cX2_init 23 = .ok (.putfield 21, 3) := by decide +kernel
theorem dX2_init_26 : decode cX2_init 26 = .ok (.aload_n 0, 1) := by decide +kernel
theorem dX2_init_27 : decode cX2_init 27 = .ok (.new 25, 3) := by decide +kernel
theorem dX2_init_30 : decode cX2_init 30 = .ok (.dup, 1) := by decide +kernel
theorem dX2_init_31 : decode cX2_init 31 = .ok (.invokespecial 27, 3) := by decide +kernel
theorem dX2_init_34 : decode cX2_init 34 = .ok (.putfield 28, 3) := by decide +kernel
theorem dX2_init_37 : decode cX2_init 37 = .ok (.aload_n 0, 1) := by decide +kernel
theorem dX2_init_38 : decode cX2_init 38 = .ok (.bipush 12, 2) := by decide +kernel
theorem dX2_init_40 : decode cX2_init 40 = .ok (.newarray .int, 2) := by decide +kernel
theorem dX2_init_42 : decode cX2_init 42 = .ok (.putfield 32, 3) := by decide +kernel
theorem dX2_init_45 : decode cX2_init 45 = .ok (.aload_n 0, 1) := by decide +kernel
theorem dX2_init_46 : decode cX2_init 46 = .ok (.bipush 6, 2) := by decide +kernel
theorem dX2_init_48 : decode cX2_init 48 = .ok (.newarray .int, 2) := by decide +kernel
theorem dX2_init_50 : decode cX2_init 50 = .ok (.putfield 36, 3) := by decide +kernel
theorem dX2_init_53 : decode cX2_init 53 = .ok (.aload_n 0, 1) := by decide +kernel
theorem dX2_init_54 : decode cX2_init 54 = .ok (.bipush 9, 2) := by decide +kernel
theorem dX2_init_56 : decode cX2_init 56 = .ok (.putfield 39, 3) := by decide +kernel
theorem dX2_init_59 : decode cX2_init 59 = .ok (.aload_n 0, 1) := by decide +kernel
theorem dX2_init_60 : decode cX2_init 60 = .ok (.iconst 4, 1) := by decide +kernel
theorem dX2_init_61 : decode cX2_init 61 = .ok (.newarray .int, 2) := by decide +kernel
theorem dX2_init_63 : decode cX2_init 63 = .ok (.putfield 43, 3) := by decide +kernel
theorem dX2_init_66 : decode cX2_init 66 = .ok (.return_, 1) := by decide +kernel
set_option maxHeartbeats 40000000 in
set_option maxRecDepth 100000 in
theorem c_X2_init (l : Launch) (g : GG) (sz : Nat) (h : Nat) : Met l yX2_init (.code yX2_init cX2_init 1 none :: gT) ({ frames := 2, cells := 21, slots := 804, locals := 60 }) (va_Pc [.ref h] (Pst g sz [(h, .inr (2, [.null, .null, .null, .int 0, .null, .null, .int 0, .int 0, .null]))] nX)) (va_Qv (fun (_ : Nat × Nat × Nat × Nat × Nat × Nat × Nat × Nat × Nat × Nat × Nat × Nat × Nat × Nat × Nat × Nat × Nat × Nat × Nat × Nat × Nat) => True) (Qst g [(h, .inr (2, [.null, .null, .null, .int 0, .null, .null, .int 0, .int 0, .null]))] sz (fun ((q_1, q_2, q_3, q_4, q_5, q_6, q_7, q_8, q_9, q_10, q_11, q_12, q_13, q_14, q_15, q_16, q_17, q_18, q_19, q_20, q_21) : Nat × Nat × Nat × Nat × Nat × Nat × Nat × Nat × Nat × Nat × Nat × Nat × Nat × Nat × Nat × Nat × Nat × Nat × Nat × Nat × Nat) => [(h, .inr (2, [.ref q_1, .ref q_6, .ref q_11, .int 0, .ref q_19, .ref q_20, .int 9, .int 0, .ref q_21])), (q_1, .inr (3, [.int 0, .ref q_2, .ref q_3, .ref q_4, .ref q_5])), (q_2, aJ g 6 zL), (q_3, aI g 6 z0), (q_4, aI g 6 z0), (q_5, aI g 6 z0), (q_6, .inr (0, [.int 0, .int 0, .ref q_7, .int 0, .int 0, .ref q_8, .ref q_9, .ref q_10])), (q_7, aJ g 4 zL), (q_8, aI g 5 z0), (q_9, aI g 640 z0), (q_10, aI g 32 z0), (q_11, .inr (6, [.int 0, .ref q_12, .ref q_13, .ref q_14, .ref q_15, .ref q_16, .ref q_17, .ref q_18])), (q_12, aJ g 8 zL), (q_13, aI g 8 z0), (q_14, aI g 8 z0), (q_15, aI g 8 z0), (q_16, aI g 8 z0), (q_17, aI g 8 z0), (q_18, aI g 8 z0), (q_19, aI g 12 z0), (q_20, aI g 6 z0), (q_21, aI g 4 z0)])) (va_A [(h, .inr (2, [.null, .null, .null, .int 0, .null, .null, .int 0, .int 0, .null]))] sz)) 21 804 (va_A [(h, .inr (2, [.null, .null, .null, .int 0, .null, .null, .int 0, .int 0, .null]))] sz) := by
  refine Met.ofW (cc := cX2_init) (maxL := 1) (ret := none) (by decide) rfl ?_
  intro p e s m args below meth c s₁ B hml hv
  obtain ⟨rfl, hsz, hP, hK, hD0, hX⟩ := hv
  have hx := B.exec
  have hb := B.bytes
  have hr := B.returns
  have hT : ∀ w ∈ gT, w.before _ s = true := fun w h => atoms_spec (ws := .code yX2_init cX2_init 1 none :: gT) B.pre w (List.mem_cons_of_mem _ h)
  have hown : s.vm.findClass RX2 = some m.cls := findClass_of_methodNamed B.named
  have hlocks := B.notSynchronized
  have hin : meth.name = "<init>" := (name_of_methodNamed B.named B.method).1
  subst hsz
  have hD := hD0.self (sz := s.heap.size)
  generalize hAe : va_A [(h, .inr (2, [.null, .null, .null, .int 0, .null, .null, .int 0, .int 0, .null]))] s.heap.size = A at hD ⊢
  have hA : ∀ q : Nat, s.heap.size ≤ q → A q := fun q h => by rw [← hAe]; exact Or.inr h
  have hS : va_S A s.heap s.heap [] := va_S.rf
  have hl := lv_entry ([.ref h]) (n := 1) (Nat.le_of_ble_eq_true rfl)
  rw [lg_entry_eq]
  generalize (lg_sl ([.ref h]) ++ List.replicate (1 - (lg_sl ([.ref h])).length) Slot.unset).toArray = ls at hl ⊢
  have hl : lv_has ls 1 [(0, .ref h)] := hl
  refine p_nH (fun H hH => ?_)
  have hP : va_P g.1 vwCl [(h, .inr (2, [.null, .null, .null, .int 0, .null, .null, .int 0, .int 0, .null]))] H := by rw [hH]; exact hP
  have hS : va_S A s.heap H [] := by rw [hH]; exact hS
  refine lv_aload_n hx hb dX2_init_0 rfl (lv_at hl 0 rfl) ?_
  refine W.objInit hx hb hown (hT _ bw_1380) (hT _ bw_1338) (hT _ bw_1339) rfl (by rw [hml]; exact hl.1) rfl dX2_init_1 (Nat.le_of_ble_eq_true rfl) (Nat.le_of_ble_eq_true rfl) ?_
  refine W.eq (g2 := F0 m 4 ls []) rfl ?_
  refine lv_aload_n hx hb dX2_init_4 rfl (lv_at hl 0 rfl) ?_
  refine va_new (D := g.1) (ci := 3) (fs := [.int 0, .null, .null, .null, .null]) (C := RX3) (T := TX3) (N := 5) hx hb hT inF_X3 tyX3 tyX3_ok hown (hT _ bw_1381) (hT _ bw_1382) (hT _ bw_274) hK.1 hP hD hS hA rfl (by decide +kernel) (by decide) (by decide) dX2_init_5 (fun q_1 H hP hD hS => ?_)
  have hP : va_P g.1 vwCl [(h, .inr (2, [.null, .null, .null, .int 0, .null, .null, .int 0, .int 0, .null])), (q_1, .inr (3, [.int 0, .null, .null, .null, .null]))] H := hP
  have hD : va_D A [(h, .inr (2, [.null, .null, .null, .int 0, .null, .null, .int 0, .int 0, .null])), (q_1, .inr (3, [.int 0, .null, .null, .null, .null]))] := hD
  refine W.widen (k := 1) (n := 5) (by decide) (by decide) ?_
  refine lv_dup hx hb dX2_init_8 rfl ?_
  refine k_v (wr := [(h, .inr (2, [.null, .null, .null, .int 0, .null, .null, .int 0, .int 0, .null]))]) (k_N (n := 0) ⟨hx, hb, hml, hown, hT⟩ hK hP hD [1] rfl (by decide +kernel) (c_X3_init l g H.size q_1) (gI bw_1361) bw_1383 (eW_X2_11 hK.2) bw_1384 rfl rfl rfl (by decide +kernel) ⟨by decide, by decide⟩ (fun _ _ _ _ _ => trivial) (fun _ _ _ => trivial) rfl rfl hl.1 (Nat.le_of_ble_eq_true rfl) dX2_init_9 ⟨by decide, by decide⟩) hP hD hS hA [1] [0] rfl rfl (by decide +kernel) (by decide +kernel) (fun u H locs hw hP hD hS => ?_)
  obtain ⟨q_2, q_3, q_4, q_5⟩ := u
  have hP : va_P g.1 vwCl [(h, .inr (2, [.null, .null, .null, .int 0, .null, .null, .int 0, .int 0, .null])), (q_1, .inr (3, [.int 0, .ref q_2, .ref q_3, .ref q_4, .ref q_5])), (q_2, aJ g 6 zL), (q_3, aI g 6 z0), (q_4, aI g 6 z0), (q_5, aI g 6 z0)] H := hP
  have hD : va_D A [(h, .inr (2, [.null, .null, .null, .int 0, .null, .null, .int 0, .int 0, .null])), (q_1, .inr (3, [.int 0, .ref q_2, .ref q_3, .ref q_4, .ref q_5])), (q_2, aJ g 6 zL), (q_3, aI g 6 z0), (q_4, aI g 6 z0), (q_5, aI g 6 z0)] := hD
  refine W.widen (k := 5) (n := 29) (by decide) (by decide) ?_
  refine va_putF (D := g.1) (ci := 2) (v := .ref q_1) (ty := .object "DuelDelays$Men") (C := RX2) (T := TX2) (N := 9) hx hb hT inF_X2 tyX2 tyX2_ok nmX2 hown hK.1 hP hD hS 0 rfl rfl 0 (by decide) (hT _ bw_137) (fun _ h9 => h9) rfl hin rfl (by decide +kernel) rfl rfl (Nat.le_of_ble_eq_true rfl) dX2_init_12 (fun H locs hP hD hS => ?_)
  have hP : va_P g.1 vwCl [(h, .inr (2, [.ref q_1, .null, .null, .int 0, .null, .null, .int 0, .int 0, .null])), (q_1, .inr (3, [.int 0, .ref q_2, .ref q_3, .ref q_4, .ref q_5])), (q_2, aJ g 6 zL), (q_3, aI g 6 z0), (q_4, aI g 6 z0), (q_5, aI g 6 z0)] H := hP
  have hD : va_D A [(h, .inr (2, [.ref q_1, .null, .null, .int 0, .null, .null, .int 0, .int 0, .null])), (q_1, .inr (3, [.int 0, .ref q_2, .ref q_3, .ref q_4, .ref q_5])), (q_2, aJ g 6 zL), (q_3, aI g 6 z0), (q_4, aI g 6 z0), (q_5, aI g 6 z0)] := hD
  refine lv_aload_n hx hb dX2_init_15 rfl (lv_at hl 0 rfl) ?_
  refine va_new (D := g.1) (ci := 0) (fs := [.int 0, .int 0, .null, .int 0, .int 0, .null, .null, .null]) (C := RX0) (T := TX0) (N := 8) hx hb hT inF_X0 tyX0 tyX0_ok hown (hT _ bw_1385) (hT _ bw_1386) (hT _ bw_143) hK.1 hP hD hS hA rfl (by decide +kernel) (by decide) (by decide) dX2_init_16 (fun q_6 H hP hD hS => ?_)
  have hP : va_P g.1 vwCl [(h, .inr (2, [.ref q_1, .null, .null, .int 0, .null, .null, .int 0, .int 0, .null])), (q_1, .inr (3, [.int 0, .ref q_2, .ref q_3, .ref q_4, .ref q_5])), (q_2, aJ g 6 zL), (q_3, aI g 6 z0), (q_4, aI g 6 z0), (q_5, aI g 6 z0), (q_6, .inr (0, [.int 0, .int 0, .null, .int 0, .int 0, .null, .null, .null]))] H := hP
  have hD : va_D A [(h, .inr (2, [.ref q_1, .null, .null, .int 0, .null, .null, .int 0, .int 0, .null])), (q_1, .inr (3, [.int 0, .ref q_2, .ref q_3, .ref q_4, .ref q_5])), (q_2, aJ g 6 zL), (q_3, aI g 6 z0), (q_4, aI g 6 z0), (q_5, aI g 6 z0), (q_6, .inr (0, [.int 0, .int 0, .null, .int 0, .int 0, .null, .null, .null]))] := hD
  refine W.widen (k := 6) (n := 37) (by decide) (by decide) ?_
  refine lv_dup hx hb dX2_init_19 rfl ?_
  refine k_v (wr := [(h, .inr (2, [.ref q_1, .null, .null, .int 0, .null, .null, .int 0, .int 0, .null])), (q_1, .inr (3, [.int 0, .ref q_2, .ref q_3, .ref q_4, .ref q_5])), (q_2, aJ g 6 zL), (q_3, aI g 6 z0), (q_4, aI g 6 z0), (q_5, aI g 6 z0)]) (k_N (n := 0) ⟨hx, hb, hml, hown, hT⟩ hK hP hD [6] rfl (by decide +kernel) (c_X0_init l g H.size q_6) (gI bw_1364) bw_1387 (eW_X2_20 hK.2) bw_1388 rfl rfl rfl (by decide +kernel) ⟨by decide, by decide⟩ (fun _ _ _ _ _ => trivial) (fun _ _ _ => trivial) rfl rfl hl.1 (Nat.le_of_ble_eq_true rfl) dX2_init_20 ⟨by decide, by decide⟩) hP hD hS hA [6] [0, 1, 2, 3, 4, 5] rfl rfl (by decide +kernel) (by decide +kernel) (fun u H locs hw hP hD hS => ?_)
  obtain ⟨q_7, q_8, q_9, q_10⟩ := u
  have hP : va_P g.1 vwCl [(h, .inr (2, [.ref q_1, .null, .null, .int 0, .null, .null, .int 0, .int 0, .null])), (q_1, .inr (3, [.int 0, .ref q_2, .ref q_3, .ref q_4, .ref q_5])), (q_2, aJ g 6 zL), (q_3, aI g 6 z0), (q_4, aI g 6 z0), (q_5, aI g 6 z0), (q_6, .inr (0, [.int 0, .int 0, .ref q_7, .int 0, .int 0, .ref q_8, .ref q_9, .ref q_10])), (q_7, aJ g 4 zL), (q_8, aI g 5 z0), (q_9, aI g 640 z0), (q_10, aI g 32 z0)] H := hP
  have hD : va_D A [(h, .inr (2, [.ref q_1, .null, .null, .int 0, .null, .null, .int 0, .int 0, .null])), (q_1, .inr (3, [.int 0, .ref q_2, .ref q_3, .ref q_4, .ref q_5])), (q_2, aJ g 6 zL), (q_3, aI g 6 z0), (q_4, aI g 6 z0), (q_5, aI g 6 z0), (q_6, .inr (0, [.int 0, .int 0, .ref q_7, .int 0, .int 0, .ref q_8, .ref q_9, .ref q_10])), (q_7, aJ g 4 zL), (q_8, aI g 5 z0), (q_9, aI g 640 z0), (q_10, aI g 32 z0)] := hD
  refine W.widen (k := 10) (n := 718) (by decide) (by decide) ?_
  refine va_putF (D := g.1) (ci := 2) (v := .ref q_6) (ty := .object "DuelDelays$Formulas") (C := RX2) (T := TX2) (N := 9) hx hb hT inF_X2 tyX2 tyX2_ok nmX2 hown hK.1 hP hD hS 0 rfl rfl 1 (by decide) (hT _ bw_139) (fun _ h9 => h9) rfl hin rfl (by decide +kernel) rfl rfl (Nat.le_of_ble_eq_true rfl) dX2_init_23 (fun H locs hP hD hS => ?_)
  have hP : va_P g.1 vwCl [(h, .inr (2, [.ref q_1, .ref q_6, .null, .int 0, .null, .null, .int 0, .int 0, .null])), (q_1, .inr (3, [.int 0, .ref q_2, .ref q_3, .ref q_4, .ref q_5])), (q_2, aJ g 6 zL), (q_3, aI g 6 z0), (q_4, aI g 6 z0), (q_5, aI g 6 z0), (q_6, .inr (0, [.int 0, .int 0, .ref q_7, .int 0, .int 0, .ref q_8, .ref q_9, .ref q_10])), (q_7, aJ g 4 zL), (q_8, aI g 5 z0), (q_9, aI g 640 z0), (q_10, aI g 32 z0)] H := hP
  have hD : va_D A [(h, .inr (2, [.ref q_1, .ref q_6, .null, .int 0, .null, .null, .int 0, .int 0, .null])), (q_1, .inr (3, [.int 0, .ref q_2, .ref q_3, .ref q_4, .ref q_5])), (q_2, aJ g 6 zL), (q_3, aI g 6 z0), (q_4, aI g 6 z0), (q_5, aI g 6 z0), (q_6, .inr (0, [.int 0, .int 0, .ref q_7, .int 0, .int 0, .ref q_8, .ref q_9, .ref q_10])), (q_7, aJ g 4 zL), (q_8, aI g 5 z0), (q_9, aI g 640 z0), (q_10, aI g 32 z0)] := hD
  refine lv_aload_n hx hb dX2_init_26 rfl (lv_at hl 0 rfl) ?_
  refine va_new (D := g.1) (ci := 6) (fs := [.int 0, .null, .null, .null, .null, .null, .null, .null]) (C := RX6) (T := TX6) (N := 8) hx hb hT inF_X6 tyX6 tyX6_ok hown (hT _ bw_1389) (hT _ bw_1390) (hT _ bw_185) hK.1 hP hD hS hA rfl (by decide +kernel) (by decide) (by decide) dX2_init_27 (fun q_11 H hP hD hS => ?_)
  have hP : va_P g.1 vwCl [(h, .inr (2, [.ref q_1, .ref q_6, .null, .int 0, .null, .null, .int 0, .int 0, .null])), (q_1, .inr (3, [.int 0, .ref q_2, .ref q_3, .ref q_4, .ref q_5])), (q_2, aJ g 6 zL), (q_3, aI g 6 z0), (q_4, aI g 6 z0), (q_5, aI g 6 z0), (q_6, .inr (0, [.int 0, .int 0, .ref q_7, .int 0, .int 0, .ref q_8, .ref q_9, .ref q_10])), (q_7, aJ g 4 zL), (q_8, aI g 5 z0), (q_9, aI g 640 z0), (q_10, aI g 32 z0), (q_11, .inr (6, [.int 0, .null, .null, .null, .null, .null, .null, .null]))] H := hP
  have hD : va_D A [(h, .inr (2, [.ref q_1, .ref q_6, .null, .int 0, .null, .null, .int 0, .int 0, .null])), (q_1, .inr (3, [.int 0, .ref q_2, .ref q_3, .ref q_4, .ref q_5])), (q_2, aJ g 6 zL), (q_3, aI g 6 z0), (q_4, aI g 6 z0), (q_5, aI g 6 z0), (q_6, .inr (0, [.int 0, .int 0, .ref q_7, .int 0, .int 0, .ref q_8, .ref q_9, .ref q_10])), (q_7, aJ g 4 zL), (q_8, aI g 5 z0), (q_9, aI g 640 z0), (q_10, aI g 32 z0), (q_11, .inr (6, [.int 0, .null, .null, .null, .null, .null, .null, .null]))] := hD
  refine W.widen (k := 11) (n := 726) (by decide) (by decide) ?_
  refine lv_dup hx hb dX2_init_30 rfl ?_
  refine k_v (wr := [(h, .inr (2, [.ref q_1, .ref q_6, .null, .int 0, .null, .null, .int 0, .int 0, .null])), (q_1, .inr (3, [.int 0, .ref q_2, .ref q_3, .ref q_4, .ref q_5])), (q_2, aJ g 6 zL), (q_3, aI g 6 z0), (q_4, aI g 6 z0), (q_5, aI g 6 z0), (q_6, .inr (0, [.int 0, .int 0, .ref q_7, .int 0, .int 0, .ref q_8, .ref q_9, .ref q_10])), (q_7, aJ g 4 zL), (q_8, aI g 5 z0), (q_9, aI g 640 z0), (q_10, aI g 32 z0)]) (k_N (n := 0) ⟨hx, hb, hml, hown, hT⟩ hK hP hD [11] rfl (by decide +kernel) (c_X6_init l g H.size q_11) (gI bw_1370) bw_1391 (eW_X2_27 hK.2) bw_1392 rfl rfl rfl (by decide +kernel) ⟨by decide, by decide⟩ (fun _ _ _ _ _ => trivial) (fun _ _ _ => trivial) rfl rfl hl.1 (Nat.le_of_ble_eq_true rfl) dX2_init_31 ⟨by decide, by decide⟩) hP hD hS hA [11] [0, 1, 2, 3, 4, 5, 6, 7, 8, 9, 10] rfl rfl (by decide +kernel) (by decide +kernel) (fun u H locs hw hP hD hS => ?_)
  obtain ⟨q_12, q_13, q_14, q_15, q_16, q_17, q_18⟩ := u
  have hP : va_P g.1 vwCl [(h, .inr (2, [.ref q_1, .ref q_6, .null, .int 0, .null, .null, .int 0, .int 0, .null])), (q_1, .inr (3, [.int 0, .ref q_2, .ref q_3, .ref q_4, .ref q_5])), (q_2, aJ g 6 zL), (q_3, aI g 6 z0), (q_4, aI g 6 z0), (q_5, aI g 6 z0), (q_6, .inr (0, [.int 0, .int 0, .ref q_7, .int 0, .int 0, .ref q_8, .ref q_9, .ref q_10])), (q_7, aJ g 4 zL), (q_8, aI g 5 z0), (q_9, aI g 640 z0), (q_10, aI g 32 z0), (q_11, .inr (6, [.int 0, .ref q_12, .ref q_13, .ref q_14, .ref q_15, .ref q_16, .ref q_17, .ref q_18])), (q_12, aJ g 8 zL), (q_13, aI g 8 z0), (q_14, aI g 8 z0), (q_15, aI g 8 z0), (q_16, aI g 8 z0), (q_17, aI g 8 z0), (q_18, aI g 8 z0)] H := hP
  have hD : va_D A [(h, .inr (2, [.ref q_1, .ref q_6, .null, .int 0, .null, .null, .int 0, .int 0, .null])), (q_1, .inr (3, [.int 0, .ref q_2, .ref q_3, .ref q_4, .ref q_5])), (q_2, aJ g 6 zL), (q_3, aI g 6 z0), (q_4, aI g 6 z0), (q_5, aI g 6 z0), (q_6, .inr (0, [.int 0, .int 0, .ref q_7, .int 0, .int 0, .ref q_8, .ref q_9, .ref q_10])), (q_7, aJ g 4 zL), (q_8, aI g 5 z0), (q_9, aI g 640 z0), (q_10, aI g 32 z0), (q_11, .inr (6, [.int 0, .ref q_12, .ref q_13, .ref q_14, .ref q_15, .ref q_16, .ref q_17, .ref q_18])), (q_12, aJ g 8 zL), (q_13, aI g 8 z0), (q_14, aI g 8 z0), (q_15, aI g 8 z0), (q_16, aI g 8 z0), (q_17, aI g 8 z0), (q_18, aI g 8 z0)] := hD
  refine W.widen (k := 18) (n := 782) (by decide) (by decide) ?_
  refine va_putF (D := g.1) (ci := 2) (v := .ref q_11) (ty := .object "DuelDelays$Reasons") (C := RX2) (T := TX2) (N := 9) hx hb hT inF_X2 tyX2 tyX2_ok nmX2 hown hK.1 hP hD hS 0 rfl rfl 2 (by decide) (hT _ bw_144) (fun _ h9 => h9) rfl hin rfl (by decide +kernel) rfl rfl (Nat.le_of_ble_eq_true rfl) dX2_init_34 (fun H locs hP hD hS => ?_)
  have hP : va_P g.1 vwCl [(h, .inr (2, [.ref q_1, .ref q_6, .ref q_11, .int 0, .null, .null, .int 0, .int 0, .null])), (q_1, .inr (3, [.int 0, .ref q_2, .ref q_3, .ref q_4, .ref q_5])), (q_2, aJ g 6 zL), (q_3, aI g 6 z0), (q_4, aI g 6 z0), (q_5, aI g 6 z0), (q_6, .inr (0, [.int 0, .int 0, .ref q_7, .int 0, .int 0, .ref q_8, .ref q_9, .ref q_10])), (q_7, aJ g 4 zL), (q_8, aI g 5 z0), (q_9, aI g 640 z0), (q_10, aI g 32 z0), (q_11, .inr (6, [.int 0, .ref q_12, .ref q_13, .ref q_14, .ref q_15, .ref q_16, .ref q_17, .ref q_18])), (q_12, aJ g 8 zL), (q_13, aI g 8 z0), (q_14, aI g 8 z0), (q_15, aI g 8 z0), (q_16, aI g 8 z0), (q_17, aI g 8 z0), (q_18, aI g 8 z0)] H := hP
  have hD : va_D A [(h, .inr (2, [.ref q_1, .ref q_6, .ref q_11, .int 0, .null, .null, .int 0, .int 0, .null])), (q_1, .inr (3, [.int 0, .ref q_2, .ref q_3, .ref q_4, .ref q_5])), (q_2, aJ g 6 zL), (q_3, aI g 6 z0), (q_4, aI g 6 z0), (q_5, aI g 6 z0), (q_6, .inr (0, [.int 0, .int 0, .ref q_7, .int 0, .int 0, .ref q_8, .ref q_9, .ref q_10])), (q_7, aJ g 4 zL), (q_8, aI g 5 z0), (q_9, aI g 640 z0), (q_10, aI g 32 z0), (q_11, .inr (6, [.int 0, .ref q_12, .ref q_13, .ref q_14, .ref q_15, .ref q_16, .ref q_17, .ref q_18])), (q_12, aJ g 8 zL), (q_13, aI g 8 z0), (q_14, aI g 8 z0), (q_15, aI g 8 z0), (q_16, aI g 8 z0), (q_17, aI g 8 z0), (q_18, aI g 8 z0)] := hD
  refine lv_aload_n hx hb dX2_init_37 rfl (lv_at hl 0 rfl) ?_
  refine lv_bipush (v := 12) hx hb dX2_init_38 (by decide) ?_
  refine p_newa (atype := .int) (ty := .int) hx hb (hT _ bw_1354) rfl hK.1 hP hD hS hA 1 rfl (fun _ h9 => h9) (a0 := (12, .inl z0)) (fun _ => rfl) (by decide) (N' := 12) rfl (by decide) (by decide) (by decide) dX2_init_40 (fun q_19 H hP hD hS => ?_)
  have hP : va_P g.1 vwCl [(h, .inr (2, [.ref q_1, .ref q_6, .ref q_11, .int 0, .null, .null, .int 0, .int 0, .null])), (q_1, .inr (3, [.int 0, .ref q_2, .ref q_3, .ref q_4, .ref q_5])), (q_2, aJ g 6 zL), (q_3, aI g 6 z0), (q_4, aI g 6 z0), (q_5, aI g 6 z0), (q_6, .inr (0, [.int 0, .int 0, .ref q_7, .int 0, .int 0, .ref q_8, .ref q_9, .ref q_10])), (q_7, aJ g 4 zL), (q_8, aI g 5 z0), (q_9, aI g 640 z0), (q_10, aI g 32 z0), (q_11, .inr (6, [.int 0, .ref q_12, .ref q_13, .ref q_14, .ref q_15, .ref q_16, .ref q_17, .ref q_18])), (q_12, aJ g 8 zL), (q_13, aI g 8 z0), (q_14, aI g 8 z0), (q_15, aI g 8 z0), (q_16, aI g 8 z0), (q_17, aI g 8 z0), (q_18, aI g 8 z0), (q_19, aI g 12 z0)] H := hP
  have hD : va_D A [(h, .inr (2, [.ref q_1, .ref q_6, .ref q_11, .int 0, .null, .null, .int 0, .int 0, .null])), (q_1, .inr (3, [.int 0, .ref q_2, .ref q_3, .ref q_4, .ref q_5])), (q_2, aJ g 6 zL), (q_3, aI g 6 z0), (q_4, aI g 6 z0), (q_5, aI g 6 z0), (q_6, .inr (0, [.int 0, .int 0, .ref q_7, .int 0, .int 0, .ref q_8, .ref q_9, .ref q_10])), (q_7, aJ g 4 zL), (q_8, aI g 5 z0), (q_9, aI g 640 z0), (q_10, aI g 32 z0), (q_11, .inr (6, [.int 0, .ref q_12, .ref q_13, .ref q_14, .ref q_15, .ref q_16, .ref q_17, .ref q_18])), (q_12, aJ g 8 zL), (q_13, aI g 8 z0), (q_14, aI g 8 z0), (q_15, aI g 8 z0), (q_16, aI g 8 z0), (q_17, aI g 8 z0), (q_18, aI g 8 z0), (q_19, aI g 12 z0)] := hD
  refine W.widen (k := 19) (n := 794) (by decide) (by decide) ?_
  refine va_putF (D := g.1) (ci := 2) (v := .ref q_19) (ty := .array .int) (C := RX2) (T := TX2) (N := 9) hx hb hT inF_X2 tyX2 tyX2_ok nmX2 hown hK.1 hP hD hS 0 rfl rfl 4 (by decide) (hT _ bw_152) (fun _ h9 => h9) rfl hin rfl (by decide +kernel) rfl rfl (Nat.le_of_ble_eq_true rfl) dX2_init_42 (fun H locs hP hD hS => ?_)
  have hP : va_P g.1 vwCl [(h, .inr (2, [.ref q_1, .ref q_6, .ref q_11, .int 0, .ref q_19, .null, .int 0, .int 0, .null])), (q_1, .inr (3, [.int 0, .ref q_2, .ref q_3, .ref q_4, .ref q_5])), (q_2, aJ g 6 zL), (q_3, aI g 6 z0), (q_4, aI g 6 z0), (q_5, aI g 6 z0), (q_6, .inr (0, [.int 0, .int 0, .ref q_7, .int 0, .int 0, .ref q_8, .ref q_9, .ref q_10])), (q_7, aJ g 4 zL), (q_8, aI g 5 z0), (q_9, aI g 640 z0), (q_10, aI g 32 z0), (q_11, .inr (6, [.int 0, .ref q_12, .ref q_13, .ref q_14, .ref q_15, .ref q_16, .ref q_17, .ref q_18])), (q_12, aJ g 8 zL), (q_13, aI g 8 z0), (q_14, aI g 8 z0), (q_15, aI g 8 z0), (q_16, aI g 8 z0), (q_17, aI g 8 z0), (q_18, aI g 8 z0), (q_19, aI g 12 z0)] H := hP
  have hD : va_D A [(h, .inr (2, [.ref q_1, .ref q_6, .ref q_11, .int 0, .ref q_19, .null, .int 0, .int 0, .null])), (q_1, .inr (3, [.int 0, .ref q_2, .ref q_3, .ref q_4, .ref q_5])), (q_2, aJ g 6 zL), (q_3, aI g 6 z0), (q_4, aI g 6 z0), (q_5, aI g 6 z0), (q_6, .inr (0, [.int 0, .int 0, .ref q_7, .int 0, .int 0, .ref q_8, .ref q_9, .ref q_10])), (q_7, aJ g 4 zL), (q_8, aI g 5 z0), (q_9, aI g 640 z0), (q_10, aI g 32 z0), (q_11, .inr (6, [.int 0, .ref q_12, .ref q_13, .ref q_14, .ref q_15, .ref q_16, .ref q_17, .ref q_18])), (q_12, aJ g 8 zL), (q_13, aI g 8 z0), (q_14, aI g 8 z0), (q_15, aI g 8 z0), (q_16, aI g 8 z0), (q_17, aI g 8 z0), (q_18, aI g 8 z0), (q_19, aI g 12 z0)] := hD
  refine lv_aload_n hx hb dX2_init_45 rfl (lv_at hl 0 rfl) ?_
  refine lv_bipush (v := 6) hx hb dX2_init_46 (by decide) ?_
  refine p_newa (atype := .int) (ty := .int) hx hb (hT _ bw_1354) rfl hK.1 hP hD hS hA 1 rfl (fun _ h9 => h9) (a0 := (6, .inl z0)) (fun _ => rfl) (by decide) (N' := 6) rfl (by decide) (by decide) (by decide) dX2_init_48 (fun q_20 H hP hD hS => ?_)
  have hP : va_P g.1 vwCl [(h, .inr (2, [.ref q_1, .ref q_6, .ref q_11, .int 0, .ref q_19, .null, .int 0, .int 0, .null])), (q_1, .inr (3, [.int 0, .ref q_2, .ref q_3, .ref q_4, .ref q_5])), (q_2, aJ g 6 zL), (q_3, aI g 6 z0), (q_4, aI g 6 z0), (q_5, aI g 6 z0), (q_6, .inr (0, [.int 0, .int 0, .ref q_7, .int 0, .int 0, .ref q_8, .ref q_9, .ref q_10])), (q_7, aJ g 4 zL), (q_8, aI g 5 z0), (q_9, aI g 640 z0), (q_10, aI g 32 z0), (q_11, .inr (6, [.int 0, .ref q_12, .ref q_13, .ref q_14, .ref q_15, .ref q_16, .ref q_17, .ref q_18])), (q_12, aJ g 8 zL), (q_13, aI g 8 z0), (q_14, aI g 8 z0), (q_15, aI g 8 z0), (q_16, aI g 8 z0), (q_17, aI g 8 z0), (q_18, aI g 8 z0), (q_19, aI g 12 z0), (q_20, aI g 6 z0)] H := hP
  have hD : va_D A [(h, .inr (2, [.ref q_1, .ref q_6, .ref q_11, .int 0, .ref q_19, .null, .int 0, .int 0, .null])), (q_1, .inr (3, [.int 0, .ref q_2, .ref q_3, .ref q_4, .ref q_5])), (q_2, aJ g 6 zL), (q_3, aI g 6 z0), (q_4, aI g 6 z0), (q_5, aI g 6 z0), (q_6, .inr (0, [.int 0, .int 0, .ref q_7, .int 0, .int 0, .ref q_8, .ref q_9, .ref q_10])), (q_7, aJ g 4 zL), (q_8, aI g 5 z0), (q_9, aI g 640 z0), (q_10, aI g 32 z0), (q_11, .inr (6, [.int 0, .ref q_12, .ref q_13, .ref q_14, .ref q_15, .ref q_16, .ref q_17, .ref q_18])), (q_12, aJ g 8 zL), (q_13, aI g 8 z0), (q_14, aI g 8 z0), (q_15, aI g 8 z0), (q_16, aI g 8 z0), (q_17, aI g 8 z0), (q_18, aI g 8 z0), (q_19, aI g 12 z0), (q_20, aI g 6 z0)] := hD
  refine W.widen (k := 20) (n := 800) (by decide) (by decide) ?_
  refine va_putF (D := g.1) (ci := 2) (v := .ref q_20) (ty := .array .int) (C := RX2) (T := TX2) (N := 9) hx hb hT inF_X2 tyX2 tyX2_ok nmX2 hown hK.1 hP hD hS 0 rfl rfl 5 (by decide) (hT _ bw_1393) (fun _ h9 => h9) rfl hin rfl (by decide +kernel) rfl rfl (Nat.le_of_ble_eq_true rfl) dX2_init_50 (fun H locs hP hD hS => ?_)
  have hP : va_P g.1 vwCl [(h, .inr (2, [.ref q_1, .ref q_6, .ref q_11, .int 0, .ref q_19, .ref q_20, .int 0, .int 0, .null])), (q_1, .inr (3, [.int 0, .ref q_2, .ref q_3, .ref q_4, .ref q_5])), (q_2, aJ g 6 zL), (q_3, aI g 6 z0), (q_4, aI g 6 z0), (q_5, aI g 6 z0), (q_6, .inr (0, [.int 0, .int 0, .ref q_7, .int 0, .int 0, .ref q_8, .ref q_9, .ref q_10])), (q_7, aJ g 4 zL), (q_8, aI g 5 z0), (q_9, aI g 640 z0), (q_10, aI g 32 z0), (q_11, .inr (6, [.int 0, .ref q_12, .ref q_13, .ref q_14, .ref q_15, .ref q_16, .ref q_17, .ref q_18])), (q_12, aJ g 8 zL), (q_13, aI g 8 z0), (q_14, aI g 8 z0), (q_15, aI g 8 z0), (q_16, aI g 8 z0), (q_17, aI g 8 z0), (q_18, aI g 8 z0), (q_19, aI g 12 z0), (q_20, aI g 6 z0)] H := hP
  have hD : va_D A [(h, .inr (2, [.ref q_1, .ref q_6, .ref q_11, .int 0, .ref q_19, .ref q_20, .int 0, .int 0, .null])), (q_1, .inr (3, [.int 0, .ref q_2, .ref q_3, .ref q_4, .ref q_5])), (q_2, aJ g 6 zL), (q_3, aI g 6 z0), (q_4, aI g 6 z0), (q_5, aI g 6 z0), (q_6, .inr (0, [.int 0, .int 0, .ref q_7, .int 0, .int 0, .ref q_8, .ref q_9, .ref q_10])), (q_7, aJ g 4 zL), (q_8, aI g 5 z0), (q_9, aI g 640 z0), (q_10, aI g 32 z0), (q_11, .inr (6, [.int 0, .ref q_12, .ref q_13, .ref q_14, .ref q_15, .ref q_16, .ref q_17, .ref q_18])), (q_12, aJ g 8 zL), (q_13, aI g 8 z0), (q_14, aI g 8 z0), (q_15, aI g 8 z0), (q_16, aI g 8 z0), (q_17, aI g 8 z0), (q_18, aI g 8 z0), (q_19, aI g 12 z0), (q_20, aI g 6 z0)] := hD
  refine lv_aload_n hx hb dX2_init_53 rfl (lv_at hl 0 rfl) ?_
  refine lv_bipush (v := 9) hx hb dX2_init_54 (by decide) ?_
  refine va_put (D := g.1) (ci := 2) (v := .int 9) (ty := .int) (C := RX2) (T := TX2) (N := 9) hx hb hT inF_X2 tyX2 tyX2_ok nmX2 hown hK.1 hP hD hS 0 rfl rfl 6 (by decide) (hT _ bw_147) (fun _ h9 => h9) rfl (by decide +kernel) rfl rfl (Nat.le_of_ble_eq_true rfl) dX2_init_56 (fun H locs hP hD hS => ?_)
  have hP : va_P g.1 vwCl [(h, .inr (2, [.ref q_1, .ref q_6, .ref q_11, .int 0, .ref q_19, .ref q_20, .int 9, .int 0, .null])), (q_1, .inr (3, [.int 0, .ref q_2, .ref q_3, .ref q_4, .ref q_5])), (q_2, aJ g 6 zL), (q_3, aI g 6 z0), (q_4, aI g 6 z0), (q_5, aI g 6 z0), (q_6, .inr (0, [.int 0, .int 0, .ref q_7, .int 0, .int 0, .ref q_8, .ref q_9, .ref q_10])), (q_7, aJ g 4 zL), (q_8, aI g 5 z0), (q_9, aI g 640 z0), (q_10, aI g 32 z0), (q_11, .inr (6, [.int 0, .ref q_12, .ref q_13, .ref q_14, .ref q_15, .ref q_16, .ref q_17, .ref q_18])), (q_12, aJ g 8 zL), (q_13, aI g 8 z0), (q_14, aI g 8 z0), (q_15, aI g 8 z0), (q_16, aI g 8 z0), (q_17, aI g 8 z0), (q_18, aI g 8 z0), (q_19, aI g 12 z0), (q_20, aI g 6 z0)] H := hP
  have hD : va_D A [(h, .inr (2, [.ref q_1, .ref q_6, .ref q_11, .int 0, .ref q_19, .ref q_20, .int 9, .int 0, .null])), (q_1, .inr (3, [.int 0, .ref q_2, .ref q_3, .ref q_4, .ref q_5])), (q_2, aJ g 6 zL), (q_3, aI g 6 z0), (q_4, aI g 6 z0), (q_5, aI g 6 z0), (q_6, .inr (0, [.int 0, .int 0, .ref q_7, .int 0, .int 0, .ref q_8, .ref q_9, .ref q_10])), (q_7, aJ g 4 zL), (q_8, aI g 5 z0), (q_9, aI g 640 z0), (q_10, aI g 32 z0), (q_11, .inr (6, [.int 0, .ref q_12, .ref q_13, .ref q_14, .ref q_15, .ref q_16, .ref q_17, .ref q_18])), (q_12, aJ g 8 zL), (q_13, aI g 8 z0), (q_14, aI g 8 z0), (q_15, aI g 8 z0), (q_16, aI g 8 z0), (q_17, aI g 8 z0), (q_18, aI g 8 z0), (q_19, aI g 12 z0), (q_20, aI g 6 z0)] := hD
  refine lv_aload_n hx hb dX2_init_59 rfl (lv_at hl 0 rfl) ?_
  refine lv_iconst (v := 4) hx hb dX2_init_60 (by decide) ?_
  refine p_newa (atype := .int) (ty := .int) hx hb (hT _ bw_1354) rfl hK.1 hP hD hS hA 1 rfl (fun _ h9 => h9) (a0 := (4, .inl z0)) (fun _ => rfl) (by decide) (N' := 4) rfl (by decide) (by decide) (by decide) dX2_init_61 (fun q_21 H hP hD hS => ?_)
  have hP : va_P g.1 vwCl [(h, .inr (2, [.ref q_1, .ref q_6, .ref q_11, .int 0, .ref q_19, .ref q_20, .int 9, .int 0, .null])), (q_1, .inr (3, [.int 0, .ref q_2, .ref q_3, .ref q_4, .ref q_5])), (q_2, aJ g 6 zL), (q_3, aI g 6 z0), (q_4, aI g 6 z0), (q_5, aI g 6 z0), (q_6, .inr (0, [.int 0, .int 0, .ref q_7, .int 0, .int 0, .ref q_8, .ref q_9, .ref q_10])), (q_7, aJ g 4 zL), (q_8, aI g 5 z0), (q_9, aI g 640 z0), (q_10, aI g 32 z0), (q_11, .inr (6, [.int 0, .ref q_12, .ref q_13, .ref q_14, .ref q_15, .ref q_16, .ref q_17, .ref q_18])), (q_12, aJ g 8 zL), (q_13, aI g 8 z0), (q_14, aI g 8 z0), (q_15, aI g 8 z0), (q_16, aI g 8 z0), (q_17, aI g 8 z0), (q_18, aI g 8 z0), (q_19, aI g 12 z0), (q_20, aI g 6 z0), (q_21, aI g 4 z0)] H := hP
  have hD : va_D A [(h, .inr (2, [.ref q_1, .ref q_6, .ref q_11, .int 0, .ref q_19, .ref q_20, .int 9, .int 0, .null])), (q_1, .inr (3, [.int 0, .ref q_2, .ref q_3, .ref q_4, .ref q_5])), (q_2, aJ g 6 zL), (q_3, aI g 6 z0), (q_4, aI g 6 z0), (q_5, aI g 6 z0), (q_6, .inr (0, [.int 0, .int 0, .ref q_7, .int 0, .int 0, .ref q_8, .ref q_9, .ref q_10])), (q_7, aJ g 4 zL), (q_8, aI g 5 z0), (q_9, aI g 640 z0), (q_10, aI g 32 z0), (q_11, .inr (6, [.int 0, .ref q_12, .ref q_13, .ref q_14, .ref q_15, .ref q_16, .ref q_17, .ref q_18])), (q_12, aJ g 8 zL), (q_13, aI g 8 z0), (q_14, aI g 8 z0), (q_15, aI g 8 z0), (q_16, aI g 8 z0), (q_17, aI g 8 z0), (q_18, aI g 8 z0), (q_19, aI g 12 z0), (q_20, aI g 6 z0), (q_21, aI g 4 z0)] := hD
  refine W.widen (k := 21) (n := 804) (by decide) (by decide) ?_
  refine va_putF (D := g.1) (ci := 2) (v := .ref q_21) (ty := .array .int) (C := RX2) (T := TX2) (N := 9) hx hb hT inF_X2 tyX2 tyX2_ok nmX2 hown hK.1 hP hD hS 0 rfl rfl 8 (by decide) (hT _ bw_149) (fun _ h9 => h9) rfl hin rfl (by decide +kernel) rfl rfl (Nat.le_of_ble_eq_true rfl) dX2_init_63 (fun H locs hP hD hS => ?_)
  have hP : va_P g.1 vwCl [(h, .inr (2, [.ref q_1, .ref q_6, .ref q_11, .int 0, .ref q_19, .ref q_20, .int 9, .int 0, .ref q_21])), (q_1, .inr (3, [.int 0, .ref q_2, .ref q_3, .ref q_4, .ref q_5])), (q_2, aJ g 6 zL), (q_3, aI g 6 z0), (q_4, aI g 6 z0), (q_5, aI g 6 z0), (q_6, .inr (0, [.int 0, .int 0, .ref q_7, .int 0, .int 0, .ref q_8, .ref q_9, .ref q_10])), (q_7, aJ g 4 zL), (q_8, aI g 5 z0), (q_9, aI g 640 z0), (q_10, aI g 32 z0), (q_11, .inr (6, [.int 0, .ref q_12, .ref q_13, .ref q_14, .ref q_15, .ref q_16, .ref q_17, .ref q_18])), (q_12, aJ g 8 zL), (q_13, aI g 8 z0), (q_14, aI g 8 z0), (q_15, aI g 8 z0), (q_16, aI g 8 z0), (q_17, aI g 8 z0), (q_18, aI g 8 z0), (q_19, aI g 12 z0), (q_20, aI g 6 z0), (q_21, aI g 4 z0)] H := hP
  have hD : va_D A [(h, .inr (2, [.ref q_1, .ref q_6, .ref q_11, .int 0, .ref q_19, .ref q_20, .int 9, .int 0, .ref q_21])), (q_1, .inr (3, [.int 0, .ref q_2, .ref q_3, .ref q_4, .ref q_5])), (q_2, aJ g 6 zL), (q_3, aI g 6 z0), (q_4, aI g 6 z0), (q_5, aI g 6 z0), (q_6, .inr (0, [.int 0, .int 0, .ref q_7, .int 0, .int 0, .ref q_8, .ref q_9, .ref q_10])), (q_7, aJ g 4 zL), (q_8, aI g 5 z0), (q_9, aI g 640 z0), (q_10, aI g 32 z0), (q_11, .inr (6, [.int 0, .ref q_12, .ref q_13, .ref q_14, .ref q_15, .ref q_16, .ref q_17, .ref q_18])), (q_12, aJ g 8 zL), (q_13, aI g 8 z0), (q_14, aI g 8 z0), (q_15, aI g 8 z0), (q_16, aI g 8 z0), (q_17, aI g 8 z0), (q_18, aI g 8 z0), (q_19, aI g 12 z0), (q_20, aI g 6 z0), (q_21, aI g 4 z0)] := hD
  have hP9 : va_P g.1 vwCl [(h, .inr (2, [.ref q_1, .ref q_6, .ref q_11, .int 0, .ref q_19, .ref q_20, .int 9, .int 0, .ref q_21])), (q_1, .inr (3, [.int 0, .ref q_2, .ref q_3, .ref q_4, .ref q_5])), (q_2, aJ g 6 zL), (q_3, aI g 6 z0), (q_4, aI g 6 z0), (q_5, aI g 6 z0), (q_6, .inr (0, [.int 0, .int 0, .ref q_7, .int 0, .int 0, .ref q_8, .ref q_9, .ref q_10])), (q_7, aJ g 4 zL), (q_8, aI g 5 z0), (q_9, aI g 640 z0), (q_10, aI g 32 z0), (q_11, .inr (6, [.int 0, .ref q_12, .ref q_13, .ref q_14, .ref q_15, .ref q_16, .ref q_17, .ref q_18])), (q_12, aJ g 8 zL), (q_13, aI g 8 z0), (q_14, aI g 8 z0), (q_15, aI g 8 z0), (q_16, aI g 8 z0), (q_17, aI g 8 z0), (q_18, aI g 8 z0), (q_19, aI g 12 z0), (q_20, aI g 6 z0), (q_21, aI g 4 z0)] H := hP.sub [0, 1, 2, 3, 4, 5, 6, 7, 8, 9, 10, 11, 12, 13, 14, 15, 16, 17, 18, 19, 20, 21] rfl
  have hD9 : va_D A [(h, .inr (2, [.ref q_1, .ref q_6, .ref q_11, .int 0, .ref q_19, .ref q_20, .int 9, .int 0, .ref q_21])), (q_1, .inr (3, [.int 0, .ref q_2, .ref q_3, .ref q_4, .ref q_5])), (q_2, aJ g 6 zL), (q_3, aI g 6 z0), (q_4, aI g 6 z0), (q_5, aI g 6 z0), (q_6, .inr (0, [.int 0, .int 0, .ref q_7, .int 0, .int 0, .ref q_8, .ref q_9, .ref q_10])), (q_7, aJ g 4 zL), (q_8, aI g 5 z0), (q_9, aI g 640 z0), (q_10, aI g 32 z0), (q_11, .inr (6, [.int 0, .ref q_12, .ref q_13, .ref q_14, .ref q_15, .ref q_16, .ref q_17, .ref q_18])), (q_12, aJ g 8 zL), (q_13, aI g 8 z0), (q_14, aI g 8 z0), (q_15, aI g 8 z0), (q_16, aI g 8 z0), (q_17, aI g 8 z0), (q_18, aI g 8 z0), (q_19, aI g 12 z0), (q_20, aI g 6 z0), (q_21, aI g 4 z0)] := hD.sub [0, 1, 2, 3, 4, 5, 6, 7, 8, 9, 10, 11, 12, 13, 14, 15, 16, 17, 18, 19, 20, 21] (by decide +kernel) rfl
  exact W.vret hx hb hr (fun t ht hW => ⟨⟨(q_1, q_2, q_3, q_4, q_5, q_6, q_7, q_8, q_9, q_10, q_11, q_12, q_13, q_14, q_15, q_16, q_17, q_18, q_19, q_20, q_21), rfl, trivial, by rw [ht]; exact hP9, by rw [hAe]; exact hD9⟩, hS.F ht⟩) hS.2.2 dX2_init_66
