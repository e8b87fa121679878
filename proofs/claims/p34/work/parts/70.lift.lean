-- worlds with parts that no row names: order doesn't matter; a contract over a part is one over the whole
theorem P_mem {D : va_G} {cl : List vw_C} {ws : va_W} {H : Heap} : va_P D cl ws H ↔ ∀ q ∈ ws, va_at D cl q H := by
  constructor
  · intro h q hq
    obtain ⟨k, hk⟩ := List.mem_iff_getElem?.mp hq
    exact h k q hk
  · intro h k q hk
    exact h q (List.mem_of_getElem? hk)
theorem D_iff {A : Nat → Prop} {ws : va_W} : va_D A ws ↔ ws.Pairwise (fun p q => p.1 ≠ q.1) ∧ ∀ q ∈ ws, A q.1 := by
  constructor
  · intro h
    refine ⟨List.pairwise_iff_getElem.mpr fun i j hi hj hij e => ?_, fun q hq => ?_⟩
    · have := h.1 i j ws[i] ws[j] (List.getElem?_eq_getElem hi) (List.getElem?_eq_getElem hj) e
      omega
    · obtain ⟨k, hk⟩ := List.mem_iff_getElem?.mp hq
      exact h.2 k q hk
  · intro h
    refine ⟨fun i j p q hi hj e => ?_, fun k q hk => h.2 q (List.mem_of_getElem? hk)⟩
    obtain ⟨h1, e1⟩ := List.getElem?_eq_some_iff.mp hi
    obtain ⟨h2, e2⟩ := List.getElem?_eq_some_iff.mp hj
    have hw := List.pairwise_iff_getElem.mp h.1
    rcases Nat.lt_trichotomy i j with q1 | q1 | q1
    · exact absurd (by rw [e1, e2]; exact e) (hw i j h1 h2 q1)
    · exact q1
    · exact absurd (by rw [e1, e2]; exact e.symm) (hw j i h2 h1 q1)
theorem P_perm {D : va_G} {cl : List vw_C} {ws ws' : va_W} {H : Heap} (hp : ws.Perm ws') (h : va_P D cl ws H) : va_P D cl ws' H := P_mem.mpr fun q hq => P_mem.mp h q (hp.mem_iff.mpr hq)
theorem D_perm {A : Nat → Prop} {ws ws' : va_W} (hp : ws.Perm ws') (h : va_D A ws) : va_D A ws' := by
  obtain ⟨h1, h2⟩ := D_iff.mp h
  exact D_iff.mpr ⟨(hp.pairwise_iff (fun e => Ne.symm e)).mp h1, fun q hq => h2 q (hp.mem_iff.mpr hq)⟩
theorem perm_of {α : Type} {ws ws' : List α} (n : Nat) (hn : ws.length = n) (is : List Nat) (hs : is.map (fun i => ws[i]?) = ws'.map some) (hp : is.Perm (List.range n)) : ws.Perm ws' := by
  subst hn
  have h1 : (List.range ws.length).map (fun i => ws[i]?) = ws.map some := by
    apply List.ext_getElem?
    intro i
    rw [List.getElem?_map, List.getElem?_map]
    by_cases hi : i < ws.length
    · rw [List.getElem?_range hi, List.getElem?_eq_getElem hi]; simp [List.getElem?_eq_getElem hi]
    · rw [List.getElem?_eq_none (by rw [List.length_range]; omega), List.getElem?_eq_none (by omega)]; rfl
  have h2 : (is.map (fun i => ws[i]?)).Perm ((List.range ws.length).map (fun i => ws[i]?)) := hp.map _
  rw [hs, h1] at h2
  have h3 := h2.filterMap id
  have e : ∀ l : List α, (l.map some).filterMap id = l := by
    intro l
    induction l with
    | nil => rfl
    | cons a l ih => simp [List.filterMap_cons, ih]
  rw [e, e] at h3
  exact h3.symm
theorem Met.cons {l : Launch} {y : MethodName} {ws : List Cond} {rm : Room} {Pc Pc' : Array Value → State → Prop} {Qc Qc' : Array Value → State → Outcome → State → Prop} {mc ms : Nat} {free free' : Addr → Prop} (hM : Met l y ws rm Pc Qc mc ms free) (hP : ∀ a s, Pc' a s → Pc a s) (hQ : ∀ a s o t, Pc' a s → Qc a s o t → Qc' a s o t) (hf : ∀ q, free q → free' q) : Met l y ws rm Pc' Qc' mc ms free' := by
  intro p e h1 h2 h3 s m args below hf' hS hP' hK
  obtain ⟨n, o, a, b, c, hq, L, hF, hL⟩ := hM p e h1 h2 h3 s m args below hf' hS (hP _ _ hP') hK
  exact ⟨n, o, a, b, c, hQ _ _ _ _ hP' hq, L, hF, fun q h => hf _ (hL q h)⟩
theorem A_mem {ws : va_W} {sz q : Nat} : va_A ws sz q ↔ (∃ e : va_E, (q, e) ∈ ws) ∨ sz ≤ q := by
  constructor
  · rintro (⟨k, e, h⟩ | h)
    · exact Or.inl ⟨e, List.mem_of_getElem? h⟩
    · exact Or.inr h
  · rintro (⟨e, h⟩ | h)
    · obtain ⟨k, hk⟩ := List.mem_iff_getElem?.mp h
      exact Or.inl ⟨k, e, hk⟩
    · exact Or.inr h
theorem A_sub {W wc wr : va_W} (hp : W.Perm (wc ++ wr)) {sz : Nat} : ∀ q, va_A wc sz q → va_A W sz q := fun q h => by
  rcases A_mem.mp h with ⟨e, h⟩ | h
  · exact A_mem.mpr (Or.inl ⟨e, hp.mem_iff.mpr (List.mem_append_left _ h)⟩)
  · exact A_mem.mpr (Or.inr h)
section LF
variable {l : Launch} {y : MethodName} {ws : List Cond} {rm : Room} {g : GG} {sz mc ms : Nat} {av : List Value} {wc wr W : va_W} {S S' : Type} {X X' : State → Prop}
theorem lift_pre (hp : W.Perm (wc ++ wr)) (hX : ∀ U : State, U.heap.size = sz → va_P g.1 vwCl W U.heap → va_D (fun _ => True) W → kE g U → X' U → X U) : ∀ (a : Array Value) (s : State), va_Pc av (Pst g sz W X') a s → va_Pc av (Pst g sz wc X) a s := by
  rintro a s ⟨h1, h2, h3, h4, h5, h6⟩
  have hd := D_iff.mp (D_perm hp h5)
  refine ⟨h1, h2, P_mem.mpr fun q hq => P_mem.mp h3 q (hp.mem_iff.mpr (List.mem_append_left _ hq)), h4, D_iff.mpr ⟨(List.pairwise_append.mp hd.1).1, fun _ _ => trivial⟩, hX s h2 h3 h5 h4 h6⟩
/-- a method that may change its part alone -/
theorem lift_i {post : Int32 → S → Prop} {post' : Int32 → S' → Prop} {w1 : S → va_W} {w2 : S' → va_W} (hM : Met l y ws rm (va_Pc av (Pst g sz wc X)) (va_Qi post (Qst g wc sz w1) (va_A wc sz)) mc ms (va_A wc sz)) (hp : W.Perm (wc ++ wr)) (hX : ∀ U : State, U.heap.size = sz → va_P g.1 vwCl W U.heap → va_D (fun _ => True) W → kE g U → X' U → X U)
    (hm : ∀ (r : Int32) (u : S), post r u → ∃ u' : S', post' r u' ∧ (w2 u').Perm (w1 u ++ wr)) : Met l y ws rm (va_Pc av (Pst g sz W X')) (va_Qi post' (Qst g W sz w2) (va_A W sz)) mc ms (va_A W sz) := by
  have hAA : ∀ q, va_A wc sz q → va_A W sz q := fun q h => by
    rcases A_mem.mp h with ⟨e, h⟩ | h
    · exact A_mem.mpr (Or.inl ⟨e, hp.mem_iff.mpr (List.mem_append_left _ h)⟩)
    · exact A_mem.mpr (Or.inr h)
  refine Met.cons hM (lift_pre hp hX) (fun a s o t hPc hQ => ?_) hAA
  obtain ⟨h1, h2, h3, h4, h5, h6⟩ := hPc
  obtain ⟨⟨r, u, ho, hpo, hB1, hB2⟩, hz, hk⟩ := hQ
  obtain ⟨u', hpo', hpm⟩ := hm r u hpo
  have hd := D_iff.mp (D_perm hp h5)
  obtain ⟨p1, p2, p3⟩ := List.pairwise_append.mp hd.1
  have hmem : ∀ q ∈ wr, va_at g.1 vwCl q s.heap := fun q hq => P_mem.mp h3 q (hp.mem_iff.mpr (List.mem_append_right _ hq))
  have hlt : ∀ q ∈ wr, q.1 < s.heap.size := fun q hq => (hmem q hq).lt
  have hnA : ∀ q ∈ wr, ¬ va_A wc sz q.1 := fun q hq h => by
    rcases A_mem.mp h with ⟨e, h⟩ | h
    · exact p3 _ h q hq rfl
    · have := hlt q hq; omega
  refine ⟨⟨r, u', ho, hpo', ?_, ?_⟩, hz, fun q hq hn => hk q hq (fun h => hn (hAA q h))⟩
  · refine P_perm hpm.symm (P_mem.mpr fun q hq => ?_)
    rcases List.mem_append.mp hq with h | h
    · exact P_mem.mp hB1 q h
    · exact (hmem q h).kept (hk q.1 (hlt q h) (hnA q h))
  · obtain ⟨d1, d2⟩ := D_iff.mp hB2
    refine D_perm hpm.symm (D_iff.mpr ⟨List.pairwise_append.mpr ⟨d1, p2, fun a ha b hb e => hnA b hb (e ▸ d2 a ha)⟩, fun q hq => ?_⟩)
    rcases List.mem_append.mp hq with h | h
    · exact hAA _ (d2 q h)
    · exact A_mem.mpr (Or.inl ⟨q.2, hp.mem_iff.mpr (List.mem_append_right _ h)⟩)
/-- a method that changes nothing -/
theorem lift_i0 {post : Int32 → S → Prop} {post' : Int32 → S' → Prop} {w1 : S → va_W} {w2 : S' → va_W} (hM : Met l y ws rm (va_Pc av (Pst g sz wc X)) (va_Qi post (Qst g [] sz w1) (va_A [] sz)) mc ms (va_A [] sz)) (hp : W.Perm (wc ++ wr)) (hX : ∀ U : State, U.heap.size = sz → va_P g.1 vwCl W U.heap → va_D (fun _ => True) W → kE g U → X' U → X U)
    (hm : ∀ (r : Int32) (u : S), post r u → ∃ u' : S', post' r u' ∧ (w2 u').Perm W) : Met l y ws rm (va_Pc av (Pst g sz W X')) (va_Qi post' (Qst g W sz w2) (va_A W sz)) mc ms (va_A W sz) := by
  have hAA : ∀ q, va_A [] sz q → va_A W sz q := fun q h => by
    rcases A_mem.mp h with ⟨e, h⟩ | h
    · simp at h
    · exact A_mem.mpr (Or.inr h)
  refine Met.cons hM (lift_pre hp hX) (fun a s o t hPc hQ => ?_) hAA
  obtain ⟨h1, h2, h3, h4, h5, h6⟩ := hPc
  obtain ⟨⟨r, u, ho, hpo, hB1, hB2⟩, hz, hk⟩ := hQ
  obtain ⟨u', hpo', hpm⟩ := hm r u hpo
  have hlt : ∀ q ∈ W, q.1 < s.heap.size := fun q hq => (P_mem.mp h3 q hq).lt
  have hnA : ∀ q ∈ W, ¬ va_A [] sz q.1 := fun q hq h => by
    rcases A_mem.mp h with ⟨e, h⟩ | h
    · simp at h
    · have := hlt q hq; omega
  refine ⟨⟨r, u', ho, hpo', ?_, ?_⟩, hz, fun q hq hn => hk q hq (fun h => hn (hAA q h))⟩
  · exact P_perm hpm.symm (P_mem.mpr fun q hq => (P_mem.mp h3 q hq).kept (hk q.1 (hlt q hq) (hnA q hq)))
  · exact D_perm hpm.symm (D_iff.mpr ⟨(D_iff.mp h5).1, fun q hq => A_mem.mpr (Or.inl ⟨q.2, hq⟩)⟩)
/-- two worlds side by side, the first's method -/
theorem lift_l {post : Int32 → S → Prop} {w1 : S → va_W} (hM : Met l y ws rm (va_Pc av (Pst g sz wc X)) (va_Qi post (Qst g wc sz w1) (va_A wc sz)) mc ms (va_A wc sz)) (hX : ∀ U : State, U.heap.size = sz → va_P g.1 vwCl (wc ++ wr) U.heap → va_D (fun _ => True) (wc ++ wr) → kE g U → X' U → X U) : Met l y ws rm (va_Pc av (Pst g sz (wc ++ wr) X')) (va_Qi post (Qst g (wc ++ wr) sz (fun u => w1 u ++ wr)) (va_A (wc ++ wr) sz)) mc ms (va_A (wc ++ wr) sz) :=
  lift_i hM (List.Perm.refl _) hX (fun r u h => ⟨u, h, List.Perm.refl _⟩)
theorem lift_r {post : Int32 → S → Prop} {w1 : S → va_W} (hM : Met l y ws rm (va_Pc av (Pst g sz wc X)) (va_Qi post (Qst g wc sz w1) (va_A wc sz)) mc ms (va_A wc sz)) (hX : ∀ U : State, U.heap.size = sz → va_P g.1 vwCl (wr ++ wc) U.heap → va_D (fun _ => True) (wr ++ wc) → kE g U → X' U → X U) : Met l y ws rm (va_Pc av (Pst g sz (wr ++ wc) X')) (va_Qi post (Qst g (wr ++ wc) sz (fun u => wr ++ w1 u)) (va_A (wr ++ wc) sz)) mc ms (va_A (wr ++ wc) sz) :=
  lift_i hM List.perm_append_comm hX (fun r u h => ⟨u, h, List.perm_append_comm⟩)
end LF
def upN {α : Type} (f : Nat → α) (k : Nat) (x : α) : Nat → α := fun j => cond (Nat.beq j k) x (f j)
section KW
variable {p : Program} {l : Launch} {e : Env} {R : Room} {s : State} {m : MethodId} {args : Array Value} {below : List Frame} {meth : Method} {c : Code} {H : Heap} {locs : List Loc} {cells slots : Nat} {Q : State → Prop}
variable {cc : ByteArray} {pc : Nat} {ls : Array Slot} {rest : List Value} {A : Nat → Prop} {W0 : va_W} {H0 : Heap} {g : GG} {X : State → Prop}
/-- a call over the whole world -/
theorem k_VW {own C : String} {nL mL n index mc ms ci b : Nat} {y : MethodName} {cy : ByteArray} {rt : Option FieldType} {rm : Room} {As st0 fs : List Value} {T : u_T} {N : Nat} {Qc : Array Value → State → Outcome → State → Prop} {free : Addr → Prop}
    (Sf : CallFix p m c cc nL s args gT own) (hK : kE g s) (hP : va_P g.1 vwCl W0 H) (hD : va_D A W0)
    (hM : Met l y (.code y cy mL rt :: gT) rm (va_Pc (.ref b :: As) (Pst g H.size W0 X)) Qc mc ms free) (hG : GoodIn gT (wsV own index C y (.code y cy mL rt :: gT))) (hrc : rm.cells = mc) (hrs : rm.slots = ms)
    (hd : y.cls = C ∧ y.cls ≠ "java/lang/invoke/MethodHandle" ∧ y.cls ≠ "java/lang/invoke/VarHandle" ∧ (parseMethodDescriptor y.desc).map (fun d => d.parameters.length) = some n) (hR : rm.frames + 1 ≤ R.frames ∧ 8 + (mL + 11) + rm.locals ≤ R.locals)
    (hcq : vwCl[ci]? = some (C, T, N)) (he : (b, .inr (ci, fs)) ∈ W0) (hXc : ∀ (U : State) (gf : JFrame) (mk : MethodId) (a : Array Value), X U → X (U.calling gf mk a)) (hX : ∀ U : State, U.heap = H → s.WarmedH U.vm → X U)
    (hst : st0 = As.reverse ++ .ref b :: rest) (hn : As.length = n) (hsz : ls.size = nL) (hW : (rest.map fun v => v.category).sum ≤ 8) (hdg : decode cc pc = .ok (.invokevirtual index, 3)) (hf : cells + mc ≤ R.cells ∧ slots + ms ≤ R.slots) :
    va_Run p l e R s m args below meth c H locs cells slots mc ms (F0 m pc ls st0) rest (Qc (.ref b :: As).toArray) free := by
  obtain ⟨k, hk⟩ := List.mem_iff_getElem?.mp he
  exact va_runV Sf hM (cwV n Sf.2.2.2.2 hG rfl hrc hrs hd hR) ⟨k_bl hXc, va_recv hK.1 hP hcq hk, k_pre hK hP (hD.weaken (fun _ _ _ _ => trivial)) hX⟩ rfl hn hsz hst (lv_room hW) hdg hf
theorem k_iW {S : Type} {post : Int32 → S → Prop} {w1 : S → va_W} {mc ms : Nat} {st0 : List Value} {a : Array Value} (hr : va_Run p l e R s m args below meth c H locs cells slots mc ms (F0 m pc ls st0) rest (va_Qi post (Qst g W0 H.size w1) (va_A W0 H.size) a) (va_A W0 H.size))
    (hD : va_D A W0) (hS : va_S A H0 H locs) (hA : ∀ q, H0.size ≤ q → A q)
    (kk : ∀ (r : Int32) (u : S) (H1 : Heap) (locs1 : List Loc), post r u → va_P g.1 vwCl (w1 u) H1 → va_D A (w1 u) → va_S A H0 H1 locs1 → W p l e R s m args below meth c H1 locs1 (cells + mc) (slots + ms) Q (F0 m (pc + 3) ls (.int r :: rest))) : W p l e R s m args below meth c H locs cells slots Q (F0 m pc ls st0) := by
  have hF : ∀ q, va_A W0 H.size q → A q := fun q h => h.elim (fun ⟨k, e, h⟩ => hD.2 k _ h) (fun h => hA q (Nat.le_trans hS.1 h))
  refine va_calli hr hS (fun q _ h => hF q h) hF (fun r u t H1 locs1 ht hvm hw hB hz1 hk1 hS1 => ?_)
  obtain ⟨hP1, hD1⟩ := hB
  rw [ht] at hP1
  exact kk r u H1 locs1 hw hP1 (hD1.weaken (fun k q hk h => hF _ h)) hS1
end KW
