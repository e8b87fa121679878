-- text constants in the heap (nothing that a method may change), the rows for their calls; looking a name up
def sE (a n aV : Nat) (fb : Nat → Int32) (A : Nat → Prop) (U : State) (H : Heap) : Prop :=
  va_O "java/lang/String" a A U H ∧ va_OF "java/lang/String" "coder" "B" (.int 0) a A U H ∧ va_OF "java/lang/String" "value" "[B" (.ref aV) a A U H ∧ va_T .byte aV n (fun j => .int (fb j)) A U H ∧ va_Z "java/lang/String" "COMPACT_STRINGS" "Z" (.int 1) A U H ∧ va_Zq "jdk/internal/util/Preconditions" "SIOOBE_FORMATTER" "Ljava/util/function/BiFunction;" A U H
theorem sE.moved {a n aV : Nat} {fb : Nat → Int32} {A : Nat → Prop} {u U : State} {H : Heap} (hvm : u.vm.Alike U.vm) (h : sE a n aV fb A u H) : sE a n aV fb A U H :=
  ⟨va_O.moved hvm h.1, va_OF.moved hvm h.2.1, va_OF.moved hvm h.2.2.1, va_T.moved hvm h.2.2.2.1, va_Z.moved hvm h.2.2.2.2.1, va_Zq.moved hvm h.2.2.2.2.2⟩
theorem sE.kept {a n aV : Nat} {fb : Nat → Int32} {A : Nat → Prop} {U : State} {H H1 : Heap} (h : sE a n aV fb A U H) (hq : ∀ a : Nat, a < H.size → ¬ A a → H1[a]? = H[a]?) : sE a n aV fb A U H1 :=
  ⟨h.1.kept hq, h.2.1.kept hq, h.2.2.1.kept hq, h.2.2.2.1.kept hq, h.2.2.2.2.1.kept hq, h.2.2.2.2.2.kept hq⟩
theorem sE.narrow {a n aV : Nat} {fb : Nat → Int32} {A B : Nat → Prop} {U : State} {H : Heap} (h : sE a n aV fb A U H) (hAB : ∀ q, B q → A q) : sE a n aV fb B U H :=
  ⟨h.1.narrow hAB, h.2.1.narrow hAB, h.2.2.1.narrow hAB, h.2.2.2.1.narrow hAB, h.2.2.2.2.1.narrow hAB, h.2.2.2.2.2.narrow hAB⟩
abbrev sX (a n aV : Nat) (fb : Nat → Int32) (A : Nat → Prop) : State → Prop := fun U => sE a n aV fb A U U.heap
theorem sX.calling {a n aV : Nat} {fb : Nat → Int32} {A : Nat → Prop} : ∀ (U : State) (gf : JFrame) (mk : MethodId) (av : Array Value), sX a n aV fb A U → sX a n aV fb A (U.calling gf mk av) := fun U gf mk av h => sE.moved (u := U) (U := U.calling gf mk av) (Vm.Alike.refl U.vm) h
theorem sE.go {a n aV : Nat} {fb : Nat → Int32} {A B : Nat → Prop} {s : State} {H : Heap} {locs : List Loc} (h : sE a n aV fb A s s.heap) (hS : va_S A s.heap H locs) (hF : ∀ q, B q → A q) : ∀ U : State, U.heap = H → s.WarmedH U.vm → sX a n aV fb B U := fun U hU hW => by
  show sE a n aV fb B U U.heap
  rw [hU]
  exact ((h.kept hS.2.1).narrow hF).moved hW.alike
theorem va_A0 {A : Nat → Prop} {s : State} {H : Heap} {locs : List Loc} (hS : va_S A s.heap H locs) (hA : ∀ q, s.heap.size ≤ q → A q) : ∀ q, va_A [] H.size q → A q := fun q h => h.elim (fun ⟨k, e, h⟩ => by simp at h) (fun h => hA q (Nat.le_trans hS.1 h))
section KS
variable {p : Program} {l : Launch} {e : Env} {R : Room} {s : State} {m : MethodId} {args : Array Value} {below : List Frame} {meth : Method} {c : Code} {H : Heap} {locs : List Loc} {cells slots : Nat} {Q : State → Prop}
variable {cc : ByteArray} {pc : Nat} {ls : Array Slot} {rest : List Value} {A : Nat → Prop} {ws wc wa wr : va_W} {H0 : Heap} {g : GG} {X : State → Prop}
/-- a call whose receiver is no cell of the world -/
theorem k_Vs {own C : String} {nL mL n index mc ms b : Nat} {y : MethodName} {cy : ByteArray} {rt : Option FieldType} {rm : Room} {As st0 : List Value} {Qc : Array Value → State → Outcome → State → Prop} {free : Addr → Prop}
    (Sf : CallFix p m c cc nL s args gT own) (hK : kE g s) (hP : va_P g.1 vwCl ws H) (hD : va_D A ws) (isC : List Nat) (hC : isC.map (fun i => ws[i]?) = wc.map some) (hnd : va_nd isC = true)
    (hM : Met l y (.code y cy mL rt :: gT) rm (va_Pc (.ref b :: As) (Pst g H.size wc X)) Qc mc ms free) (hG : GoodIn gT (wsV own index C y (.code y cy mL rt :: gT))) (hrc : rm.cells = mc) (hrs : rm.slots = ms)
    (hd : y.cls = C ∧ y.cls ≠ "java/lang/invoke/MethodHandle" ∧ y.cls ≠ "java/lang/invoke/VarHandle" ∧ (parseMethodDescriptor y.desc).map (fun d => d.parameters.length) = some n) (hR : rm.frames + 1 ≤ R.frames ∧ 8 + (mL + 11) + rm.locals ≤ R.locals)
    (hrecv : ∃ cell : Cell, H[b]? = some cell ∧ cell.vm.isStatics = false ∧ s.vm.findClass C = some cell.cls) (hXc : ∀ (U : State) (gf : JFrame) (mk : MethodId) (a : Array Value), X U → X (U.calling gf mk a)) (hX : ∀ U : State, U.heap = H → s.WarmedH U.vm → X U)
    (hst : st0 = As.reverse ++ .ref b :: rest) (hn : As.length = n) (hsz : ls.size = nL) (hW : (rest.map fun v => v.category).sum ≤ 8) (hdg : decode cc pc = .ok (.invokevirtual index, 3)) (hf : cells + mc ≤ R.cells ∧ slots + ms ≤ R.slots) :
    va_Run p l e R s m args below meth c H locs cells slots mc ms (F0 m pc ls st0) rest (Qc (.ref b :: As).toArray) free := by
  have hPc := hP.sub (ws' := wc) isC (fm_of hC)
  have hDc : va_D (fun _ => True) wc := (hD.sub (ws' := wc) isC hnd hC).weaken (fun _ _ _ _ => trivial)
  exact va_runV Sf hM (cwV n Sf.2.2.2.2 hG rfl hrc hrs hd hR) ⟨k_bl hXc, hrecv, k_pre hK hPc hDc hX⟩ rfl hn hsz hst (lv_room hW) hdg hf
theorem s_recv {a n aV : Nat} {fb : Nat → Int32} (h : sE a n aV fb A s s.heap) (hS : va_S A s.heap H locs) : ∃ cell : Cell, H[a]? = some cell ∧ cell.vm.isStatics = false ∧ s.vm.findClass RJ0 = some cell.cls := by
  obtain ⟨cell, h1, h2, h3, -⟩ := h.1.kept hS.2.1
  exact ⟨cell, h1, h2, h3⟩
end KS
theorem lgc0 {x z : Int64} {c : Int32} (e : c = lg_cmp x z) (h : c.toInt = 0) : x = z := by
  unfold lg_cmp at e
  split at e
  · rw [e] at h; exact absurd h (by decide)
  · split at e
    · assumption
    · rw [e] at h; exact absurd h (by decide)
theorem lgcn {x z : Int64} {c : Int32} (e : c = lg_cmp x z) (h : c.toInt ≠ 0) : x ≠ z := by
  rintro rfl
  apply h
  unfold lg_cmp at e
  rw [if_neg (by simp), if_pos rfl] at e
  rw [e]; decide
/-- no name ahead of i is z -/
def Iq (f : Nat → Int64) (i : Int32) (z : Int64) : Prop := ∀ j : Nat, (j : Int) < i.toInt → f j ≠ z
theorem Iq.z {f : Nat → Int64} {z : Int64} : Iq f 0 z := by
  intro j h
  have e : (0 : Int32).toInt = 0 := by decide
  omega
theorem Iq.s {f : Nat → Int64} {i i' c : Int32} {x z : Int64} (h : Iq f i z) (h0 : 0 ≤ i.toInt) (hi : i'.toInt = i.toInt + 1) (ex : x = f i.toNatClampNeg) (ec : c = lg_cmp x z) (hc : c.toInt ≠ 0) : Iq f i' z := by
  intro j hj
  by_cases e : j = i.toNatClampNeg
  · rw [e, ← ex]; exact lgcn ec hc
  · have := clampI h0
    exact h j (by omega)
/-- what is found: none, or the place of a name that is z -/
def Ix (f : Nat → Int64) (n r : Int32) (z : Int64) : Prop := (r.toInt = -1 ∧ ∀ j : Nat, (j : Int) < n.toInt → f j ≠ z) ∨ (0 ≤ r.toInt ∧ r.toInt < n.toInt ∧ f r.toNatClampNeg = z)
theorem Ix.no {f : Nat → Int64} {n i : Int32} {z : Int64} (h : Iq f i z) (hi : n.toInt ≤ i.toInt) : Ix f n (-1) z := Or.inl ⟨by decide, fun j hj => h j (by omega)⟩
theorem Ix.yes {f : Nat → Int64} {n i c : Int32} {x z : Int64} (h0 : 0 ≤ i.toInt) (hi : i.toInt < n.toInt) (ex : x = f i.toNatClampNeg) (ec : c = lg_cmp x z) (hc : c.toInt = 0) : Ix f n i z := Or.inr ⟨h0, hi, by rw [← ex]; exact lgc0 ec hc⟩
theorem Ix.lt {f : Nat → Int64} {n r : Int32} {z : Int64} (h : Ix f n r z) (hn : 0 ≤ n.toInt) : -1 ≤ r.toInt ∧ r.toInt < n.toInt := by
  rcases h with h | h <;> omega
theorem Ix.both {f : Nat → Int64} {n r t : Int32} {z : Int64} (h : Ix f n r z) (h2 : Ix f n t z) (ht : 0 ≤ t.toInt) : 0 ≤ r.toInt := by
  rcases h with h | h
  · rcases h2 with q | q
    · omega
    · have := clampI ht
      exact absurd q.2.2 (h.2 _ (by omega))
  · exact h.1
