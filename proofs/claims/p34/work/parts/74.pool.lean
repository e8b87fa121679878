abbrev SRec : Type := (Nat → Nat) × (Nat → Int32) × (Nat → Nat → Int32)
/-- a state's cells -/
abbrev cS (g : GG) (r : SRec) : va_W := [((r.1 0), .inr (9, [.int ((r.2.1 0)), .int ((r.2.1 1)), .int ((r.2.1 2)), .int ((r.2.1 3)), .int ((r.2.1 4)), .int ((r.2.1 5)), .int ((r.2.1 6)), .ref (r.1 1), .ref (r.1 2), .ref (r.1 3), .ref (r.1 4), .ref (r.1 5), .ref (r.1 6), .ref (r.1 7)])), ((r.1 1), aI g 6 (r.2.2 0)), ((r.1 2), aI g 6 (r.2.2 1)), ((r.1 3), aI g 8 (r.2.2 2)), ((r.1 4), aI g 8 (r.2.2 3)), ((r.1 5), aI g 8 (r.2.2 4)), ((r.1 6), aI g 16 (r.2.2 5)), ((r.1 7), aI g 60 (r.2.2 6))]
abbrev SOk (r : SRec) : Prop := (0 ≤ (r.2.1 1).toInt ∧ (r.2.1 1).toInt ≤ 999) ∧ (0 ≤ (r.2.1 5).toInt ∧ (r.2.1 5).toInt ≤ 8) ∧ (0 ≤ (r.2.1 6).toInt ∧ (r.2.1 6).toInt ≤ 60) ∧ (Rg 16 0 5 (r.2.2 5))
def wS (g : GG) (l : List SRec) : va_W := l.flatMap (cS g)

theorem wS_cons {g : GG} {a : SRec} {l : List SRec} : wS g (a :: l) = cS g a ++ wS g l := by unfold wS; rw [List.flatMap_cons]
theorem wS_app {g : GG} {l m : List SRec} : wS g (l ++ m) = wS g l ++ wS g m := by unfold wS; rw [List.flatMap_append]
theorem ex1 (g : GG) : ∀ (l : List SRec) (c : Nat) (r : SRec), l[c]? = some r → ∃ R : va_W, (wS g l).Perm (cS g r ++ R) ∧ ∀ r' : SRec, (wS g (l.set c r')).Perm (cS g r' ++ R)
  | [], c, r, h => by simp at h
  | a :: l, 0, r, h => by
    have e : a = r := by simpa using h
    subst e
    exact ⟨wS g l, by rw [wS_cons], fun r' => by rw [List.set_cons_zero, wS_cons]⟩
  | a :: l, c + 1, r, h => by
    obtain ⟨R, h1, h2⟩ := ex1 g l c r (by simpa using h)
    refine ⟨cS g a ++ R, ?_, fun r' => ?_⟩
    · rw [wS_cons]
      exact (h1.append_left _).trans (List.perm_append_comm_assoc _ _ _)
    · rw [List.set_cons_succ, wS_cons]
      exact ((h2 r').append_left _).trans (List.perm_append_comm_assoc _ _ _)
theorem ex1m (g : GG) : ∀ (l : List SRec) (c : Nat) (r : SRec), l[c]? = some r → ∃ R : va_W, (wS g l).Perm (cS g r ++ R) ∧ (∀ r' : SRec, (wS g (l.set c r')).Perm (cS g r' ++ R)) ∧ ∀ (k : Nat) (z : SRec), k ≠ c → l[k]? = some z → ∀ q ∈ cS g z, q ∈ R
  | [], c, r, h => by simp at h
  | a :: l, 0, r, h => by
    have e : a = r := by simpa using h
    subst e
    refine ⟨wS g l, by rw [wS_cons], fun r' => by rw [List.set_cons_zero, wS_cons], fun k z hk hz q hq => ?_⟩
    obtain ⟨k', rfl⟩ : ∃ k', k = k' + 1 := ⟨k - 1, by omega⟩
    rw [List.getElem?_cons_succ] at hz
    unfold wS
    exact List.mem_flatMap.mpr ⟨z, List.mem_of_getElem? hz, hq⟩
  | a :: l, c + 1, r, h => by
    obtain ⟨R, h1, h2, h3⟩ := ex1m g l c r (by simpa using h)
    refine ⟨cS g a ++ R, ?_, fun r' => ?_, fun k z hk hz q hq => ?_⟩
    · rw [wS_cons]
      exact (h1.append_left _).trans (List.perm_append_comm_assoc _ _ _)
    · rw [List.set_cons_succ, wS_cons]
      exact ((h2 r').append_left _).trans (List.perm_append_comm_assoc _ _ _)
    · match k, hk, hz with
      | 0, _, hz =>
        have e : a = z := by simpa using hz
        subst e
        exact List.mem_append_left _ hq
      | k + 1, hk, hz => exact List.mem_append_right _ (h3 k z (fun e => hk (by omega)) (by simpa using hz) q hq)
theorem ex2 (g : GG) : ∀ (l : List SRec) (c j : Nat) (r q : SRec), c ≠ j → l[c]? = some r → l[j]? = some q → ∃ R : va_W, (wS g l).Perm (cS g r ++ (cS g q ++ R)) ∧ (∀ r' q' : SRec, (wS g ((l.set c r').set j q')).Perm (cS g r' ++ (cS g q' ++ R))) ∧ ∀ (k : Nat) (z : SRec), k ≠ c → k ≠ j → l[k]? = some z → ∀ w ∈ cS g z, w ∈ R
  | [], c, j, r, q, _, h, _ => by simp at h
  | a :: l, 0, 0, r, q, hn, _, _ => absurd rfl hn
  | a :: l, 0, j + 1, r, q, _, h, h2 => by
    have e : a = r := by simpa using h
    subst e
    obtain ⟨R, k1, k2, k3⟩ := ex1m g l j q (by simpa using h2)
    refine ⟨R, ?_, fun r' q' => ?_, fun k z hk hj hz w hw => ?_⟩
    · rw [wS_cons]; exact k1.append_left _
    · rw [List.set_cons_zero, List.set_cons_succ, wS_cons]; exact (k2 q').append_left _
    · obtain ⟨k', rfl⟩ : ∃ k', k = k' + 1 := ⟨k - 1, by omega⟩
      exact k3 k' z (fun e => hj (by omega)) (by simpa using hz) w hw
  | a :: l, c + 1, 0, r, q, _, h, h2 => by
    have e : a = q := by simpa using h2
    subst e
    obtain ⟨R, k1, k2, k3⟩ := ex1m g l c r (by simpa using h)
    refine ⟨R, ?_, fun r' q' => ?_, fun k z hk hj hz w hw => ?_⟩
    · rw [wS_cons]; exact (k1.append_left _).trans (List.perm_append_comm_assoc _ _ _)
    · rw [List.set_cons_succ, List.set_cons_zero, wS_cons]; exact ((k2 r').append_left _).trans (List.perm_append_comm_assoc _ _ _)
    · obtain ⟨k', rfl⟩ : ∃ k', k = k' + 1 := ⟨k - 1, by omega⟩
      exact k3 k' z (fun e => hk (by omega)) (by simpa using hz) w hw
  | a :: l, c + 1, j + 1, r, q, hn, h, h2 => by
    obtain ⟨R, k1, k2, k3⟩ := ex2 g l c j r q (fun e => hn (by omega)) (by simpa using h) (by simpa using h2)
    refine ⟨cS g a ++ R, ?_, fun r' q' => ?_, fun k z hk hj hz w hw => ?_⟩
    · rw [wS_cons]
      exact (k1.append_left _).trans ((List.perm_append_comm_assoc _ _ _).trans (List.Perm.append_left _ (List.perm_append_comm_assoc _ _ _)))
    · rw [List.set_cons_succ, List.set_cons_succ, wS_cons]
      exact ((k2 r' q').append_left _).trans ((List.perm_append_comm_assoc _ _ _).trans (List.Perm.append_left _ (List.perm_append_comm_assoc _ _ _)))
    · match k, hk, hj, hz with
      | 0, _, _, hz =>
        have e : a = z := by simpa using hz
        subst e
        exact List.mem_append_left _ hw
      | k + 1, hk, hj, hz => exact List.mem_append_right _ (k3 k z (fun e => hk (by omega)) (fun e => hj (by omega)) (by simpa using hz) w hw)
/-- the rows of references, by the pool -/
def LOk (F B : Nat → Option Nat) (l : List SRec) : Prop := l.length = 44 ∧ (∀ r ∈ l, SOk r) ∧ (∀ i : Nat, i < 41 → F i = (l[i]?).map (fun r => r.1 0)) ∧ ∀ i : Nat, i < 3 → B i = (l[41 + i]?).map (fun r => r.1 0)
theorem LOk.get {F B : Nat → Option Nat} {l : List SRec} (h : LOk F B l) {i : Nat} (hi : i < 44) : ∃ r : SRec, l[i]? = some r ∧ SOk r ∧ (i < 41 → F i = some (r.1 0)) ∧ (∀ k : Nat, k < 3 → i = 41 + k → B k = some (r.1 0)) := by
  have h1 : i < l.length := by rw [h.1]; exact hi
  refine ⟨l[i], List.getElem?_eq_getElem h1, h.2.1 _ (List.getElem_mem h1), fun q => ?_, fun k hk e => ?_⟩
  · rw [h.2.2.1 i q, List.getElem?_eq_getElem h1]; rfl
  · rw [h.2.2.2 k hk, ← e, List.getElem?_eq_getElem h1]; rfl
theorem LOk.set {F B : Nat → Option Nat} {l : List SRec} {i : Nat} {r r' : SRec} (h : LOk F B l) (hr : l[i]? = some r) (ha : r'.1 0 = r.1 0) (ho : SOk r') : LOk F B (l.set i r') := by
  obtain ⟨h1, h2, h3, h4⟩ := h
  have key : ∀ k : Nat, ((l.set i r')[k]?).map (fun z => z.1 0) = (l[k]?).map (fun z => z.1 0) := by
    intro k
    by_cases e : i = k
    · subst e
      obtain ⟨hl, he⟩ := List.getElem?_eq_some_iff.mp hr
      rw [List.getElem?_set_self hl, hr]
      show some (r'.1 0) = some (r.1 0)
      rw [ha]
    · rw [List.getElem?_set_ne e]
  refine ⟨by rw [List.length_set]; exact h1, fun z hz => ?_, fun k hk => by rw [key]; exact h3 k hk, fun k hk => by rw [key]; exact h4 k hk⟩
  rcases List.mem_or_eq_of_mem_set hz with q | q
  · exact h2 z q
  · rw [q]; exact ho
def rot : List SRec → List SRec
  | [] => []
  | a :: t => t.take 40 ++ a :: t.drop 40
theorem wS_rot {g : GG} : ∀ l : List SRec, (wS g (rot l)).Perm (wS g l)
  | [] => List.Perm.refl _
  | a :: t => by
    show (wS g (t.take 40 ++ a :: t.drop 40)).Perm (wS g (a :: t))
    have e : wS g t = wS g (t.take 40) ++ wS g (t.drop 40) := by rw [← wS_app, List.take_append_drop]
    rw [wS_app, wS_cons, wS_cons, e]
    exact List.perm_append_comm_assoc _ _ _
theorem LOk.rot {F B : Nat → Option Nat} {l : List SRec} {c : Int32} (h : LOk F B l) (hc : c.toInt = 40) : LOk (Sh F c) B (rot l) := by
  obtain ⟨h1, h2, h3, h4⟩ := h
  match l, h1, h2, h3, h4 with
  | [], h1, _, _, _ => simp at h1
  | a :: t, h1, h2, h3, h4 =>
    have ht : t.length = 43 := by simpa using h1
    have lt : (t.take 40).length = 40 := by rw [List.length_take]; omega
    refine ⟨?_, fun r hr => ?_, fun i hi => ?_, fun i hi => ?_⟩
    · show (t.take 40 ++ a :: t.drop 40).length = 44
      rw [List.length_append, List.length_cons, List.length_drop, lt, ht]
    · have hr : r ∈ t.take 40 ++ a :: t.drop 40 := hr
      apply h2
      rcases List.mem_append.mp hr with q | q
      · exact List.mem_cons_of_mem _ (List.mem_of_mem_take q)
      · rcases List.mem_cons.mp q with q | q
        · rw [q]; exact List.mem_cons_self
        · exact List.mem_cons_of_mem _ (List.mem_of_mem_drop q)
    · show Sh F c i = ((t.take 40 ++ a :: t.drop 40)[i]?).map _
      unfold Sh
      rw [if_pos hc]
      by_cases e : i < 40
      · rw [if_pos e, List.getElem?_append_left (by omega), List.getElem?_take_of_lt e, h3 (i + 1) (by omega)]
        rfl
      · have e2 : i = 40 := by omega
        rw [if_neg e, if_pos e2, List.getElem?_append_right (by omega), e2, lt, h3 0 (by omega)]
        rfl
    · show B i = ((t.take 40 ++ a :: t.drop 40)[41 + i]?).map _
      rw [h4 i hi, List.getElem?_append_right (by omega), lt]
      have e3 : 41 + i - 40 = i + 1 := by omega
      have e4 : 41 + i = (40 + i) + 1 := by omega
      rw [e3, e4, List.getElem?_cons_succ, List.getElem?_cons_succ, List.getElem?_drop]
theorem permA {E wc rest P : va_W} (h : E.Perm (wc ++ rest)) : (E ++ P).Perm (wc ++ (rest ++ P)) := by
  rw [← List.append_assoc]; exact h.append_right P
theorem permB {E C P R wc rest : va_W} (hP : P.Perm (C ++ R)) (h : (E ++ C).Perm (wc ++ rest)) : (E ++ P).Perm (wc ++ (rest ++ R)) := by
  refine (hP.append_left E).trans ?_
  rw [← List.append_assoc, ← List.append_assoc]
  exact h.append_right R
theorem permC {E C D P R wc rest : va_W} (hP : P.Perm (C ++ (D ++ R))) (h : (E ++ (C ++ D)).Perm (wc ++ rest)) : (E ++ P).Perm (wc ++ (rest ++ R)) := by
  refine (hP.append_left E).trans ?_
  rw [← List.append_assoc, ← List.append_assoc, ← List.append_assoc]
  have h2 := h.append_right R
  rw [← List.append_assoc, List.append_assoc wc] at h2
  rw [List.append_assoc wc] 
  exact h2
theorem Xs_of {g : GG} {F B : Nat → Option Nat} {l : List SRec} {wc rest R W : va_W} {sz c : Nat} {U : State} (hlo : LOk F B l) (hc : c = 40) (hR3 : ∀ (k : Nat) (z : SRec), k ≠ c → k ≠ 0 → l[k]? = some z → ∀ w ∈ cS g z, w ∈ R) (hp : W.Perm (wc ++ (rest ++ R))) (h1 : U.heap.size = sz) (h2 : va_P g.1 vwCl W U.heap) (h3 : va_D (fun _ => True) W) (h4 : kE g U) : Xs F (va_A wc sz) U := by
  intro j j1 j2
  obtain ⟨z, hz, -, hF, -⟩ := hlo.get (i := j) (by omega)
  refine ⟨z.1 0, hF (by omega), ?_⟩
  have hin : ∀ w ∈ cS g z, w ∈ R := hR3 j z (by omega) (by omega) hz
  have h0 := hin _ List.mem_cons_self
  have hW := hp.mem_iff.mpr (List.mem_append_right wc (List.mem_append_right rest h0))
  obtain ⟨k, hk⟩ := List.mem_iff_getElem?.mp hW
  obtain ⟨cell, g1, g2, g3⟩ := va_recv h4.1 h2 (q := (RX9, TX9, 14)) (ci := 9) rfl hk
  refine ⟨cell, g1, g2, g3, fun hA => ?_⟩
  rcases A_mem.mp hA with ⟨e, he⟩ | he
  · have hd := (List.pairwise_append.mp (D_iff.mp (D_perm hp h3)).1).2.2
    exact hd _ he _ (List.mem_append_right rest h0) rfl
  · obtain ⟨hl, -⟩ := Array.getElem?_eq_some_iff.mp g1
    omega
theorem boxIx (p0 : Int32) : ∃ b : Nat, b < 3 ∧ (0 ≤ p0.toInt ∧ p0.toInt < 3 → b = p0.toNatClampNeg) := by
  by_cases q : 0 ≤ p0.toInt ∧ p0.toInt < 3
  · exact ⟨p0.toNatClampNeg, by have c9 := clampI q.1; omega, fun _ => rfl⟩
  · exact ⟨0, by decide, fun z => absurd z q⟩

abbrev XRec : Type := (Nat → Nat) × (Nat → Int32) × (Nat → Int64) × (Nat → Value) × (Nat → Nat → Int32) × (Nat → Nat → Int64) × (Nat → Nat → Option Nat) × List SRec
abbrev eX (g : GG) (v : XRec) : va_W := [((v.1 0), .inr (11, [.ref (v.1 1), .int ((v.2.1 0)), .ref (v.1 48), .ref (v.1 4), .ref (v.1 26), .ref (v.1 2), .int ((v.2.1 1)), .int ((v.2.1 2)), .ref (v.1 3), .int ((v.2.1 3)), .ref (v.1 51), .ref (v.1 60), .ref (v.1 65), .ref (v.1 68)])), ((v.1 1), aB g 1600 (v.2.2.2.2.1 0)), ((v.1 2), aO g 41 (v.2.2.2.2.2.2.1 0)), ((v.1 3), aO g 3 (v.2.2.2.2.2.2.1 1)), ((v.1 4), .inr (2, [.ref (v.1 8), .ref (v.1 13), .ref (v.1 18), .int ((v.2.1 4)), .ref (v.1 5), .ref (v.1 6), .int ((v.2.1 5)), .int ((v.2.1 6)), .ref (v.1 7)])), ((v.1 5), aI g 12 (v.2.2.2.2.1 1)), ((v.1 6), aI g 6 (v.2.2.2.2.1 2)), ((v.1 7), aI g 4 (v.2.2.2.2.1 3)), ((v.1 8), .inr (3, [.int ((v.2.1 7)), .ref (v.1 9), .ref (v.1 10), .ref (v.1 11), .ref (v.1 12)])), ((v.1 9), aJ g 6 (v.2.2.2.2.2.1 0)), ((v.1 10), aI g 6 (v.2.2.2.2.1 4)), ((v.1 11), aI g 6 (v.2.2.2.2.1 5)), ((v.1 12), aI g 6 (v.2.2.2.2.1 6)), ((v.1 13), .inr (0, [.int ((v.2.1 8)), .int ((v.2.1 9)), .ref (v.1 14), .int ((v.2.1 10)), .int ((v.2.1 11)), .ref (v.1 15), .ref (v.1 16), .ref (v.1 17)])), ((v.1 14), aJ g 4 (v.2.2.2.2.2.1 1)), ((v.1 15), aI g 5 (v.2.2.2.2.1 7)), ((v.1 16), aI g 640 (v.2.2.2.2.1 8)), ((v.1 17), aI g 32 (v.2.2.2.2.1 9)), ((v.1 18), .inr (6, [.int ((v.2.1 12)), .ref (v.1 19), .ref (v.1 20), .ref (v.1 21), .ref (v.1 22), .ref (v.1 23), .ref (v.1 24), .ref (v.1 25)])), ((v.1 19), aJ g 8 (v.2.2.2.2.2.1 2)), ((v.1 20), aI g 8 (v.2.2.2.2.1 10)), ((v.1 21), aI g 8 (v.2.2.2.2.1 11)), ((v.1 22), aI g 8 (v.2.2.2.2.1 12)), ((v.1 23), aI g 8 (v.2.2.2.2.1 13)), ((v.1 24), aI g 8 (v.2.2.2.2.1 14)), ((v.1 25), aI g 8 (v.2.2.2.2.1 15)), ((v.1 26), .inr (2, [.ref (v.1 30), .ref (v.1 35), .ref (v.1 40), .int ((v.2.1 13)), .ref (v.1 27), .ref (v.1 28), .int ((v.2.1 14)), .int ((v.2.1 15)), .ref (v.1 29)])), ((v.1 27), aI g 12 (v.2.2.2.2.1 16)), ((v.1 28), aI g 6 (v.2.2.2.2.1 17)), ((v.1 29), aI g 4 (v.2.2.2.2.1 18)), ((v.1 30), .inr (3, [.int ((v.2.1 16)), .ref (v.1 31), .ref (v.1 32), .ref (v.1 33), .ref (v.1 34)])), ((v.1 31), aJ g 6 (v.2.2.2.2.2.1 3)), ((v.1 32), aI g 6 (v.2.2.2.2.1 19)), ((v.1 33), aI g 6 (v.2.2.2.2.1 20)), ((v.1 34), aI g 6 (v.2.2.2.2.1 21)), ((v.1 35), .inr (0, [.int ((v.2.1 17)), .int ((v.2.1 18)), .ref (v.1 36), .int ((v.2.1 19)), .int ((v.2.1 20)), .ref (v.1 37), .ref (v.1 38), .ref (v.1 39)])), ((v.1 36), aJ g 4 (v.2.2.2.2.2.1 4)), ((v.1 37), aI g 5 (v.2.2.2.2.1 22)), ((v.1 38), aI g 640 (v.2.2.2.2.1 23)), ((v.1 39), aI g 32 (v.2.2.2.2.1 24)), ((v.1 40), .inr (6, [.int ((v.2.1 21)), .ref (v.1 41), .ref (v.1 42), .ref (v.1 43), .ref (v.1 44), .ref (v.1 45), .ref (v.1 46), .ref (v.1 47)])), ((v.1 41), aJ g 8 (v.2.2.2.2.2.1 5)), ((v.1 42), aI g 8 (v.2.2.2.2.1 25)), ((v.1 43), aI g 8 (v.2.2.2.2.1 26)), ((v.1 44), aI g 8 (v.2.2.2.2.1 27)), ((v.1 45), aI g 8 (v.2.2.2.2.1 28)), ((v.1 46), aI g 8 (v.2.2.2.2.1 29)), ((v.1 47), aI g 8 (v.2.2.2.2.1 30)), ((v.1 48), .inr (5, [.int ((v.2.1 22)), .int ((v.2.1 23)), .ref (v.1 49), (v.2.2.2.1 0), .int ((v.2.1 24)), .int ((v.2.1 25)), .int ((v.2.1 26))])), ((v.1 49), .inr (10, [.int ((v.2.1 27)), .int ((v.2.1 28)), .int ((v.2.1 29)), .long ((v.2.2.1 0)), (v.2.2.2.1 1), .int ((v.2.1 30)), .int ((v.2.1 31)), .ref (v.1 50)])), ((v.1 50), aJ g 24 (v.2.2.2.2.2.1 6)), ((v.1 51), .inr (7, [(v.2.2.2.1 2), .int ((v.2.1 32)), .ref (v.1 52), .ref (v.1 53), .ref (v.1 54), .ref (v.1 55), .int ((v.2.1 33)), .ref (v.1 56), .ref (v.1 57), .int ((v.2.1 34)), .ref (v.1 58), .ref (v.1 59)])), ((v.1 52), aI g 16 (v.2.2.2.2.1 31)), ((v.1 53), aI g 16 (v.2.2.2.2.1 32)), ((v.1 54), aI g 3000 (v.2.2.2.2.1 33)), ((v.1 55), aI g 3000 (v.2.2.2.2.1 34)), ((v.1 56), aZ g 3000 (v.2.2.2.2.1 35)), ((v.1 57), aI g 8192 (v.2.2.2.2.1 36)), ((v.1 58), aI g 4 (v.2.2.2.2.1 37)), ((v.1 59), aI g 16 (v.2.2.2.2.1 38)), ((v.1 60), .inr (8, [.int ((v.2.1 35)), .int ((v.2.1 36)), .ref (v.1 61), .ref (v.1 62), .ref (v.1 63), .ref (v.1 64)])), ((v.1 61), aI g 30 (v.2.2.2.2.1 39)), ((v.1 62), aI g 30 (v.2.2.2.2.1 40)), ((v.1 63), aI g 30 (v.2.2.2.2.1 41)), ((v.1 64), aI g 30 (v.2.2.2.2.1 42)), ((v.1 65), .inr (4, [.int ((v.2.1 37)), .int ((v.2.1 38)), .ref (v.1 66), .ref (v.1 67)])), ((v.1 66), aI g 128 (v.2.2.2.2.1 43)), ((v.1 67), aI g 8 (v.2.2.2.2.1 44)), ((v.1 68), .inr (1, [.int ((v.2.1 39)), .ref (v.1 69)])), ((v.1 69), aI g 16 (v.2.2.2.2.1 45))]
/-- the class's cells -/
abbrev wX (g : GG) (v : XRec) : va_W := eX g v ++ wS g v.2.2.2.2.2.2.2
abbrev XOk (v : XRec) : Prop := (0 ≤ (v.2.1 0).toInt ∧ (v.2.1 0).toInt ≤ 1600) ∧ (0 ≤ (v.2.1 1).toInt ∧ (v.2.1 1).toInt ≤ 40) ∧ (0 ≤ (v.2.1 2).toInt ∧ (v.2.1 2).toInt ≤ 40) ∧ (0 ≤ (v.2.1 4).toInt ∧ (v.2.1 4).toInt ≤ 6) ∧ (Rg 12 0 5 (v.2.2.2.2.1 1)) ∧ (0 ≤ (v.2.1 6).toInt ∧ (v.2.1 6).toInt ≤ 999) ∧ (0 ≤ (v.2.1 7).toInt ∧ (v.2.1 7).toInt ≤ 6) ∧ (0 ≤ (v.2.1 8).toInt ∧ (v.2.1 8).toInt ≤ 4) ∧ (0 ≤ (v.2.1 9).toInt ∧ (v.2.1 9).toInt ≤ 60) ∧ (0 ≤ (v.2.1 10).toInt ∧ (v.2.1 10).toInt ≤ 30) ∧ (0 ≤ (v.2.1 11).toInt ∧ (v.2.1 11).toInt ≤ 640) ∧ (Rg 5 0 640 (v.2.2.2.2.1 7)) ∧ (0 ≤ (v.2.1 12).toInt ∧ (v.2.1 12).toInt ≤ 8) ∧ (Rg 8 0 3 (v.2.2.2.2.1 10)) ∧ (Rg 8 (-1) 5 (v.2.2.2.2.1 11)) ∧ (0 ≤ (v.2.1 13).toInt ∧ (v.2.1 13).toInt ≤ 6) ∧ (Rg 12 0 5 (v.2.2.2.2.1 16)) ∧ (0 ≤ (v.2.1 15).toInt ∧ (v.2.1 15).toInt ≤ 999) ∧ (0 ≤ (v.2.1 16).toInt ∧ (v.2.1 16).toInt ≤ 6) ∧ (0 ≤ (v.2.1 17).toInt ∧ (v.2.1 17).toInt ≤ 4) ∧ (0 ≤ (v.2.1 18).toInt ∧ (v.2.1 18).toInt ≤ 60) ∧ (0 ≤ (v.2.1 19).toInt ∧ (v.2.1 19).toInt ≤ 30) ∧ (0 ≤ (v.2.1 20).toInt ∧ (v.2.1 20).toInt ≤ 640) ∧ (Rg 5 0 640 (v.2.2.2.2.1 22)) ∧ (0 ≤ (v.2.1 21).toInt ∧ (v.2.1 21).toInt ≤ 8) ∧ (Rg 8 0 3 (v.2.2.2.2.1 25)) ∧ (Rg 8 (-1) 5 (v.2.2.2.2.1 26)) ∧ (0 ≤ (v.2.1 24).toInt ∧ (v.2.1 24).toInt ≤ 1) ∧ (0 ≤ (v.2.1 25).toInt ∧ (v.2.1 25).toInt ≤ 1) ∧ (0 ≤ (v.2.1 27).toInt ∧ (v.2.1 27).toInt ≤ 5) ∧ (0 ≤ (v.2.1 30).toInt ∧ (v.2.1 30).toInt ≤ 1600) ∧ (0 ≤ (v.2.1 31).toInt ∧ (v.2.1 31).toInt ≤ 1600) ∧ (Rg 3000 0 47999 (v.2.2.2.2.1 34)) ∧ (0 ≤ (v.2.1 33).toInt ∧ (v.2.1 33).toInt ≤ 3000) ∧ (Sl (v.2.2.2.2.1 36)) ∧ (0 ≤ (v.2.1 34).toInt ∧ (v.2.1 34).toInt ≤ 1048575) ∧ (Rg 4 0 365 (v.2.2.2.2.1 37)) ∧ (Rg 16 0 15 (v.2.2.2.2.1 38)) ∧ (0 ≤ (v.2.1 35).toInt ∧ (v.2.1 35).toInt ≤ 100000) ∧ (0 ≤ (v.2.1 36).toInt ∧ (v.2.1 36).toInt ≤ 30) ∧ (0 ≤ (v.2.1 37).toInt ∧ (v.2.1 37).toInt ≤ 128) ∧ (0 ≤ (v.2.1 38).toInt ∧ (v.2.1 38).toInt ≤ 128) ∧ (0 ≤ (v.2.1 39).toInt ∧ (v.2.1 39).toInt ≤ 16) ∧ LOk (v.2.2.2.2.2.2.1 0) (v.2.2.2.2.2.2.1 1) v.2.2.2.2.2.2.2
