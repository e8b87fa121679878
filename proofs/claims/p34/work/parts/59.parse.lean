-- the reference's reader of rules: the pile of what is open, and the code that comes of it
def tb (x : Int32) : Int := if x.toInt = 0 then 0 else 1
theorem tb_spec (x : Int32) : (x.toInt = 0 ∧ tb x = 0) ∨ (x.toInt ≠ 0 ∧ tb x = 1) := by
  unfold tb
  by_cases h : x.toInt = 0
  · exact Or.inl ⟨h, if_pos h⟩
  · exact Or.inr ⟨h, if_neg h⟩
def cB (f : Nat → Int32) : Nat → Int
  | 0 => 0
  | n + 1 => cB f n + (if (f n).toInt = 1 ∨ (f n).toInt = 2 ∨ (f n).toInt = 4 ∨ (f n).toInt = 5 ∨ (f n).toInt = 6 then 1 else 0)
def cW (f : Nat → Int32) : Nat → Int
  | 0 => 0
  | n + 1 => cW f n + (if (f n).toInt = 3 ∨ (f n).toInt = 7 then 1 else 0)
theorem cB_upd (f : Nat → Int32) (i : Nat) (v : Int32) : ∀ n : Nat, n ≤ i → cB (upd f i v) n = cB f n
  | 0, _ => rfl
  | n + 1, h => by
    show cB (upd f i v) n + _ = cB f n + _
    rw [cB_upd f i v n (by omega), pk_un (by omega)]
theorem cW_upd (f : Nat → Int32) (i : Nat) (v : Int32) : ∀ n : Nat, n ≤ i → cW (upd f i v) n = cW f n
  | 0, _ => rfl
  | n + 1, h => by
    show cW (upd f i v) n + _ = cW f n + _
    rw [cW_upd f i v n (by omega), pk_un (by omega)]
theorem cB_nn (f : Nat → Int32) : ∀ n : Nat, 0 ≤ cB f n
  | 0 => Int.le_refl _
  | n + 1 => by
    have := cB_nn f n
    show 0 ≤ cB f n + _
    split <;> omega
theorem cW_nn (f : Nat → Int32) : ∀ n : Nat, 0 ≤ cW f n
  | 0 => Int.le_refl _
  | n + 1 => by
    have := cW_nn f n
    show 0 ≤ cW f n + _
    split <;> omega
def EW (ew es : Nat → Int32) (n : Nat) : Prop := (1 ≤ n → (ew 0).toInt = 8) ∧ ∀ i : Nat, 1 ≤ i → i < n → 1 ≤ (ew i).toInt ∧ (ew i).toInt ≤ 7 ∧ ((ew i).toInt = 3 → (es i).toInt = 126) ∧ ((ew i).toInt ≠ 3 → (ew i).toInt ≠ 7 → (es i).toInt ≠ 126 ∧ ((es i).toInt < 97 ∨ 122 < (es i).toInt))
theorem EW.sum {ew es : Nat → Int32} : ∀ {n : Nat}, EW ew es (n + 1) → cB ew (n + 1) + cW ew (n + 1) = n
  | 0, h => by
    have h8 := h.1 (by omega)
    simp [cB, cW, h8]
  | n + 1, h => by
    have ih := EW.sum (n := n) (ew := ew) (es := es) ⟨fun _ => h.1 (by omega), fun i h1 h2 => h.2 i h1 (by omega)⟩
    have g := h.2 (n + 1) (by omega) (by omega)
    show cB ew (n + 1) + _ + (cW ew (n + 1) + _) = _
    by_cases q : (ew (n + 1)).toInt = 3 ∨ (ew (n + 1)).toInt = 7
    · rw [if_neg (by omega), if_pos q]; omega
    · rw [if_pos (by omega), if_neg q]; omega
theorem EW.less {ew es : Nat → Int32} {n m : Nat} (h : EW ew es n) (hm : m ≤ n) : EW ew es m := ⟨fun q => h.1 (by omega), fun i h1 h2 => h.2 i h1 (by omega)⟩
theorem EW.push {ew es : Nat → Int32} {n : Nat} {v c : Int32} (h : EW ew es n) (hn : 1 ≤ n) (hv : 1 ≤ v.toInt ∧ v.toInt ≤ 7) (h3 : v.toInt = 3 → c.toInt = 126) (ho : v.toInt ≠ 3 → v.toInt ≠ 7 → c.toInt ≠ 126 ∧ (c.toInt < 97 ∨ 122 < c.toInt)) : EW (upd ew n v) (upd es n c) (n + 1) := by
  refine ⟨fun _ => ?_, fun i h1 h2 => ?_⟩
  · rw [pk_un (by omega)]; exact h.1 hn
  · by_cases e : i = n
    · rw [e, pk_us, pk_us]; exact ⟨hv.1, hv.2, h3, ho⟩
    · rw [pk_un e, pk_un e]; exact h.2 i h1 (by omega)
theorem hg_upd (cd : Nat → Int32) (a i : Nat) (v : Int32) : ∀ n : Nat, a + n ≤ i → hg (upd cd i v) a n = hg cd a n
  | 0, _ => rfl
  | n + 1, h => by
    show hg (upd cd i v) a n + _ = hg cd a n + _
    rw [hg_upd cd a i v n (by omega), pk_un (by omega)]
theorem Gp.keep {cd cd' : Nat → Int32} {a b : Int} (h : Gp cd a b) (h0 : 0 ≤ a) (hk : ∀ j : Nat, a ≤ j → (j : Int) < b → cd' j = cd j) : Gp cd' a b := by
  have hh : ∀ n : Nat, a + n ≤ b → hg cd' a.toNat n = hg cd a.toNat n := by
    intro n
    induction n with
    | zero => intro _; rfl
    | succ n ih =>
      intro hn
      show hg cd' a.toNat n + _ = hg cd a.toNat n + _
      rw [ih (by omega), hk (a.toNat + n) (by omega) (by omega)]
  intro n hn
  rw [hk (a.toNat + n) (by omega) (by omega), hh n (by omega)]
  exact h n hn
theorem Gp.snoc {cd : Nat → Int32} {a co : Int} {v : Int32} (h : Gp cd a co) (h0 : 0 ≤ a) (hac : a ≤ co) (h1 : v.toInt = 126 → 1 ≤ hg cd a.toNat (co - a).toNat) (h2 : 97 ≤ v.toInt → v.toInt ≤ 122 → hg cd a.toNat (co - a).toNat ≤ 59) (h3 : v.toInt ≠ 126 → (v.toInt < 97 ∨ 122 < v.toInt) → 2 ≤ hg cd a.toNat (co - a).toNat) : Gp (upd cd co.toNat v) a (co + 1) := by
  intro n hn
  by_cases e : a + n = co
  · have e1 : a.toNat + n = co.toNat := by omega
    have e2 : n = (co - a).toNat := by omega
    rw [e1, pk_us, hg_upd cd a.toNat co.toNat v n (by omega), e2]
    exact ⟨h1, h2, h3⟩
  · rw [pk_un (by omega), hg_upd cd a.toNat co.toNat v n (by omega)]
    exact h n (by omega)
theorem hg_snoc {cd : Nat → Int32} {a co : Int} {v : Int32} (h0 : 0 ≤ a) (hac : a ≤ co) : hg (upd cd co.toNat v) a.toNat (co + 1 - a).toNat = hg cd a.toNat (co - a).toNat + (if v.toInt = 126 then 0 else if 97 ≤ v.toInt ∧ v.toInt ≤ 122 then 1 else -1) := by
  have e : (co + 1 - a).toNat = (co - a).toNat + 1 := by omega
  rw [e]
  show hg (upd cd co.toNat v) a.toNat (co - a).toNat + _ = _
  have e1 : a.toNat + (co - a).toNat = co.toNat := by omega
  rw [hg_upd cd a.toNat co.toNat v _ (by omega), e1, pk_us]
/-- the pile and the code of a rule half read; w: a unit is wanted (1), or one was (0) -/
def PQ (w pl wi un ur co rb a : Int32) (ew es cd : Nat → Int32) : Prop :=
  0 ≤ pl.toInt ∧ EW ew es pl.toInt.toNat ∧ wi.toInt = cW ew pl.toInt.toNat ∧ wi.toInt ≤ 7 ∧ 0 ≤ a.toInt ∧ 560 * rb.toInt ≤ a.toInt ∧ a.toInt ≤ co.toInt ∧ Gp cd a.toInt co.toInt ∧
  (w.toInt = 1 → 1 ≤ pl.toInt ∧ hg cd a.toInt.toNat (co.toInt - a.toInt).toNat = cB ew pl.toInt.toNat ∧ co.toInt - 560 * rb.toInt + pl.toInt ≤ 9 * un.toInt + 1 + wi.toInt ∧ pl.toInt ≤ 1 + wi.toInt + ur.toInt) ∧
  (w.toInt = 0 → hg cd a.toInt.toNat (co.toInt - a.toInt).toNat = cB ew pl.toInt.toNat + 1 ∧ co.toInt - 560 * rb.toInt + pl.toInt ≤ 9 * un.toInt ∧ pl.toInt ≤ wi.toInt + ur.toInt)
theorem PQ.ar1 {pl wi un ur co rb a : Int32} {ew es cd : Nat → Int32} (h : PQ 1 pl wi un ur co rb a ew es cd) : 1 ≤ pl.toInt ∧ pl.toInt ≤ 1 + wi.toInt + ur.toInt ∧ 0 ≤ wi.toInt ∧ wi.toInt ≤ 7 ∧ co.toInt - 560 * rb.toInt + pl.toInt ≤ 9 * un.toInt + 1 + wi.toInt ∧ 560 * rb.toInt ≤ co.toInt := by
  obtain ⟨h1, h2, h3, h4, h5, h6, h7, h8, h9, h10⟩ := h
  have q := h9 (by decide)
  have := cW_nn ew pl.toInt.toNat
  exact ⟨q.1, q.2.2.2, by omega, h4, q.2.2.1, by omega⟩
theorem PQ.ar0 {pl wi un ur co rb a : Int32} {ew es cd : Nat → Int32} (h : PQ 0 pl wi un ur co rb a ew es cd) : 0 ≤ pl.toInt ∧ pl.toInt ≤ wi.toInt + ur.toInt ∧ 0 ≤ wi.toInt ∧ wi.toInt ≤ 7 ∧ co.toInt - 560 * rb.toInt + pl.toInt ≤ 9 * un.toInt ∧ 560 * rb.toInt ≤ co.toInt := by
  obtain ⟨h1, h2, h3, h4, h5, h6, h7, h8, h9, h10⟩ := h
  have q := h10 (by decide)
  have := cW_nn ew pl.toInt.toNat
  exact ⟨h1, q.2.2, by omega, h4, q.2.1, by omega⟩
theorem PQ.bot {w pl wi un ur co rb a : Int32} {ew es cd : Nat → Int32} (h : PQ w pl wi un ur co rb a ew es cd) (hp : 1 ≤ pl.toInt) : (ew 0).toInt = 8 := h.2.1.1 (by omega)
theorem PQ.nest {pl pl' wi wi' un un' ur ur' co rb a v c : Int32} {ew es cd ew' es' : Nat → Int32} (h : PQ 1 pl wi un ur co rb a ew es cd) (e1 : ew' = upd ew pl.toNatClampNeg v) (e2 : es' = upd es pl.toNatClampNeg c) (hc : c.toInt = 126) (hv : v.toInt = 3 ∨ v.toInt = 7) (hp : pl'.toInt = pl.toInt + 1) (hw : wi'.toInt = wi.toInt + 1) (h7 : wi.toInt ≤ 6) (hu : un.toInt ≤ un'.toInt) (hur : ur.toInt ≤ ur'.toInt) : PQ 1 pl' wi' un' ur' co rb a ew' es' cd := by
  obtain ⟨h1, h2, h3, h4, h5, h6, h7', h8, h9, h10⟩ := h
  have q := h9 (by decide)
  have cc := clampI h1
  have en : pl.toNatClampNeg = pl.toInt.toNat := by omega
  have em : pl'.toInt.toNat = pl.toInt.toNat + 1 := by omega
  rw [en] at e1 e2
  subst e1 e2
  have eW1 : cW (upd ew pl.toInt.toNat v) (pl.toInt.toNat + 1) = cW ew pl.toInt.toNat + 1 := by
    show cW (upd ew pl.toInt.toNat v) pl.toInt.toNat + _ = _
    rw [cW_upd _ _ _ _ (Nat.le_refl _), pk_us, if_pos hv]
  have eB1 : cB (upd ew pl.toInt.toNat v) (pl.toInt.toNat + 1) = cB ew pl.toInt.toNat := by
    show cB (upd ew pl.toInt.toNat v) pl.toInt.toNat + _ = _
    rw [cB_upd _ _ _ _ (Nat.le_refl _), pk_us, if_neg (by omega)]; omega
  refine ⟨by omega, ?_, ?_, by omega, h5, h6, h7', h8, fun _ => ⟨by omega, ?_, by omega, by omega⟩, fun z => absurd z (by decide)⟩
  · rw [em]; exact h2.push (by omega) (by omega) (fun _ => hc) (fun q1 q2 => by omega)
  · rw [em, eW1]; omega
  · rw [em, eB1]; exact q.2.1
theorem PQ.leaf {pl wi un un' ur ur' co co' rb a v : Int32} {ew es cd cd' : Nat → Int32} (h : PQ 1 pl wi un ur co rb a ew es cd) (e : cd' = upd cd co.toNatClampNeg v) (hv : 97 ≤ v.toInt ∧ v.toInt ≤ 122) (hco : co'.toInt = co.toInt + 1) (hu : un'.toInt = un.toInt + 1) (hur : ur'.toInt = ur.toInt + 1) (h29 : ur.toInt ≤ 29) : PQ 0 pl wi un' ur' co' rb a ew es cd' := by
  obtain ⟨h1, h2, h3, h4, h5, h6, h7', h8, h9, h10⟩ := h
  have q := h9 (by decide)
  have cc := clampI (x := co) (by omega)
  have en : co.toNatClampNeg = co.toInt.toNat := by omega
  rw [en] at e
  subst e
  have hs : cB ew pl.toInt.toNat ≤ 59 := by
    obtain ⟨k, hk⟩ : ∃ k : Nat, pl.toInt.toNat = k + 1 := ⟨pl.toInt.toNat - 1, by omega⟩
    rw [hk] at h2 h3 ⊢
    have := h2.sum
    omega
  have es1 := hg_snoc (cd := cd) (v := v) h5 h7'
  rw [if_neg (by omega), if_pos hv] at es1
  refine ⟨h1, h2, h3, h4, h5, h6, by omega, ?_, fun z => absurd z (by decide), fun _ => ⟨?_, by omega, by omega⟩⟩
  · rw [hco]; exact h8.snoc h5 h7' (fun z => by omega) (fun _ _ => by rw [q.2.1]; exact hs) (fun z1 z2 => by omega)
  · rw [hco, es1, q.2.1]
theorem PQ.pop {pl pl' wi wi' un ur co co' rb a t c : Int32} {ew es cd cd' : Nat → Int32} (h : PQ 0 pl wi un ur co rb a ew es cd) (hpl : 1 ≤ pl.toInt) (hp : pl'.toInt = pl.toInt - 1) (et : t = ew pl'.toNatClampNeg) (ht : t.toInt ≤ 6) (ec : c = es pl'.toNatClampNeg) (e : cd' = upd cd co.toNatClampNeg c) (hw : (t.toInt = 3 ∧ wi'.toInt = wi.toInt - 1) ∨ (t.toInt ≠ 3 ∧ wi'.toInt = wi.toInt)) (hco : co'.toInt = co.toInt + 1) : PQ 0 pl' wi' un ur co' rb a ew es cd' ∧ 1 ≤ pl'.toInt := by
  obtain ⟨h1, h2, h3, h4, h5, h6, h7', h8, h9, h10⟩ := h
  have q := h10 (by decide)
  have cc := clampI (x := co) (by omega)
  have cp := clampI (x := pl') (by omega)
  have en : co.toNatClampNeg = co.toInt.toNat := by omega
  have ep : pl'.toNatClampNeg = pl'.toInt.toNat := by omega
  have em : pl.toInt.toNat = pl'.toInt.toNat + 1 := by omega
  rw [en] at e
  rw [ep] at et ec
  subst e
  have h8' := h2.1 (by omega)
  have n0 : pl'.toInt.toNat ≠ 0 := fun z => by rw [z] at et; rw [← et] at h8'; omega
  have g := h2.2 pl'.toInt.toNat (by omega) (by omega)
  rw [← et, ← ec] at g
  have eW1 : cW ew pl.toInt.toNat = cW ew pl'.toInt.toNat + (if t.toInt = 3 ∨ t.toInt = 7 then 1 else 0) := by
    rw [em, et]; rfl
  have eB1 : cB ew pl.toInt.toNat = cB ew pl'.toInt.toNat + (if t.toInt = 1 ∨ t.toInt = 2 ∨ t.toInt = 4 ∨ t.toInt = 5 ∨ t.toInt = 6 then 1 else 0) := by
    rw [em, et]; rfl
  have es1 := hg_snoc (cd := cd) (v := c) h5 h7'
  have nB := cB_nn ew pl'.toInt.toNat
  rcases hw with ⟨t3, w3⟩ | ⟨t3, w3⟩
  · rw [if_pos (by omega)] at eW1
    rw [if_neg (by omega)] at eB1
    rw [if_pos (g.2.2.1 t3)] at es1
    refine ⟨⟨by omega, h2.less (by omega), by omega, by omega, h5, h6, by omega, ?_, fun z => absurd z (by decide), fun _ => ⟨?_, by omega, by omega⟩⟩, by omega⟩
    · rw [hco]; exact h8.snoc h5 h7' (fun z => by rw [q.1]; omega) (fun z1 z2 => by have := g.2.2.1 t3; omega) (fun z1 z2 => by have := g.2.2.1 t3; omega)
    · rw [hco, es1, q.1]; omega
  · have gg := g.2.2.2 t3 (by omega)
    rw [if_neg (by omega)] at eW1
    rw [if_pos (by omega)] at eB1
    rw [if_neg gg.1, if_neg (by omega)] at es1
    refine ⟨⟨by omega, h2.less (by omega), by omega, by omega, h5, h6, by omega, ?_, fun z => absurd z (by decide), fun _ => ⟨?_, by omega, by omega⟩⟩, by omega⟩
    · rw [hco]; exact h8.snoc h5 h7' (fun z => absurd z gg.1) (fun z1 z2 => by omega) (fun z1 z2 => by rw [q.1]; omega)
    · rw [hco, es1, q.1]; omega
theorem PQ.op {pl pl' wi un ur co rb a v c : Int32} {ew es cd ew' es' : Nat → Int32} (h : PQ 0 pl wi un ur co rb a ew es cd) (hpl : 1 ≤ pl.toInt) (e1 : ew' = upd ew pl.toNatClampNeg v) (e2 : es' = upd es pl.toNatClampNeg c) (hv : v.toInt = 1 ∨ v.toInt = 2 ∨ v.toInt = 4 ∨ v.toInt = 5 ∨ v.toInt = 6) (hc : c.toInt ≠ 126 ∧ (c.toInt < 97 ∨ 122 < c.toInt)) (hp : pl'.toInt = pl.toInt + 1) : PQ 1 pl' wi un ur co rb a ew' es' cd := by
  obtain ⟨h1, h2, h3, h4, h5, h6, h7', h8, h9, h10⟩ := h
  have q := h10 (by decide)
  have cc := clampI h1
  have en : pl.toNatClampNeg = pl.toInt.toNat := by omega
  have em : pl'.toInt.toNat = pl.toInt.toNat + 1 := by omega
  rw [en] at e1 e2
  subst e1 e2
  have eW1 : cW (upd ew pl.toInt.toNat v) (pl.toInt.toNat + 1) = cW ew pl.toInt.toNat := by
    show cW (upd ew pl.toInt.toNat v) pl.toInt.toNat + _ = _
    rw [cW_upd _ _ _ _ (Nat.le_refl _), pk_us, if_neg (by omega)]; omega
  have eB1 : cB (upd ew pl.toInt.toNat v) (pl.toInt.toNat + 1) = cB ew pl.toInt.toNat + 1 := by
    show cB (upd ew pl.toInt.toNat v) pl.toInt.toNat + _ = _
    rw [cB_upd _ _ _ _ (Nat.le_refl _), pk_us, if_pos hv]
  have nw := cW_nn ew pl.toInt.toNat
  refine ⟨by omega, ?_, ?_, h4, h5, h6, h7', h8, fun _ => ⟨by omega, ?_, by omega, by omega⟩, fun z => absurd z (by decide)⟩
  · rw [em]; exact h2.push (by omega) (by omega) (fun z => by omega) (fun _ _ => hc)
  · rw [em, eW1]; exact h3
  · rw [em, eB1]; exact q.1
theorem PQ.close {pl pl' wi wi' un ur co rb a t : Int32} {ew es cd : Nat → Int32} (h : PQ 0 pl wi un ur co rb a ew es cd) (hpl : 1 ≤ pl.toInt) (hp : pl'.toInt = pl.toInt - 1) (et : t = ew pl'.toNatClampNeg) (ht : 6 < t.toInt) (hw : (t.toInt = 7 ∧ wi'.toInt = wi.toInt - 1) ∨ (t.toInt ≠ 7 ∧ wi'.toInt = wi.toInt)) : PQ 0 pl' wi' un ur co rb a ew es cd := by
  obtain ⟨h1, h2, h3, h4, h5, h6, h7', h8, h9, h10⟩ := h
  have q := h10 (by decide)
  have cp := clampI (x := pl') (by omega)
  have ep : pl'.toNatClampNeg = pl'.toInt.toNat := by omega
  have em : pl.toInt.toNat = pl'.toInt.toNat + 1 := by omega
  rw [ep] at et
  have eW1 : cW ew pl.toInt.toNat = cW ew pl'.toInt.toNat + (if t.toInt = 3 ∨ t.toInt = 7 then 1 else 0) := by
    rw [em, et]; rfl
  have eB1 : cB ew pl.toInt.toNat = cB ew pl'.toInt.toNat + (if t.toInt = 1 ∨ t.toInt = 2 ∨ t.toInt = 4 ∨ t.toInt = 5 ∨ t.toInt = 6 then 1 else 0) := by
    rw [em, et]; rfl
  rw [if_neg (by omega)] at eB1
  rcases hw with ⟨t3, w3⟩ | ⟨t3, w3⟩
  · rw [if_pos (by omega)] at eW1
    exact ⟨by omega, h2.less (by omega), by omega, by omega, h5, h6, h7', h8, fun z => absurd z (by decide), fun _ => ⟨by rw [q.1]; omega, by omega, by omega⟩⟩
  · rw [if_neg (by omega)] at eW1
    exact ⟨by omega, h2.less (by omega), by omega, by omega, h5, h6, h7', h8, fun z => absurd z (by decide), fun _ => ⟨by rw [q.1]; omega, by omega, by omega⟩⟩
theorem PQ.start {un ur pl co rb : Int32} {ew es cd ew0 : Nat → Int32} (ee : ew = upd ew0 (0 : Int32).toNatClampNeg 8) (hpl : pl.toInt = 1) (hur : 0 ≤ ur.toInt) (h0 : 0 ≤ co.toInt) (hr : 560 * rb.toInt ≤ co.toInt) (hu : co.toInt - 560 * rb.toInt ≤ 9 * un.toInt) : PQ 1 pl 0 un ur co rb co ew es cd := by
  have h8 : (ew 0).toInt = 8 := by
    rw [ee, show (0 : Nat) = (0 : Int32).toNatClampNeg by decide, pk_us]; decide
  have e1 : (1 : Int32).toInt = 1 := by decide
  have e0 : (0 : Int32).toInt = 0 := by decide
  have en : pl.toInt.toNat = 1 := by omega
  refine ⟨by omega, ?_, ?_, by omega, h0, hr, Int.le_refl _, fun n hn => absurd hn (by omega), fun _ => ⟨by omega, ?_, by omega, by omega⟩, fun z => absurd z (by decide)⟩
  · rw [en]; exact ⟨fun _ => h8, fun i h1 h2 => absurd h2 (by omega)⟩
  · rw [en]
    rw [e0]; simp [cW, h8]
  · rw [en, show (co.toInt - co.toInt).toNat = 0 by omega]
    simp [hg, cB, h8]
/-- outside a .. b the rows are the same -/
def Fe (cd' cd : Nat → Int32) (a b : Int32) : Prop := ∀ j : Nat, ((j : Int) < a.toInt ∨ b.toInt ≤ (j : Int)) → cd' j = cd j
theorem Fe.rf {cd : Nat → Int32} {a b : Int32} : Fe cd cd a b := fun _ _ => rfl
theorem Fe.s {cd' cd cd'' : Nat → Int32} {a b b' v : Int32} (h : Fe cd' cd a b) (h0 : 0 ≤ b.toInt) (hab : a.toInt ≤ b.toInt) (hb : b'.toInt = b.toInt + 1) (e : cd'' = upd cd' b.toNatClampNeg v) : Fe cd'' cd a b' := by
  intro j hj
  have c := clampI h0
  rw [e, pk_un (by omega)]
  exact h j (by omega)
theorem Fe.trans {c0 c1 c2 : Nat → Int32} {a b b' : Int32} (h : Fe c1 c0 a b) (h2 : Fe c2 c1 b b') (hab : a.toInt ≤ b.toInt) (hb : b.toInt ≤ b'.toInt) : Fe c2 c0 a b' := by
  intro j hj
  rw [h2 j (by omega)]
  exact h j (by omega)
theorem PQ.w1 {w pl wi un ur co rb a : Int32} {ew es cd : Nat → Int32} (h : PQ w pl wi un ur co rb a ew es cd) (hw : w.toInt = 1) : PQ 1 pl wi un ur co rb a ew es cd := by
  have e : w = 1 := L_eq hw (by decide : (1 : Int32).toInt = 1) rfl
  rw [← e]; exact h
theorem PQ.w0 {w pl wi un ur co rb a : Int32} {ew es cd : Nat → Int32} (h : PQ w pl wi un ur co rb a ew es cd) (hw : w.toInt = 0) : PQ 0 pl wi un ur co rb a ew es cd := by
  have e : w = 0 := L_eq hw (by decide : (0 : Int32).toInt = 0) rfl
  rw [← e]; exact h
theorem PQ.top1 {w pl wi un ur co rb a t i : Int32} {ew es cd : Nat → Int32} (h : PQ w pl wi un ur co rb a ew es cd) (hpl : 1 ≤ pl.toInt) (hi : i.toInt = pl.toInt - 1) (et : t = ew i.toNatClampNeg) : 1 ≤ t.toInt := by
  obtain ⟨h1, h2, -⟩ := h
  have ci := clampI (x := i) (by omega)
  by_cases e : i.toNatClampNeg = 0
  · rw [et, e, h2.1 (by omega)]; decide
  · rw [et]; exact (h2.2 i.toNatClampNeg (by omega) (by omega)).1
theorem PQ.gp {w pl wi un ur co rb a : Int32} {ew es cd : Nat → Int32} (h : PQ w pl wi un ur co rb a ew es cd) : Gp cd a.toInt co.toInt := h.2.2.2.2.2.2.2.1
theorem PQ.fin {w pl wi un ur co rb a : Int32} {ew es cd : Nat → Int32} (h : PQ w pl wi un ur co rb a ew es cd) (hw : 0 ≤ w.toInt ∧ w.toInt ≤ 1) (hp : pl.toInt ≤ 0) : co.toInt - 560 * rb.toInt ≤ 9 * un.toInt ∧ 560 * rb.toInt ≤ co.toInt := by
  obtain ⟨h1, h2, h3, h4, h5, h6, h7', h8, h9, h10⟩ := h
  by_cases e : w.toInt = 1
  · have := (h9 e).1; omega
  · have := h10 (by omega); omega
-- the two banks: what is read into one leaves the other as it is
def sg (f : Nat → Int32) (sz k : Int32) : Int32 := if k < sz then f k.toNatClampNeg &&& 255 else 0
section BB
variable {b rb : Int32}
theorem SO.other {ms so : Nat → Int32} {i v y : Int32} (h : SO b ms so) (hb : b.toInt + rb.toInt = 1 ∧ 0 ≤ b.toInt ∧ 0 ≤ rb.toInt) (r : Rg 2 0 6 ms) (hi : 6 * rb.toInt ≤ i.toInt ∧ i.toInt ≤ 6 * rb.toInt + 5) : SO b (upd ms (rb : Int32).toNatClampNeg v) (upd so (i : Int32).toNatClampNeg y) := by
  intro m hm
  have c1 := clampI hb.2.1
  have c2 := clampI hb.2.2
  have c3 := clampI (x := i) (by omega)
  have rr := r b.toNatClampNeg (by omega)
  rw [pk_un (by omega)] at hm
  rw [pk_un (by omega)]
  exact h m hm
theorem SO.two {ms so : Nat → Int32} {i y y' : Int32} : SO b ms (upd (upd so (i : Int32).toNatClampNeg y') (i : Int32).toNatClampNeg y) ↔ SO b ms (upd so (i : Int32).toNatClampNeg y) := by
  rw [upd_tw]
theorem SO.add {ms so : Nat → Int32} {i x v y : Int32} (h : SO rb ms so) (hb : 0 ≤ rb.toInt) (ex : x = ms rb.toNatClampNeg) (h0 : 0 ≤ x.toInt) (hv : v.toInt = x.toInt + 1) (hi : i.toInt = 6 * rb.toInt + x.toInt) (hy : y.toInt < x.toInt) : SO rb (upd ms (rb : Int32).toNatClampNeg v) (upd so (i : Int32).toNatClampNeg y) := by
  intro m hm
  have c2 := clampI hb
  have c3 := clampI (x := i) (by omega)
  rw [pk_us] at hm
  by_cases e : 6 * rb.toNatClampNeg + m = i.toNatClampNeg
  · rw [e, pk_us]; omega
  · rw [pk_un e]; exact h m (by rw [← ex]; omega)
theorem KO.other {rs ks ko : Nat → Int32} {i v y : Int32} (h : KO b rs ks ko) (hb : b.toInt + rb.toInt = 1 ∧ 0 ≤ b.toInt ∧ 0 ≤ rb.toInt) (r : Rg 2 0 8 rs) (hi : 8 * rb.toInt ≤ i.toInt ∧ i.toInt ≤ 8 * rb.toInt + 7) : KO b (upd rs (rb : Int32).toNatClampNeg v) ks (upd ko (i : Int32).toNatClampNeg y) := by
  intro m hm
  have c1 := clampI hb.2.1
  have c2 := clampI hb.2.2
  have c3 := clampI (x := i) (by omega)
  have rr := r b.toNatClampNeg (by omega)
  rw [pk_un (by omega)] at hm
  rw [pk_un (by omega)]
  exact h m hm
theorem KO.add {rs ks ko : Nat → Int32} {i x v y : Int32} (h : KO rb rs ks ko) (hb : 0 ≤ rb.toInt) (ex : x = rs rb.toNatClampNeg) (h0 : 0 ≤ x.toInt) (hv : v.toInt = x.toInt + 1) (hi : i.toInt = 8 * rb.toInt + x.toInt) (hy : y.toInt < (ks rb.toNatClampNeg).toInt) : KO rb (upd rs (rb : Int32).toNatClampNeg v) ks (upd ko (i : Int32).toNatClampNeg y) := by
  intro m hm
  have c2 := clampI hb
  have c3 := clampI (x := i) (by omega)
  rw [pk_us] at hm
  by_cases e : 8 * rb.toNatClampNeg + m = i.toNatClampNeg
  · rw [e, pk_us]; exact hy
  · rw [pk_un e]; exact h m (by rw [← ex]; omega)
theorem KO.otherK {rs ks ko : Nat → Int32} {v : Int32} (h : KO b rs ks ko) (hb : b.toInt + rb.toInt = 1 ∧ 0 ≤ b.toInt ∧ 0 ≤ rb.toInt) : KO b rs (upd ks (rb : Int32).toNatClampNeg v) ko := by
  intro m hm
  have c1 := clampI hb.2.1
  have c2 := clampI hb.2.2
  rw [pk_un (by omega)]
  exact h m hm
theorem KO.more {rs ks ko : Nat → Int32} {x v : Int32} (h : KO rb rs ks ko) (ex : x = ks rb.toNatClampNeg) (hv : v.toInt = x.toInt + 1) : KO rb rs (upd ks (rb : Int32).toNatClampNeg v) ko := by
  intro m hm
  have q := h m hm
  rw [← ex] at q
  rw [pk_us]; omega
theorem SO.clear {ms so : Nat → Int32} : SO rb (upd ms (rb : Int32).toNatClampNeg 0) so := by
  intro m hm
  rw [pk_us] at hm
  have e : (0 : Int32).toInt = 0 := by decide
  omega
theorem SO.otherC {ms so : Nat → Int32} {v : Int32} (h : SO b ms so) (hb : b.toInt + rb.toInt = 1 ∧ 0 ≤ b.toInt ∧ 0 ≤ rb.toInt) : SO b (upd ms (rb : Int32).toNatClampNeg v) so := by
  intro m hm
  have c1 := clampI hb.2.1
  have c2 := clampI hb.2.2
  rw [pk_un (by omega)] at hm
  exact h m hm
theorem KO.clear {rs ks ko : Nat → Int32} {v : Int32} : KO rb (upd rs (rb : Int32).toNatClampNeg 0) (upd ks (rb : Int32).toNatClampNeg v) ko := by
  intro m hm
  rw [pk_us] at hm
  have e : (0 : Int32).toInt = 0 := by decide
  omega
theorem KO.otherC {rs ks ko : Nat → Int32} {v w : Int32} (h : KO b rs ks ko) (hb : b.toInt + rb.toInt = 1 ∧ 0 ≤ b.toInt ∧ 0 ≤ rb.toInt) : KO b (upd rs (rb : Int32).toNatClampNeg w) (upd ks (rb : Int32).toNatClampNeg v) ko := by
  intro m hm
  have c1 := clampI hb.2.1
  have c2 := clampI hb.2.2
  rw [pk_un (by omega)] at hm ⊢
  exact h m hm
theorem RB.clear {ks rf rt cd : Nat → Int32} {B : Int} : RB rb B (upd ks (rb : Int32).toNatClampNeg 0) rf rt cd := by
  intro m hm
  rw [pk_us] at hm
  have e : (0 : Int32).toInt = 0 := by decide
  omega
theorem RO.otherC {ks rf rt cd : Nat → Int32} {v : Int32} (h : RO b ks rf rt cd) (hb : b.toInt + rb.toInt = 1 ∧ 0 ≤ b.toInt ∧ 0 ≤ rb.toInt) : RO b (upd ks (rb : Int32).toNatClampNeg v) rf rt cd := by
  intro m hm
  have c1 := clampI hb.2.1
  have c2 := clampI hb.2.2
  rw [pk_un (by omega)] at hm
  exact h m hm
/-- a rule read into the other bank -/
theorem RO.other {ks rf rt cd cd' : Nat → Int32} {x a c v w : Int32} (h : RO b ks rf rt cd) (hb : b.toInt + rb.toInt = 1 ∧ 0 ≤ b.toInt ∧ 0 ≤ rb.toInt) (r : Rg 2 0 4 ks) (h0 : 0 ≤ x.toInt ∧ x.toInt ≤ 3) (hf : Fe cd' cd a c) (ha : 560 * rb.toInt ≤ a.toInt) (hc : c.toInt ≤ 560 * rb.toInt + 560) : RO b (upd ks (rb : Int32).toNatClampNeg w) (upd rf (4 * rb.toNatClampNeg + x.toNatClampNeg) v) (upd rt (4 * rb.toNatClampNeg + x.toNatClampNeg) c) cd' := by
  intro k hk
  have c1 := clampI hb.2.1
  have c2 := clampI hb.2.2
  have c3 := clampI h0.1
  have rr := r b.toNatClampNeg (by omega)
  rw [pk_un (by omega)] at hk
  have q := h k hk
  rw [pk_un (by omega), pk_un (by omega)]
  exact ⟨q.1, q.2.1, q.2.2.keep (by omega) (fun z h1 h2 => hf z (by omega))⟩
theorem RB.add {ks rf rt cd cd' : Nat → Int32} {a c x v : Int32} (h : RB rb a.toInt ks rf rt cd) (hb : 0 ≤ rb.toInt) (ex : x = ks rb.toNatClampNeg) (h0 : 0 ≤ x.toInt) (hv : v.toInt = x.toInt + 1) (hf : Fe cd' cd a c) (hg : Gp cd' a.toInt c.toInt) (ha : 560 * rb.toInt ≤ a.toInt) (hac : a.toInt ≤ c.toInt) : RB rb c.toInt (upd ks (rb : Int32).toNatClampNeg v) (upd rf (4 * rb.toNatClampNeg + x.toNatClampNeg) a) (upd rt (4 * rb.toNatClampNeg + x.toNatClampNeg) c) cd' := by
  intro k hk
  have c2 := clampI hb
  have c3 := clampI h0
  rw [pk_us] at hk
  by_cases e : 4 * rb.toNatClampNeg + k = 4 * rb.toNatClampNeg + x.toNatClampNeg
  · rw [e, pk_us, pk_us]
    exact ⟨ha, Int.le_refl _, hg⟩
  · have q := h k (by rw [← ex]; omega)
    rw [pk_un e, pk_un e]
    exact ⟨q.1, by omega, q.2.2.keep (by omega) (fun z h1 h2 => hf z (by omega))⟩
theorem RB.ro {ks rf rt cd : Nat → Int32} {c : Int32} (h : RB rb c.toInt ks rf rt cd) (hc : c.toInt ≤ 560 * rb.toInt + 560) : RO rb ks rf rt cd := fun k hk => ⟨(h k hk).1, Int.le_trans (h k hk).2.1 hc, (h k hk).2.2⟩
end BB
