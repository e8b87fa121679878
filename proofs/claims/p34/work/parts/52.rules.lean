-- the rules' code: how high the pile is, and that it is good; the rest that a bank keeps
def hg (cd : Nat → Int32) (a : Nat) : Nat → Int
  | 0 => 0
  | n + 1 => hg cd a n + (if (cd (a + n)).toInt = 126 then 0 else if 97 ≤ (cd (a + n)).toInt ∧ (cd (a + n)).toInt ≤ 122 then 1 else -1)
def Gp (cd : Nat → Int32) (a b : Int) : Prop := ∀ n : Nat, a + n < b → ((cd (a.toNat + n)).toInt = 126 → 1 ≤ hg cd a.toNat n) ∧ (97 ≤ (cd (a.toNat + n)).toInt → (cd (a.toNat + n)).toInt ≤ 122 → hg cd a.toNat n ≤ 59) ∧ ((cd (a.toNat + n)).toInt ≠ 126 → ((cd (a.toNat + n)).toInt < 97 ∨ 122 < (cd (a.toNat + n)).toInt) → 2 ≤ hg cd a.toNat n)
def Hq (cd : Nat → Int32) (a k n : Int32) : Prop := n.toInt = hg cd a.toNatClampNeg (k.toInt - a.toInt).toNat
theorem Hq.z {cd : Nat → Int32} {a : Int32} : Hq cd a a 0 := by
  unfold Hq
  rw [show (a.toInt - a.toInt).toNat = 0 by omega]
  rfl
theorem Hq.s {cd : Nat → Int32} {a k k' n n' c : Int32} (h : Hq cd a k n) (h0 : 0 ≤ a.toInt) (hak : a.toInt ≤ k.toInt) (hk : k'.toInt = k.toInt + 1) (ec : c = cd k.toNatClampNeg) (hn : (c.toInt = 126 ∧ n'.toInt = n.toInt) ∨ (c.toInt ≠ 126 ∧ 97 ≤ c.toInt ∧ c.toInt ≤ 122 ∧ n'.toInt = n.toInt + 1) ∨ (c.toInt ≠ 126 ∧ (c.toInt < 97 ∨ 122 < c.toInt) ∧ n'.toInt = n.toInt - 1)) : Hq cd a k' n' := by
  have c1 := clampI h0
  have c2 := clampI (x := k) (by omega)
  unfold Hq at h ⊢
  rw [show (k'.toInt - a.toInt).toNat = (k.toInt - a.toInt).toNat + 1 by omega]
  show _ = hg cd a.toNatClampNeg (k.toInt - a.toInt).toNat + _
  have e : a.toNatClampNeg + (k.toInt - a.toInt).toNat = k.toNatClampNeg := by omega
  rw [e, ← ec, ← h]
  rcases hn with q | q | q
  · rw [if_pos q.1]; omega
  · rw [if_neg q.1, if_pos (by omega)]; omega
  · rw [if_neg q.1, if_neg (by omega)]; omega
theorem Gp.at {cd : Nat → Int32} {a k n c : Int32} {B : Int} (h : Gp cd a.toInt B) (h0 : 0 ≤ a.toInt) (hak : a.toInt ≤ k.toInt) (hk : k.toInt < B) (hq : Hq cd a k n) (ec : c = cd k.toNatClampNeg) : (c.toInt = 126 → 1 ≤ n.toInt) ∧ (97 ≤ c.toInt → c.toInt ≤ 122 → n.toInt ≤ 59) ∧ (c.toInt ≠ 126 → (c.toInt < 97 ∨ 122 < c.toInt) → 2 ≤ n.toInt) := by
  have c1 := clampI h0
  have c2 := clampI (x := k) (by omega)
  have g := h (k.toInt - a.toInt).toNat (by omega)
  have e : a.toInt.toNat + (k.toInt - a.toInt).toNat = k.toNatClampNeg := by omega
  have e2 : a.toInt.toNat = a.toNatClampNeg := by omega
  unfold Hq at hq
  rw [e, ← ec, e2, ← hq] at g
  exact g
def KO (b : Int32) (rs ks ko : Nat → Int32) : Prop := ∀ r : Nat, (r : Int) < (rs b.toNatClampNeg).toInt → (ko (8 * b.toNatClampNeg + r)).toInt < (ks b.toNatClampNeg).toInt
/-- B: no rule's code lies behind it -/
def RB (b : Int32) (B : Int) (ks rf rt cd : Nat → Int32) : Prop := ∀ k : Nat, (k : Int) < (ks b.toNatClampNeg).toInt → 560 * b.toInt ≤ (rf (4 * b.toNatClampNeg + k)).toInt ∧ (rt (4 * b.toNatClampNeg + k)).toInt ≤ B ∧ Gp cd (rf (4 * b.toNatClampNeg + k)).toInt (rt (4 * b.toNatClampNeg + k)).toInt
def RO (b : Int32) (ks rf rt cd : Nat → Int32) : Prop := RB b (560 * b.toInt + 560) ks rf rt cd
def SO (b : Int32) (ms so : Nat → Int32) : Prop := ∀ m : Nat, (m : Int) < (ms b.toNatClampNeg).toInt → (so (6 * b.toNatClampNeg + m)).toInt < m
theorem KO.at {b r i x : Int32} {rs ks ko : Nat → Int32} (h : KO b rs ks ko) (hr : r.toInt < (rs b.toNatClampNeg).toInt) (h0 : 0 ≤ r.toInt) (hb : 0 ≤ b.toInt) (hi : i.toInt = 8 * b.toInt + r.toInt) (ex : x = ko i.toNatClampNeg) : x.toInt < (ks b.toNatClampNeg).toInt := by
  have c1 := clampI h0
  have c2 := clampI hb
  have c3 := clampI (x := i) (by omega)
  have g := h r.toNatClampNeg (by omega)
  rw [show 8 * b.toNatClampNeg + r.toNatClampNeg = i.toNatClampNeg by omega, ← ex] at g
  exact g
theorem SO.at {b r i x : Int32} {ms so : Nat → Int32} (h : SO b ms so) (hr : r.toInt < (ms b.toNatClampNeg).toInt) (h0 : 0 ≤ r.toInt) (hb : 0 ≤ b.toInt) (hi : i.toInt = 6 * b.toInt + r.toInt) (ex : x = so i.toNatClampNeg) : x.toInt < r.toInt := by
  have c1 := clampI h0
  have c2 := clampI hb
  have c3 := clampI (x := i) (by omega)
  have g := h r.toNatClampNeg (by omega)
  rw [show 6 * b.toNatClampNeg + r.toNatClampNeg = i.toNatClampNeg by omega, ← ex] at g
  omega
theorem RO.at {b r i a : Int32} {ks rf rt cd : Nat → Int32} (h : RO b ks rf rt cd) (hr : r.toInt < (ks b.toNatClampNeg).toInt) (h0 : 0 ≤ r.toInt) (hb : 0 ≤ b.toInt) (hi : i.toInt = 4 * b.toInt + r.toInt) (ea : a = rf i.toNatClampNeg) : Gp cd a.toInt (rt (4 * b.toNatClampNeg + r.toNatClampNeg)).toInt := by
  have c1 := clampI h0
  have c2 := clampI hb
  have c3 := clampI (x := i) (by omega)
  have g := (h r.toNatClampNeg (by omega)).2.2
  rw [show rf (4 * b.toNatClampNeg + r.toNatClampNeg) = a by rw [ea]; congr 1; omega] at g
  exact g
theorem rt_at {b r i x : Int32} {rt : Nat → Int32} (h0 : 0 ≤ r.toInt) (hb : 0 ≤ b.toInt) (hi : i.toInt = 4 * b.toInt + r.toInt) (ex : x = rt i.toNatClampNeg) : x.toInt = (rt (4 * b.toNatClampNeg + r.toNatClampNeg)).toInt := by
  have c1 := clampI h0
  have c2 := clampI hb
  have c3 := clampI (x := i) (by omega)
  rw [ex]
  congr 2
  omega
def Zl (f : Nat → Int32) (L : Int32) : Prop := ∀ k : Nat, (k : Int) < L.toInt → f k = 0
theorem Zl.z {f : Nat → Int32} : Zl f 0 := by
  intro k h
  have e : (0 : Int32).toInt = 0 := by decide
  omega
theorem Zl_s {f : Nat → Int32} {L : Int32} (h : Zl f L) (h0 : 0 ≤ L.toInt) : ∀ k : Nat, (k : Int) < L.toInt + 1 → upd f L.toNatClampNeg 0 k = 0 := by
  intro k hk
  have c1 := clampI h0
  by_cases e : k = L.toNatClampNeg
  · rw [e, pk_us]
  · rw [pk_un e]; exact h k (by omega)
