-- ints by their Int values: comparisons, arithmetic, rows of ranges
theorem E_lt {x y : Int32} {a b : Int} (hx : x.toInt = a) (hy : y.toInt = b) (h : x < y) : a < b := by rw [← hx, ← hy]; exact Int32.lt_iff_toInt_lt.mp h
theorem E_nlt {x y : Int32} {a b : Int} (hx : x.toInt = a) (hy : y.toInt = b) (h : ¬ x < y) : b ≤ a := by rw [← hx, ← hy]; exact Int.not_lt.mp (fun q => h (Int32.lt_iff_toInt_lt.mpr q))
theorem E_le {x y : Int32} {a b : Int} (hx : x.toInt = a) (hy : y.toInt = b) (h : x ≤ y) : a ≤ b := by rw [← hx, ← hy]; exact Int32.le_iff_toInt_le.mp h
theorem E_nle {x y : Int32} {a b : Int} (hx : x.toInt = a) (hy : y.toInt = b) (h : ¬ x ≤ y) : b < a := by rw [← hx, ← hy]; exact Int.not_le.mp (fun q => h (Int32.le_iff_toInt_le.mpr q))
theorem E_eq {x y : Int32} {a b : Int} (hx : x.toInt = a) (hy : y.toInt = b) (h : x = y) : a = b := by rw [← hx, ← hy, h]
theorem E_ne {x y : Int32} {a b : Int} (hx : x.toInt = a) (hy : y.toInt = b) (h : ¬ x = y) : a ≠ b := by rw [← hx, ← hy]; exact fun q => h (Int32.toInt_inj.mp q)
theorem L_lt {x y : Int32} {a b : Int} (hx : x.toInt = a) (hy : y.toInt = b) (h : a < b) : x < y := Int32.lt_iff_toInt_lt.mpr (by rw [hx, hy]; exact h)
theorem L_nlt {x y : Int32} {a b : Int} (hx : x.toInt = a) (hy : y.toInt = b) (h : b ≤ a) : ¬ x < y := fun q => absurd (E_lt hx hy q) (Int.not_lt.mpr h)
theorem L_le {x y : Int32} {a b : Int} (hx : x.toInt = a) (hy : y.toInt = b) (h : a ≤ b) : x ≤ y := Int32.le_iff_toInt_le.mpr (by rw [hx, hy]; exact h)
theorem L_nle {x y : Int32} {a b : Int} (hx : x.toInt = a) (hy : y.toInt = b) (h : b < a) : ¬ x ≤ y := fun q => absurd (E_le hx hy q) (Int.not_le.mpr h)
theorem L_eq {x y : Int32} {a b : Int} (hx : x.toInt = a) (hy : y.toInt = b) (h : a = b) : x = y := Int32.toInt_inj.mp (by rw [hx, hy]; exact h)
theorem L_ne {x y : Int32} {a b : Int} (hx : x.toInt = a) (hy : y.toInt = b) (h : a ≠ b) : ¬ x = y := fun q => h (E_eq hx hy q)
theorem I_rng (x : Int32) : -2147483648 ≤ x.toInt ∧ x.toInt < 2147483648 := by
  have h1 := Int32.le_toInt x
  have h2 := Int32.toInt_lt x
  omega
theorem I_bmod {z : Int} (h1 : -2147483648 ≤ z) (h2 : z < 2147483648) : z.bmod (2 ^ 32) = z := by
  rw [Int.bmod_def]
  omega
theorem I_add {x y : Int32} {a b : Int} (hx : x.toInt = a) (hy : y.toInt = b) (h1 : -2147483648 ≤ a + b) (h2 : a + b < 2147483648) : (x + y).toInt = a + b := by
  rw [Int32.toInt_add, hx, hy]; exact I_bmod h1 h2
theorem I_sub {x y : Int32} {a b : Int} (hx : x.toInt = a) (hy : y.toInt = b) (h1 : -2147483648 ≤ a - b) (h2 : a - b < 2147483648) : (x - y).toInt = a - b := by
  rw [Int32.toInt_sub, hx, hy]; exact I_bmod h1 h2
theorem I_mul {x y : Int32} {a b : Int} (hx : x.toInt = a) (hy : y.toInt = b) (h1 : -2147483648 ≤ a * b) (h2 : a * b < 2147483648) : (x * y).toInt = a * b := by
  rw [Int32.toInt_mul, hx, hy]; exact I_bmod h1 h2
theorem I_nI {x : Int32} (h : 0 ≤ x.toInt) : ∃ n : Nat, x = nI n ∧ (n : Int) = x.toInt ∧ n < 2 ^ 31 := by
  have h2 := (I_rng x).2
  refine ⟨x.toInt.toNat, ?_, by omega, by omega⟩
  apply Int32.toInt_inj.mp
  rw [nI_toInt (by omega)]
  omega
/-- and with a number that isn't negative -/
theorem I_and {x m : Int32} {b : Int} (hm : m.toInt = b) (h0 : 0 ≤ b) : 0 ≤ (x &&& m).toInt ∧ (x &&& m).toInt ≤ b := by
  obtain ⟨n, rfl, hn, hl⟩ := I_nI (x := m) (by omega)
  have e : (x &&& nI n) = nI (x.toBitVec.toNat &&& n) := by
    apply Int32.toBitVec_inj.1
    apply BitVec.eq_of_toNat_eq
    rw [Int32.toBitVec_and, BitVec.toNat_and, pk_tn (by omega), pk_tn]
    exact Nat.lt_of_le_of_lt Nat.and_le_right (by omega)
  have hle : x.toBitVec.toNat &&& n ≤ n := Nat.and_le_right
  rw [e, nI_toInt (by omega)]
  omega
theorem I_div {x y : Int32} {a b : Int} (hx : x.toInt = a) (hy : y.toInt = b) (h0 : 0 ≤ a) (h1 : 0 < b) : (x / y).toInt = a / b := by
  obtain ⟨n, rfl, hn, hl⟩ := I_nI (x := x) (by omega)
  obtain ⟨d, rfl, hd, hl2⟩ := I_nI (x := y) (by omega)
  rw [pk_div hl (by omega) hl2]
  rw [nI_toInt (Nat.lt_of_le_of_lt (Nat.div_le_self n d) hl), ← hx, ← hy, ← hn, ← hd]
  simp
theorem I_rem {x y : Int32} {a b : Int} (hx : x.toInt = a) (hy : y.toInt = b) (h0 : 0 ≤ a) (h1 : 0 < b) : (x - x / y * y).toInt = a % b := by
  obtain ⟨n, rfl, hn, hl⟩ := I_nI (x := x) (by omega)
  obtain ⟨d, rfl, hd, hl2⟩ := I_nI (x := y) (by omega)
  rw [pk_rem hl (by omega) hl2]
  rw [nI_toInt (Nat.lt_of_le_of_lt (Nat.mod_le n d) hl), ← hx, ← hy, ← hn, ← hd]
  simp
theorem I_ushr {x s v : Int32} (k : Nat) (hk : 0 < k) (hk2 : k < 32) (hs : ((s.toUInt32 &&& Int32.toUInt32 31).toBitVec % 32).toNat = k) (hv : (x.toUInt32 >>> (s.toUInt32 &&& Int32.toUInt32 31)).toInt32 = v) : 0 ≤ v.toInt ∧ v.toInt < 2 ^ (32 - k) := by
  have h1 := pk_ushr x s k hs
  rw [hv] at h1
  have h2 : x.toBitVec.toNat < 2 ^ 32 := x.toBitVec.isLt
  have h3 : v.toBitVec.toNat < 2 ^ (32 - k) := by
    rw [h1, Nat.div_lt_iff_lt_mul (Nat.two_pow_pos k), ← Nat.pow_add]
    have : 32 - k + k = 32 := by omega
    rw [this]
    exact h2
  have h4 : 2 ^ (32 - k) ≤ 2 ^ 31 := Nat.pow_le_pow_right (by decide) (by omega)
  have h5 : v.toInt = (v.toBitVec.toNat : Int) := by
    show v.toBitVec.toInt = _
    rw [BitVec.toInt_eq_toNat_cond, if_pos (by omega)]
  rw [h5]
  constructor
  · omega
  · exact_mod_cast h3
/-- a row whose first n places lie between two numbers -/
def Rg (n : Nat) (lo hi : Int) (f : Nat → Int32) : Prop := ∀ k, k < n → lo ≤ (f k).toInt ∧ (f k).toInt ≤ hi
theorem Rg.rd {n : Nat} {lo hi : Int} {f : Nat → Int32} {i z : Int32} (h : Rg n lo hi f) (hin : vp_in i n) (e : z = f i.toNatClampNeg) : lo ≤ z.toInt ∧ z.toInt ≤ hi := by
  rw [e]; exact h _ (Nat.not_le.mp fun q => hin (Or.inr q))
theorem Rg.upd {n : Nat} {lo hi : Int} {f : Nat → Int32} {i : Nat} {v : Int32} (h : Rg n lo hi f) (hv : lo ≤ v.toInt ∧ v.toInt ≤ hi) : Rg n lo hi (upd f i v) := by
  intro k hk
  by_cases e : k = i
  · rw [e, pk_us]; exact hv
  · rw [pk_un e]; exact h k hk
theorem Rg.z {n : Nat} {lo hi : Int} (h : lo ≤ 0 ∧ 0 ≤ hi) : Rg n lo hi z0 := fun _ _ => h
theorem Rg.cpy {n sp dp c m : Nat} {lo hi : Int} {f g : Nat → Int32} (hf : Rg m lo hi f) (hg : Rg n lo hi g) (h : sp + c ≤ m) : Rg n lo hi (va_cpy f g sp dp c) := by
  intro k hk
  by_cases e : dp ≤ k ∧ k < dp + c
  · rw [pk_cpy_in e.1 e.2]; exact hf _ (by omega)
  · rw [pk_cpy_out (by omega)]; exact hg k hk
theorem Rg.mono {n m : Nat} {lo hi lo' hi' : Int} {f : Nat → Int32} (h : Rg n lo hi f) (hm : m ≤ n) (h1 : lo' ≤ lo) (h2 : hi ≤ hi') : Rg m lo' hi' f := fun k hk => ⟨Int.le_trans h1 (h k (by omega)).1, Int.le_trans (h k (by omega)).2 h2⟩
theorem tsplitL (x : Int32) (lo : Int) (n : Nat) (h1 : -2147483648 ≤ lo) (h2 : lo + n ≤ 2147483648) : (x.toInt < lo ∨ lo + n ≤ x.toInt) ∨ ∃ j : Nat, j < n ∧ x = Int32.ofInt (lo + j) := by
  rcases Int.lt_or_le x.toInt lo with h | h
  · exact Or.inl (Or.inl h)
  · rcases Int.lt_or_le x.toInt (lo + n) with h3 | h3
    · refine Or.inr ⟨(x.toInt - lo).toNat, by omega, ?_⟩
      have e : lo + ((x.toInt - lo).toNat : Int) = x.toInt := by omega
      rw [e, Int32.ofInt_toInt]
    · exact Or.inl (Or.inr h3)
theorem clampI {x : Int32} (h : 0 ≤ x.toInt) : (x.toNatClampNeg : Int) = x.toInt := by
  show (x.toInt.toNat : Int) = _
  omega
theorem I_min {x y : Int32} {a b : Int} (hx : x.toInt = a) (hy : y.toInt = b) : (if y < x then y else x).toInt = min a b := by
  split
  · rename_i h; have := E_lt hy hx h; omega
  · rename_i h; have := E_nlt hy hx h; omega
theorem I_max {x y : Int32} {a b : Int} (hx : x.toInt = a) (hy : y.toInt = b) : (if x < y then y else x).toInt = max a b := by
  split
  · rename_i h; have := E_lt hx hy h; omega
  · rename_i h; have := E_nlt hx hy h; omega
section KK
variable {p : Program} {l : Launch} {e : Env} {R : Room} {s : State} {m : MethodId} {args : Array Value} {below : List Frame} {meth : Method} {c : Code} {H : Heap} {locs : List Loc} {cells slots : Nat} {Q : State → Prop}
/-- a place where ways meet -/
theorem k_cut {gf : JFrame} (pc : Nat) (Inv : Heap → List Loc → Array Slot → Prop)
    (hcut : ∀ (H : Heap) (locs : List Loc) (ls : Array Slot), Inv H locs ls → W p l e R s m args below meth c H locs cells slots Q (F0 m pc ls []))
    (hmain : (∀ (H : Heap) (locs : List Loc) (ls : Array Slot), Inv H locs ls → W p l e R s m args below meth c H locs cells slots Q (F0 m pc ls [])) → W p l e R s m args below meth c H locs cells slots Q gf) : W p l e R s m args below meth c H locs cells slots Q gf := hmain hcut
end KK
/-- a pair's two halves, without 'cases' (dear in a large context) -/
theorem pr_all {A B : Type} {P : A × B → Prop} (h : ∀ (a : A) (b : B), P (a, b)) : ∀ u : A × B, P u := fun u => h u.1 u.2
