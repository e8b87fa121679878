-- more of ints: or, shifts; where ways meet
theorem I_orN {n m : Nat} (hn : n < 2 ^ 31) (hm : m < 2 ^ 31) : (nI n ||| nI m) = nI (n ||| m) := by
  apply Int32.toBitVec_inj.1
  apply BitVec.eq_of_toNat_eq
  have h := Nat.or_lt_two_pow hn hm
  rw [Int32.toBitVec_or, BitVec.toNat_or, pk_tn (by omega), pk_tn (by omega), pk_tn (by omega)]
theorem I_xorN {n m : Nat} (hn : n < 2 ^ 31) (hm : m < 2 ^ 31) : (nI n ^^^ nI m) = nI (n ^^^ m) := by
  apply Int32.toBitVec_inj.1
  apply BitVec.eq_of_toNat_eq
  have h := Nat.xor_lt_two_pow hn hm
  rw [Int32.toBitVec_xor, BitVec.toNat_xor, pk_tn (by omega), pk_tn (by omega), pk_tn (by omega)]
theorem I_or {x y : Int32} {a b : Int} (k : Nat) (B : Int) (hB : ((2 ^ k : Nat) : Int) = B) (hk : k ≤ 30) (hx : x.toInt = a) (hy : y.toInt = b) (ha : 0 ≤ a ∧ a < B) (hb : 0 ≤ b ∧ b < B) : 0 ≤ (x ||| y).toInt ∧ (x ||| y).toInt < B := by
  obtain ⟨n, rfl, hn, hl⟩ := I_nI (x := x) (by omega)
  obtain ⟨m, rfl, hm, hl2⟩ := I_nI (x := y) (by omega)
  have h1 : n < 2 ^ k := Int.ofNat_lt.mp (by rw [hB]; omega)
  have h2 : m < 2 ^ k := Int.ofNat_lt.mp (by rw [hB]; omega)
  have h3 := Nat.or_lt_two_pow h1 h2
  have h4 : 2 ^ k ≤ 2 ^ 30 := Nat.pow_le_pow_right (by decide) hk
  rw [I_orN hl hl2, nI_toInt (Nat.lt_of_lt_of_le h3 (Nat.le_trans h4 (by decide)))]
  have h5 := Int.ofNat_lt.mpr h3
  rw [hB] at h5
  exact ⟨Int.natCast_nonneg _, h5⟩
theorem I_xor {x y : Int32} {a b : Int} (k : Nat) (B : Int) (hB : ((2 ^ k : Nat) : Int) = B) (hk : k ≤ 30) (hx : x.toInt = a) (hy : y.toInt = b) (ha : 0 ≤ a ∧ a < B) (hb : 0 ≤ b ∧ b < B) : 0 ≤ (x ^^^ y).toInt ∧ (x ^^^ y).toInt < B := by
  obtain ⟨n, rfl, hn, hl⟩ := I_nI (x := x) (by omega)
  obtain ⟨m, rfl, hm, hl2⟩ := I_nI (x := y) (by omega)
  have h1 : n < 2 ^ k := Int.ofNat_lt.mp (by rw [hB]; omega)
  have h2 : m < 2 ^ k := Int.ofNat_lt.mp (by rw [hB]; omega)
  have h3 := Nat.xor_lt_two_pow h1 h2
  have h4 : 2 ^ k ≤ 2 ^ 30 := Nat.pow_le_pow_right (by decide) hk
  rw [I_xorN hl hl2, nI_toInt (Nat.lt_of_lt_of_le h3 (Nat.le_trans h4 (by decide)))]
  have h5 := Int.ofNat_lt.mpr h3
  rw [hB] at h5
  exact ⟨Int.natCast_nonneg _, h5⟩
theorem I_and2 {x y : Int32} {a : Int} (hx : x.toInt = a) (h0 : 0 ≤ a) : 0 ≤ (x &&& y).toInt ∧ (x &&& y).toInt ≤ a := by
  rw [Int32.and_comm]; exact I_and hx h0
theorem I_andm {x m : Int32} {a : Int} (k : Nat) (B : Int) (hB : ((2 ^ k : Nat) : Int) = B) (hm : m.toBitVec.toNat = 2 ^ k - 1) (hk : k ≤ 30) (hx : x.toInt = a) (h0 : 0 ≤ a) : (x &&& m).toInt = a % B := by
  obtain ⟨n, rfl, hn, hl⟩ := I_nI (x := x) (by omega)
  have h4 : 2 ^ k ≤ 2 ^ 30 := Nat.pow_le_pow_right (by decide) hk
  have h5 : n % 2 ^ k < 2 ^ k := Nat.mod_lt _ (Nat.two_pow_pos k)
  rw [pk_andN (by omega) k hm, nI_toInt (Nat.lt_of_lt_of_le h5 (Nat.le_trans h4 (by decide))), ← hx, ← hn, ← hB]
  exact Int.natCast_emod n (2 ^ k)
theorem sm32 : ∀ n : Nat, n < 32 → (((nI n) &&& 31).toBitVec.smod 32).toNat = n := by decide +kernel
theorem I_shl1 {y : Int32} {b : Int} (e : Nat) (B : Int) (hB : ((2 ^ e : Nat) : Int) = B) (hy : y.toInt = b) (h0 : 0 ≤ b) (h1 : b ≤ e) (he : e ≤ 30) : 1 ≤ ((1 : Int32) <<< (y &&& 31)).toInt ∧ ((1 : Int32) <<< (y &&& 31)).toInt ≤ B := by
  obtain ⟨n, rfl, hn, hl⟩ := I_nI (x := y) (by omega)
  have hne : n ≤ e := by omega
  have h4 : 2 ^ n ≤ 2 ^ e := Nat.pow_le_pow_right (by decide) hne
  have h5 : 2 ^ e ≤ 2 ^ 30 := Nat.pow_le_pow_right (by decide) he
  have h6 : 0 < 2 ^ n := Nat.two_pow_pos n
  have h7 : 2 ^ n < 2 ^ 31 := Nat.lt_of_le_of_lt (Nat.le_trans h4 h5) (by decide)
  have h8 := pk_shlN (n := 1) ((nI n) &&& 31) n (sm32 n (by omega)) (by rw [Nat.one_mul]; exact Nat.lt_trans h7 (by decide))
  rw [Nat.one_mul] at h8
  have h9 : (nI 1 : Int32) = 1 := rfl
  rw [h9] at h8
  rw [h8, nI_toInt h7]
  have h10 := Int.ofNat_le.mpr h4
  rw [hB] at h10
  exact ⟨Int.ofNat_le.mpr h6, h10⟩
theorem I_shr {x s : Int32} {a : Int} (k : Nat) (B : Int) (hB : ((2 ^ k : Nat) : Int) = B) (hs : (s.toBitVec.smod 32).toNat = k) (hx : x.toInt = a) : (x >>> s).toInt = a / B := by
  rw [pk_shr x s k hs, hx, Int.shiftRight_eq_div_pow, hB]
section KM
variable {p : Program} {l : Launch} {e : Env} {R : Room} {s : State} {m : MethodId} {args : Array Value} {below : List Frame} {meth : Method} {c : Code} {H : Heap} {locs : List Loc} {cells slots : Nat} {Q : State → Prop}
/-- a place where ways meet, with what lies on the stack -/
theorem k_cutS {gf : JFrame} (pc : Nat) (Inv : Heap → List Loc → Array Slot → List Value → Prop)
    (hcut : ∀ (H : Heap) (locs : List Loc) (ls : Array Slot) (stk : List Value), Inv H locs ls stk → W p l e R s m args below meth c H locs cells slots Q (F0 m pc ls stk))
    (hmain : (∀ (H : Heap) (locs : List Loc) (ls : Array Slot) (stk : List Value), Inv H locs ls stk → W p l e R s m args below meth c H locs cells slots Q (F0 m pc ls stk)) → W p l e R s m args below meth c H locs cells slots Q gf) : W p l e R s m args below meth c H locs cells slots Q gf := hmain hcut
end KM
-- how many bits: what Integer.bitCount reckons, and that it grows with the bits
def pcN : Nat → Nat → Nat
  | 0, _ => 0
  | k + 1, n => n % 2 + pcN k (n / 2)
def nb1 (M n : Nat) : Nat := n - (n / 2 &&& M)
def nb2 (M n : Nat) : Nat := (n &&& M) + (n / 4 &&& M)
def nb3 (M n : Nat) : Nat := (n + n / 16) &&& M
def nbT (l : Nat) : Nat := nb3 15 (nb2 51 (nb1 85 l))
theorem and_split {l m : Nat} (h k : Nat) (hl : l < 256) (hm : m < 256) : (l + 256 * h) &&& (m + 256 * k) = (l &&& m) + 256 * (h &&& k) := by
  have e1 : l + 256 * h = 2 ^ 8 * h + l := by omega
  have e2 : m + 256 * k = 2 ^ 8 * k + m := by omega
  have e3 : (l &&& m) + 256 * (h &&& k) = 2 ^ 8 * (h &&& k) + (l &&& m) := by omega
  have h3 : l &&& m < 2 ^ 8 := Nat.and_lt_two_pow l (n := 8) hm
  rw [e1, e2, e3]
  apply Nat.eq_of_testBit_eq
  intro i
  rw [Nat.testBit_and, Nat.testBit_two_pow_mul_add h (i := 8) hl i, Nat.testBit_two_pow_mul_add k (i := 8) hm i, Nat.testBit_two_pow_mul_add (h &&& k) (i := 8) h3 i]
  split
  · rw [Nat.testBit_and]
  · rw [Nat.testBit_and]
theorem tb1 : ∀ l : Nat, l < 256 → ∀ b : Nat, b < 2 → (l / 2 + 128 * b) &&& 85 = (l / 2) &&& 85 := by decide +kernel
theorem tb2 : ∀ l : Nat, l < 256 → ∀ b : Nat, b < 4 → (l / 4 + 64 * b) &&& 51 = (l / 4) &&& 51 := by decide +kernel
theorem tb4 : ∀ l : Nat, l < 256 → nbT l ≤ 8 ∧ nbT l = pcN 8 l := by decide +kernel
theorem sp1 {l : Nat} (h M : Nat) (hl : l < 256) : nb1 (85 + 256 * M) (l + 256 * h) = nb1 85 l + 256 * nb1 M h := by
  have e1 : (l + 256 * h) / 2 = (l / 2 + 128 * (h % 2)) + 256 * (h / 2) := by omega
  have h1 : l / 2 &&& 85 ≤ l / 2 := Nat.and_le_left
  have h2 : h / 2 &&& M ≤ h / 2 := Nat.and_le_left
  unfold nb1
  rw [e1, and_split (h / 2) M (by omega) (by decide), tb1 l hl (h % 2) (by omega)]
  omega
theorem sp2 {l : Nat} (h M : Nat) (hl : l < 256) : nb2 (51 + 256 * M) (l + 256 * h) = nb2 51 l + 256 * nb2 M h := by
  have e1 : (l + 256 * h) / 4 = (l / 4 + 64 * (h % 4)) + 256 * (h / 4) := by omega
  unfold nb2
  rw [e1, and_split (h / 4) M (by omega) (by decide), and_split h M hl (by decide), tb2 l hl (h % 4) (by omega)]
  omega
theorem sp3 {l : Nat} (h M : Nat) (hl : l ≤ 102) (hh : h % 16 ≤ 6) : nb3 (15 + 256 * M) (l + 256 * h) = nb3 15 l + 256 * nb3 M h := by
  have e1 : l + 256 * h + (l + 256 * h) / 16 = (l + l / 16 + 16 * (h % 16)) + 256 * (h + h / 16) := by omega
  have e2 : ∀ a : Nat, a &&& 15 = a % 16 := fun a => Nat.and_two_pow_sub_one_eq_mod a 4
  unfold nb3
  rw [e1, and_split (h + h / 16) M (by omega) (by decide), e2, e2]
  omega
theorem md2 (M n : Nat) (hM : M % 16 = 3) : nb2 M n % 16 ≤ 6 := by
  have h1 : (n &&& M) % 2 ^ 4 = (n % 2 ^ 4) &&& (M % 2 ^ 4) := Nat.and_mod_two_pow
  have h2 : (n / 4 &&& M) % 2 ^ 4 = (n / 4 % 2 ^ 4) &&& (M % 2 ^ 4) := Nat.and_mod_two_pow
  have e : M % 2 ^ 4 = 3 := hM
  rw [e] at h1 h2
  have h3 : n % 2 ^ 4 &&& 3 ≤ 3 := Nat.and_le_right
  have h4 : n / 4 % 2 ^ 4 &&& 3 ≤ 3 := Nat.and_le_right
  unfold nb2
  omega
theorem le2 (n : Nat) : nb2 51 n ≤ 102 := by
  have h3 : n &&& 51 ≤ 51 := Nat.and_le_right
  have h4 : n / 4 &&& 51 ≤ 51 := Nat.and_le_right
  unfold nb2
  omega
theorem le1 {l : Nat} (M : Nat) : nb1 M l ≤ l := by unfold nb1; omega
theorem nbAll (a b c d : Nat) (ha : a < 256) (hb : b < 256) (hc : c < 256) (hd : d < 256) : nb3 252645135 (nb2 858993459 (nb1 1431655765 (a + 256 * (b + 256 * (c + 256 * d))))) = nbT a + 256 * (nbT b + 256 * (nbT c + 256 * nbT d)) := by
  have m5 : (1431655765 : Nat) = 85 + 256 * (85 + 256 * (85 + 256 * 85)) := by decide
  have m3 : (858993459 : Nat) = 51 + 256 * (51 + 256 * (51 + 256 * 51)) := by decide
  have mf : (252645135 : Nat) = 15 + 256 * (15 + 256 * (15 + 256 * 15)) := by decide
  have q : ∀ {l : Nat}, l < 256 → nb1 85 l < 256 := fun h => Nat.lt_of_le_of_lt (le1 85) h
  rw [m5, m3, mf, sp1 _ _ ha, sp1 _ _ hb, sp1 _ _ hc, sp2 _ _ (q ha), sp2 _ _ (q hb), sp2 _ _ (q hc)]
  have d1 := md2 51 (nb1 85 d) (by decide)
  have c1 := md2 51 (nb1 85 c) (by decide)
  have b1 := md2 51 (nb1 85 b) (by decide)
  rw [sp3 _ _ (le2 _) (by omega), sp3 _ _ (le2 _) (by omega), sp3 _ _ (le2 _) (by omega)]
  rfl
theorem pcS : ∀ (a k l h : Nat), l < 2 ^ a → pcN (a + k) (l + 2 ^ a * h) = pcN a l + pcN k h
  | 0, k, l, h, hl => by
    have e : l = 0 := by simp at hl; exact hl
    subst e
    simp [pcN]
  | a + 1, k, l, h, hl => by
    have e1 : a + 1 + k = (a + k) + 1 := by omega
    have e2 : 2 ^ (a + 1) * h = 2 * (2 ^ a * h) := by rw [Nat.pow_succ, Nat.mul_comm (2 ^ a) 2, Nat.mul_assoc]
    have hl2 : l / 2 < 2 ^ a := by rw [Nat.pow_succ] at hl; omega
    rw [e1, e2]
    show (l + 2 * (2 ^ a * h)) % 2 + pcN (a + k) ((l + 2 * (2 ^ a * h)) / 2) = l % 2 + pcN a (l / 2) + pcN k h
    have e3 : (l + 2 * (2 ^ a * h)) / 2 = l / 2 + 2 ^ a * h := by omega
    have e4 : (l + 2 * (2 ^ a * h)) % 2 = l % 2 := by omega
    rw [e3, e4, pcS a k (l / 2) h hl2]
    omega
theorem pcOr : ∀ (k n m : Nat), pcN k n ≤ pcN k (n ||| m)
  | 0, _, _ => Nat.le_refl _
  | k + 1, n, m => by
    have h1 := pcOr k (n / 2) (m / 2)
    have e1 : (n ||| m) / 2 = n / 2 ||| m / 2 := Nat.or_div_two
    have e2 : (n ||| m) % 2 ^ 1 = (n % 2 ^ 1) ||| (m % 2 ^ 1) := Nat.or_mod_two_pow
    have e3 : n % 2 ^ 1 ≤ (n % 2 ^ 1) ||| (m % 2 ^ 1) := Nat.left_le_or
    show n % 2 + pcN k (n / 2) ≤ (n ||| m) % 2 + pcN k ((n ||| m) / 2)
    rw [e1]
    omega
def us (x k : Int32) : Int32 := (x.toUInt32 >>> (k.toUInt32 &&& Int32.toUInt32 31)).toInt32
def bc1 (i : Int32) : Int32 := i - (us i 1 &&& 1431655765)
def bc2 (i : Int32) : Int32 := (i &&& 858993459) + (us i 2 &&& 858993459)
def bc3 (i : Int32) : Int32 := (i + us i 4) &&& 252645135
def bc4 (i : Int32) : Int32 := i + us i 8
def bc5 (i : Int32) : Int32 := i + us i 16
def BC (i : Int32) : Int32 := bc5 (bc4 (bc3 (bc2 (bc1 i)))) &&& 63
abbrev tN (x : Int32) : Nat := x.toBitVec.toNat
theorem us_N (x k : Int32) (n : Nat) (h : ((k.toUInt32 &&& Int32.toUInt32 31).toBitVec % 32).toNat = n) : tN (us x k) = tN x / 2 ^ n := pk_ushr x k n h
theorem and_N (x y : Int32) : tN (x &&& y) = tN x &&& tN y := by unfold tN; rw [Int32.toBitVec_and, BitVec.toNat_and]
theorem add_N {x y : Int32} (h : tN x + tN y < 2 ^ 32) : tN (x + y) = tN x + tN y := by unfold tN; rw [Int32.toBitVec_add, BitVec.toNat_add]; exact Nat.mod_eq_of_lt h
theorem sub_N {x y : Int32} (h : tN y ≤ tN x) : tN (x - y) = tN x - tN y := by unfold tN; rw [Int32.toBitVec_sub]; exact BitVec.toNat_sub_of_le (BitVec.le_def.mpr h)
theorem fin4 {a b c d : Nat} (ha : a ≤ 8) (hb : b ≤ 8) (hc : c ≤ 8) (hd : d ≤ 8) : (a + 256 * (b + 256 * (c + 256 * d)) + (a + 256 * (b + 256 * (c + 256 * d))) / 256 + (a + 256 * (b + 256 * (c + 256 * d)) + (a + 256 * (b + 256 * (c + 256 * d))) / 256) / 65536) % 64 = a + (b + (c + d)) := by
  have e1 : (a + 256 * (b + 256 * (c + 256 * d))) / 256 = b + 256 * (c + 256 * d) := by omega
  rw [e1]
  have e2 : (a + 256 * (b + 256 * (c + 256 * d)) + (b + 256 * (c + 256 * d))) / 65536 = c + d + 256 * d := by omega
  rw [e2]
  omega
theorem BC_N (x : Int32) : tN (BC x) = pcN 32 (tN x) := by
  have hx : tN x < 2 ^ 32 := x.toBitVec.isLt
  have k5 : tN (1431655765 : Int32) = 1431655765 := by decide
  have k3 : tN (858993459 : Int32) = 858993459 := by decide
  have kf : tN (252645135 : Int32) = 252645135 := by decide
  have k6 : tN (63 : Int32) = 63 := by decide
  have a1 : tN (bc1 x) = nb1 1431655765 (tN x) := by
    have e : tN (us x 1 &&& 1431655765) = tN x / 2 &&& 1431655765 := by rw [and_N, us_N x 1 1 (by decide), k5]
    have h2 : tN x / 2 &&& 1431655765 ≤ tN x / 2 := Nat.and_le_left
    unfold bc1 nb1
    rw [sub_N (by rw [e]; omega), e]
  have a2 : tN (bc2 (bc1 x)) = nb2 858993459 (nb1 1431655765 (tN x)) := by
    rw [← a1]
    generalize bc1 x = y
    have e : tN (us y 2 &&& 858993459) = tN y / 4 &&& 858993459 := by rw [and_N, us_N y 2 2 (by decide), k3]
    have e2 : tN (y &&& 858993459) = tN y &&& 858993459 := by rw [and_N, k3]
    have h2 : tN y / 4 &&& 858993459 ≤ 858993459 := Nat.and_le_right
    have h3 : tN y &&& 858993459 ≤ 858993459 := Nat.and_le_right
    unfold bc2 nb2
    rw [add_N (by rw [e, e2]; omega), e, e2]
  have b2 : nb2 858993459 (nb1 1431655765 (tN x)) ≤ 1717986918 := by
    have h2 : nb1 1431655765 (tN x) / 4 &&& 858993459 ≤ 858993459 := Nat.and_le_right
    have h3 : nb1 1431655765 (tN x) &&& 858993459 ≤ 858993459 := Nat.and_le_right
    unfold nb2
    omega
  have a3 : tN (bc3 (bc2 (bc1 x))) = nb3 252645135 (nb2 858993459 (nb1 1431655765 (tN x))) := by
    rw [← a2] at b2 ⊢
    generalize bc2 (bc1 x) = y at b2
    have e : tN (us y 4) = tN y / 16 := us_N y 4 4 (by decide)
    unfold bc3 nb3
    rw [and_N, add_N (by rw [e]; omega), e, kf]
  obtain ⟨a, b, c, d, ha, hb, hc, hd, hn⟩ : ∃ a b c d : Nat, a < 256 ∧ b < 256 ∧ c < 256 ∧ d < 256 ∧ tN x = a + 256 * (b + 256 * (c + 256 * d)) := ⟨tN x % 256, tN x / 256 % 256, tN x / 65536 % 256, tN x / 16777216, by omega, by omega, by omega, by omega, by omega⟩
  have hp : pcN 32 (tN x) = nbT a + (nbT b + (nbT c + nbT d)) := by
    rw [hn, (tb4 a ha).2, (tb4 b hb).2, (tb4 c hc).2, (tb4 d hd).2]
    have s1 := pcS 8 24 a (b + 256 * (c + 256 * d)) ha
    have s2 := pcS 8 16 b (c + 256 * d) hb
    have s3 := pcS 8 8 c d hc
    have e8 : (2 : Nat) ^ 8 = 256 := by decide
    rw [e8] at s1 s2 s3
    rw [show (32 : Nat) = 8 + 24 from rfl, s1, show (24 : Nat) = 8 + 16 from rfl, s2, show (16 : Nat) = 8 + 8 from rfl, s3]
  have t1 := (tb4 a ha).1
  have t2 := (tb4 b hb).1
  have t3 := (tb4 c hc).1
  have t4 := (tb4 d hd).1
  rw [hn, nbAll a b c d ha hb hc hd] at a3
  rw [hp]
  unfold BC
  generalize bc3 (bc2 (bc1 x)) = y at a3 ⊢
  have u8 : tN (us y 8) = tN y / 256 := us_N y 8 8 (by decide)
  have a4 : tN (bc4 y) = tN y + tN y / 256 := by unfold bc4; rw [add_N (by rw [u8]; omega), u8]
  have u16 : tN (us (bc4 y) 16) = tN (bc4 y) / 65536 := us_N (bc4 y) 16 16 (by decide)
  have a5 : tN (bc5 (bc4 y)) = tN (bc4 y) + tN (bc4 y) / 65536 := by
    unfold bc5
    rw [add_N (by rw [u16, a4]; omega), u16]
  have e6 : ∀ n : Nat, n &&& 63 = n % 64 := fun n => Nat.and_two_pow_sub_one_eq_mod n 6
  rw [and_N, k6, e6, a5, a4, a3]
  exact fin4 t1 t2 t3 t4
theorem BC_or (x y : Int32) : tN (BC x) ≤ tN (BC (x ||| y)) := by
  rw [BC_N, BC_N]
  have e : tN (x ||| y) = tN x ||| tN y := by unfold tN; rw [Int32.toBitVec_or, BitVec.toNat_or]
  rw [e]
  exact pcOr 32 _ _
theorem BC_i (x : Int32) : (BC x).toInt = (tN (BC x) : Int) := by
  have h := (I_and (x := bc5 (bc4 (bc3 (bc2 (bc1 x))))) (m := 63) (b := 63) (by decide) (by decide)).1
  obtain ⟨n, hn, h1, h2⟩ := I_nI (x := BC x) h
  rw [hn, nI_toInt h2]
  show (n : Int) = ((nI n).toBitVec.toNat : Int)
  rw [pk_tn (by omega)]
def Kb (k : Int32) : Int := (BC (k >>> ((14 : Int32) &&& 31))).toInt
theorem Kb_or {k u b v w m key : Int32} (hu : u = k >>> ((14 : Int32) &&& 31)) (hv : v = u ||| b) (hw : w = v <<< ((14 : Int32) &&& 31)) (hk : key = w ||| m) (hb : 0 ≤ b.toInt ∧ b.toInt ≤ 65535) (hm : 0 ≤ m.toInt ∧ m.toInt ≤ 16383) : Kb k ≤ Kb key := by
  have hkey : key >>> ((14 : Int32) &&& 31) = u ||| b := by
    obtain ⟨n, rfl, hn, hnl⟩ := I_nI (x := m) hm.1
    obtain ⟨d, rfl, hd, hdl⟩ := I_nI (x := b) hb.1
    have hnb : (nI n).toBitVec.toNat = n := pk_tn (by omega)
    have hdb : (nI d).toBitVec.toNat = d := pk_tn (by omega)
    have e1 : (((14 : Int32) &&& 31).toBitVec.smod 32) = 14#32 := by decide
    rw [hk, hw, hv, hu]
    apply Int32.toBitVec_inj.1
    simp only [Int32.toBitVec_shiftRight, Int32.toBitVec_or, Int32.toBitVec_shiftLeft]
    rw [e1]
    apply BitVec.eq_of_getLsbD_eq
    intro i hi
    have q : (14#32).toNat = 14 := by decide
    have z1 : ∀ j, 14 ≤ j → (nI n).toBitVec.getLsbD j = false := fun j hj => by
      show (nI n).toBitVec.toNat.testBit j = false
      rw [hnb]
      exact Nat.testBit_lt_two_pow (Nat.lt_of_lt_of_le (show n < 2 ^ 14 by omega) (Nat.pow_le_pow_right (by decide) hj))
    have z2 : ∀ j, 16 ≤ j → (nI d).toBitVec.getLsbD j = false := fun j hj => by
      show (nI d).toBitVec.toNat.testBit j = false
      rw [hdb]
      exact Nat.testBit_lt_two_pow (Nat.lt_of_lt_of_le (show d < 2 ^ 16 by omega) (Nat.pow_le_pow_right (by decide) hj))
    simp only [BitVec.sshiftRight_eq', BitVec.shiftLeft_eq', q, BitVec.getLsbD_sshiftRight, BitVec.getLsbD_or, BitVec.getLsbD_shiftLeft, BitVec.msb_eq_getLsbD_last]
    by_cases h1 : 14 + i < 32
    · have z3 : (nI n).toBitVec[14 + i] = false := by rw [← BitVec.getLsbD_eq_getElem]; exact z1 (14 + i) (by omega)
      simp [h1, z3, show ¬ (32 ≤ i) by omega, show ¬ (14 + i < 14) by omega]
    · have z3 : (nI n).toBitVec[31] = false := by rw [← BitVec.getLsbD_eq_getElem]; exact z1 31 (by omega)
      have z4 : (nI d).toBitVec[17] = false := by rw [← BitVec.getLsbD_eq_getElem]; exact z2 17 (by omega)
      have z5 := z2 i (by omega)
      simp [h1, z3, z4, z5, show ¬ (32 ≤ i) by omega]
  unfold Kb
  rw [hkey, BC_i, BC_i, ← hu]
  exact Int.ofNat_le.mpr (BC_or u b)
/-- all states that were come to have at least as many uses as the first -/
def KM (n : Int32) (f : Nat → Int32) : Prop := ∀ k : Nat, (k : Int) < n.toInt → Kb (f 0) ≤ Kb (f k)
theorem KM.z {f : Nat → Int32} : KM 0 f := by
  intro k h
  have e : (0 : Int32).toInt = 0 := by decide
  omega
theorem KM.at {n i : Int32} {f : Nat → Int32} (h : KM n f) (h0 : 0 ≤ i.toInt) (h1 : i.toInt < n.toInt) : Kb (f 0) ≤ Kb (f i.toNatClampNeg) := h _ (by rw [clampI h0]; exact h1)
theorem KM.push {n m key : Int32} {f : Nat → Int32} (h : KM n f) (h0 : 0 ≤ n.toInt) (hm : m.toInt = n.toInt + 1) (hk : n.toInt = 0 ∨ Kb (f 0) ≤ Kb key) : KM m (upd f n.toNatClampNeg key) := by
  intro k hk2
  have c := clampI h0
  by_cases e : k = n.toNatClampNeg
  · rw [e, pk_us]
    by_cases e0 : 0 = n.toNatClampNeg
    · rw [← e0, pk_us]; exact Int.le_refl _
    · rw [pk_un e0]
      rcases hk with q | q
      · exact absurd (show 0 = n.toNatClampNeg by omega) e0
      · exact q
  · rw [pk_un e]
    by_cases e0 : 0 = n.toNatClampNeg
    · exact absurd hk2 (by omega)
    · rw [pk_un e0]; exact h k (by omega)
