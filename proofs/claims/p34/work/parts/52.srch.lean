-- the reference's search: bits, slots, what its rows tell of each other
def Bz (x r : Int32) : Prop := ((x >>> (r &&& 31)) &&& 1).toInt = 0
theorem and1 (x : Int32) : (x &&& 1).toInt = x.toInt % 2 := by
  have h := pk_and x (m := 1) 1 (by decide)
  rw [h, nI_toInt (by omega)]
  have e : x.toInt = BitVec.toInt x.toBitVec := rfl
  rw [e, BitVec.toInt_eq_toNat_cond]
  split <;> omega
theorem Bz_N {x r : Int32} (hx : 0 ≤ x.toInt) (hr : 0 ≤ r.toInt ∧ r.toInt ≤ 7) : Bz x r ↔ x.toInt.toNat / 2 ^ r.toInt.toNat % 2 = 0 := by
  obtain ⟨n, rfl, hn, hl⟩ := I_nI (x := r) hr.1
  obtain ⟨k, rfl, hk, hkl⟩ := I_nI (x := x) hx
  unfold Bz
  rw [and1, pk_shr (nI k) ((nI n) &&& 31) n (sm32 n (by omega)), Int.shiftRight_eq_div_pow]
  have e1 : (nI k).toInt.toNat = k := by omega
  have e2 : (nI n).toInt.toNat = n := by omega
  rw [e1, e2, ← hk]
  constructor
  · intro h
    have : ((k / 2 ^ n % 2 : Nat) : Int) = 0 := by rw [Int.natCast_emod, Int.natCast_ediv]; exact h
    omega
  · intro h
    have : ((k / 2 ^ n % 2 : Nat) : Int) = 0 := by rw [h]; rfl
    rw [Int.natCast_emod, Int.natCast_ediv] at this
    exact this
theorem Bz_or {x y r : Int32} (h : Bz (x ||| y) r) : Bz x r := by
  unfold Bz at h ⊢
  have e : ((x ||| y) >>> (r &&& 31)) = (x >>> (r &&& 31)) ||| (y >>> (r &&& 31)) := by
    apply Int32.toBitVec_inj.1
    simp only [Int32.toBitVec_shiftRight, Int32.toBitVec_or, BitVec.sshiftRight_eq']
    exact BitVec.sshiftRight_or_distrib _ _ _
  rw [e] at h
  have d : (((x >>> (r &&& 31)) ||| (y >>> (r &&& 31))) &&& 1) = ((x >>> (r &&& 31)) &&& 1) ||| ((y >>> (r &&& 31)) &&& 1) := by
    apply Int32.toBitVec_inj.1
    simp only [Int32.toBitVec_and, Int32.toBitVec_or]
    ext i
    simp [Bool.and_or_distrib_right]
  rw [d] at h
  have h1 := I_and (x := x >>> (r &&& 31)) (m := 1) (b := 1) (by decide) (by decide)
  have h2 := I_and (x := y >>> (r &&& 31)) (m := 1) (b := 1) (by decide) (by decide)
  obtain ⟨n, hn, hn1, hn2⟩ := I_nI h1.1
  obtain ⟨k, hk, hk1, hk2⟩ := I_nI h2.1
  rw [hn, hk, I_orN hn2 hk2] at h
  rw [hn]
  rw [hn, nI_toInt hn2] at h1
  rw [hk, nI_toInt hk2] at h2
  have h3 : n ||| k < 2 ^ 31 := Nat.or_lt_two_pow hn2 hk2
  rw [nI_toInt h3] at h
  rw [nI_toInt hn2]
  have h4 : n ≤ n ||| k := Nat.left_le_or
  omega
def pc8 (x : Int32) : Nat := pcN 8 x.toInt.toNat
theorem pc8_le (x : Int32) (h : 0 ≤ x.toInt ∧ x.toInt ≤ 255) : pc8 x ≤ 8 := by
  have t := tb4 x.toInt.toNat (by omega)
  unfold pc8
  rw [← t.2]; exact t.1
theorem tbS : ∀ x : Nat, x < 256 → ∀ r : Nat, r < 8 → x / 2 ^ r % 2 = 0 → pcN 8 (x ||| 2 ^ r) = pcN 8 x + 1 := by decide +kernel
theorem pc8_s {x r b v : Int32} (hx : 0 ≤ x.toInt ∧ x.toInt ≤ 255) (hr : 0 ≤ r.toInt ∧ r.toInt ≤ 7) (hz : Bz x r) (eb : b = (1 : Int32) <<< (r &&& 31)) (ev : v = x ||| b) : pc8 v = pc8 x + 1 := by
  have hz2 := (Bz_N hx.1 hr).mp hz
  obtain ⟨n, rfl, hn, hl⟩ := I_nI (x := r) hr.1
  obtain ⟨k, rfl, hk, hkl⟩ := I_nI (x := x) hx.1
  have h8 := pk_shlN (n := 1) ((nI n) &&& 31) n (sm32 n (by omega)) (by rw [Nat.one_mul]; exact Nat.lt_of_le_of_lt (Nat.pow_le_pow_right (by decide) (show n ≤ 7 by omega)) (by decide))
  rw [Nat.one_mul] at h8
  have h9 : (nI 1 : Int32) = 1 := rfl
  rw [h9] at h8
  have h7 : 2 ^ n ≤ 2 ^ 7 := Nat.pow_le_pow_right (by decide) (by omega)
  have h31 : 2 ^ n < 2 ^ 31 := Nat.lt_of_le_of_lt h7 (by decide)
  have e1 : (nI k).toInt.toNat = k := by omega
  have e2 : (nI n).toInt.toNat = n := by omega
  rw [e1, e2] at hz2
  have t := tbS k (by omega) n (by omega) hz2
  have ho : k ||| 2 ^ n < 2 ^ 31 := Nat.or_lt_two_pow hkl h31
  unfold pc8
  rw [ev, eb, h8, I_orN hkl h31, nI_toInt ho, nI_toInt hkl]
  exact t
theorem pc8_0 {x v : Int32} (ev : v = x ||| 0) : pc8 v = pc8 x := by rw [ev, Int32.or_zero]
def cz (f : Nat → Int32) : Nat → Nat
  | 0 => 0
  | n + 1 => cz f n + (if f n = 0 then 0 else 1)
theorem cz_upd (f : Nat → Int32) (i : Nat) (v : Int32) : ∀ n : Nat, cz (upd f i v) n ≤ cz f n + 1 ∧ (n ≤ i → cz (upd f i v) n = cz f n)
  | 0 => ⟨by simp [cz], fun _ => rfl⟩
  | n + 1 => by
    obtain ⟨h1, h2⟩ := cz_upd f i v n
    by_cases e : n = i
    · have h3 := h2 (by omega)
      refine ⟨?_, fun h => absurd h (by omega)⟩
      show cz (upd f i v) n + (if upd f i v n = 0 then 0 else 1) ≤ cz f n + (if f n = 0 then 0 else 1) + 1
      rw [h3]
      split <;> split <;> omega
    · have e2 : upd f i v n = f n := pk_un e
      constructor
      · show cz (upd f i v) n + (if upd f i v n = 0 then 0 else 1) ≤ cz f n + (if f n = 0 then 0 else 1) + 1
        rw [e2]; omega
      · intro h
        show cz (upd f i v) n + (if upd f i v n = 0 then 0 else 1) = cz f n + (if f n = 0 then 0 else 1)
        rw [e2, h2 (by omega)]
theorem cz_free {f : Nat → Int32} : ∀ {n : Nat}, cz f n < n → ∃ j : Nat, j < n ∧ f j = 0
  | 0, h => absurd h (by omega)
  | n + 1, h => by
    by_cases e : f n = 0
    · exact ⟨n, by omega, e⟩
    · have h2 : cz f n + (if f n = 0 then 0 else 1) < n + 1 := h
      rw [if_neg e] at h2
      obtain ⟨j, hj, hz⟩ := cz_free (f := f) (n := n) (by omega)
      exact ⟨j, by omega, hz⟩
theorem cz_zero {f : Nat → Int32} : ∀ {n : Nat}, (∀ j : Nat, j < n → f j = 0) → cz f n = 0
  | 0, _ => rfl
  | n + 1, h => by
    show cz f n + (if f n = 0 then 0 else 1) = 0
    rw [if_pos (h n (by omega)), cz_zero (fun j hj => h j (by omega))]
/-- how many slots are taken -/
def CZ (sl : Nat → Int32) (st : Int32) : Prop := (cz sl 8192 : Int) < st.toInt
theorem CZ.free {sl : Nat → Int32} {st : Int32} (h : CZ sl st) (hs : st.toInt ≤ 3000) : ∃ j : Nat, j < 8192 ∧ sl j = 0 := by
  unfold CZ at h
  exact cz_free (n := 8192) (by omega)
/-- what the states' rows tell of each other: bg .. ov: the level gone from, ov .. st: the new one's, lv -/
def SJ (bg ov st lv : Int32) (u0 u1 cf lo sl : Nat → Int32) : Prop :=
  1 ≤ ov.toInt ∧ ov.toInt ≤ st.toInt ∧ (lo 0).toInt = 0 ∧ (∀ k : Nat, 1 ≤ k → (k : Int) < st.toInt → 0 ≤ (cf k).toInt ∧ (cf k).toInt < st.toInt ∧ (lo k).toInt = (lo (cf k).toNatClampNeg).toInt + 1) ∧
  (∀ k : Nat, (k : Int) < st.toInt → (lo k).toInt ≤ (pc8 (u0 k) : Int) + pc8 (u1 k)) ∧ CZ sl st ∧ (∀ k : Nat, bg.toInt ≤ k → (k : Int) < ov.toInt → (lo k).toInt = lv.toInt - 1) ∧ (∀ k : Nat, ov.toInt ≤ k → (k : Int) < st.toInt → (lo k).toInt = lv.toInt)
/-- the same between two levels -/
def SI (st lv : Int32) (u0 u1 cf lo sl la : Nat → Int32) : Prop :=
  1 ≤ st.toInt ∧ 1 ≤ lv.toInt ∧ (lo 0).toInt = 0 ∧ (∀ k : Nat, 1 ≤ k → (k : Int) < st.toInt → 0 ≤ (cf k).toInt ∧ (cf k).toInt < st.toInt ∧ (lo k).toInt = (lo (cf k).toNatClampNeg).toInt + 1) ∧
  (∀ k : Nat, (k : Int) < st.toInt → (lo k).toInt ≤ (pc8 (u0 k) : Int) + pc8 (u1 k)) ∧ CZ sl st ∧ (∀ k : Nat, (la (lv.toInt - 1).toNat).toInt ≤ k → (k : Int) < st.toInt → (lo k).toInt = lv.toInt - 1)
theorem SI.cz {st lv : Int32} {u0 u1 cf lo sl la : Nat → Int32} (h : SI st lv u0 u1 cf lo sl la) : CZ sl st := h.2.2.2.2.2.1
theorem SI.l0 {st lv : Int32} {u0 u1 cf lo sl la : Nat → Int32} (h : SI st lv u0 u1 cf lo sl la) : (lo 0).toInt = 0 := h.2.2.1
theorem SJ.l0 {bg ov st lv : Int32} {u0 u1 cf lo sl : Nat → Int32} (h : SJ bg ov st lv u0 u1 cf lo sl) : (lo 0).toInt = 0 := h.2.2.1
theorem SJ.cz {bg ov st lv : Int32} {u0 u1 cf lo sl : Nat → Int32} (h : SJ bg ov st lv u0 u1 cf lo sl) : CZ sl st := h.2.2.2.2.2.1
theorem SJ.of {st lv bg i : Int32} {u0 u1 cf lo sl la : Nat → Int32} (h : SI st lv u0 u1 cf lo sl la) (hi : i.toInt = lv.toInt - 1) (eb : bg = la i.toNatClampNeg) : SJ bg st st lv u0 u1 cf lo sl := by
  obtain ⟨h1, h2, h3, h4, h5, h6, h7⟩ := h
  have c := clampI (x := i) (by omega)
  have e : (lv.toInt - 1).toNat = i.toNatClampNeg := by omega
  rw [e, ← eb] at h7
  exact ⟨h1, Int.le_refl _, h3, h4, h5, h6, h7, fun k q1 q2 => absurd q2 (by omega)⟩
theorem SJ.lv {bg ov st lv : Int32} {u0 u1 cf lo sl : Nat → Int32} (h : SJ bg ov st lv u0 u1 cf lo sl) (hs : ov.toInt < st.toInt) (hm : st.toInt ≤ 3000) (r0 : Rg 3001 0 255 u0) (r1 : Rg 3001 0 255 u1) : lv.toInt ≤ 16 := by
  obtain ⟨h1, h2, h3, h4, h5, h6, h7, h8⟩ := h
  have c := clampI (x := ov) (by omega)
  have a := h8 ov.toNatClampNeg (by omega) (by omega)
  have b := h5 ov.toNatClampNeg (by omega)
  have p0 := pc8_le _ (r0 ov.toNatClampNeg (by omega))
  have p1 := pc8_le _ (r1 ov.toNatClampNeg (by omega))
  omega
/-- a state that was looked for: rows written at the place st alone; where it is new it has one use more than k -/
def Pr (r : Int32) (u0' u1' u0 u1 : Nat → Int32) (st k : Int32) : Prop := (∀ j : Nat, j ≠ st.toNatClampNeg → u0' j = u0 j ∧ u1' j = u1 j) ∧ (r.toInt < 0 → pc8 (u0 k.toNatClampNeg) + pc8 (u1 k.toNatClampNeg) + 1 ≤ pc8 (u0' st.toNatClampNeg) + pc8 (u1' st.toNatClampNeg))
theorem Pr.same {r st k : Int32} {u0 u1 : Nat → Int32} (h : 0 ≤ r.toInt) : Pr r u0 u1 u0 u1 st k := ⟨fun _ _ => ⟨rfl, rfl⟩, fun q => absurd q (by omega)⟩
def Nz (s r : Int32) (a b : Int32) : Prop := (s.toInt = 0 → Bz a r) ∧ (s.toInt = 1 → Bz b r)
theorem Pr.new {r s q st k x0 x1 y0 y1 b0 b1 : Int32} {u0 u1 : Nat → Int32} (hn : Nz s q (u0 k.toNatClampNeg) (u1 k.toNatClampNeg)) (e0 : x0 = u0 k.toNatClampNeg) (e1 : x1 = u1 k.toNatClampNeg) (h0 : 0 ≤ x0.toInt ∧ x0.toInt ≤ 255) (h1 : 0 ≤ x1.toInt ∧ x1.toInt ≤ 255) (hq : 0 ≤ q.toInt ∧ q.toInt ≤ 7)
    (d0 : y0 = x0 ||| b0) (d1 : y1 = x1 ||| b1) (hc : (s.toInt = 0 ∧ b0 = (1 : Int32) <<< (q &&& 31) ∧ b1 = 0) ∨ (s.toInt = 1 ∧ b0 = 0 ∧ b1 = (1 : Int32) <<< (q &&& 31))) : Pr r (upd u0 (st : Int32).toNatClampNeg y0) (upd u1 (st : Int32).toNatClampNeg y1) u0 u1 st k := by
  refine ⟨fun j hj => ⟨pk_un hj, pk_un hj⟩, fun _ => ?_⟩
  rw [pk_us, pk_us, ← e0, ← e1]
  rw [← e0, ← e1] at hn
  rcases hc with ⟨hs, eb, ez⟩ | ⟨hs, ez, eb⟩
  · rw [pc8_s h0 hq (hn.1 hs) eb d0, pc8_0 (x := x1) (v := y1) (by rw [d1, ez])]; omega
  · rw [pc8_s h1 hq (hn.2 hs) eb d1, pc8_0 (x := x0) (v := y0) (by rw [d0, ez])]; omega
theorem SJ.seen {bg ov st lv r k : Int32} {u0 u1 cf lo sl u0' u1' : Nat → Int32} (h : SJ bg ov st lv u0 u1 cf lo sl) (hp : Pr r u0' u1' u0 u1 st k) : SJ bg ov st lv u0' u1' cf lo sl := by
  obtain ⟨h1, h2, h3, h4, h5, h6, h7, h8⟩ := h
  refine ⟨h1, h2, h3, h4, fun j hj => ?_, h6, h7, h8⟩
  have c := clampI (x := st) (by omega)
  have := hp.1 j (by omega)
  rw [this.1, this.2]
  exact h5 j hj
theorem SJ.push {bg ov st st' lv r k sf : Int32} {u0 u1 cf lo sl u0' u1' : Nat → Int32} (h : SJ bg ov st lv u0 u1 cf lo sl) (hp : Pr r u0' u1' u0 u1 st k) (hr : r.toInt < 0) (hs : st'.toInt = st.toInt + 1) (hk : bg.toInt ≤ k.toInt ∧ 0 ≤ k.toInt ∧ k.toInt < ov.toInt) : SJ bg ov st' lv u0' u1' (upd cf (st : Int32).toNatClampNeg k) (upd lo (st : Int32).toNatClampNeg lv) (upd sl (sf : Int32).toNatClampNeg st') := by
  obtain ⟨h1, h2, h3, h4, h5, h6, h7, h8⟩ := h
  have c := clampI (x := st) (by omega)
  have ck := clampI (x := k) (by omega)
  have hlk := h7 k.toNatClampNeg (by omega) (by omega)
  have nk : k.toNatClampNeg ≠ st.toNatClampNeg := by omega
  refine ⟨h1, by omega, ?_, fun j j1 j2 => ?_, fun j j2 => ?_, ?_, fun j j1 j2 => ?_, fun j j1 j2 => ?_⟩
  · rw [pk_un (by omega)]; exact h3
  · by_cases e : j = st.toNatClampNeg
    · rw [e, pk_us, pk_us, pk_un nk]
      exact ⟨hk.2.1, by omega, by omega⟩
    · have q := h4 j j1 (by omega)
      rw [pk_un e, pk_un e]
      have cc := clampI q.1
      rw [pk_un (by omega)]
      exact ⟨q.1, by omega, q.2.2⟩
  · by_cases e : j = st.toNatClampNeg
    · have a := hp.2 hr
      have b := h5 k.toNatClampNeg (by omega)
      rw [e, pk_us]
      omega
    · rw [pk_un e]
      have := hp.1 j e
      rw [this.1, this.2]
      exact h5 j (by omega)
  · unfold CZ at h6 ⊢
    have := (cz_upd sl (sf : Int32).toNatClampNeg st' 8192).1
    omega
  · rw [pk_un (by omega)]; exact h7 j j1 j2
  · by_cases e : j = st.toNatClampNeg
    · rw [e, pk_us]
    · rw [pk_un e]; exact h8 j j1 (by omega)
theorem SI.of {bg ov st lv lv' : Int32} {u0 u1 cf lo sl la : Nat → Int32} (h : SJ bg ov st lv u0 u1 cf lo sl) (hl : lv'.toInt = lv.toInt + 1) (h1 : 1 ≤ lv.toInt) : SI st lv' u0 u1 cf lo sl (upd (upd la (lv : Int32).toNatClampNeg ov) (lv' : Int32).toNatClampNeg st) := by
  obtain ⟨g1, g2, g3, g4, g5, g6, g7, g8⟩ := h
  have c := clampI (x := lv) (by omega)
  have c2 := clampI (x := lv') (by omega)
  refine ⟨by omega, by omega, g3, g4, g5, g6, fun k q1 q2 => ?_⟩
  have e : (lv'.toInt - 1).toNat = lv.toNatClampNeg := by omega
  rw [e, pk_un (by omega), pk_us] at q1
  rw [g8 k q1 q2]; omega
theorem SI.start {u0 u1 cf lo sl la : Nat → Int32} (hl : (lo 0).toInt = 0) (hz : ∀ k : Nat, (k : Int) < 8192 → sl k = 0) (r0 : Rg 3001 0 255 u0) (h0 : (la 0).toInt = 0) : SI 1 1 u0 u1 cf lo sl la := by
  have e : (1 : Int32).toInt = 1 := by decide
  refine ⟨by omega, by omega, hl, fun k q1 q2 => absurd q2 (by omega), fun k q => ?_, ?_, fun k q1 q2 => ?_⟩
  · obtain rfl : k = 0 := by omega
    rw [hl]; omega
  · unfold CZ
    rw [cz_zero (fun j hj => hz j (by omega)), e]; decide
  · obtain rfl : k = 0 := by omega
    rw [hl, e]; rfl
theorem SI.top {st lv i k x : Int32} {u0 u1 cf lo sl la : Nat → Int32} (h : SI st lv u0 u1 cf lo sl la) (hi : i.toInt = lv.toInt - 1) (ex : x = la i.toNatClampNeg) (h0 : 0 ≤ k.toInt) (h1 : x.toInt ≤ k.toInt) (h2 : k.toInt < st.toInt) : (lo k.toNatClampNeg).toInt = lv.toInt - 1 := by
  obtain ⟨g1, g2, g3, g4, g5, g6, g7⟩ := h
  have c := clampI (x := i) (by omega)
  have ck := clampI h0
  have e : (lv.toInt - 1).toNat = i.toNatClampNeg := by omega
  rw [e, ← ex] at g7
  exact g7 _ (by omega) (by omega)
theorem SI.up {st lv k x : Int32} {u0 u1 cf lo sl la : Nat → Int32} (h : SI st lv u0 u1 cf lo sl la) (h0 : 0 ≤ k.toInt) (h2 : k.toInt < st.toInt) (hl : 1 ≤ (lo k.toNatClampNeg).toInt) (ex : x = cf k.toNatClampNeg) : 0 ≤ x.toInt ∧ x.toInt < st.toInt ∧ (lo x.toNatClampNeg).toInt = (lo k.toNatClampNeg).toInt - 1 := by
  obtain ⟨g1, g2, g3, g4, g5, g6, g7⟩ := h
  have ck := clampI h0
  have n0 : k.toNatClampNeg ≠ 0 := fun e => by rw [e] at hl; omega
  have q := g4 k.toNatClampNeg (by omega) (by omega)
  rw [← ex] at q
  exact ⟨q.1, q.2.1, by omega⟩
theorem Nz0 {s r a b x : Int32} (hs : s.toInt = 0) (ex : x = a) (h : Bz x r) : Nz s r a b := ⟨fun _ => ex ▸ h, fun q => absurd q (by omega)⟩
theorem Nz1 {s r a b x : Int32} (hs : s.toInt = 1) (ex : x = b) (h : Bz x r) : Nz s r a b := ⟨fun q => absurd q (by omega), fun _ => ex ▸ h⟩
theorem la00 {f : Nat → Int32} : ((upd (upd f (0 : Int32).toNatClampNeg 0) (1 : Int32).toNatClampNeg 1) 0).toInt = 0 := by
  rw [pk_un (by decide), show (0 : Nat) = (0 : Int32).toNatClampNeg by decide, pk_us]; decide
/-- a state of the last level, or none -/
def Of (r st lv : Int32) (lo : Nat → Int32) : Prop := r.toInt < 0 ∨ (0 ≤ r.toInt ∧ r.toInt < st.toInt ∧ (lo r.toNatClampNeg).toInt = lv.toInt - 1)
def SF (r fo st : Int32) (lo : Nat → Int32) : Prop := r.toInt < 0 ∨ (0 ≤ fo.toInt ∧ fo.toInt < st.toInt ∧ (lo fo.toNatClampNeg).toInt = r.toInt ∧ r.toInt ≤ 16)
