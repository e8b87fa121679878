-- the search's table: what lies in a slot, in its low 12 bits, is a place below 3000
theorem low12N (x n : Nat) (hn : n < 4096) : ((x <<< 12) % 2 ^ 32 ||| n) &&& 4095 = n := by
  have e1 : ∀ a : Nat, a &&& 4095 = a % 4096 := fun a => Nat.and_two_pow_sub_one_eq_mod a 12
  rw [Nat.and_or_distrib_right, e1, e1, Nat.mod_eq_of_lt hn, Nat.shiftLeft_eq]
  have h2 : x * 2 ^ 12 % 2 ^ 32 % 4096 = 0 := by omega
  rw [h2, Nat.zero_or]
theorem low12 {r c : Int32} (h0 : 0 ≤ c.toInt) (h1 : c.toInt < 4096) : ((r <<< ((12 : Int32) &&& 31)) ||| c) &&& 4095 = c := by
  obtain ⟨n, rfl, hn, hl⟩ := I_nI h0
  apply Int32.toBitVec_inj.1
  apply BitVec.eq_of_toNat_eq
  have e1 : (((12 : Int32) &&& 31).toBitVec.smod 32) = 12#32 := by decide
  rw [Int32.toBitVec_and, Int32.toBitVec_or, Int32.toBitVec_shiftLeft, BitVec.toNat_and, BitVec.toNat_or, pk_tn (by omega)]
  have e2 : (4095 : Int32).toBitVec.toNat = 4095 := by decide
  rw [e2, e1]
  show ((r.toBitVec <<< (12#32).toNat).toNat ||| n) &&& 4095 = n
  rw [BitVec.toNat_shiftLeft]
  exact low12N _ n (by omega)
def Sl (f : Nat → Int32) : Prop := ∀ k, k < 8192 → (f k &&& 4095).toInt < 3000
theorem Sl.rd {f : Nat → Int32} {i z : Int32} (h : Sl f) (hin : vp_in i 8192) (e : z = f i.toNatClampNeg) : (z &&& 4095).toInt < 3000 := by
  rw [e]; exact h _ (Nat.not_le.mp fun q => hin (Or.inr q))
theorem Sl.upd {f : Nat → Int32} {i : Nat} {v : Int32} (h : Sl f) (hv : (v &&& 4095).toInt < 3000) : Sl (upd f i v) := by
  intro k hk
  by_cases e : k = i
  · rw [e, pk_us]; exact hv
  · rw [pk_un e]; exact h k hk
theorem Sl.z : Sl z0 := fun _ _ => (by decide : ((0 : Int32) &&& 4095).toInt < 3000)
