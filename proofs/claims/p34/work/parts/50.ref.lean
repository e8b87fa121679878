-- the reference: what its long row holds by place
def In (o : Nat) (v : Int) : Prop := (o = 70 → 0 ≤ v ∧ v ≤ 8) ∧ (o = 71 → 0 ≤ v ∧ v ≤ 60) ∧ (o = 73 → 0 ≤ v ∧ v ≤ 999) ∧ (14 ≤ o → o < 70 → (o - 14) % 7 < 2 → 0 ≤ v ∧ v ≤ 5) ∧ (14 ≤ o → o < 70 → 5 ≤ (o - 14) % 7 → 0 ≤ v ∧ v ≤ 255)
theorem In.mk {o : Nat} {v : Int} (h1 : o = 70 → 0 ≤ v ∧ v ≤ 8) (h2 : o = 71 → 0 ≤ v ∧ v ≤ 60) (h3 : o = 73 → 0 ≤ v ∧ v ≤ 999) (h4 : 14 ≤ o → o < 70 → (o - 14) % 7 < 2 → 0 ≤ v ∧ v ≤ 5) (h5 : 14 ≤ o → o < 70 → 5 ≤ (o - 14) % 7 → 0 ≤ v ∧ v ≤ 255) : In o v := ⟨h1, h2, h3, h4, h5⟩
theorem In.cast {o o' : Nat} {v v' : Int} (h : In o v) (e : o = o') (ev : v = v') : In o' v' := e ▸ ev ▸ h
theorem In.o0 (o : Nat) : In o 0 := In.mk (by omega) (by omega) (by omega) (by omega) (by omega)
def Im (n : Nat) (f : Nat → Int32) : Prop := ∀ k : Nat, k < n → In (k % 374) (f k).toInt
theorem Im.rd {n : Nat} {f : Nat → Int32} {i z : Int32} (h : Im n f) (hin : vp_in i n) (e : z = f i.toNatClampNeg) : In (i.toNatClampNeg % 374) z.toInt := by
  rw [e]; exact h _ (Nat.not_le.mp fun q => hin (Or.inr q))
theorem Im.upd {n : Nat} {f : Nat → Int32} {i : Nat} {v : Int32} (h : Im n f) (hv : In (i % 374) v.toInt) : Im n (upd f i v) := by
  intro k hk
  by_cases e : k = i
  · rw [e, pk_us]; exact hv
  · rw [pk_un e]; exact h k hk
theorem Im.z {n : Nat} : Im n z0 := fun _ _ => In.o0 _
def Ia (f : Nat → Int32) : Prop := Im 374 f
def Iw (f : Nat → Int32) : Prop := Im 15334 f
def Ib (f : Nat → Int32) : Prop := Im 1122 f
theorem Ia.z : Ia z0 := Im.z
theorem Iw.z : Iw z0 := Im.z
theorem Ib.z : Ib z0 := Im.z
theorem clampN (n : Nat) (h : n < 2147483648) : (nI n).toNatClampNeg = n := by
  have := clampI (x := nI n) (by rw [nI_toInt h]; omega)
  rw [nI_toInt h] at this
  omega
