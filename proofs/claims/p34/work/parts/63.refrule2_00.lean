theorem PQ.wi7 {w pl wi un ur co rb a t i : Int32} {ew es cd : Nat → Int32} (h : PQ w pl wi un ur co rb a ew es cd) (hpl : 1 ≤ pl.toInt) (hi : i.toInt = pl.toInt - 1) (et : t = ew i.toNatClampNeg) (ht : t.toInt = 3 ∨ t.toInt = 7) : 1 ≤ wi.toInt := by
  obtain ⟨h1, h2, h3, _⟩ := h
  have cp := clampI (x := i) (by omega)
  have ep : i.toNatClampNeg = i.toInt.toNat := by omega
  have em : pl.toInt.toNat = i.toInt.toNat + 1 := by omega
  rw [ep] at et
  have eW1 : cW ew pl.toInt.toNat = cW ew i.toInt.toNat + (if t.toInt = 3 ∨ t.toInt = 7 then 1 else 0) := by
    rw [em, et]; rfl
  rw [if_pos ht] at eW1
  have := cW_nn ew i.toInt.toNat
  omega
