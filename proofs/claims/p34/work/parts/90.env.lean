theorem bw_1428 : Cond.instantiable RX11 14 ∈ gT := gT_tb 24 (by decide +kernel) (by decide +kernel)
theorem bw_1429 : Cond.instantiable RX12 87 ∈ gT := gT_tb 1288 (by decide +kernel) (by decide +kernel)
theorem bw_1430 : Cond.initialized RJ3 ∈ gT := gT_tb 6 (by decide +kernel) (by decide +kernel)
theorem aK_of {args : Array Value} {s : State} {ty : FieldType} (h : (Cond.arrayClass ty).before args s = true) : ∃ cA, ArrOfT s cA ty ∧ s.vm.findClass ("[" ++ ty.toString) = some cA := by
  obtain ⟨cA, kA, comp, h1, h2, h3⟩ := Cond.arrayClass_spec h
  exact ⟨cA, fun n z => ⟨fun k h => (by cases h), kA, h2, comp, h3⟩, h1⟩
def txB : List Int32 := [109, 97, 110, 32, 100, 105, 101, 115, 32, 99, 111, 105, 110, 32, 115, 111, 110, 32, 107, 105, 110, 100, 32, 114, 101, 97, 115, 111, 110, 32, 111, 102, 32, 98, 121, 32, 102, 114, 111, 109, 32, 116, 111, 32, 114, 101, 110, 116, 32, 97, 108, 108, 32, 101, 97, 99, 104, 32, 100, 117, 101, 108, 32, 119, 105, 116, 104, 32, 111, 110, 32, 104, 111, 110, 111, 117, 114, 32, 100, 114, 97, 119, 32, 111, 114, 32, 97, 110, 100, 32, 110, 111, 116, 32, 100, 97, 121, 32, 117, 115, 101, 115, 32, 115, 112, 101, 110, 116, 32]
abbrev txT : Term := .string "DuelDelays$Tokens" 15
set_option maxRecDepth 100000 in
theorem tx_mem : ∀ j, j < 109 → Cond.eq (.elem (.field txT "java/lang/String" "value" "[B") (.int (Int32.ofNat j))) (.int (([txB].getD 0 []).getD j 0)) ∈ flatC (Jvm.Cond.and given_1 narrow_1) := by decide +kernel
def sqB : List Int32 := [59, 40, 41, 60, 62, 61, 43, 45, 42, 47, 37]
abbrev sqT : Term := .string "DuelDelays$Tokens" 86
set_option maxRecDepth 100000 in
theorem sq_mem : ∀ j, j < 11 → Cond.eq (.elem (.field sqT "java/lang/String" "value" "[B") (.int (Int32.ofNat j))) (.int (([sqB].getD 0 []).getD j 0)) ∈ flatC (Jvm.Cond.and given_1 narrow_1) := by decide +kernel
set_option maxHeartbeats 40000000 in
set_option maxRecDepth 100000 in
theorem law_env {p : Program} {s : State} {m : MethodId} {meth : Method} {c : Code} {b L : Nat} {xs : Nat → Int32} (C0 : lw_At p s m meth c b L xs) : ∃ (g : GG) (aV : Nat) (fb : Nat → Int32) (aW : Nat) (fw : Nat → Int32), kE g s ∧ sE g.2.2.2.2.2.2.1 109 aV fb (fun q => s.heap.size ≤ q) s s.heap ∧ sE g.2.2.2.2.2.2.2 11 aW fw (fun q => s.heap.size ≤ q) s s.heap := by
  obtain ⟨hx, hb, hr, hml, hown, hts, hXs, hbl, hlocks, hgv⟩ := id C0
  have hT : ∀ w ∈ gT, w.before #[Value.ref b] s = true := fun w h => hts w (List.mem_filter.mp h).1
  have hs := flat_of_before _ hgv
  obtain ⟨c0, iS0, hKn0⟩ := u_known (C := RX0) (T := TX0) (N := 8) (n := 8) hT inF_X0 (hT _ bw_1386)
  obtain ⟨c1, iS1, hKn1⟩ := u_known (C := RX1) (T := TX1) (N := 2) (n := 2) hT inF_X1 (hT _ bw_1421)
  obtain ⟨c2, iS2, hKn2⟩ := u_known (C := RX2) (T := TX2) (N := 9) (n := 9) hT inF_X2 (hT _ bw_1404)
  obtain ⟨c3, iS3, hKn3⟩ := u_known (C := RX3) (T := TX3) (N := 5) (n := 5) hT inF_X3 (hT _ bw_1382)
  obtain ⟨c4, iS4, hKn4⟩ := u_known (C := RX4) (T := TX4) (N := 4) (n := 4) hT inF_X4 (hT _ bw_1417)
  obtain ⟨c5, iS5, hKn5⟩ := u_known (C := RX5) (T := TX5) (N := 7) (n := 7) hT inF_X5 (hT _ bw_1400)
  obtain ⟨c6, iS6, hKn6⟩ := u_known (C := RX6) (T := TX6) (N := 8) (n := 8) hT inF_X6 (hT _ bw_1390)
  obtain ⟨c7, iS7, hKn7⟩ := u_known (C := RX7) (T := TX7) (N := 12) (n := 12) hT inF_X7 (hT _ bw_1409)
  obtain ⟨c8, iS8, hKn8⟩ := u_known (C := RX8) (T := TX8) (N := 6) (n := 6) hT inF_X8 (hT _ bw_1413)
  obtain ⟨c9, iS9, hKn9⟩ := u_known (C := RX9) (T := TX9) (N := 14) (n := 14) hT inF_X9 (hT _ bw_1424)
  obtain ⟨c10, iS10, hKn10⟩ := u_known (C := RX10) (T := TX10) (N := 8) (n := 8) hT inF_X10 (hT _ bw_1348)
  obtain ⟨c11, iS11, hKn11⟩ := u_known (C := RX11) (T := TX11) (N := 14) (n := 14) hT inF_X11 (hT _ bw_1428)
  obtain ⟨c12, iS12, hKn12⟩ := u_known (C := RX12) (T := TX12) (N := 87) (n := 87) hT inF_X12 (hT _ bw_1429)
  obtain ⟨dC, dI, hKc⟩ : ∃ (dC : Nat → ClassId) (dI : Nat → Nat → Nat), ∀ (k : Nat) (q : vw_C), vwCl[k]? = some q → u_Kn s q.1 q.2.1 q.2.2 (dC k) (dI k) := by
    refine ⟨fun k => [c0, c1, c2, c3, c4, c5, c6, c7, c8, c9, c10, c11, c12].getD k c0, fun k => [iS0, iS1, iS2, iS3, iS4, iS5, iS6, iS7, iS8, iS9, iS10, iS11, iS12].getD k iS0, ?_⟩
    intro k q hq
    match k, hq with
    | 0, hq => cases hq; exact hKn0
    | 1, hq => cases hq; exact hKn1
    | 2, hq => cases hq; exact hKn2
    | 3, hq => cases hq; exact hKn3
    | 4, hq => cases hq; exact hKn4
    | 5, hq => cases hq; exact hKn5
    | 6, hq => cases hq; exact hKn6
    | 7, hq => cases hq; exact hKn7
    | 8, hq => cases hq; exact hKn8
    | 9, hq => cases hq; exact hKn9
    | 10, hq => cases hq; exact hKn10
    | 11, hq => cases hq; exact hKn11
    | 12, hq => cases hq; exact hKn12
    | k + 13, hq => simp [vwCl] at hq
  obtain ⟨cB, hB1, hB2⟩ := aK_of (hT _ bw_1396)
  obtain ⟨cI, hI1, hI2⟩ := aK_of (hT _ bw_1354)
  obtain ⟨cJ, hJ1, hJ2⟩ := aK_of (hT _ bw_1340)
  obtain ⟨cZ, hZ1, hZ2⟩ := aK_of (hT _ bw_1376)
  have hao : (Cond.arrayOver (.object "DuelDelays$State")).before #[Value.ref b] s = true := (hts _ (List.mem_append_right _ (List.mem_of_getElem? (i := 335) (by decide +kernel))))
  obtain ⟨comp, cO, kO, f1, f2, f3, f4, f5⟩ := Cond.arrayOver_spec hao
  have hnA : ∀ a : Nat, a < s.heap.size → ¬ (fun q => s.heap.size ≤ q) a := fun a h => Nat.not_le.mpr h
  obtain ⟨adK1, adV1, hvS1, hev1⟩ := vk_Sof (args := #[Value.ref b]) (s := s) (N := 1) (tm := fun _ => txT) (len := [109]) (byt := [txB]) (A := fun q => s.heap.size ≤ q) (fun i hi => by obtain rfl : i = 0 := (by omega); decide) (fun i hi => hs _ (by decide +kernel)) (fun i hi => hs _ (by decide +kernel)) (fun i hi => hs _ (by decide +kernel)) (fun i hi => by obtain rfl : i = 0 := (by omega); exact hs _ (by decide +kernel)) (fun i hi j hj => by obtain rfl : i = 0 := (by omega); exact hs _ (tx_mem j hj)) (fun i j hi hj hij => absurd (by omega) hij) hnA
  have hsx1 := hvS1.1 0 (by decide)
  obtain ⟨adK2, adV2, hvS2, hev2⟩ := vk_Sof (args := #[Value.ref b]) (s := s) (N := 1) (tm := fun _ => sqT) (len := [11]) (byt := [sqB]) (A := fun q => s.heap.size ≤ q) (fun i hi => by obtain rfl : i = 0 := (by omega); decide) (fun i hi => hs _ (by decide +kernel)) (fun i hi => hs _ (by decide +kernel)) (fun i hi => hs _ (by decide +kernel)) (fun i hi => by obtain rfl : i = 0 := (by omega); exact hs _ (by decide +kernel)) (fun i hi j hj => by obtain rfl : i = 0 := (by omega); exact hs _ (sq_mem j hj)) (fun i j hi hj hij => absurd (by omega) hij) hnA
  have hsx2 := hvS2.1 0 (by decide)
  have hcs : va_Z "java/lang/String" "COMPACT_STRINGS" "Z" (.int 1) (fun q => s.heap.size ≤ q) s s.heap := va_Zof (hts _ (List.mem_append_right _ (List.mem_of_getElem? (i := 53) (by decide +kernel)))) (hT _ bw_562) (va_eqi (hs _ (by decide +kernel))) hnA
  have hsf : va_Zq "jdk/internal/util/Preconditions" "SIOOBE_FORMATTER" "Ljava/util/function/BiFunction;" (fun q => s.heap.size ≤ q) s s.heap := va_Zqof (hts _ (List.mem_append_right _ (List.mem_of_getElem? (i := 69) (by decide +kernel)))) (hT _ bw_1430) (hs _ (by decide +kernel)) hnA
  refine ⟨((dC, dI), (cB, cI, cJ, cZ, cO, (adK1 0, adK2 0))), adV1 0, fun j => ([txB].getD 0 []).getD j 0, adV2 0, fun j => ([sqB].getD 0 []).getD j 0, ⟨⟨hKc, ?_⟩, ?_⟩, ⟨hsx1.1, hsx1.2.1, hsx1.2.2.1, hsx1.2.2.2, hcs, hsf⟩, ⟨hsx2.1, hsx2.2.1, hsx2.2.2.1, hsx2.2.2.2, hcs, hsf⟩⟩
  · intro k q h
    match k, h with
    | 0, h => cases h; exact ⟨hB1, hB2⟩
    | 1, h => cases h; exact ⟨hI1, hI2⟩
    | 2, h => cases h; exact ⟨hJ1, hJ2⟩
    | 3, h => cases h; exact ⟨hZ1, hZ2⟩
    | 4, h => cases h; exact ⟨fun n z => ⟨fun k h => (by cases h), kO, f3, comp, f4⟩, kO, comp, f3, f4, f1, f5⟩
    | k + 5, h => simp [tyL] at h
  · exact ⟨va_Nw.of rfl (hts _ (List.mem_append_right _ (List.mem_of_getElem? (i := 33) (by decide +kernel)))), va_Nw.of rfl (hts _ (List.mem_append_right _ (List.mem_of_getElem? (i := 153) (by decide +kernel)))), va_Nw.of rfl (hts _ (List.mem_append_right _ (List.mem_of_getElem? (i := 338) (by decide +kernel)))), va_Nw.of rfl (hts _ (List.mem_append_right _ (List.mem_of_getElem? (i := 382) (by decide +kernel)))), va_Nw.of rfl (hts _ (List.mem_append_right _ (List.mem_of_getElem? (i := 409) (by decide +kernel)))), va_Nw.of rfl (hts _ (List.mem_append_right _ (List.mem_of_getElem? (i := 430) (by decide +kernel)))), va_Nw.of rfl (hts _ (List.mem_append_right _ (List.mem_of_getElem? (i := 444) (by decide +kernel)))), va_Nw.of rfl (hts _ (List.mem_append_right _ (List.mem_of_getElem? (i := 159) (by decide +kernel)))), va_Nw.of rfl (hts _ (List.mem_append_right _ (List.mem_of_getElem? (i := 196) (by decide +kernel)))), va_Nw.of rfl (hts _ (List.mem_append_right _ (List.mem_of_getElem? (i := 231) (by decide +kernel)))), va_Nw.of rfl (hts _ (List.mem_append_right _ (List.mem_of_getElem? (i := 808) (by decide +kernel)))), va_Nw.of rfl (hts _ (List.mem_append_right _ (List.mem_of_getElem? (i := 699) (by decide +kernel)))), va_Nw.of rfl (hts _ (List.mem_append_right _ (List.mem_of_getElem? (i := 1067) (by decide +kernel)))), va_Nw.of rfl (hts _ (List.mem_append_right _ (List.mem_of_getElem? (i := 894) (by decide +kernel)))), va_Nw.of rfl (hts _ (List.mem_append_right _ (List.mem_of_getElem? (i := 614) (by decide +kernel)))), va_AO.of hao, vk_R.of (hts _ (List.mem_append_right _ (List.mem_of_getElem? (i := 43) (by decide +kernel)))) (hev1 0 (by decide)), vk_R.of (hts _ (List.mem_append_right _ (List.mem_of_getElem? (i := 628) (by decide +kernel)))) (hev2 0 (by decide))⟩
