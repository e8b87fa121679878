-- the row of states, pushed on by one; the states that no method at hand names
def Sh (F : Nat → Option Nat) (c : Int32) : Nat → Option Nat := if c.toInt = 40 then (fun j => if j < 40 then F (j + 1) else if j = 40 then F 0 else F j) else F
def sf (F : Nat → Option Nat) (n : Nat) : Nat → Option Nat := fun j => if j < n then F (j + 1) else F j
theorem sf_0 (F : Nat → Option Nat) : F = sf F (0 : Int32).toNatClampNeg := by
  funext j
  have e : (0 : Int32).toNatClampNeg = 0 := by decide
  unfold sf
  rw [e, if_neg (by omega)]
theorem ns_step {F f : Nat → Option Nat} {L x : Int32} {a : Nat} (hf : f = sf F (L : Int32).toNatClampNeg) (ha : F (L.toNatClampNeg + 1) = some a) (h0 : 0 ≤ L.toInt) (hx : x.toInt = L.toInt + 1) : va_up f (L : Int32).toNatClampNeg (some a) = sf F (x : Int32).toNatClampNeg := by
  have c1 := clampI h0
  have c2 := clampI (x := x) (by omega)
  have e : x.toNatClampNeg = L.toNatClampNeg + 1 := by omega
  rw [e, hf]
  funext j
  unfold va_up sf
  by_cases h1 : j = L.toNatClampNeg
  · rw [if_pos h1, if_pos (by omega), h1, ha]
  · rw [if_neg h1]
    by_cases h2 : j < L.toNatClampNeg
    · rw [if_pos h2, if_pos (by omega)]
    · rw [if_neg h2, if_neg (by omega)]
theorem ns_1 {F : Nat → Option Nat} {c x : Int32} {a : Nat} (h : F (c.toNatClampNeg + 1) = some a) (h0 : 0 ≤ c.toInt) (hx : x.toInt = c.toInt + 1) : F x.toNatClampNeg = some a := by
  have c1 := clampI h0
  have c2 := clampI (x := x) (by omega)
  rw [show x.toNatClampNeg = c.toNatClampNeg + 1 by omega]; exact h
theorem ns_c {F : Nat → Option Nat} {c : Int32} {a : Nat} (h : F c.toNatClampNeg = some a) (hx : c.toInt = 40) : F 40 = some a := by
  have c1 := clampI (x := c) (by omega)
  rw [show 40 = c.toNatClampNeg by omega]; exact h
theorem ns_40 {f : Nat → Option Nat} {x : Int32} {a : Nat} (hx : x.toInt = 40) : va_up f (40 : Int32).toNatClampNeg (some a) x.toNatClampNeg = some a := by
  have c1 := clampI (x := x) (by omega)
  have e : (40 : Int32).toNatClampNeg = 40 := by decide
  unfold va_up
  rw [e, if_pos (by omega)]
theorem ns_39 {F f : Nat → Option Nat} {L x : Int32} {a b : Nat} (hf : f = sf F (L : Int32).toNatClampNeg) (hL : L.toInt = 40) (hx : x.toInt = 39) (hst : F 40 = some b) : va_up f (40 : Int32).toNatClampNeg (some a) x.toNatClampNeg = some b := by
  have c1 := clampI (x := x) (by omega)
  have c2 := clampI (x := L) (by omega)
  have e : (40 : Int32).toNatClampNeg = 40 := by decide
  unfold va_up
  rw [e, if_neg (by omega), hf]
  unfold sf
  rw [if_pos (by omega), show x.toNatClampNeg + 1 = 40 by omega]
  exact hst
theorem Sh_n {F : Nat → Option Nat} {c : Int32} (h : c.toInt ≠ 40) : F = Sh F c := by unfold Sh; rw [if_neg h]
theorem Sh_40 {F f : Nat → Option Nat} {c L : Int32} {a : Nat} (hf : f = sf F (L : Int32).toNatClampNeg) (hL : L.toInt = 40) (hc : c.toInt = 40) (h0 : F (0 : Int32).toNatClampNeg = some a) : va_up f (40 : Int32).toNatClampNeg (some a) = Sh F c := by
  have c2 := clampI (x := L) (by omega)
  have e : (40 : Int32).toNatClampNeg = 40 := by decide
  have e0 : (0 : Int32).toNatClampNeg = 0 := by decide
  unfold Sh
  rw [if_pos hc, hf, e]
  rw [e0] at h0
  funext j
  unfold va_up sf
  by_cases h1 : j = 40
  · rw [if_pos h1, if_neg (by omega), if_pos h1, h0]
  · rw [if_neg h1]
    by_cases h2 : j < 40
    · rw [if_pos (by omega), if_pos h2]
    · rw [if_neg (by omega), if_neg h2, if_neg h1]
def Xs (F : Nat → Option Nat) (A : Nat → Prop) (U : State) : Prop := ∀ j : Nat, 1 ≤ j → j < 40 → ∃ a : Nat, F j = some a ∧ va_O RX9 a A U U.heap
theorem Xs.calling {F : Nat → Option Nat} {A : Nat → Prop} : ∀ (U : State) (gf : JFrame) (mk : MethodId) (a : Array Value), Xs F A U → Xs F A (U.calling gf mk a) := fun U gf mk a h j h1 h2 => by
  obtain ⟨b, hb, hO⟩ := h j h1 h2
  exact ⟨b, hb, va_O.moved (u := U) (U := U.calling gf mk a) (Vm.Alike.refl U.vm) hO⟩
theorem Xs.go {F : Nat → Option Nat} {A B : Nat → Prop} {s : State} {H : Heap} {locs : List Loc} (h : Xs F A s) (hS : va_S A s.heap H locs) (hF : ∀ q, B q → A q) : ∀ U : State, U.heap = H → s.WarmedH U.vm → Xs F B U := fun U hU hW j h1 h2 => by
  obtain ⟨b, hb, hO⟩ := h j h1 h2
  refine ⟨b, hb, ?_⟩
  rw [hU]
  exact ((hO.kept hS.2.1).narrow hF).moved hW.alike
theorem any_of {g : GG} {s : State} {H : Heap} {a : Nat} (hK : kE g s) (h : ∃ cell : Cell, H[a]? = some cell ∧ cell.vm.isStatics = false ∧ s.vm.findClass RX9 = some cell.cls) : va_Any RX9 s H a := by
  obtain ⟨cell, h1, h2, h3⟩ := h
  obtain ⟨kC, hkC, -⟩ := Vm.findClass_spec h3
  have hcls := (hK.1.1 9 (RX9, TX9, 14) rfl).2
  have e : cell.cls = g.1.1 9 := Option.some.inj (h3.symm.trans hcls.1)
  refine ⟨cell, h1, h2, ⟨kC, hkC⟩, fun comp hc => ?_⟩
  have e2 : comp = g.1.1 9 := Option.some.inj (hc.symm.trans hcls.1)
  rw [e, e2]
  exact va_assign hcls
theorem any_w {g : GG} {s : State} {H : Heap} {a q0 : Nat} {ws : va_W} {fs : List Value} (hK : kE g s) (hP : va_P g.1 vwCl ws H) (he : ws[q0]? = some (a, .inr (9, fs))) : va_Any RX9 s H a := any_of hK (va_recv hK.1 hP (q := (RX9, TX9, 14)) rfl he)
theorem ns_get {g : GG} {s : State} {H : Heap} {locs : List Loc} {A : Nat → Prop} {F f : Nat → Option Nat} {L x : Int32} {b : Nat} (hX : Xs F A s) (hS : va_S A s.heap H locs) (hK : kE g s) (hst : F 40 = some b) (hany : va_Any RX9 s H b) (hf : f = sf F (L : Int32).toNatClampNeg) (h0 : 0 ≤ L.toInt) (h1 : L.toInt < 40) (hx : x.toInt = L.toInt + 1) : ∃ a : Nat, f x.toNatClampNeg = some a ∧ F (L.toNatClampNeg + 1) = some a ∧ va_Any RX9 s H a := by
  have c1 := clampI h0
  have c2 := clampI (x := x) (by omega)
  have e : x.toNatClampNeg = L.toNatClampNeg + 1 := by omega
  have e2 : f x.toNatClampNeg = F (L.toNatClampNeg + 1) := by
    rw [hf, e]
    unfold sf
    rw [if_neg (by omega)]
  rw [e2]
  by_cases h3 : L.toNatClampNeg + 1 < 40
  · obtain ⟨a, ha, hO⟩ := hX _ (by omega) h3
    obtain ⟨cell, k1, k2, k3, -⟩ := hO.kept hS.2.1
    exact ⟨a, ha, ha, any_of hK ⟨cell, k1, k2, k3⟩⟩
  · have e3 : L.toNatClampNeg + 1 = 40 := by omega
    rw [e3]
    exact ⟨b, hst, hst, hany⟩

theorem bw_502 : Cond.code yX11_nextState cX11_nextState 3 (some (.object "DuelDelays$State")) ∈ gT := gT_tb 989 (by decide +kernel) (by decide +kernel)
theorem dX11_nextState_0 : decode cX11_nextState 0 = .ok (.aload_n 0, 1) := by decide +kernel
theorem dX11_nextState_1 : decode cX11_nextState 1 = .ok (.getfield 84, 3) := by decide +kernel
theorem dX11_nextState_4 : decode cX11_nextState 4 = .ok (.bipush 40, 2) := by decide +kernel
theorem dX11_nextState_6 : decode cX11_nextState 6 = .ok (.if_icmp .ne 56, 3) := by decide +kernel
theorem dX11_nextState_9 : decode cX11_nextState 9 = .ok (.aload_n 0, 1) := by decide +kernel
theorem dX11_nextState_10 : decode cX11_nextState 10 = .ok (.getfield 32, 3) := by decide +kernel
theorem dX11_nextState_13 : decode cX11_nextState 13 = .ok (.iconst 0, 1) := by decide +kernel
theorem dX11_nextState_14 : decode cX11_nextState 14 = .ok (.aaload, 1) := by decide +kernel
theorem dX11_nextState_15 : decode cX11_nextState 15 = .ok (.astore_n 1, 1) := by decide +kernel
theorem dX11_nextState_16 : decode cX11_nextState 16 = .ok (.iconst 0, 1) := by decide +kernel
theorem dX11_nextState_17 : decode cX11_nextState 17 = .ok (.istore_n 2, 1) := by decide +kernel
theorem dX11_nextState_18 : decode cX11_nextState 18 = .ok (.iload_n 2, 1) := by decide +kernel
theorem dX11_nextState_19 : decode cX11_nextState 19 = .ok (.bipush 40, 2) := by decide +kernel
theorem dX11_nextState_21 : decode cX11_nextState 21 = .ok (.if_icmp .ge 23, 3) := by decide +kernel
theorem dX11_nextState_24 : decode cX11_nextState 24 = .ok (.aload_n 0, 1) := by decide +kernel
theorem dX11_nextState_25 : decode cX11_nextState 25 = .ok (.getfield 32, 3) := by decide +kernel
theorem dX11_nextState_28 : decode cX11_nextState 28 = .ok (.iload_n 2, 1) := by decide +kernel
theorem dX11_nextState_29 : decode cX11_nextState 29 = .ok (.aload_n 0, 1) := by decide +kernel
theorem dX11_nextState_30 : decode cX11_nextState 30 = .ok (.getfield 32, 3) := by decide +kernel
theorem dX11_nextState_33 : decode cX11_nextState 33 = .ok (.iload_n 2, 1) := by decide +kernel
theorem dX11_nextState_34 : decode cX11_nextState 34 = .ok (.iconst 1, 1) := by decide +kernel
theorem dX11_nextState_35 : decode cX11_nextState 35 = .ok (.iadd, 1) := by decide +kernel
theorem dX11_nextState_36 : decode cX11_nextState 36 = .ok (.aaload, 1) := by decide +kernel
theorem dX11_nextState_37 : decode cX11_nextState 37 = .ok (.aastore, 1) := by decide +kernel
theorem dX11_nextState_38 : decode cX11_nextState 38 = .ok (.iinc 2 1, 3) := by decide +kernel
theorem dX11_nextState_41 : decode cX11_nextState 41 = .ok (.goto (-23), 3) := by decide +kernel
theorem dX11_nextState_44 : decode cX11_nextState 44 = .ok (.aload_n 0, 1) := by decide +kernel
theorem dX11_nextState_45 : decode cX11_nextState 45 = .ok (.getfield 32, 3) := by decide +kernel
theorem dX11_nextState_48 : decode cX11_nextState 48 = .ok (.bipush 40, 2) := by decide +kernel
theorem dX11_nextState_50 : decode cX11_nextState 50 = .ok (.aload_n 1, 1) := by decide +kernel
theorem dX11_nextState_51 : decode cX11_nextState 51 = .ok (.aastore, 1) := by decide +kernel
theorem dX11_nextState_52 : decode cX11_nextState 52 = .ok (.aload_n 0, 1) := by decide +kernel
theorem dX11_nextState_53 : decode cX11_nextState 53 = .ok (.dup, 1) := by decide +kernel
theorem dX11_nextState_54 : decode cX11_nextState 54 = .ok (.getfield 84, 3) := by decide +kernel
theorem dX11_nextState_57 : decode cX11_nextState 57 = .ok (.iconst 1, 1) := by decide +kernel
theorem dX11_nextState_58 : decode cX11_nextState 58 = .ok (.isub, 1) := by decide +kernel
theorem dX11_nextState_59 : decode cX11_nextState 59 = .ok (.putfield 84, 3) := by decide +kernel
theorem dX11_nextState_62 : decode cX11_nextState 62 = .ok (.aload_n 0, 1) := by decide +kernel
theorem dX11_nextState_63 : decode cX11_nextState 63 = .ok (.getfield 32, 3) := by decide +kernel
theorem dX11_nextState_66 : decode cX11_nextState 66 = .ok (.aload_n 0, 1) := by decide +kernel
theorem dX11_nextState_67 : decode cX11_nextState 67 = .ok (.getfield 84, 3) := by decide +kernel
theorem dX11_nextState_70 : decode cX11_nextState 70 = .ok (.iconst 1, 1) := by decide +kernel
theorem dX11_nextState_71 : decode cX11_nextState 71 = .ok (.iadd, 1) := by decide +kernel
theorem dX11_nextState_72 : decode cX11_nextState 72 = .ok (.aaload, 1) := by decide +kernel
theorem dX11_nextState_73 : decode cX11_nextState 73 = .ok (.aload_n 0, 1) := by decide +kernel
theorem dX11_nextState_74 : decode cX11_nextState 74 = .ok (.getfield 32, 3) := by decide +kernel
theorem dX11_nextState_77 : decode cX11_nextState 77 = .ok (.aload_n 0, 1) := by decide +kernel
theorem dX11_nextState_78 : decode cX11_nextState 78 = .ok (.getfield 84, 3) := by decide +kernel
theorem dX11_nextState_81 : decode cX11_nextState 81 = .ok (.aaload, 1) := by decide +kernel
theorem dX11_nextState_82 : decode cX11_nextState 82 = .ok (.invokevirtual 213, 3) := by decide +kernel
theorem dX11_nextState_85 : decode cX11_nextState 85 = .ok (.aload_n 0, 1) := by decide +kernel
theorem dX11_nextState_86 : decode cX11_nextState 86 = .ok (.dup, 1) := by decide +kernel
theorem dX11_nextState_87 : decode cX11_nextState 87 = .ok (.getfield 84, 3) := by decide +kernel
theorem dX11_nextState_90 : decode cX11_nextState 90 = .ok (.iconst 1, 1) := by decide +kernel
theorem dX11_nextState_91 : decode cX11_nextState 91 = .ok (.iadd, 1) := by decide +kernel
theorem dX11_nextState_92 : decode cX11_nextState 92 = .ok (.putfield 84, 3) := by decide +kernel
theorem dX11_nextState_95 : decode cX11_nextState 95 = .ok (.aload_n 0, 1) := by decide +kernel
theorem dX11_nextState_96 : decode cX11_nextState 96 = .ok (.aload_n 0, 1) := by decide +kernel
theorem dX11_nextState_97 : decode cX11_nextState 97 = .ok (.getfield 84, 3) := by decide +kernel
theorem dX11_nextState_100 : decode cX11_nextState 100 = .ok (.putfield 87, 3) := by decide +kernel
theorem dX11_nextState_103 : decode cX11_nextState 103 = .ok (.aload_n 0, 1) := by decide +kernel
theorem dX11_nextState_104 : decode cX11_nextState 104 = .ok (.getfield 32, 3) := by decide +kernel
theorem dX11_nextState_107 : decode cX11_nextState 107 = .ok (.aload_n 0, 1) := by decide +kernel
theorem dX11_nextState_108 : decode cX11_nextState 108 = .ok (.getfield 84, 3) := by decide +kernel
theorem dX11_nextState_111 : decode cX11_nextState 111 = .ok (.aaload, 1) := by decide +kernel
theorem dX11_nextState_112 : decode cX11_nextState 112 = .ok (.areturn, 1) := by decide +kernel
set_option maxHeartbeats 4000000 in
set_option maxRecDepth 100000 in
theorem s_X11_nextState (l : Launch) (g : GG) (sz : Nat) (x : Nat) (xtape : Nat) (xtapeLength : Int32) (xreader : Nat) (xland : Nat) (xspareLand : Nat) (xstates : Nat) (Fxstates : Nat → Option Nat) (xcurrent : Int32) (xnewest : Int32) (xboxes : Nat) (xfullBoxes : Int32) (xsearch : Nat) (xsights : Nat) (xparting : Nat) (xheap : Nat) (st : Nat) (sday : Int32) (sseed : Int32) (salive : Int32) (sstruck : Int32) (sopen : Int32) (sduels : Int32) (slines : Int32) (scoins : Nat) (Fscoins : Nat → Int32) (srented : Nat) (Fsrented : Nat → Int32) (smornings : Nat) (Fsmornings : Nat → Int32) (shonours : Nat) (Fshonours : Nat → Int32) (sused : Nat) (Fsused : Nat → Int32) (ssides : Nat) (Fssides : Nat → Int32) (slog : Nat) (Fslog : Nat → Int32) (st2 : Nat) (tday : Int32) (tseed : Int32) (talive : Int32) (tstruck : Int32) (topen : Int32) (tduels : Int32) (tlines : Int32) (tcoins : Nat) (Ftcoins : Nat → Int32) (trented : Nat) (Ftrented : Nat → Int32) (tmornings : Nat) (Ftmornings : Nat → Int32) (thonours : Nat) (Fthonours : Nat → Int32) (tused : Nat) (Ftused : Nat → Int32) (tsides : Nat) (Ftsides : Nat → Int32) (tlog : Nat) (Ftlog : Nat → Int32) (hh0 : 0 ≤ xtapeLength.toInt ∧ xtapeLength.toInt ≤ 1600) (hh1 : 0 ≤ xcurrent.toInt ∧ xcurrent.toInt ≤ 40) (hh2 : 0 ≤ xnewest.toInt ∧ xnewest.toInt ≤ 40) (hh3 : 0 ≤ sseed.toInt ∧ sseed.toInt ≤ 999) (hh4 : 0 ≤ sduels.toInt ∧ sduels.toInt ≤ 8) (hh5 : 0 ≤ slines.toInt ∧ slines.toInt ≤ 60) (hh6 : Rg 16 0 5 Fssides) (hh7 : 0 ≤ tseed.toInt ∧ tseed.toInt ≤ 999) (hh8 : 0 ≤ tduels.toInt ∧ tduels.toInt ≤ 8) (hh9 : 0 ≤ tlines.toInt ∧ tlines.toInt ≤ 60) (hh10 : Rg 16 0 5 Ftsides) (ho : Fxstates xcurrent.toNatClampNeg = some st) (hn1 : xcurrent.toInt < 40 → Fxstates (xcurrent.toNatClampNeg + 1) = some st2) (hn2 : xcurrent.toInt = 40 → Fxstates (0 : Int32).toNatClampNeg = some st2) : Met l yX11_nextState (.code yX11_nextState cX11_nextState 3 (some (.object "DuelDelays$State")) :: gT) ({ frames := 2, cells := 0, slots := 0, locals := 81 }) (va_Pc [.ref x] (Pst g sz [(x, .inr (11, [.ref xtape, .int xtapeLength, .ref xreader, .ref xland, .ref xspareLand, .ref xstates, .int xcurrent, .int xnewest, .ref xboxes, .int xfullBoxes, .ref xsearch, .ref xsights, .ref xparting, .ref xheap])), (xstates, aO g 41 Fxstates), (st, .inr (9, [.int sday, .int sseed, .int salive, .int sstruck, .int sopen, .int sduels, .int slines, .ref scoins, .ref srented, .ref smornings, .ref shonours, .ref sused, .ref ssides, .ref slog])), (scoins, aI g 6 Fscoins), (srented, aI g 6 Fsrented), (smornings, aI g 8 Fsmornings), (shonours, aI g 8 Fshonours), (sused, aI g 8 Fsused), (ssides, aI g 16 Fssides), (slog, aI g 60 Fslog), (st2, .inr (9, [.int tday, .int tseed, .int talive, .int tstruck, .int topen, .int tduels, .int tlines, .ref tcoins, .ref trented, .ref tmornings, .ref thonours, .ref tused, .ref tsides, .ref tlog])), (tcoins, aI g 6 Ftcoins), (trented, aI g 6 Ftrented), (tmornings, aI g 8 Ftmornings), (thonours, aI g 8 Fthonours), (tused, aI g 8 Ftused), (tsides, aI g 16 Ftsides), (tlog, aI g 60 Ftlog)] (Xs Fxstates (va_A [(x, .inr (11, [.ref xtape, .int xtapeLength, .ref xreader, .ref xland, .ref xspareLand, .ref xstates, .int xcurrent, .int xnewest, .ref xboxes, .int xfullBoxes, .ref xsearch, .ref xsights, .ref xparting, .ref xheap])), (xstates, aO g 41 Fxstates), (st, .inr (9, [.int sday, .int sseed, .int salive, .int sstruck, .int sopen, .int sduels, .int slines, .ref scoins, .ref srented, .ref smornings, .ref shonours, .ref sused, .ref ssides, .ref slog])), (scoins, aI g 6 Fscoins), (srented, aI g 6 Fsrented), (smornings, aI g 8 Fsmornings), (shonours, aI g 8 Fshonours), (sused, aI g 8 Fsused), (ssides, aI g 16 Fssides), (slog, aI g 60 Fslog), (st2, .inr (9, [.int tday, .int tseed, .int talive, .int tstruck, .int topen, .int tduels, .int tlines, .ref tcoins, .ref trented, .ref tmornings, .ref thonours, .ref tused, .ref tsides, .ref tlog])), (tcoins, aI g 6 Ftcoins), (trented, aI g 6 Ftrented), (tmornings, aI g 8 Ftmornings), (thonours, aI g 8 Fthonours), (tused, aI g 8 Ftused), (tsides, aI g 16 Ftsides), (tlog, aI g 60 Ftlog)] sz)))) (va_Qr (fun ((o0_current, o1_newest, o2_F, o3_day, o4_seed, o5_alive, o6_struck, o7_open, o8_duels, o9_lines, o10_F, o11_F, o12_F, o13_F, o14_F, o15_F, o16_F) : Int32 × Int32 × (Nat → Option Nat) × Int32 × Int32 × Int32 × Int32 × Int32 × Int32 × Int32 × (Nat → Int32) × (Nat → Int32) × (Nat → Int32) × (Nat → Int32) × (Nat → Int32) × (Nat → Int32) × (Nat → Int32)) => (o2_F = Sh Fxstates xcurrent) ∧ (0 ≤ o0_current.toInt ∧ o0_current.toInt ≤ 40) ∧ (0 ≤ o1_newest.toInt ∧ o1_newest.toInt ≤ 40) ∧ (0 ≤ o4_seed.toInt ∧ o4_seed.toInt ≤ 999) ∧ (0 ≤ o8_duels.toInt ∧ o8_duels.toInt ≤ 8) ∧ (0 ≤ o9_lines.toInt ∧ o9_lines.toInt ≤ 60) ∧ (Rg 16 0 5 o15_F)) (Qsr g [(x, .inr (11, [.ref xtape, .int xtapeLength, .ref xreader, .ref xland, .ref xspareLand, .ref xstates, .int xcurrent, .int xnewest, .ref xboxes, .int xfullBoxes, .ref xsearch, .ref xsights, .ref xparting, .ref xheap])), (xstates, aO g 41 Fxstates), (st, .inr (9, [.int sday, .int sseed, .int salive, .int sstruck, .int sopen, .int sduels, .int slines, .ref scoins, .ref srented, .ref smornings, .ref shonours, .ref sused, .ref ssides, .ref slog])), (scoins, aI g 6 Fscoins), (srented, aI g 6 Fsrented), (smornings, aI g 8 Fsmornings), (shonours, aI g 8 Fshonours), (sused, aI g 8 Fsused), (ssides, aI g 16 Fssides), (slog, aI g 60 Fslog), (st2, .inr (9, [.int tday, .int tseed, .int talive, .int tstruck, .int topen, .int tduels, .int tlines, .ref tcoins, .ref trented, .ref tmornings, .ref thonours, .ref tused, .ref tsides, .ref tlog])), (tcoins, aI g 6 Ftcoins), (trented, aI g 6 Ftrented), (tmornings, aI g 8 Ftmornings), (thonours, aI g 8 Fthonours), (tused, aI g 8 Ftused), (tsides, aI g 16 Ftsides), (tlog, aI g 60 Ftlog)] sz (fun _ => st2) (fun ((o0_current, o1_newest, o2_F, o3_day, o4_seed, o5_alive, o6_struck, o7_open, o8_duels, o9_lines, o10_F, o11_F, o12_F, o13_F, o14_F, o15_F, o16_F) : Int32 × Int32 × (Nat → Option Nat) × Int32 × Int32 × Int32 × Int32 × Int32 × Int32 × Int32 × (Nat → Int32) × (Nat → Int32) × (Nat → Int32) × (Nat → Int32) × (Nat → Int32) × (Nat → Int32) × (Nat → Int32)) => [(x, .inr (11, [.ref xtape, .int xtapeLength, .ref xreader, .ref xland, .ref xspareLand, .ref xstates, .int o0_current, .int o1_newest, .ref xboxes, .int xfullBoxes, .ref xsearch, .ref xsights, .ref xparting, .ref xheap])), (xstates, aO g 41 o2_F), (st, .inr (9, [.int sday, .int sseed, .int salive, .int sstruck, .int sopen, .int sduels, .int slines, .ref scoins, .ref srented, .ref smornings, .ref shonours, .ref sused, .ref ssides, .ref slog])), (scoins, aI g 6 Fscoins), (srented, aI g 6 Fsrented), (smornings, aI g 8 Fsmornings), (shonours, aI g 8 Fshonours), (sused, aI g 8 Fsused), (ssides, aI g 16 Fssides), (slog, aI g 60 Fslog), (st2, .inr (9, [.int o3_day, .int o4_seed, .int o5_alive, .int o6_struck, .int o7_open, .int o8_duels, .int o9_lines, .ref tcoins, .ref trented, .ref tmornings, .ref thonours, .ref tused, .ref tsides, .ref tlog])), (tcoins, aI g 6 o10_F), (trented, aI g 6 o11_F), (tmornings, aI g 8 o12_F), (thonours, aI g 8 o13_F), (tused, aI g 8 o14_F), (tsides, aI g 16 o15_F), (tlog, aI g 60 o16_F)])) (va_A [(x, .inr (11, [.ref xtape, .int xtapeLength, .ref xreader, .ref xland, .ref xspareLand, .ref xstates, .int xcurrent, .int xnewest, .ref xboxes, .int xfullBoxes, .ref xsearch, .ref xsights, .ref xparting, .ref xheap])), (xstates, aO g 41 Fxstates), (st, .inr (9, [.int sday, .int sseed, .int salive, .int sstruck, .int sopen, .int sduels, .int slines, .ref scoins, .ref srented, .ref smornings, .ref shonours, .ref sused, .ref ssides, .ref slog])), (scoins, aI g 6 Fscoins), (srented, aI g 6 Fsrented), (smornings, aI g 8 Fsmornings), (shonours, aI g 8 Fshonours), (sused, aI g 8 Fsused), (ssides, aI g 16 Fssides), (slog, aI g 60 Fslog), (st2, .inr (9, [.int tday, .int tseed, .int talive, .int tstruck, .int topen, .int tduels, .int tlines, .ref tcoins, .ref trented, .ref tmornings, .ref thonours, .ref tused, .ref tsides, .ref tlog])), (tcoins, aI g 6 Ftcoins), (trented, aI g 6 Ftrented), (tmornings, aI g 8 Ftmornings), (thonours, aI g 8 Fthonours), (tused, aI g 8 Ftused), (tsides, aI g 16 Ftsides), (tlog, aI g 60 Ftlog)] sz)) 0 0 (va_A [(x, .inr (11, [.ref xtape, .int xtapeLength, .ref xreader, .ref xland, .ref xspareLand, .ref xstates, .int xcurrent, .int xnewest, .ref xboxes, .int xfullBoxes, .ref xsearch, .ref xsights, .ref xparting, .ref xheap])), (xstates, aO g 41 Fxstates), (st, .inr (9, [.int sday, .int sseed, .int salive, .int sstruck, .int sopen, .int sduels, .int slines, .ref scoins, .ref srented, .ref smornings, .ref shonours, .ref sused, .ref ssides, .ref slog])), (scoins, aI g 6 Fscoins), (srented, aI g 6 Fsrented), (smornings, aI g 8 Fsmornings), (shonours, aI g 8 Fshonours), (sused, aI g 8 Fsused), (ssides, aI g 16 Fssides), (slog, aI g 60 Fslog), (st2, .inr (9, [.int tday, .int tseed, .int talive, .int tstruck, .int topen, .int tduels, .int tlines, .ref tcoins, .ref trented, .ref tmornings, .ref thonours, .ref tused, .ref tsides, .ref tlog])), (tcoins, aI g 6 Ftcoins), (trented, aI g 6 Ftrented), (tmornings, aI g 8 Ftmornings), (thonours, aI g 8 Fthonours), (tused, aI g 8 Ftused), (tsides, aI g 16 Ftsides), (tlog, aI g 60 Ftlog)] sz) := by
  refine Met.ofW (cc := cX11_nextState) (maxL := 3) (ret := (some (.object "DuelDelays$State"))) (by decide) rfl ?_
  intro p e s m args below meth c s₁ B hml hv
  obtain ⟨rfl, hsz, hP, hK, hD0, hX⟩ := hv
  have hx := B.exec
  have hb := B.bytes
  have hr := B.returns
  have hT : ∀ w ∈ gT, w.before _ s = true := fun w h => atoms_spec (ws := .code yX11_nextState cX11_nextState 3 (some (.object "DuelDelays$State")) :: gT) B.pre w (List.mem_cons_of_mem _ h)
  have hown : s.vm.findClass RX11 = some m.cls := findClass_of_methodNamed B.named
  have hlocks := B.notSynchronized
  subst hsz
  have hD := hD0.self (sz := s.heap.size)
  generalize hAe : va_A [(x, .inr (11, [.ref xtape, .int xtapeLength, .ref xreader, .ref xland, .ref xspareLand, .ref xstates, .int xcurrent, .int xnewest, .ref xboxes, .int xfullBoxes, .ref xsearch, .ref xsights, .ref xparting, .ref xheap])), (xstates, aO g 41 Fxstates), (st, .inr (9, [.int sday, .int sseed, .int salive, .int sstruck, .int sopen, .int sduels, .int slines, .ref scoins, .ref srented, .ref smornings, .ref shonours, .ref sused, .ref ssides, .ref slog])), (scoins, aI g 6 Fscoins), (srented, aI g 6 Fsrented), (smornings, aI g 8 Fsmornings), (shonours, aI g 8 Fshonours), (sused, aI g 8 Fsused), (ssides, aI g 16 Fssides), (slog, aI g 60 Fslog), (st2, .inr (9, [.int tday, .int tseed, .int talive, .int tstruck, .int topen, .int tduels, .int tlines, .ref tcoins, .ref trented, .ref tmornings, .ref thonours, .ref tused, .ref tsides, .ref tlog])), (tcoins, aI g 6 Ftcoins), (trented, aI g 6 Ftrented), (tmornings, aI g 8 Ftmornings), (thonours, aI g 8 Fthonours), (tused, aI g 8 Ftused), (tsides, aI g 16 Ftsides), (tlog, aI g 60 Ftlog)] s.heap.size = A at hD hX ⊢
  have hA : ∀ q : Nat, s.heap.size ≤ q → A q := fun q h => by rw [← hAe]; exact Or.inr h
  have hS : va_S A s.heap s.heap [] := va_S.rf
  have hl := lv_entry ([.ref x]) (n := 3) (Nat.le_of_ble_eq_true rfl)
  rw [lg_entry_eq]
  generalize (lg_sl ([.ref x]) ++ List.replicate (3 - (lg_sl ([.ref x])).length) Slot.unset).toArray = ls at hl ⊢
  have hl : lv_has ls 3 [(0, .ref x)] := hl
  refine p_nH (fun H hH => ?_)
  have hP : va_P g.1 vwCl [(x, .inr (11, [.ref xtape, .int xtapeLength, .ref xreader, .ref xland, .ref xspareLand, .ref xstates, .int xcurrent, .int xnewest, .ref xboxes, .int xfullBoxes, .ref xsearch, .ref xsights, .ref xparting, .ref xheap])), (xstates, aO g 41 Fxstates), (st, .inr (9, [.int sday, .int sseed, .int salive, .int sstruck, .int sopen, .int sduels, .int slines, .ref scoins, .ref srented, .ref smornings, .ref shonours, .ref sused, .ref ssides, .ref slog])), (scoins, aI g 6 Fscoins), (srented, aI g 6 Fsrented), (smornings, aI g 8 Fsmornings), (shonours, aI g 8 Fshonours), (sused, aI g 8 Fsused), (ssides, aI g 16 Fssides), (slog, aI g 60 Fslog), (st2, .inr (9, [.int tday, .int tseed, .int talive, .int tstruck, .int topen, .int tduels, .int tlines, .ref tcoins, .ref trented, .ref tmornings, .ref thonours, .ref tused, .ref tsides, .ref tlog])), (tcoins, aI g 6 Ftcoins), (trented, aI g 6 Ftrented), (tmornings, aI g 8 Ftmornings), (thonours, aI g 8 Fthonours), (tused, aI g 8 Ftused), (tsides, aI g 16 Ftsides), (tlog, aI g 60 Ftlog)] H := by rw [hH]; exact hP
  have hS : va_S A s.heap H [] := by rw [hH]; exact hS
  refine lv_aload_n hx hb dX11_nextState_0 rfl (lv_at hl 0 rfl) ?_
  refine va_get (D := g.1) (ci := 11) (v := .int xcurrent) (C := RX11) (T := TX11) (N := 14) hx hb hT inF_X11 hown hK.1 hP 0 rfl rfl 6 (by decide) (hT _ bw_276) (fun _ h9 => h9) rfl dX11_nextState_1 ?_
  refine lv_bipush (v := 40) hx hb dX11_nextState_4 (by decide) ?_
  refine lv_icmp_ne (tgt := 62) hx hb dX11_nextState_6 (by decide) (fun c_1 => ?_) (fun c_1 => ?_)
  · have f_2 := E_ne (rfl : xcurrent.toInt = _) (by decide : (40 : Int32).toInt = 40) c_1
    refine lv_aload_n hx hb dX11_nextState_62 rfl (lv_at hl 0 rfl) ?_
    refine va_get (D := g.1) (ci := 11) (v := .ref xstates) (C := RX11) (T := TX11) (N := 14) hx hb hT inF_X11 hown hK.1 hP 0 rfl rfl 5 (by decide) (hT _ bw_275) (fun _ h9 => h9) rfl dX11_nextState_63 ?_
    refine lv_aload_n hx hb dX11_nextState_66 rfl (lv_at hl 0 rfl) ?_
    refine va_get (D := g.1) (ci := 11) (v := .int xcurrent) (C := RX11) (T := TX11) (N := 14) hx hb hT inF_X11 hown hK.1 hP 0 rfl rfl 6 (by decide) (hT _ bw_276) (fun _ h9 => h9) rfl dX11_nextState_67 ?_
    refine lv_iconst (v := 1) hx hb dX11_nextState_70 (by decide) ?_
    refine lv_iadd hx hb dX11_nextState_71 ?_
    refine lv_topi (fun x_3 ex_3 => ?_)
    have fx_3 : x_3.toInt = xcurrent.toInt + 1 := by rw [ex_3]; exact I_add rfl (by decide : (1 : Int32).toInt = 1) (by omega) (by omega)
    have h_4 : vp_in x_3 41 := vp_in_iff.mpr (by omega)
    refine va_aldq hx hb hK.1 hP 1 4 rfl rfl (i := x_3) h_4 dX11_nextState_72 ?_
    refine p_tr (x := st2) (by rw [ns_1 (hn1 (by omega)) (by omega) (x := x_3) (by omega)]; rfl) ?_
    refine lv_aload_n hx hb dX11_nextState_73 rfl (lv_at hl 0 rfl) ?_
    refine va_get (D := g.1) (ci := 11) (v := .ref xstates) (C := RX11) (T := TX11) (N := 14) hx hb hT inF_X11 hown hK.1 hP 0 rfl rfl 5 (by decide) (hT _ bw_275) (fun _ h9 => h9) rfl dX11_nextState_74 ?_
    refine lv_aload_n hx hb dX11_nextState_77 rfl (lv_at hl 0 rfl) ?_
    refine va_get (D := g.1) (ci := 11) (v := .int xcurrent) (C := RX11) (T := TX11) (N := 14) hx hb hT inF_X11 hown hK.1 hP 0 rfl rfl 6 (by decide) (hT _ bw_276) (fun _ h9 => h9) rfl dX11_nextState_78 ?_
    have h_5 : vp_in xcurrent 41 := vp_in_iff.mpr (by omega)
    refine va_aldq hx hb hK.1 hP 1 4 rfl rfl (i := xcurrent) h_5 dX11_nextState_81 ?_
    refine p_tr (x := st) (by rw [ho]; rfl) ?_
    refine k_v (wr := [(x, .inr (11, [.ref xtape, .int xtapeLength, .ref xreader, .ref xland, .ref xspareLand, .ref xstates, .int xcurrent, .int xnewest, .ref xboxes, .int xfullBoxes, .ref xsearch, .ref xsights, .ref xparting, .ref xheap])), (xstates, aO g 41 Fxstates)]) (k_V (n := 1) ⟨hx, hb, hml, hown, hT⟩ hK hP hD [10, 11, 12, 13, 14, 15, 16, 17, 2, 3, 4, 5, 6, 7, 8, 9] rfl (by decide +kernel) (s_X9_copy l g H.size st2 tday tseed talive tstruck topen tduels tlines tcoins Ftcoins trented Ftrented tmornings Ftmornings thonours Fthonours tused Ftused tsides Ftsides tlog Ftlog st sday sseed salive sstruck sopen sduels slines scoins Fscoins srented Fsrented smornings Fsmornings shonours Fshonours sused Fsused ssides Fssides slog Fslog (by first | with_reducible assumption | omega) (by first | with_reducible assumption | omega) (by first | with_reducible assumption | omega) hh10 (by first | with_reducible assumption | omega) (by first | with_reducible assumption | omega) (by first | with_reducible assumption | omega) hh6) (gV bw_398 bw_399 bw_400 bw_46 bw_116) rfl rfl (by decide +kernel) ⟨by decide, by decide⟩ (ci := 9) (q0 := 0) rfl rfl (fun _ _ _ _ _ => trivial) (fun _ _ _ => trivial) rfl rfl hl.1 (Nat.le_of_ble_eq_true rfl) dX11_nextState_82 ⟨by decide, by decide⟩) hP hD hS hA [10, 11, 12, 13, 14, 15, 16, 17, 2, 3, 4, 5, 6, 7, 8, 9] [0, 1] rfl rfl (by decide +kernel) (by decide +kernel) (pr_all fun y_6 => pr_all fun y_7 => pr_all fun y_8 => pr_all fun y_9 => pr_all fun y_10 => pr_all fun y_11 => pr_all fun y_12 => pr_all fun f_13 => pr_all fun f_14 => pr_all fun f_15 => pr_all fun f_16 => pr_all fun f_17 => pr_all fun f_18 => fun f_19 H locs hw0 hP hD hS => ?_)
    have hP : va_P g.1 vwCl [(x, .inr (11, [.ref xtape, .int xtapeLength, .ref xreader, .ref xland, .ref xspareLand, .ref xstates, .int xcurrent, .int xnewest, .ref xboxes, .int xfullBoxes, .ref xsearch, .ref xsights, .ref xparting, .ref xheap])), (xstates, aO g 41 Fxstates), (st2, .inr (9, [.int y_6, .int y_7, .int y_8, .int y_9, .int y_10, .int y_11, .int y_12, .ref tcoins, .ref trented, .ref tmornings, .ref thonours, .ref tused, .ref tsides, .ref tlog])), (tcoins, aI g 6 f_13), (trented, aI g 6 f_14), (tmornings, aI g 8 f_15), (thonours, aI g 8 f_16), (tused, aI g 8 f_17), (tsides, aI g 16 f_18), (tlog, aI g 60 f_19), (st, .inr (9, [.int sday, .int sseed, .int salive, .int sstruck, .int sopen, .int sduels, .int slines, .ref scoins, .ref srented, .ref smornings, .ref shonours, .ref sused, .ref ssides, .ref slog])), (scoins, aI g 6 Fscoins), (srented, aI g 6 Fsrented), (smornings, aI g 8 Fsmornings), (shonours, aI g 8 Fshonours), (sused, aI g 8 Fsused), (ssides, aI g 16 Fssides), (slog, aI g 60 Fslog)] H := hP
    have hD : va_D A [(x, .inr (11, [.ref xtape, .int xtapeLength, .ref xreader, .ref xland, .ref xspareLand, .ref xstates, .int xcurrent, .int xnewest, .ref xboxes, .int xfullBoxes, .ref xsearch, .ref xsights, .ref xparting, .ref xheap])), (xstates, aO g 41 Fxstates), (st2, .inr (9, [.int y_6, .int y_7, .int y_8, .int y_9, .int y_10, .int y_11, .int y_12, .ref tcoins, .ref trented, .ref tmornings, .ref thonours, .ref tused, .ref tsides, .ref tlog])), (tcoins, aI g 6 f_13), (trented, aI g 6 f_14), (tmornings, aI g 8 f_15), (thonours, aI g 8 f_16), (tused, aI g 8 f_17), (tsides, aI g 16 f_18), (tlog, aI g 60 f_19), (st, .inr (9, [.int sday, .int sseed, .int salive, .int sstruck, .int sopen, .int sduels, .int slines, .ref scoins, .ref srented, .ref smornings, .ref shonours, .ref sused, .ref ssides, .ref slog])), (scoins, aI g 6 Fscoins), (srented, aI g 6 Fsrented), (smornings, aI g 8 Fsmornings), (shonours, aI g 8 Fshonours), (sused, aI g 8 Fsused), (ssides, aI g 16 Fssides), (slog, aI g 60 Fslog)] := hD
    have hw : (0 ≤ y_7.toInt ∧ y_7.toInt ≤ 999) ∧ (0 ≤ y_11.toInt ∧ y_11.toInt ≤ 8) ∧ (0 ≤ y_12.toInt ∧ y_12.toInt ≤ 60) ∧ (Rg 16 0 5 f_18) := hw0
    clear hw0
    have w_20 := hw.1
    have w_21 := hw.2.1
    have w_22 := hw.2.2.1
    have w_23 := hw.2.2.2
    clear hw
    refine lv_aload_n hx hb dX11_nextState_85 rfl (lv_at hl 0 rfl) ?_
    refine lv_dup hx hb dX11_nextState_86 rfl ?_
    refine va_get (D := g.1) (ci := 11) (v := .int xcurrent) (C := RX11) (T := TX11) (N := 14) hx hb hT inF_X11 hown hK.1 hP 0 rfl rfl 6 (by decide) (hT _ bw_276) (fun _ h9 => h9) rfl dX11_nextState_87 ?_
    refine lv_iconst (v := 1) hx hb dX11_nextState_90 (by decide) ?_
    refine lv_iadd hx hb dX11_nextState_91 ?_
    refine lv_topi (fun x_24 ex_24 => ?_)
    have fx_24 : x_24.toInt = xcurrent.toInt + 1 := by rw [ex_24]; exact I_add rfl (by decide : (1 : Int32).toInt = 1) (by omega) (by omega)
    refine va_put (D := g.1) (ci := 11) (v := .int x_24) (ty := .int) (C := RX11) (T := TX11) (N := 14) hx hb hT inF_X11 tyX11 tyX11_ok nmX11 hown hK.1 hP hD hS 0 rfl rfl 6 (by decide) (hT _ bw_276) (fun _ h9 => h9) rfl (by decide +kernel) rfl rfl (Nat.le_of_ble_eq_true rfl) dX11_nextState_92 (fun H locs hP hD hS => ?_)
    have hP : va_P g.1 vwCl [(x, .inr (11, [.ref xtape, .int xtapeLength, .ref xreader, .ref xland, .ref xspareLand, .ref xstates, .int x_24, .int xnewest, .ref xboxes, .int xfullBoxes, .ref xsearch, .ref xsights, .ref xparting, .ref xheap])), (xstates, aO g 41 Fxstates), (st2, .inr (9, [.int y_6, .int y_7, .int y_8, .int y_9, .int y_10, .int y_11, .int y_12, .ref tcoins, .ref trented, .ref tmornings, .ref thonours, .ref tused, .ref tsides, .ref tlog])), (tcoins, aI g 6 f_13), (trented, aI g 6 f_14), (tmornings, aI g 8 f_15), (thonours, aI g 8 f_16), (tused, aI g 8 f_17), (tsides, aI g 16 f_18), (tlog, aI g 60 f_19), (st, .inr (9, [.int sday, .int sseed, .int salive, .int sstruck, .int sopen, .int sduels, .int slines, .ref scoins, .ref srented, .ref smornings, .ref shonours, .ref sused, .ref ssides, .ref slog])), (scoins, aI g 6 Fscoins), (srented, aI g 6 Fsrented), (smornings, aI g 8 Fsmornings), (shonours, aI g 8 Fshonours), (sused, aI g 8 Fsused), (ssides, aI g 16 Fssides), (slog, aI g 60 Fslog)] H := hP
    have hD : va_D A [(x, .inr (11, [.ref xtape, .int xtapeLength, .ref xreader, .ref xland, .ref xspareLand, .ref xstates, .int x_24, .int xnewest, .ref xboxes, .int xfullBoxes, .ref xsearch, .ref xsights, .ref xparting, .ref xheap])), (xstates, aO g 41 Fxstates), (st2, .inr (9, [.int y_6, .int y_7, .int y_8, .int y_9, .int y_10, .int y_11, .int y_12, .ref tcoins, .ref trented, .ref tmornings, .ref thonours, .ref tused, .ref tsides, .ref tlog])), (tcoins, aI g 6 f_13), (trented, aI g 6 f_14), (tmornings, aI g 8 f_15), (thonours, aI g 8 f_16), (tused, aI g 8 f_17), (tsides, aI g 16 f_18), (tlog, aI g 60 f_19), (st, .inr (9, [.int sday, .int sseed, .int salive, .int sstruck, .int sopen, .int sduels, .int slines, .ref scoins, .ref srented, .ref smornings, .ref shonours, .ref sused, .ref ssides, .ref slog])), (scoins, aI g 6 Fscoins), (srented, aI g 6 Fsrented), (smornings, aI g 8 Fsmornings), (shonours, aI g 8 Fshonours), (sused, aI g 8 Fsused), (ssides, aI g 16 Fssides), (slog, aI g 60 Fslog)] := hD
    refine lv_aload_n hx hb dX11_nextState_95 rfl (lv_at hl 0 rfl) ?_
    refine lv_aload_n hx hb dX11_nextState_96 rfl (lv_at hl 0 rfl) ?_
    refine va_get (D := g.1) (ci := 11) (v := .int x_24) (C := RX11) (T := TX11) (N := 14) hx hb hT inF_X11 hown hK.1 hP 0 rfl rfl 6 (by decide) (hT _ bw_276) (fun _ h9 => h9) rfl dX11_nextState_97 ?_
    refine va_put (D := g.1) (ci := 11) (v := .int x_24) (ty := .int) (C := RX11) (T := TX11) (N := 14) hx hb hT inF_X11 tyX11 tyX11_ok nmX11 hown hK.1 hP hD hS 0 rfl rfl 7 (by decide) (hT _ bw_335) (fun _ h9 => h9) rfl (by decide +kernel) rfl rfl (Nat.le_of_ble_eq_true rfl) dX11_nextState_100 (fun H locs hP hD hS => ?_)
    have hP : va_P g.1 vwCl [(x, .inr (11, [.ref xtape, .int xtapeLength, .ref xreader, .ref xland, .ref xspareLand, .ref xstates, .int x_24, .int x_24, .ref xboxes, .int xfullBoxes, .ref xsearch, .ref xsights, .ref xparting, .ref xheap])), (xstates, aO g 41 Fxstates), (st2, .inr (9, [.int y_6, .int y_7, .int y_8, .int y_9, .int y_10, .int y_11, .int y_12, .ref tcoins, .ref trented, .ref tmornings, .ref thonours, .ref tused, .ref tsides, .ref tlog])), (tcoins, aI g 6 f_13), (trented, aI g 6 f_14), (tmornings, aI g 8 f_15), (thonours, aI g 8 f_16), (tused, aI g 8 f_17), (tsides, aI g 16 f_18), (tlog, aI g 60 f_19), (st, .inr (9, [.int sday, .int sseed, .int salive, .int sstruck, .int sopen, .int sduels, .int slines, .ref scoins, .ref srented, .ref smornings, .ref shonours, .ref sused, .ref ssides, .ref slog])), (scoins, aI g 6 Fscoins), (srented, aI g 6 Fsrented), (smornings, aI g 8 Fsmornings), (shonours, aI g 8 Fshonours), (sused, aI g 8 Fsused), (ssides, aI g 16 Fssides), (slog, aI g 60 Fslog)] H := hP
    have hD : va_D A [(x, .inr (11, [.ref xtape, .int xtapeLength, .ref xreader, .ref xland, .ref xspareLand, .ref xstates, .int x_24, .int x_24, .ref xboxes, .int xfullBoxes, .ref xsearch, .ref xsights, .ref xparting, .ref xheap])), (xstates, aO g 41 Fxstates), (st2, .inr (9, [.int y_6, .int y_7, .int y_8, .int y_9, .int y_10, .int y_11, .int y_12, .ref tcoins, .ref trented, .ref tmornings, .ref thonours, .ref tused, .ref tsides, .ref tlog])), (tcoins, aI g 6 f_13), (trented, aI g 6 f_14), (tmornings, aI g 8 f_15), (thonours, aI g 8 f_16), (tused, aI g 8 f_17), (tsides, aI g 16 f_18), (tlog, aI g 60 f_19), (st, .inr (9, [.int sday, .int sseed, .int salive, .int sstruck, .int sopen, .int sduels, .int slines, .ref scoins, .ref srented, .ref smornings, .ref shonours, .ref sused, .ref ssides, .ref slog])), (scoins, aI g 6 Fscoins), (srented, aI g 6 Fsrented), (smornings, aI g 8 Fsmornings), (shonours, aI g 8 Fshonours), (sused, aI g 8 Fsused), (ssides, aI g 16 Fssides), (slog, aI g 60 Fslog)] := hD
    refine lv_aload_n hx hb dX11_nextState_103 rfl (lv_at hl 0 rfl) ?_
    refine va_get (D := g.1) (ci := 11) (v := .ref xstates) (C := RX11) (T := TX11) (N := 14) hx hb hT inF_X11 hown hK.1 hP 0 rfl rfl 5 (by decide) (hT _ bw_275) (fun _ h9 => h9) rfl dX11_nextState_104 ?_
    refine lv_aload_n hx hb dX11_nextState_107 rfl (lv_at hl 0 rfl) ?_
    refine va_get (D := g.1) (ci := 11) (v := .int x_24) (C := RX11) (T := TX11) (N := 14) hx hb hT inF_X11 hown hK.1 hP 0 rfl rfl 6 (by decide) (hT _ bw_276) (fun _ h9 => h9) rfl dX11_nextState_108 ?_
    have h_25 : vp_in x_24 41 := vp_in_iff.mpr (by omega)
    refine va_aldq hx hb hK.1 hP 1 4 rfl rfl (i := x_24) h_25 dX11_nextState_111 ?_
    refine p_tr (x := st2) (by rw [ns_1 (hn1 (by omega)) (by omega) (x := x_24) (by omega)]; rfl) ?_
    have hP9 : va_P g.1 vwCl [(x, .inr (11, [.ref xtape, .int xtapeLength, .ref xreader, .ref xland, .ref xspareLand, .ref xstates, .int x_24, .int x_24, .ref xboxes, .int xfullBoxes, .ref xsearch, .ref xsights, .ref xparting, .ref xheap])), (xstates, aO g 41 Fxstates), (st, .inr (9, [.int sday, .int sseed, .int salive, .int sstruck, .int sopen, .int sduels, .int slines, .ref scoins, .ref srented, .ref smornings, .ref shonours, .ref sused, .ref ssides, .ref slog])), (scoins, aI g 6 Fscoins), (srented, aI g 6 Fsrented), (smornings, aI g 8 Fsmornings), (shonours, aI g 8 Fshonours), (sused, aI g 8 Fsused), (ssides, aI g 16 Fssides), (slog, aI g 60 Fslog), (st2, .inr (9, [.int y_6, .int y_7, .int y_8, .int y_9, .int y_10, .int y_11, .int y_12, .ref tcoins, .ref trented, .ref tmornings, .ref thonours, .ref tused, .ref tsides, .ref tlog])), (tcoins, aI g 6 f_13), (trented, aI g 6 f_14), (tmornings, aI g 8 f_15), (thonours, aI g 8 f_16), (tused, aI g 8 f_17), (tsides, aI g 16 f_18), (tlog, aI g 60 f_19)] H := hP.sub [0, 1, 10, 11, 12, 13, 14, 15, 16, 17, 2, 3, 4, 5, 6, 7, 8, 9] rfl
    have hD9 : va_D A [(x, .inr (11, [.ref xtape, .int xtapeLength, .ref xreader, .ref xland, .ref xspareLand, .ref xstates, .int x_24, .int x_24, .ref xboxes, .int xfullBoxes, .ref xsearch, .ref xsights, .ref xparting, .ref xheap])), (xstates, aO g 41 Fxstates), (st, .inr (9, [.int sday, .int sseed, .int salive, .int sstruck, .int sopen, .int sduels, .int slines, .ref scoins, .ref srented, .ref smornings, .ref shonours, .ref sused, .ref ssides, .ref slog])), (scoins, aI g 6 Fscoins), (srented, aI g 6 Fsrented), (smornings, aI g 8 Fsmornings), (shonours, aI g 8 Fshonours), (sused, aI g 8 Fsused), (ssides, aI g 16 Fssides), (slog, aI g 60 Fslog), (st2, .inr (9, [.int y_6, .int y_7, .int y_8, .int y_9, .int y_10, .int y_11, .int y_12, .ref tcoins, .ref trented, .ref tmornings, .ref thonours, .ref tused, .ref tsides, .ref tlog])), (tcoins, aI g 6 f_13), (trented, aI g 6 f_14), (tmornings, aI g 8 f_15), (thonours, aI g 8 f_16), (tused, aI g 8 f_17), (tsides, aI g 16 f_18), (tlog, aI g 60 f_19)] := hD.sub [0, 1, 10, 11, 12, 13, 14, 15, 16, 17, 2, 3, 4, 5, 6, 7, 8, 9] (by decide +kernel) rfl
    exact W.aret (v := .ref st2) hx hb hr (Or.inl ⟨_, rfl⟩) (Or.inr ⟨_, rfl⟩) (fun t ht hW => ⟨⟨(x_24, x_24, Fxstates, y_6, y_7, y_8, y_9, y_10, y_11, y_12, f_13, f_14, f_15, f_16, f_17, f_18, f_19), st2, rfl, ⟨(Sh_n (by omega)), (by first | with_reducible assumption | omega), (by first | with_reducible assumption | omega), (by first | with_reducible assumption | omega), (by first | with_reducible assumption | omega), (by first | with_reducible assumption | omega), w_23⟩, rfl, by rw [ht]; exact hP9, by rw [hAe]; exact hD9⟩, hS.F ht⟩) hS.2.2 dX11_nextState_112
  · have f_26 := E_eq (rfl : xcurrent.toInt = _) (by decide : (40 : Int32).toInt = 40) c_1
    refine lv_aload_n hx hb dX11_nextState_9 rfl (lv_at hl 0 rfl) ?_
    refine va_get (D := g.1) (ci := 11) (v := .ref xstates) (C := RX11) (T := TX11) (N := 14) hx hb hT inF_X11 hown hK.1 hP 0 rfl rfl 5 (by decide) (hT _ bw_275) (fun _ h9 => h9) rfl dX11_nextState_10 ?_
    refine lv_iconst (v := 0) hx hb dX11_nextState_13 (by decide) ?_
    have h_27 : vp_in 0 41 := vp_in_iff.mpr (by decide)
    refine va_aldq hx hb hK.1 hP 1 4 rfl rfl (i := 0) h_27 dX11_nextState_14 ?_
    refine p_tr (x := st2) (by rw [hn2 (by omega)]; rfl) ?_
    refine lv_astore_n (lv' := [(1, .ref st2), (0, .ref x)]) hx hb dX11_nextState_15 rfl hl (by decide) rfl (fun ls hl => ?_)
    refine lv_iconst (v := 0) hx hb dX11_nextState_16 (by decide) ?_
    refine lv_istore_n (lv' := [(2, .int 0), (1, .ref st2), (0, .ref x)]) hx hb dX11_nextState_17 rfl hl (by decide) rfl (fun ls hl => ?_)
    refine k_floop 18 (fun n H locs ls => ∃ (L_28 : Int32) (f_29 : Nat → Option Nat), (0 ≤ L_28.toInt ∧ L_28.toInt ≤ 40) ∧ (f_29 = sf Fxstates (L_28 : Int32).toNatClampNeg) ∧ 40 - L_28.toInt ≤ (n : Int) ∧ va_P g.1 vwCl [(x, .inr (11, [.ref xtape, .int xtapeLength, .ref xreader, .ref xland, .ref xspareLand, .ref xstates, .int xcurrent, .int xnewest, .ref xboxes, .int xfullBoxes, .ref xsearch, .ref xsights, .ref xparting, .ref xheap])), (xstates, aO g 41 f_29), (st, .inr (9, [.int sday, .int sseed, .int salive, .int sstruck, .int sopen, .int sduels, .int slines, .ref scoins, .ref srented, .ref smornings, .ref shonours, .ref sused, .ref ssides, .ref slog])), (scoins, aI g 6 Fscoins), (srented, aI g 6 Fsrented), (smornings, aI g 8 Fsmornings), (shonours, aI g 8 Fshonours), (sused, aI g 8 Fsused), (ssides, aI g 16 Fssides), (slog, aI g 60 Fslog), (st2, .inr (9, [.int tday, .int tseed, .int talive, .int tstruck, .int topen, .int tduels, .int tlines, .ref tcoins, .ref trented, .ref tmornings, .ref thonours, .ref tused, .ref tsides, .ref tlog])), (tcoins, aI g 6 Ftcoins), (trented, aI g 6 Ftrented), (tmornings, aI g 8 Ftmornings), (thonours, aI g 8 Fthonours), (tused, aI g 8 Ftused), (tsides, aI g 16 Ftsides), (tlog, aI g 60 Ftlog)] H ∧ va_D A [(x, .inr (11, [.ref xtape, .int xtapeLength, .ref xreader, .ref xland, .ref xspareLand, .ref xstates, .int xcurrent, .int xnewest, .ref xboxes, .int xfullBoxes, .ref xsearch, .ref xsights, .ref xparting, .ref xheap])), (xstates, aO g 41 f_29), (st, .inr (9, [.int sday, .int sseed, .int salive, .int sstruck, .int sopen, .int sduels, .int slines, .ref scoins, .ref srented, .ref smornings, .ref shonours, .ref sused, .ref ssides, .ref slog])), (scoins, aI g 6 Fscoins), (srented, aI g 6 Fsrented), (smornings, aI g 8 Fsmornings), (shonours, aI g 8 Fshonours), (sused, aI g 8 Fsused), (ssides, aI g 16 Fssides), (slog, aI g 60 Fslog), (st2, .inr (9, [.int tday, .int tseed, .int talive, .int tstruck, .int topen, .int tduels, .int tlines, .ref tcoins, .ref trented, .ref tmornings, .ref thonours, .ref tused, .ref tsides, .ref tlog])), (tcoins, aI g 6 Ftcoins), (trented, aI g 6 Ftrented), (tmornings, aI g 8 Ftmornings), (thonours, aI g 8 Fthonours), (tused, aI g 8 Ftused), (tsides, aI g 16 Ftsides), (tlog, aI g 60 Ftlog)] ∧ va_S A s.heap H locs ∧ lv_has ls 3 [(2, .int L_28), (1, .ref st2), (0, .ref x)]) (fun n H locs ls hI ih => ?_) ((40 - 0 : Int)).toNat ⟨0, Fxstates, by decide, (sf_0 _), by have k0 : (0 : Int32).toInt = 0 := (by decide); omega, hP, hD, hS, hl⟩
    refine hI.elim (fun L_28 hI => hI.elim (fun f_29 hI => ?_))
    have g_30 := hI.1
    have w_31 := hI.2.1
    have hm_32 := hI.2.2.1
    have hP := hI.2.2.2.1
    have hD := hI.2.2.2.2.1
    have hS := hI.2.2.2.2.2.1
    have hl := hI.2.2.2.2.2.2
    clear hI
    refine lv_iload_n hx hb dX11_nextState_18 rfl (lv_at hl 0 rfl) ?_
    refine lv_bipush (v := 40) hx hb dX11_nextState_19 (by decide) ?_
    refine lv_icmp_ge (tgt := 44) hx hb dX11_nextState_21 (by decide) (fun c_33 => ?_) (fun c_33 => ?_)
    · have f_34 := E_le (by decide : (40 : Int32).toInt = 40) (rfl : L_28.toInt = _) c_33
      refine lv_aload_n hx hb dX11_nextState_44 rfl (lv_at hl 2 rfl) ?_
      refine va_get (D := g.1) (ci := 11) (v := .ref xstates) (C := RX11) (T := TX11) (N := 14) hx hb hT inF_X11 hown hK.1 hP 0 rfl rfl 5 (by decide) (hT _ bw_275) (fun _ h9 => h9) rfl dX11_nextState_45 ?_
      refine lv_bipush (v := 40) hx hb dX11_nextState_48 (by decide) ?_
      refine lv_aload_n hx hb dX11_nextState_50 rfl (lv_at hl 1 rfl) ?_
      have h_35 : vp_in 40 41 := vp_in_iff.mpr (by decide)
      refine va_astqM hx hb hK.1 hP hD hS 1 4 rfl (E := RX9) rfl (any_w hK hP (q0 := 10) rfl) (i := 40) h_35 dX11_nextState_51 (fun H locs hP hD hS => ?_)
      have hP : va_P g.1 vwCl [(x, .inr (11, [.ref xtape, .int xtapeLength, .ref xreader, .ref xland, .ref xspareLand, .ref xstates, .int xcurrent, .int xnewest, .ref xboxes, .int xfullBoxes, .ref xsearch, .ref xsights, .ref xparting, .ref xheap])), (xstates, aO g 41 (va_up f_29 (40 : Int32).toNatClampNeg (some st2))), (st, .inr (9, [.int sday, .int sseed, .int salive, .int sstruck, .int sopen, .int sduels, .int slines, .ref scoins, .ref srented, .ref smornings, .ref shonours, .ref sused, .ref ssides, .ref slog])), (scoins, aI g 6 Fscoins), (srented, aI g 6 Fsrented), (smornings, aI g 8 Fsmornings), (shonours, aI g 8 Fshonours), (sused, aI g 8 Fsused), (ssides, aI g 16 Fssides), (slog, aI g 60 Fslog), (st2, .inr (9, [.int tday, .int tseed, .int talive, .int tstruck, .int topen, .int tduels, .int tlines, .ref tcoins, .ref trented, .ref tmornings, .ref thonours, .ref tused, .ref tsides, .ref tlog])), (tcoins, aI g 6 Ftcoins), (trented, aI g 6 Ftrented), (tmornings, aI g 8 Ftmornings), (thonours, aI g 8 Fthonours), (tused, aI g 8 Ftused), (tsides, aI g 16 Ftsides), (tlog, aI g 60 Ftlog)] H := hP
      have hD : va_D A [(x, .inr (11, [.ref xtape, .int xtapeLength, .ref xreader, .ref xland, .ref xspareLand, .ref xstates, .int xcurrent, .int xnewest, .ref xboxes, .int xfullBoxes, .ref xsearch, .ref xsights, .ref xparting, .ref xheap])), (xstates, aO g 41 (va_up f_29 (40 : Int32).toNatClampNeg (some st2))), (st, .inr (9, [.int sday, .int sseed, .int salive, .int sstruck, .int sopen, .int sduels, .int slines, .ref scoins, .ref srented, .ref smornings, .ref shonours, .ref sused, .ref ssides, .ref slog])), (scoins, aI g 6 Fscoins), (srented, aI g 6 Fsrented), (smornings, aI g 8 Fsmornings), (shonours, aI g 8 Fshonours), (sused, aI g 8 Fsused), (ssides, aI g 16 Fssides), (slog, aI g 60 Fslog), (st2, .inr (9, [.int tday, .int tseed, .int talive, .int tstruck, .int topen, .int tduels, .int tlines, .ref tcoins, .ref trented, .ref tmornings, .ref thonours, .ref tused, .ref tsides, .ref tlog])), (tcoins, aI g 6 Ftcoins), (trented, aI g 6 Ftrented), (tmornings, aI g 8 Ftmornings), (thonours, aI g 8 Fthonours), (tused, aI g 8 Ftused), (tsides, aI g 16 Ftsides), (tlog, aI g 60 Ftlog)] := hD
      refine lv_aload_n hx hb dX11_nextState_52 rfl (lv_at hl 2 rfl) ?_
      refine lv_dup hx hb dX11_nextState_53 rfl ?_
      refine va_get (D := g.1) (ci := 11) (v := .int xcurrent) (C := RX11) (T := TX11) (N := 14) hx hb hT inF_X11 hown hK.1 hP 0 rfl rfl 6 (by decide) (hT _ bw_276) (fun _ h9 => h9) rfl dX11_nextState_54 ?_
      refine lv_iconst (v := 1) hx hb dX11_nextState_57 (by decide) ?_
      refine lv_isub hx hb dX11_nextState_58 ?_
      refine lv_topi (fun x_36 ex_36 => ?_)
      have fx_36 : x_36.toInt = xcurrent.toInt - 1 := by rw [ex_36]; exact I_sub rfl (by decide : (1 : Int32).toInt = 1) (by omega) (by omega)
      refine va_put (D := g.1) (ci := 11) (v := .int x_36) (ty := .int) (C := RX11) (T := TX11) (N := 14) hx hb hT inF_X11 tyX11 tyX11_ok nmX11 hown hK.1 hP hD hS 0 rfl rfl 6 (by decide) (hT _ bw_276) (fun _ h9 => h9) rfl (by decide +kernel) rfl rfl (Nat.le_of_ble_eq_true rfl) dX11_nextState_59 (fun H locs hP hD hS => ?_)
      have hP : va_P g.1 vwCl [(x, .inr (11, [.ref xtape, .int xtapeLength, .ref xreader, .ref xland, .ref xspareLand, .ref xstates, .int x_36, .int xnewest, .ref xboxes, .int xfullBoxes, .ref xsearch, .ref xsights, .ref xparting, .ref xheap])), (xstates, aO g 41 (va_up f_29 (40 : Int32).toNatClampNeg (some st2))), (st, .inr (9, [.int sday, .int sseed, .int salive, .int sstruck, .int sopen, .int sduels, .int slines, .ref scoins, .ref srented, .ref smornings, .ref shonours, .ref sused, .ref ssides, .ref slog])), (scoins, aI g 6 Fscoins), (srented, aI g 6 Fsrented), (smornings, aI g 8 Fsmornings), (shonours, aI g 8 Fshonours), (sused, aI g 8 Fsused), (ssides, aI g 16 Fssides), (slog, aI g 60 Fslog), (st2, .inr (9, [.int tday, .int tseed, .int talive, .int tstruck, .int topen, .int tduels, .int tlines, .ref tcoins, .ref trented, .ref tmornings, .ref thonours, .ref tused, .ref tsides, .ref tlog])), (tcoins, aI g 6 Ftcoins), (trented, aI g 6 Ftrented), (tmornings, aI g 8 Ftmornings), (thonours, aI g 8 Fthonours), (tused, aI g 8 Ftused), (tsides, aI g 16 Ftsides), (tlog, aI g 60 Ftlog)] H := hP
      have hD : va_D A [(x, .inr (11, [.ref xtape, .int xtapeLength, .ref xreader, .ref xland, .ref xspareLand, .ref xstates, .int x_36, .int xnewest, .ref xboxes, .int xfullBoxes, .ref xsearch, .ref xsights, .ref xparting, .ref xheap])), (xstates, aO g 41 (va_up f_29 (40 : Int32).toNatClampNeg (some st2))), (st, .inr (9, [.int sday, .int sseed, .int salive, .int sstruck, .int sopen, .int sduels, .int slines, .ref scoins, .ref srented, .ref smornings, .ref shonours, .ref sused, .ref ssides, .ref slog])), (scoins, aI g 6 Fscoins), (srented, aI g 6 Fsrented), (smornings, aI g 8 Fsmornings), (shonours, aI g 8 Fshonours), (sused, aI g 8 Fsused), (ssides, aI g 16 Fssides), (slog, aI g 60 Fslog), (st2, .inr (9, [.int tday, .int tseed, .int talive, .int tstruck, .int topen, .int tduels, .int tlines, .ref tcoins, .ref trented, .ref tmornings, .ref thonours, .ref tused, .ref tsides, .ref tlog])), (tcoins, aI g 6 Ftcoins), (trented, aI g 6 Ftrented), (tmornings, aI g 8 Ftmornings), (thonours, aI g 8 Fthonours), (tused, aI g 8 Ftused), (tsides, aI g 16 Ftsides), (tlog, aI g 60 Ftlog)] := hD
      refine lv_aload_n hx hb dX11_nextState_62 rfl (lv_at hl 2 rfl) ?_
      refine va_get (D := g.1) (ci := 11) (v := .ref xstates) (C := RX11) (T := TX11) (N := 14) hx hb hT inF_X11 hown hK.1 hP 0 rfl rfl 5 (by decide) (hT _ bw_275) (fun _ h9 => h9) rfl dX11_nextState_63 ?_
      refine lv_aload_n hx hb dX11_nextState_66 rfl (lv_at hl 2 rfl) ?_
      refine va_get (D := g.1) (ci := 11) (v := .int x_36) (C := RX11) (T := TX11) (N := 14) hx hb hT inF_X11 hown hK.1 hP 0 rfl rfl 6 (by decide) (hT _ bw_276) (fun _ h9 => h9) rfl dX11_nextState_67 ?_
      refine lv_iconst (v := 1) hx hb dX11_nextState_70 (by decide) ?_
      refine lv_iadd hx hb dX11_nextState_71 ?_
      refine lv_topi (fun x_37 ex_37 => ?_)
      have fx_37 : x_37.toInt = x_36.toInt + 1 := by rw [ex_37]; exact I_add rfl (by decide : (1 : Int32).toInt = 1) (by omega) (by omega)
      have h_38 : vp_in x_37 41 := vp_in_iff.mpr (by omega)
      refine va_aldq hx hb hK.1 hP 1 4 rfl rfl (i := x_37) h_38 dX11_nextState_72 ?_
      refine p_tr (x := st2) (by rw [ns_40 (by omega)]; rfl) ?_
      refine lv_aload_n hx hb dX11_nextState_73 rfl (lv_at hl 2 rfl) ?_
      refine va_get (D := g.1) (ci := 11) (v := .ref xstates) (C := RX11) (T := TX11) (N := 14) hx hb hT inF_X11 hown hK.1 hP 0 rfl rfl 5 (by decide) (hT _ bw_275) (fun _ h9 => h9) rfl dX11_nextState_74 ?_
      refine lv_aload_n hx hb dX11_nextState_77 rfl (lv_at hl 2 rfl) ?_
      refine va_get (D := g.1) (ci := 11) (v := .int x_36) (C := RX11) (T := TX11) (N := 14) hx hb hT inF_X11 hown hK.1 hP 0 rfl rfl 6 (by decide) (hT _ bw_276) (fun _ h9 => h9) rfl dX11_nextState_78 ?_
      have h_39 : vp_in x_36 41 := vp_in_iff.mpr (by omega)
      refine va_aldq hx hb hK.1 hP 1 4 rfl rfl (i := x_36) h_39 dX11_nextState_81 ?_
      refine p_tr (x := st) (by rw [ns_39 w_31 (by omega) (by omega) (ns_c ho (by omega))]; rfl) ?_
      refine k_v (wr := [(x, .inr (11, [.ref xtape, .int xtapeLength, .ref xreader, .ref xland, .ref xspareLand, .ref xstates, .int x_36, .int xnewest, .ref xboxes, .int xfullBoxes, .ref xsearch, .ref xsights, .ref xparting, .ref xheap])), (xstates, aO g 41 (va_up f_29 (40 : Int32).toNatClampNeg (some st2)))]) (k_V (n := 1) ⟨hx, hb, hml, hown, hT⟩ hK hP hD [10, 11, 12, 13, 14, 15, 16, 17, 2, 3, 4, 5, 6, 7, 8, 9] rfl (by decide +kernel) (s_X9_copy l g H.size st2 tday tseed talive tstruck topen tduels tlines tcoins Ftcoins trented Ftrented tmornings Ftmornings thonours Fthonours tused Ftused tsides Ftsides tlog Ftlog st sday sseed salive sstruck sopen sduels slines scoins Fscoins srented Fsrented smornings Fsmornings shonours Fshonours sused Fsused ssides Fssides slog Fslog (by first | with_reducible assumption | omega) (by first | with_reducible assumption | omega) (by first | with_reducible assumption | omega) hh10 (by first | with_reducible assumption | omega) (by first | with_reducible assumption | omega) (by first | with_reducible assumption | omega) hh6) (gV bw_398 bw_399 bw_400 bw_46 bw_116) rfl rfl (by decide +kernel) ⟨by decide, by decide⟩ (ci := 9) (q0 := 0) rfl rfl (fun _ _ _ _ _ => trivial) (fun _ _ _ => trivial) rfl rfl hl.1 (Nat.le_of_ble_eq_true rfl) dX11_nextState_82 ⟨by decide, by decide⟩) hP hD hS hA [10, 11, 12, 13, 14, 15, 16, 17, 2, 3, 4, 5, 6, 7, 8, 9] [0, 1] rfl rfl (by decide +kernel) (by decide +kernel) (pr_all fun y_40 => pr_all fun y_41 => pr_all fun y_42 => pr_all fun y_43 => pr_all fun y_44 => pr_all fun y_45 => pr_all fun y_46 => pr_all fun f_47 => pr_all fun f_48 => pr_all fun f_49 => pr_all fun f_50 => pr_all fun f_51 => pr_all fun f_52 => fun f_53 H locs hw0 hP hD hS => ?_)
      have hP : va_P g.1 vwCl [(x, .inr (11, [.ref xtape, .int xtapeLength, .ref xreader, .ref xland, .ref xspareLand, .ref xstates, .int x_36, .int xnewest, .ref xboxes, .int xfullBoxes, .ref xsearch, .ref xsights, .ref xparting, .ref xheap])), (xstates, aO g 41 (va_up f_29 (40 : Int32).toNatClampNeg (some st2))), (st2, .inr (9, [.int y_40, .int y_41, .int y_42, .int y_43, .int y_44, .int y_45, .int y_46, .ref tcoins, .ref trented, .ref tmornings, .ref thonours, .ref tused, .ref tsides, .ref tlog])), (tcoins, aI g 6 f_47), (trented, aI g 6 f_48), (tmornings, aI g 8 f_49), (thonours, aI g 8 f_50), (tused, aI g 8 f_51), (tsides, aI g 16 f_52), (tlog, aI g 60 f_53), (st, .inr (9, [.int sday, .int sseed, .int salive, .int sstruck, .int sopen, .int sduels, .int slines, .ref scoins, .ref srented, .ref smornings, .ref shonours, .ref sused, .ref ssides, .ref slog])), (scoins, aI g 6 Fscoins), (srented, aI g 6 Fsrented), (smornings, aI g 8 Fsmornings), (shonours, aI g 8 Fshonours), (sused, aI g 8 Fsused), (ssides, aI g 16 Fssides), (slog, aI g 60 Fslog)] H := hP
      have hD : va_D A [(x, .inr (11, [.ref xtape, .int xtapeLength, .ref xreader, .ref xland, .ref xspareLand, .ref xstates, .int x_36, .int xnewest, .ref xboxes, .int xfullBoxes, .ref xsearch, .ref xsights, .ref xparting, .ref xheap])), (xstates, aO g 41 (va_up f_29 (40 : Int32).toNatClampNeg (some st2))), (st2, .inr (9, [.int y_40, .int y_41, .int y_42, .int y_43, .int y_44, .int y_45, .int y_46, .ref tcoins, .ref trented, .ref tmornings, .ref thonours, .ref tused, .ref tsides, .ref tlog])), (tcoins, aI g 6 f_47), (trented, aI g 6 f_48), (tmornings, aI g 8 f_49), (thonours, aI g 8 f_50), (tused, aI g 8 f_51), (tsides, aI g 16 f_52), (tlog, aI g 60 f_53), (st, .inr (9, [.int sday, .int sseed, .int salive, .int sstruck, .int sopen, .int sduels, .int slines, .ref scoins, .ref srented, .ref smornings, .ref shonours, .ref sused, .ref ssides, .ref slog])), (scoins, aI g 6 Fscoins), (srented, aI g 6 Fsrented), (smornings, aI g 8 Fsmornings), (shonours, aI g 8 Fshonours), (sused, aI g 8 Fsused), (ssides, aI g 16 Fssides), (slog, aI g 60 Fslog)] := hD
      have hw : (0 ≤ y_41.toInt ∧ y_41.toInt ≤ 999) ∧ (0 ≤ y_45.toInt ∧ y_45.toInt ≤ 8) ∧ (0 ≤ y_46.toInt ∧ y_46.toInt ≤ 60) ∧ (Rg 16 0 5 f_52) := hw0
      clear hw0
      have w_54 := hw.1
      have w_55 := hw.2.1
      have w_56 := hw.2.2.1
      have w_57 := hw.2.2.2
      clear hw
      refine lv_aload_n hx hb dX11_nextState_85 rfl (lv_at hl 2 rfl) ?_
      refine lv_dup hx hb dX11_nextState_86 rfl ?_
      refine va_get (D := g.1) (ci := 11) (v := .int x_36) (C := RX11) (T := TX11) (N := 14) hx hb hT inF_X11 hown hK.1 hP 0 rfl rfl 6 (by decide) (hT _ bw_276) (fun _ h9 => h9) rfl dX11_nextState_87 ?_
      refine lv_iconst (v := 1) hx hb dX11_nextState_90 (by decide) ?_
      refine lv_iadd hx hb dX11_nextState_91 ?_
      refine lv_topi (fun x_58 ex_58 => ?_)
      have fx_58 : x_58.toInt = x_36.toInt + 1 := by rw [ex_58]; exact I_add rfl (by decide : (1 : Int32).toInt = 1) (by omega) (by omega)
      refine va_put (D := g.1) (ci := 11) (v := .int x_58) (ty := .int) (C := RX11) (T := TX11) (N := 14) hx hb hT inF_X11 tyX11 tyX11_ok nmX11 hown hK.1 hP hD hS 0 rfl rfl 6 (by decide) (hT _ bw_276) (fun _ h9 => h9) rfl (by decide +kernel) rfl rfl (Nat.le_of_ble_eq_true rfl) dX11_nextState_92 (fun H locs hP hD hS => ?_)
      have hP : va_P g.1 vwCl [(x, .inr (11, [.ref xtape, .int xtapeLength, .ref xreader, .ref xland, .ref xspareLand, .ref xstates, .int x_58, .int xnewest, .ref xboxes, .int xfullBoxes, .ref xsearch, .ref xsights, .ref xparting, .ref xheap])), (xstates, aO g 41 (va_up f_29 (40 : Int32).toNatClampNeg (some st2))), (st2, .inr (9, [.int y_40, .int y_41, .int y_42, .int y_43, .int y_44, .int y_45, .int y_46, .ref tcoins, .ref trented, .ref tmornings, .ref thonours, .ref tused, .ref tsides, .ref tlog])), (tcoins, aI g 6 f_47), (trented, aI g 6 f_48), (tmornings, aI g 8 f_49), (thonours, aI g 8 f_50), (tused, aI g 8 f_51), (tsides, aI g 16 f_52), (tlog, aI g 60 f_53), (st, .inr (9, [.int sday, .int sseed, .int salive, .int sstruck, .int sopen, .int sduels, .int slines, .ref scoins, .ref srented, .ref smornings, .ref shonours, .ref sused, .ref ssides, .ref slog])), (scoins, aI g 6 Fscoins), (srented, aI g 6 Fsrented), (smornings, aI g 8 Fsmornings), (shonours, aI g 8 Fshonours), (sused, aI g 8 Fsused), (ssides, aI g 16 Fssides), (slog, aI g 60 Fslog)] H := hP
      have hD : va_D A [(x, .inr (11, [.ref xtape, .int xtapeLength, .ref xreader, .ref xland, .ref xspareLand, .ref xstates, .int x_58, .int xnewest, .ref xboxes, .int xfullBoxes, .ref xsearch, .ref xsights, .ref xparting, .ref xheap])), (xstates, aO g 41 (va_up f_29 (40 : Int32).toNatClampNeg (some st2))), (st2, .inr (9, [.int y_40, .int y_41, .int y_42, .int y_43, .int y_44, .int y_45, .int y_46, .ref tcoins, .ref trented, .ref tmornings, .ref thonours, .ref tused, .ref tsides, .ref tlog])), (tcoins, aI g 6 f_47), (trented, aI g 6 f_48), (tmornings, aI g 8 f_49), (thonours, aI g 8 f_50), (tused, aI g 8 f_51), (tsides, aI g 16 f_52), (tlog, aI g 60 f_53), (st, .inr (9, [.int sday, .int sseed, .int salive, .int sstruck, .int sopen, .int sduels, .int slines, .ref scoins, .ref srented, .ref smornings, .ref shonours, .ref sused, .ref ssides, .ref slog])), (scoins, aI g 6 Fscoins), (srented, aI g 6 Fsrented), (smornings, aI g 8 Fsmornings), (shonours, aI g 8 Fshonours), (sused, aI g 8 Fsused), (ssides, aI g 16 Fssides), (slog, aI g 60 Fslog)] := hD
      refine lv_aload_n hx hb dX11_nextState_95 rfl (lv_at hl 2 rfl) ?_
      refine lv_aload_n hx hb dX11_nextState_96 rfl (lv_at hl 2 rfl) ?_
      refine va_get (D := g.1) (ci := 11) (v := .int x_58) (C := RX11) (T := TX11) (N := 14) hx hb hT inF_X11 hown hK.1 hP 0 rfl rfl 6 (by decide) (hT _ bw_276) (fun _ h9 => h9) rfl dX11_nextState_97 ?_
      refine va_put (D := g.1) (ci := 11) (v := .int x_58) (ty := .int) (C := RX11) (T := TX11) (N := 14) hx hb hT inF_X11 tyX11 tyX11_ok nmX11 hown hK.1 hP hD hS 0 rfl rfl 7 (by decide) (hT _ bw_335) (fun _ h9 => h9) rfl (by decide +kernel) rfl rfl (Nat.le_of_ble_eq_true rfl) dX11_nextState_100 (fun H locs hP hD hS => ?_)
      have hP : va_P g.1 vwCl [(x, .inr (11, [.ref xtape, .int xtapeLength, .ref xreader, .ref xland, .ref xspareLand, .ref xstates, .int x_58, .int x_58, .ref xboxes, .int xfullBoxes, .ref xsearch, .ref xsights, .ref xparting, .ref xheap])), (xstates, aO g 41 (va_up f_29 (40 : Int32).toNatClampNeg (some st2))), (st2, .inr (9, [.int y_40, .int y_41, .int y_42, .int y_43, .int y_44, .int y_45, .int y_46, .ref tcoins, .ref trented, .ref tmornings, .ref thonours, .ref tused, .ref tsides, .ref tlog])), (tcoins, aI g 6 f_47), (trented, aI g 6 f_48), (tmornings, aI g 8 f_49), (thonours, aI g 8 f_50), (tused, aI g 8 f_51), (tsides, aI g 16 f_52), (tlog, aI g 60 f_53), (st, .inr (9, [.int sday, .int sseed, .int salive, .int sstruck, .int sopen, .int sduels, .int slines, .ref scoins, .ref srented, .ref smornings, .ref shonours, .ref sused, .ref ssides, .ref slog])), (scoins, aI g 6 Fscoins), (srented, aI g 6 Fsrented), (smornings, aI g 8 Fsmornings), (shonours, aI g 8 Fshonours), (sused, aI g 8 Fsused), (ssides, aI g 16 Fssides), (slog, aI g 60 Fslog)] H := hP
      have hD : va_D A [(x, .inr (11, [.ref xtape, .int xtapeLength, .ref xreader, .ref xland, .ref xspareLand, .ref xstates, .int x_58, .int x_58, .ref xboxes, .int xfullBoxes, .ref xsearch, .ref xsights, .ref xparting, .ref xheap])), (xstates, aO g 41 (va_up f_29 (40 : Int32).toNatClampNeg (some st2))), (st2, .inr (9, [.int y_40, .int y_41, .int y_42, .int y_43, .int y_44, .int y_45, .int y_46, .ref tcoins, .ref trented, .ref tmornings, .ref thonours, .ref tused, .ref tsides, .ref tlog])), (tcoins, aI g 6 f_47), (trented, aI g 6 f_48), (tmornings, aI g 8 f_49), (thonours, aI g 8 f_50), (tused, aI g 8 f_51), (tsides, aI g 16 f_52), (tlog, aI g 60 f_53), (st, .inr (9, [.int sday, .int sseed, .int salive, .int sstruck, .int sopen, .int sduels, .int slines, .ref scoins, .ref srented, .ref smornings, .ref shonours, .ref sused, .ref ssides, .ref slog])), (scoins, aI g 6 Fscoins), (srented, aI g 6 Fsrented), (smornings, aI g 8 Fsmornings), (shonours, aI g 8 Fshonours), (sused, aI g 8 Fsused), (ssides, aI g 16 Fssides), (slog, aI g 60 Fslog)] := hD
      refine lv_aload_n hx hb dX11_nextState_103 rfl (lv_at hl 2 rfl) ?_
      refine va_get (D := g.1) (ci := 11) (v := .ref xstates) (C := RX11) (T := TX11) (N := 14) hx hb hT inF_X11 hown hK.1 hP 0 rfl rfl 5 (by decide) (hT _ bw_275) (fun _ h9 => h9) rfl dX11_nextState_104 ?_
      refine lv_aload_n hx hb dX11_nextState_107 rfl (lv_at hl 2 rfl) ?_
      refine va_get (D := g.1) (ci := 11) (v := .int x_58) (C := RX11) (T := TX11) (N := 14) hx hb hT inF_X11 hown hK.1 hP 0 rfl rfl 6 (by decide) (hT _ bw_276) (fun _ h9 => h9) rfl dX11_nextState_108 ?_
      have h_59 : vp_in x_58 41 := vp_in_iff.mpr (by omega)
      refine va_aldq hx hb hK.1 hP 1 4 rfl rfl (i := x_58) h_59 dX11_nextState_111 ?_
      refine p_tr (x := st2) (by rw [ns_40 (by omega)]; rfl) ?_
      have hP9 : va_P g.1 vwCl [(x, .inr (11, [.ref xtape, .int xtapeLength, .ref xreader, .ref xland, .ref xspareLand, .ref xstates, .int x_58, .int x_58, .ref xboxes, .int xfullBoxes, .ref xsearch, .ref xsights, .ref xparting, .ref xheap])), (xstates, aO g 41 (va_up f_29 (40 : Int32).toNatClampNeg (some st2))), (st, .inr (9, [.int sday, .int sseed, .int salive, .int sstruck, .int sopen, .int sduels, .int slines, .ref scoins, .ref srented, .ref smornings, .ref shonours, .ref sused, .ref ssides, .ref slog])), (scoins, aI g 6 Fscoins), (srented, aI g 6 Fsrented), (smornings, aI g 8 Fsmornings), (shonours, aI g 8 Fshonours), (sused, aI g 8 Fsused), (ssides, aI g 16 Fssides), (slog, aI g 60 Fslog), (st2, .inr (9, [.int y_40, .int y_41, .int y_42, .int y_43, .int y_44, .int y_45, .int y_46, .ref tcoins, .ref trented, .ref tmornings, .ref thonours, .ref tused, .ref tsides, .ref tlog])), (tcoins, aI g 6 f_47), (trented, aI g 6 f_48), (tmornings, aI g 8 f_49), (thonours, aI g 8 f_50), (tused, aI g 8 f_51), (tsides, aI g 16 f_52), (tlog, aI g 60 f_53)] H := hP.sub [0, 1, 10, 11, 12, 13, 14, 15, 16, 17, 2, 3, 4, 5, 6, 7, 8, 9] rfl
      have hD9 : va_D A [(x, .inr (11, [.ref xtape, .int xtapeLength, .ref xreader, .ref xland, .ref xspareLand, .ref xstates, .int x_58, .int x_58, .ref xboxes, .int xfullBoxes, .ref xsearch, .ref xsights, .ref xparting, .ref xheap])), (xstates, aO g 41 (va_up f_29 (40 : Int32).toNatClampNeg (some st2))), (st, .inr (9, [.int sday, .int sseed, .int salive, .int sstruck, .int sopen, .int sduels, .int slines, .ref scoins, .ref srented, .ref smornings, .ref shonours, .ref sused, .ref ssides, .ref slog])), (scoins, aI g 6 Fscoins), (srented, aI g 6 Fsrented), (smornings, aI g 8 Fsmornings), (shonours, aI g 8 Fshonours), (sused, aI g 8 Fsused), (ssides, aI g 16 Fssides), (slog, aI g 60 Fslog), (st2, .inr (9, [.int y_40, .int y_41, .int y_42, .int y_43, .int y_44, .int y_45, .int y_46, .ref tcoins, .ref trented, .ref tmornings, .ref thonours, .ref tused, .ref tsides, .ref tlog])), (tcoins, aI g 6 f_47), (trented, aI g 6 f_48), (tmornings, aI g 8 f_49), (thonours, aI g 8 f_50), (tused, aI g 8 f_51), (tsides, aI g 16 f_52), (tlog, aI g 60 f_53)] := hD.sub [0, 1, 10, 11, 12, 13, 14, 15, 16, 17, 2, 3, 4, 5, 6, 7, 8, 9] (by decide +kernel) rfl
      exact W.aret (v := .ref st2) hx hb hr (Or.inl ⟨_, rfl⟩) (Or.inr ⟨_, rfl⟩) (fun t ht hW => ⟨⟨(x_58, x_58, (va_up f_29 (40 : Int32).toNatClampNeg (some st2)), y_40, y_41, y_42, y_43, y_44, y_45, y_46, f_47, f_48, f_49, f_50, f_51, f_52, f_53), st2, rfl, ⟨(Sh_40 w_31 (by omega) (by omega) (hn2 (by omega))), (by first | with_reducible assumption | omega), (by first | with_reducible assumption | omega), (by first | with_reducible assumption | omega), (by first | with_reducible assumption | omega), (by first | with_reducible assumption | omega), w_57⟩, rfl, by rw [ht]; exact hP9, by rw [hAe]; exact hD9⟩, hS.F ht⟩) hS.2.2 dX11_nextState_112
    · have f_60 := E_nle (by decide : (40 : Int32).toInt = 40) (rfl : L_28.toInt = _) c_33
      refine lv_aload_n hx hb dX11_nextState_24 rfl (lv_at hl 2 rfl) ?_
      refine va_get (D := g.1) (ci := 11) (v := .ref xstates) (C := RX11) (T := TX11) (N := 14) hx hb hT inF_X11 hown hK.1 hP 0 rfl rfl 5 (by decide) (hT _ bw_275) (fun _ h9 => h9) rfl dX11_nextState_25 ?_
      refine lv_iload_n hx hb dX11_nextState_28 rfl (lv_at hl 0 rfl) ?_
      refine lv_aload_n hx hb dX11_nextState_29 rfl (lv_at hl 2 rfl) ?_
      refine va_get (D := g.1) (ci := 11) (v := .ref xstates) (C := RX11) (T := TX11) (N := 14) hx hb hT inF_X11 hown hK.1 hP 0 rfl rfl 5 (by decide) (hT _ bw_275) (fun _ h9 => h9) rfl dX11_nextState_30 ?_
      refine lv_iload_n hx hb dX11_nextState_33 rfl (lv_at hl 0 rfl) ?_
      refine lv_iconst (v := 1) hx hb dX11_nextState_34 (by decide) ?_
      refine lv_iadd hx hb dX11_nextState_35 ?_
      refine lv_topi (fun x_61 ex_61 => ?_)
      have fx_61 : x_61.toInt = L_28.toInt + 1 := by rw [ex_61]; exact I_add rfl (by decide : (1 : Int32).toInt = 1) (by omega) (by omega)
      have h_62 : vp_in x_61 41 := vp_in_iff.mpr (by omega)
      obtain ⟨a_63, h1a_63, h2a_63, h3a_63⟩ := ns_get hX hS hK (ns_c ho (by omega)) (any_w hK hP (q0 := 2) rfl) w_31 (by omega) (by omega) (x := x_61) (by omega)
      refine va_aldq hx hb hK.1 hP 1 4 rfl rfl (i := x_61) h_62 dX11_nextState_36 ?_
      refine p_tr (x := a_63) (by rw [h1a_63]; rfl) ?_
      have h_64 : vp_in L_28 41 := vp_in_iff.mpr (by omega)
      refine va_astqM hx hb hK.1 hP hD hS 1 4 rfl (E := RX9) rfl h3a_63 (i := L_28) h_64 dX11_nextState_37 (fun H locs hP hD hS => ?_)
      have hP : va_P g.1 vwCl [(x, .inr (11, [.ref xtape, .int xtapeLength, .ref xreader, .ref xland, .ref xspareLand, .ref xstates, .int xcurrent, .int xnewest, .ref xboxes, .int xfullBoxes, .ref xsearch, .ref xsights, .ref xparting, .ref xheap])), (xstates, aO g 41 (va_up f_29 (L_28 : Int32).toNatClampNeg (some a_63))), (st, .inr (9, [.int sday, .int sseed, .int salive, .int sstruck, .int sopen, .int sduels, .int slines, .ref scoins, .ref srented, .ref smornings, .ref shonours, .ref sused, .ref ssides, .ref slog])), (scoins, aI g 6 Fscoins), (srented, aI g 6 Fsrented), (smornings, aI g 8 Fsmornings), (shonours, aI g 8 Fshonours), (sused, aI g 8 Fsused), (ssides, aI g 16 Fssides), (slog, aI g 60 Fslog), (st2, .inr (9, [.int tday, .int tseed, .int talive, .int tstruck, .int topen, .int tduels, .int tlines, .ref tcoins, .ref trented, .ref tmornings, .ref thonours, .ref tused, .ref tsides, .ref tlog])), (tcoins, aI g 6 Ftcoins), (trented, aI g 6 Ftrented), (tmornings, aI g 8 Ftmornings), (thonours, aI g 8 Fthonours), (tused, aI g 8 Ftused), (tsides, aI g 16 Ftsides), (tlog, aI g 60 Ftlog)] H := hP
      have hD : va_D A [(x, .inr (11, [.ref xtape, .int xtapeLength, .ref xreader, .ref xland, .ref xspareLand, .ref xstates, .int xcurrent, .int xnewest, .ref xboxes, .int xfullBoxes, .ref xsearch, .ref xsights, .ref xparting, .ref xheap])), (xstates, aO g 41 (va_up f_29 (L_28 : Int32).toNatClampNeg (some a_63))), (st, .inr (9, [.int sday, .int sseed, .int salive, .int sstruck, .int sopen, .int sduels, .int slines, .ref scoins, .ref srented, .ref smornings, .ref shonours, .ref sused, .ref ssides, .ref slog])), (scoins, aI g 6 Fscoins), (srented, aI g 6 Fsrented), (smornings, aI g 8 Fsmornings), (shonours, aI g 8 Fshonours), (sused, aI g 8 Fsused), (ssides, aI g 16 Fssides), (slog, aI g 60 Fslog), (st2, .inr (9, [.int tday, .int tseed, .int talive, .int tstruck, .int topen, .int tduels, .int tlines, .ref tcoins, .ref trented, .ref tmornings, .ref thonours, .ref tused, .ref tsides, .ref tlog])), (tcoins, aI g 6 Ftcoins), (trented, aI g 6 Ftrented), (tmornings, aI g 8 Ftmornings), (thonours, aI g 8 Fthonours), (tused, aI g 8 Ftused), (tsides, aI g 16 Ftsides), (tlog, aI g 60 Ftlog)] := hD
      obtain ⟨x_65, ex_65⟩ : ∃ y : Int32, y = L_28 + 1 := ⟨_, rfl⟩
      have fx_65 : x_65.toInt = L_28.toInt + 1 := by rw [ex_65]; exact I_add rfl (by decide) (by omega) (by omega)
      refine lv_iinc (v := x_65) (lv' := [(2, .int x_65), (1, .ref st2), (0, .ref x)]) hx hb dX11_nextState_38 hl (k := 0) rfl (by rw [ex_65]; rfl) (by decide) rfl (fun ls hl => ?_)
      refine lv_goto (tgt := 18) hx hb dX11_nextState_41 (by decide) ?_
      exact ih (n - 1) (by omega) H locs ls ⟨x_65, (va_up f_29 (L_28 : Int32).toNatClampNeg (some a_63)), (by first | with_reducible assumption | omega), (ns_step w_31 h2a_63 (by omega) (by omega)), by omega, hP.sub [0, 1, 2, 3, 4, 5, 6, 7, 8, 9, 10, 11, 12, 13, 14, 15, 16, 17] rfl, hD.sub [0, 1, 2, 3, 4, 5, 6, 7, 8, 9, 10, 11, 12, 13, 14, 15, 16, 17] (by decide +kernel) rfl, hS, lv_sub hl [0, 1, 2] rfl⟩
