-- the environment of the claim (nest links, the text constant), contracts in one form, rows for calls
abbrev txt : String := "man dies coin son kind reason of by from to rent all each duel with on honour draw or and not day uses spent "
abbrev sgn : String := ";()<>=+-*/%"
def eW (a : Nat × Nat) (U : State) : Prop := va_Nw (.methodLinkNest "DuelDelays" 15 yX5_init "DuelDelays") U ∧ va_Nw (.methodLinkNest "DuelDelays" 22 yX2_init "DuelDelays") U ∧ va_Nw (.methodLinkNest "DuelDelays" 41 yX7_init "DuelDelays") U ∧ va_Nw (.methodLinkNest "DuelDelays" 48 yX8_init "DuelDelays") U ∧ va_Nw (.methodLinkNest "DuelDelays" 55 yX4_init "DuelDelays") U ∧ va_Nw (.methodLinkNest "DuelDelays" 62 yX1_init "DuelDelays") U ∧ va_Nw (.methodLinkNest "DuelDelays" 67 yX9_init "DuelDelays") U ∧ va_Nw (.methodLinkNest "DuelDelays$Land" 11 yX3_init "DuelDelays") U ∧ va_Nw (.methodLinkNest "DuelDelays$Land" 20 yX0_init "DuelDelays") U ∧ va_Nw (.methodLinkNest "DuelDelays$Land" 27 yX6_init "DuelDelays") U ∧ va_Nw (.methodLinkNest "DuelDelays$Reader" 182 yX11_barringUses "DuelDelays") U ∧ va_Nw (.methodLinkNest "DuelDelays$Reader" 196 yX11_indexOf "DuelDelays") U ∧ va_Nw (.methodLinkNest "DuelDelays$Search" 90 yX11_barringUses "DuelDelays") U ∧ va_Nw (.methodLinkNest "DuelDelays$State" 107 yX11_barringUses "DuelDelays") U ∧ va_Nw (.methodLinkNest "DuelDelays$Tokens" 82 yX11_indexOf "DuelDelays") U ∧ va_AO RX9 U ∧ vk_R "DuelDelays$Tokens" 15 txt a.1 U ∧ vk_R "DuelDelays$Tokens" 86 sgn a.2 U
theorem eW.moved {a : Nat × Nat} {s U : State} (hW : s.WarmedH U.vm) (h : eW a s) : eW a U := by
  obtain ⟨h0, h1, h2, h3, h4, h5, h6, h7, h8, h9, h10, h11, h12, h13, h14, h15, h16, h17⟩ := h
  exact ⟨va_Nw.warmM hW h0, va_Nw.warmM hW h1, va_Nw.warmM hW h2, va_Nw.warmM hW h3, va_Nw.warmM hW h4, va_Nw.warmM hW h5, va_Nw.warmM hW h6, va_Nw.warmM hW h7, va_Nw.warmM hW h8, va_Nw.warmM hW h9, va_Nw.warmM hW h10, va_Nw.warmM hW h11, va_Nw.warmM hW h12, va_Nw.warmM hW h13, va_Nw.warmM hW h14, va_AO.moved hW.alike h15, vk_R.warm hW h16, vk_R.warm hW h17⟩
theorem eW.calling {a : Nat × Nat} {U : State} (gf : JFrame) (mk : MethodId) (av : Array Value) (h : eW a U) : eW a (U.calling gf mk av) := by
  obtain ⟨h0, h1, h2, h3, h4, h5, h6, h7, h8, h9, h10, h11, h12, h13, h14, h15, h16, h17⟩ := h
  exact ⟨va_Nw.same rfl rfl h0, va_Nw.same rfl rfl h1, va_Nw.same rfl rfl h2, va_Nw.same rfl rfl h3, va_Nw.same rfl rfl h4, va_Nw.same rfl rfl h5, va_Nw.same rfl rfl h6, va_Nw.same rfl rfl h7, va_Nw.same rfl rfl h8, va_Nw.same rfl rfl h9, va_Nw.same rfl rfl h10, va_Nw.same rfl rfl h11, va_Nw.same rfl rfl h12, va_Nw.same rfl rfl h13, va_Nw.same rfl rfl h14, va_AO.moved (u := U) (Vm.Alike.refl U.vm) h15, vk_R.same (u := U) rfl h16, vk_R.same (u := U) rfl h17⟩
theorem eW_X11_15 {a : Nat × Nat} {U : State} (h : eW a U) : va_Nw (.methodLinkNest "DuelDelays" 15 yX5_init "DuelDelays") U := h.1
theorem eW_X11_22 {a : Nat × Nat} {U : State} (h : eW a U) : va_Nw (.methodLinkNest "DuelDelays" 22 yX2_init "DuelDelays") U := h.2.1
theorem eW_X11_41 {a : Nat × Nat} {U : State} (h : eW a U) : va_Nw (.methodLinkNest "DuelDelays" 41 yX7_init "DuelDelays") U := h.2.2.1
theorem eW_X11_48 {a : Nat × Nat} {U : State} (h : eW a U) : va_Nw (.methodLinkNest "DuelDelays" 48 yX8_init "DuelDelays") U := h.2.2.2.1
theorem eW_X11_55 {a : Nat × Nat} {U : State} (h : eW a U) : va_Nw (.methodLinkNest "DuelDelays" 55 yX4_init "DuelDelays") U := h.2.2.2.2.1
theorem eW_X11_62 {a : Nat × Nat} {U : State} (h : eW a U) : va_Nw (.methodLinkNest "DuelDelays" 62 yX1_init "DuelDelays") U := h.2.2.2.2.2.1
theorem eW_X11_67 {a : Nat × Nat} {U : State} (h : eW a U) : va_Nw (.methodLinkNest "DuelDelays" 67 yX9_init "DuelDelays") U := h.2.2.2.2.2.2.1
theorem eW_X2_11 {a : Nat × Nat} {U : State} (h : eW a U) : va_Nw (.methodLinkNest "DuelDelays$Land" 11 yX3_init "DuelDelays") U := h.2.2.2.2.2.2.2.1
theorem eW_X2_20 {a : Nat × Nat} {U : State} (h : eW a U) : va_Nw (.methodLinkNest "DuelDelays$Land" 20 yX0_init "DuelDelays") U := h.2.2.2.2.2.2.2.2.1
theorem eW_X2_27 {a : Nat × Nat} {U : State} (h : eW a U) : va_Nw (.methodLinkNest "DuelDelays$Land" 27 yX6_init "DuelDelays") U := h.2.2.2.2.2.2.2.2.2.1
theorem eW_X5_182 {a : Nat × Nat} {U : State} (h : eW a U) : va_Nw (.methodLinkNest "DuelDelays$Reader" 182 yX11_barringUses "DuelDelays") U := h.2.2.2.2.2.2.2.2.2.2.1
theorem eW_X5_196 {a : Nat × Nat} {U : State} (h : eW a U) : va_Nw (.methodLinkNest "DuelDelays$Reader" 196 yX11_indexOf "DuelDelays") U := h.2.2.2.2.2.2.2.2.2.2.2.1
theorem eW_X7_90 {a : Nat × Nat} {U : State} (h : eW a U) : va_Nw (.methodLinkNest "DuelDelays$Search" 90 yX11_barringUses "DuelDelays") U := h.2.2.2.2.2.2.2.2.2.2.2.2.1
theorem eW_X9_107 {a : Nat × Nat} {U : State} (h : eW a U) : va_Nw (.methodLinkNest "DuelDelays$State" 107 yX11_barringUses "DuelDelays") U := h.2.2.2.2.2.2.2.2.2.2.2.2.2.1
theorem eW_X10_82 {a : Nat × Nat} {U : State} (h : eW a U) : va_Nw (.methodLinkNest "DuelDelays$Tokens" 82 yX11_indexOf "DuelDelays") U := h.2.2.2.2.2.2.2.2.2.2.2.2.2.2.1
theorem eW_ao {a : Nat × Nat} {U : State} (h : eW a U) : va_AO RX9 U := h.2.2.2.2.2.2.2.2.2.2.2.2.2.2.2.1
theorem eW_tx {a : Nat × Nat} {U : State} (h : eW a U) : vk_R "DuelDelays$Tokens" 15 txt a.1 U := h.2.2.2.2.2.2.2.2.2.2.2.2.2.2.2.2.1
theorem eW_sg {a : Nat × Nat} {U : State} (h : eW a U) : vk_R "DuelDelays$Tokens" 86 sgn a.2 U := h.2.2.2.2.2.2.2.2.2.2.2.2.2.2.2.2.2
def kE (g : GG) (U : State) : Prop := kK g U ∧ eW g.2.2.2.2.2.2 U
theorem kE.moved {g : GG} {s U : State} (hW : s.WarmedH U.vm) (h : kE g s) : kE g U := ⟨va_K.moved hW.alike h.1, eW.moved hW h.2⟩
theorem kE.calling {g : GG} {U : State} (gf : JFrame) (mk : MethodId) (av : Array Value) (h : kE g U) : kE g (U.calling gf mk av) := ⟨va_K.moved (u := U) (U := U.calling gf mk av) (Vm.Alike.refl U.vm) h.1, eW.calling gf mk av h.2⟩
def Pst (g : GG) (sz : Nat) (ws : va_W) (X : State → Prop) : State → Prop := fun U => U.heap.size = sz ∧ va_P g.1 vwCl ws U.heap ∧ kE g U ∧ va_D (fun _ => True) ws ∧ X U
def Qst {S : Type} (g : GG) (wa : va_W) (sz : Nat) (w1 : S → va_W) : S → State → Prop := fun u t => va_P g.1 vwCl (w1 u) t.heap ∧ va_D (va_A wa sz) (w1 u)
def Qsr {S : Type} (g : GG) (wa : va_W) (sz : Nat) (ad : S → Nat) (w1 : S → va_W) : S → Nat → State → Prop := fun u r t => r = ad u ∧ va_P g.1 vwCl (w1 u) t.heap ∧ va_D (va_A wa sz) (w1 u)
abbrev nX : State → Prop := fun _ => True
theorem fm_of {α β : Type} {f : α → Option β} : ∀ {l : List α} {r : List β}, l.map f = r.map some → l.filterMap f = r
  | [], [], _ => rfl
  | [], _ :: _, h => by cases h
  | _ :: _, [], h => by cases h
  | x :: l, y :: r, h => by
    injection h with h1 h2
    rw [List.filterMap_cons_some h1, fm_of h2]
section KC
variable {p : Program} {l : Launch} {e : Env} {R : Room} {s : State} {m : MethodId} {args : Array Value} {below : List Frame} {meth : Method} {c : Code} {H : Heap} {locs : List Loc} {cells slots : Nat} {Q : State → Prop}
variable {cc : ByteArray} {pc : Nat} {ls : Array Slot} {rest : List Value} {A : Nat → Prop} {ws wc wa wr : va_W} {H0 : Heap} {g : GG} {X : State → Prop}
theorem k_pre {av : List Value} (hK : kE g s) (hP : va_P g.1 vwCl wc H) (hD : va_D (fun _ => True) wc) (hX : ∀ U : State, U.heap = H → s.WarmedH U.vm → X U) : ∀ U : State, U.heap = H → s.WarmedH U.vm → va_Pc av (Pst g H.size wc X) av.toArray U := fun U hU hW => ⟨rfl, by rw [hU], by rw [hU]; exact hP, hK.moved hW, hD, hX U hU hW⟩
theorem k_bl {av : List Value} {sz : Nat} (hXc : ∀ (U : State) (gf : JFrame) (mk : MethodId) (a : Array Value), X U → X (U.calling gf mk a)) : ∀ (a : Array Value) (U : State) (gf : JFrame) (mk : MethodId), va_Pc av (Pst g sz wc X) a U → va_Pc av (Pst g sz wc X) a (U.calling gf mk a) := fun a U gf mk q => ⟨q.1, q.2.1, q.2.2.1, q.2.2.2.1.calling gf mk a, q.2.2.2.2.1, hXc U gf mk a q.2.2.2.2.2⟩
theorem k_V {own C : String} {nL mL n index mc ms ci q0 b : Nat} {y : MethodName} {cy : ByteArray} {rt : Option FieldType} {rm : Room} {As st0 fs : List Value} {T : u_T} {N : Nat} {Qc : Array Value → State → Outcome → State → Prop} {free : Addr → Prop}
    (Sf : CallFix p m c cc nL s args gT own) (hK : kE g s) (hP : va_P g.1 vwCl ws H) (hD : va_D A ws) (isC : List Nat) (hC : isC.map (fun i => ws[i]?) = wc.map some) (hnd : va_nd isC = true)
    (hM : Met l y (.code y cy mL rt :: gT) rm (va_Pc (.ref b :: As) (Pst g H.size wc X)) Qc mc ms free) (hG : GoodIn gT (wsV own index C y (.code y cy mL rt :: gT))) (hrc : rm.cells = mc) (hrs : rm.slots = ms)
    (hd : y.cls = C ∧ y.cls ≠ "java/lang/invoke/MethodHandle" ∧ y.cls ≠ "java/lang/invoke/VarHandle" ∧ (parseMethodDescriptor y.desc).map (fun d => d.parameters.length) = some n) (hR : rm.frames + 1 ≤ R.frames ∧ 8 + (mL + 11) + rm.locals ≤ R.locals)
    (hcq : vwCl[ci]? = some (C, T, N)) (he : wc[q0]? = some (b, .inr (ci, fs))) (hXc : ∀ (U : State) (gf : JFrame) (mk : MethodId) (a : Array Value), X U → X (U.calling gf mk a)) (hX : ∀ U : State, U.heap = H → s.WarmedH U.vm → X U)
    (hst : st0 = As.reverse ++ .ref b :: rest) (hn : As.length = n) (hsz : ls.size = nL) (hW : (rest.map fun v => v.category).sum ≤ 8) (hdg : decode cc pc = .ok (.invokevirtual index, 3)) (hf : cells + mc ≤ R.cells ∧ slots + ms ≤ R.slots) :
    va_Run p l e R s m args below meth c H locs cells slots mc ms (F0 m pc ls st0) rest (Qc (.ref b :: As).toArray) free := by
  have hPc := hP.sub (ws' := wc) isC (fm_of hC)
  have hDc : va_D (fun _ => True) wc := (hD.sub (ws' := wc) isC hnd hC).weaken (fun _ _ _ _ => trivial)
  exact va_runV Sf hM (cwV n Sf.2.2.2.2 hG rfl hrc hrs hd hR) ⟨k_bl hXc, va_recv hK.1 hPc hcq he, k_pre hK hPc hDc hX⟩ rfl hn hsz hst (lv_room hW) hdg hf
theorem k_S {own : String} {nL mL n index mc ms : Nat} {y : MethodName} {cy : ByteArray} {rt : Option FieldType} {rm : Room} {As st0 : List Value} {Qc : Array Value → State → Outcome → State → Prop} {free : Addr → Prop}
    (Sf : CallFix p m c cc nL s args gT own) (hK : kE g s) (hP : va_P g.1 vwCl ws H) (hD : va_D A ws) (isC : List Nat) (hC : isC.map (fun i => ws[i]?) = wc.map some) (hnd : va_nd isC = true)
    (hM : Met l y (.code y cy mL rt :: gT) rm (va_Pc As (Pst g H.size wc X)) Qc mc ms free) (hG : GoodIn gT (va_wsS own index y (.code y cy mL rt :: gT))) (hrc : rm.cells = mc) (hrs : rm.slots = ms)
    (hd : y.cls ≠ "java/lang/invoke/MethodHandle" ∧ y.cls ≠ "java/lang/invoke/VarHandle" ∧ (parseMethodDescriptor y.desc).map (fun d => d.parameters.length) = some n) (hR : rm.frames + 1 ≤ R.frames ∧ 8 + (mL + 11) + rm.locals ≤ R.locals)
    (hXc : ∀ (U : State) (gf : JFrame) (mk : MethodId) (a : Array Value), X U → X (U.calling gf mk a)) (hX : ∀ U : State, U.heap = H → s.WarmedH U.vm → X U)
    (hst : st0 = As.reverse ++ rest) (hn : As.length = n) (hsz : ls.size = nL) (hW : (rest.map fun v => v.category).sum ≤ 8) (hdg : decode cc pc = .ok (.invokestatic index, 3)) (hf : cells + mc ≤ R.cells ∧ slots + ms ≤ R.slots) :
    va_Run p l e R s m args below meth c H locs cells slots mc ms (F0 m pc ls st0) rest (Qc As.toArray) free := by
  have hPc := hP.sub (ws' := wc) isC (fm_of hC)
  have hDc : va_D (fun _ => True) wc := (hD.sub (ws' := wc) isC hnd hC).weaken (fun _ _ _ _ => trivial)
  exact va_runS Sf hM (va_cwS n Sf.2.2.2.2 hG rfl hrc hrs hd hR) ⟨k_bl hXc, k_pre hK hPc hDc hX⟩ rfl hn hsz hst (lv_room hW) hdg hf
theorem k_SN {own host : String} {nL mL n index mc ms : Nat} {y : MethodName} {cy : ByteArray} {rt : Option FieldType} {rm : Room} {As st0 : List Value} {Qc : Array Value → State → Outcome → State → Prop} {free : Addr → Prop}
    (Sf : CallFix p m c cc nL s args gT own) (hK : kE g s) (hP : va_P g.1 vwCl ws H) (hD : va_D A ws) (isC : List Nat) (hC : isC.map (fun i => ws[i]?) = wc.map some) (hnd : va_nd isC = true)
    (hM : Met l y (.code y cy mL rt :: gT) rm (va_Pc As (Pst g H.size wc X)) Qc mc ms free) (hG : GoodIn gT (.code y cy mL rt :: gT)) (hini : Cond.initialized y.cls ∈ gT) (hlk : va_Nw (.methodLinkNest own index y host) s) (hstc : Cond.static y ∈ gT) (hrc : rm.cells = mc) (hrs : rm.slots = ms)
    (hd : y.cls ≠ "java/lang/invoke/MethodHandle" ∧ y.cls ≠ "java/lang/invoke/VarHandle" ∧ (parseMethodDescriptor y.desc).map (fun d => d.parameters.length) = some n) (hR : rm.frames + 1 ≤ R.frames ∧ 8 + (mL + 11) + rm.locals ≤ R.locals)
    (hXc : ∀ (U : State) (gf : JFrame) (mk : MethodId) (a : Array Value), X U → X (U.calling gf mk a)) (hX : ∀ U : State, U.heap = H → s.WarmedH U.vm → X U)
    (hst : st0 = As.reverse ++ rest) (hn : As.length = n) (hsz : ls.size = nL) (hW : (rest.map fun v => v.category).sum ≤ 8) (hdg : decode cc pc = .ok (.invokestatic index, 3)) (hf : cells + mc ≤ R.cells ∧ slots + ms ≤ R.slots) :
    va_Run p l e R s m args below meth c H locs cells slots mc ms (F0 m pc ls st0) rest (Qc As.toArray) free := by
  have hPc := hP.sub (ws' := wc) isC (fm_of hC)
  have hDc : va_D (fun _ => True) wc := (hD.sub (ws' := wc) isC hnd hC).weaken (fun _ _ _ _ => trivial)
  have hT := Sf.2.2.2.2
  exact va_runSN Sf hM ⟨va_cnB n hT hG rfl hrc hrs hlk (hT _ hini) hd hR, hT _ hstc, trivial⟩ ⟨k_bl hXc, k_pre hK hPc hDc hX⟩ rfl hn hsz hst (lv_room hW) hdg hf
theorem k_I {own : String} {nL mL n index mc ms b : Nat} {y : MethodName} {cy : ByteArray} {rm : Room} {As st0 : List Value} {Qc : Array Value → State → Outcome → State → Prop} {free : Addr → Prop}
    (Sf : CallFix p m c cc nL s args gT own) (hK : kE g s) (hP : va_P g.1 vwCl ws H) (hD : va_D A ws) (isC : List Nat) (hC : isC.map (fun i => ws[i]?) = wc.map some) (hnd : va_nd isC = true)
    (hM : Met l y (.code y cy mL none :: gT) rm (va_Pc (.ref b :: As) (Pst g H.size wc X)) Qc mc ms free) (hG : GoodIn gT (.code y cy mL none :: gT)) (hini : Cond.initialized y.cls ∈ gT) (hlk : Cond.methodLink own index y ∈ gT) (him : Cond.instanceMethod y ∈ gT) (hyn : y.name = "<init>") (hrc : rm.cells = mc) (hrs : rm.slots = ms)
    (hd : y.cls ≠ "java/lang/invoke/MethodHandle" ∧ y.cls ≠ "java/lang/invoke/VarHandle" ∧ (parseMethodDescriptor y.desc).map (fun d => d.parameters.length) = some n) (hR : rm.frames + 1 ≤ R.frames ∧ 8 + (mL + 11) + rm.locals ≤ R.locals)
    (hXc : ∀ (U : State) (gf : JFrame) (mk : MethodId) (a : Array Value), X U → X (U.calling gf mk a)) (hX : ∀ U : State, U.heap = H → s.WarmedH U.vm → X U)
    (hst : st0 = As.reverse ++ .ref b :: rest) (hn : As.length = n) (hsz : ls.size = nL) (hW : (rest.map fun v => v.category).sum ≤ 8) (hdg : decode cc pc = .ok (.invokespecial index, 3)) (hf : cells + mc ≤ R.cells ∧ slots + ms ≤ R.slots) :
    va_Run p l e R s m args below meth c H locs cells slots mc ms (F0 m pc ls st0) rest (Qc (.ref b :: As).toArray) free := by
  have hPc := hP.sub (ws' := wc) isC (fm_of hC)
  have hDc : va_D (fun _ => True) wc := (hD.sub (ws' := wc) isC hnd hC).weaken (fun _ _ _ _ => trivial)
  have hT := Sf.2.2.2.2
  exact va_runI Sf hM (cwI n hT hG rfl hrc hrs (hT _ hini) (hT _ hlk) (hT _ him) hyn hd hR) ⟨k_bl hXc, k_pre hK hPc hDc hX⟩ rfl hn hsz hst (lv_room hW) hdg hf
theorem k_N {own host : String} {nL mL n index mc ms b : Nat} {y : MethodName} {cy : ByteArray} {rm : Room} {As st0 : List Value} {Qc : Array Value → State → Outcome → State → Prop} {free : Addr → Prop}
    (Sf : CallFix p m c cc nL s args gT own) (hK : kE g s) (hP : va_P g.1 vwCl ws H) (hD : va_D A ws) (isC : List Nat) (hC : isC.map (fun i => ws[i]?) = wc.map some) (hnd : va_nd isC = true)
    (hM : Met l y (.code y cy mL none :: gT) rm (va_Pc (.ref b :: As) (Pst g H.size wc X)) Qc mc ms free) (hG : GoodIn gT (.code y cy mL none :: gT)) (hini : Cond.initialized y.cls ∈ gT) (hlk : va_Nw (.methodLinkNest own index y host) s) (him : Cond.instanceMethod y ∈ gT) (hyn : y.name = "<init>") (hrc : rm.cells = mc) (hrs : rm.slots = ms)
    (hd : y.cls ≠ "java/lang/invoke/MethodHandle" ∧ y.cls ≠ "java/lang/invoke/VarHandle" ∧ (parseMethodDescriptor y.desc).map (fun d => d.parameters.length) = some n) (hR : rm.frames + 1 ≤ R.frames ∧ 8 + (mL + 11) + rm.locals ≤ R.locals)
    (hXc : ∀ (U : State) (gf : JFrame) (mk : MethodId) (a : Array Value), X U → X (U.calling gf mk a)) (hX : ∀ U : State, U.heap = H → s.WarmedH U.vm → X U)
    (hst : st0 = As.reverse ++ .ref b :: rest) (hn : As.length = n) (hsz : ls.size = nL) (hW : (rest.map fun v => v.category).sum ≤ 8) (hdg : decode cc pc = .ok (.invokespecial index, 3)) (hf : cells + mc ≤ R.cells ∧ slots + ms ≤ R.slots) :
    va_Run p l e R s m args below meth c H locs cells slots mc ms (F0 m pc ls st0) rest (Qc (.ref b :: As).toArray) free := by
  have hPc := hP.sub (ws' := wc) isC (fm_of hC)
  have hDc : va_D (fun _ => True) wc := (hD.sub (ws' := wc) isC hnd hC).weaken (fun _ _ _ _ => trivial)
  have hT := Sf.2.2.2.2
  exact va_runIN Sf hM ⟨va_cnB n hT hG rfl hrc hrs hlk (hT _ hini) hd hR, hyn, hT _ him⟩ ⟨k_bl hXc, k_pre hK hPc hDc hX⟩ rfl hn hsz hst (lv_room hW) hdg hf
theorem k_i {S : Type} {post : Int32 → S → Prop} {w1 : S → va_W} {mc ms : Nat} {st0 : List Value} {a : Array Value} (hr : va_Run p l e R s m args below meth c H locs cells slots mc ms (F0 m pc ls st0) rest (va_Qi post (Qst g wa H.size w1) (va_A wa H.size) a) (va_A wa H.size))
    (hP : va_P g.1 vwCl ws H) (hD : va_D A ws) (hS : va_S A H0 H locs) (hA : ∀ q, H0.size ≤ q → A q) (isA isR : List Nat) (hC : isA.map (fun i => ws[i]?) = wa.map some) (hRr : isR.map (fun i => ws[i]?) = wr.map some) (hn : va_nd isR = true) (hdis : ∀ i ∈ isR, i ∉ isA)
    (kk : ∀ (r : Int32) (u : S) (H1 : Heap) (locs1 : List Loc), post r u → va_P g.1 vwCl (wr ++ w1 u) H1 → va_D A (wr ++ w1 u) → va_S A H0 H1 locs1 → W p l e R s m args below meth c H1 locs1 (cells + mc) (slots + ms) Q (F0 m (pc + 3) ls (.int r :: rest))) : W p l e R s m args below meth c H locs cells slots Q (F0 m pc ls st0) := by
  have hF := va_free (wc := wa) hD hS hA isA hC
  refine va_calli hr hS (fun q _ h => hF q h) hF (fun r u t H1 locs1 ht hvm hw hB hz1 hk1 hS1 => ?_)
  obtain ⟨hP1, hD1⟩ := hB
  rw [ht] at hP1
  obtain ⟨hP2, hD2⟩ := va_join (wr := wr) (w1 := w1 u) hP hD isA isR hC hRr hn hdis hk1 hF hP1 hD1
  exact kk r u H1 locs1 hw hP2 hD2 hS1
theorem k_l {S : Type} {post : Int64 → S → Prop} {w1 : S → va_W} {mc ms : Nat} {st0 : List Value} {a : Array Value} (hr : va_Run p l e R s m args below meth c H locs cells slots mc ms (F0 m pc ls st0) rest (va_Ql post (Qst g wa H.size w1) (va_A wa H.size) a) (va_A wa H.size))
    (hP : va_P g.1 vwCl ws H) (hD : va_D A ws) (hS : va_S A H0 H locs) (hA : ∀ q, H0.size ≤ q → A q) (isA isR : List Nat) (hC : isA.map (fun i => ws[i]?) = wa.map some) (hRr : isR.map (fun i => ws[i]?) = wr.map some) (hn : va_nd isR = true) (hdis : ∀ i ∈ isR, i ∉ isA)
    (kk : ∀ (r : Int64) (u : S) (H1 : Heap) (locs1 : List Loc), post r u → va_P g.1 vwCl (wr ++ w1 u) H1 → va_D A (wr ++ w1 u) → va_S A H0 H1 locs1 → W p l e R s m args below meth c H1 locs1 (cells + mc) (slots + ms) Q (F0 m (pc + 3) ls (.long r :: rest))) : W p l e R s m args below meth c H locs cells slots Q (F0 m pc ls st0) := by
  have hF := va_free (wc := wa) hD hS hA isA hC
  refine va_calll hr hS (fun q _ h => hF q h) hF (fun r u t H1 locs1 ht hvm hw hB hz1 hk1 hS1 => ?_)
  obtain ⟨hP1, hD1⟩ := hB
  rw [ht] at hP1
  obtain ⟨hP2, hD2⟩ := va_join (wr := wr) (w1 := w1 u) hP hD isA isR hC hRr hn hdis hk1 hF hP1 hD1
  exact kk r u H1 locs1 hw hP2 hD2 hS1
theorem k_v {S : Type} {post : S → Prop} {w1 : S → va_W} {mc ms : Nat} {st0 : List Value} {a : Array Value} (hr : va_Run p l e R s m args below meth c H locs cells slots mc ms (F0 m pc ls st0) rest (va_Qv post (Qst g wa H.size w1) (va_A wa H.size) a) (va_A wa H.size))
    (hP : va_P g.1 vwCl ws H) (hD : va_D A ws) (hS : va_S A H0 H locs) (hA : ∀ q, H0.size ≤ q → A q) (isA isR : List Nat) (hC : isA.map (fun i => ws[i]?) = wa.map some) (hRr : isR.map (fun i => ws[i]?) = wr.map some) (hn : va_nd isR = true) (hdis : ∀ i ∈ isR, i ∉ isA)
    (kk : ∀ (u : S) (H1 : Heap) (locs1 : List Loc), post u → va_P g.1 vwCl (wr ++ w1 u) H1 → va_D A (wr ++ w1 u) → va_S A H0 H1 locs1 → W p l e R s m args below meth c H1 locs1 (cells + mc) (slots + ms) Q (F0 m (pc + 3) ls rest)) : W p l e R s m args below meth c H locs cells slots Q (F0 m pc ls st0) := by
  have hF := va_free (wc := wa) hD hS hA isA hC
  refine va_callv hr hS (fun q _ h => hF q h) hF (fun u t H1 locs1 ht hvm hw hB hz1 hk1 hS1 => ?_)
  obtain ⟨hP1, hD1⟩ := hB
  rw [ht] at hP1
  obtain ⟨hP2, hD2⟩ := va_join (wr := wr) (w1 := w1 u) hP hD isA isR hC hRr hn hdis hk1 hF hP1 hD1
  exact kk u H1 locs1 hw hP2 hD2 hS1
theorem k_r {S : Type} {post : S → Prop} {ad : S → Nat} {w1 : S → va_W} {mc ms : Nat} {st0 : List Value} {a : Array Value} (hr : va_Run p l e R s m args below meth c H locs cells slots mc ms (F0 m pc ls st0) rest (va_Qr post (Qsr g wa H.size ad w1) (va_A wa H.size) a) (va_A wa H.size))
    (hP : va_P g.1 vwCl ws H) (hD : va_D A ws) (hS : va_S A H0 H locs) (hA : ∀ q, H0.size ≤ q → A q) (isA isR : List Nat) (hC : isA.map (fun i => ws[i]?) = wa.map some) (hRr : isR.map (fun i => ws[i]?) = wr.map some) (hn : va_nd isR = true) (hdis : ∀ i ∈ isR, i ∉ isA)
    (kk : ∀ (u : S) (H1 : Heap) (locs1 : List Loc), post u → va_P g.1 vwCl (wr ++ w1 u) H1 → va_D A (wr ++ w1 u) → va_S A H0 H1 locs1 → W p l e R s m args below meth c H1 locs1 (cells + mc) (slots + ms) Q (F0 m (pc + 3) ls (.ref (ad u) :: rest))) : W p l e R s m args below meth c H locs cells slots Q (F0 m pc ls st0) := by
  have hF := va_free (wc := wa) hD hS hA isA hC
  refine va_callr hr hS (fun q _ h => hF q h) hF (fun u ra t H1 locs1 ht hvm hw hB hz1 hk1 hS1 => ?_)
  obtain ⟨rfl, hP1, hD1⟩ := hB
  rw [ht] at hP1
  obtain ⟨hP2, hD2⟩ := va_join (wr := wr) (w1 := w1 u) hP hD isA isR hC hRr hn hdis hk1 hF hP1 hD1
  exact kk u H1 locs1 hw hP2 hD2 hS1
/-- a loop counted up: at its head, after i rounds, Inv i -/
theorem k_loop (n head : Nat) (Inv : Nat → Heap → List Loc → Array Slot → Prop) (cf sf : Nat → Nat)
    (hstep : ∀ i, i < n → ∀ (H : Heap) (locs : List Loc) (ls : Array Slot), Inv i H locs ls → (∀ (H : Heap) (locs : List Loc) (ls : Array Slot), Inv (i + 1) H locs ls → W p l e R s m args below meth c H locs (cf (i + 1)) (sf (i + 1)) Q (F0 m head ls [])) → W p l e R s m args below meth c H locs (cf i) (sf i) Q (F0 m head ls []))
    (hend : ∀ (H : Heap) (locs : List Loc) (ls : Array Slot), Inv n H locs ls → W p l e R s m args below meth c H locs (cf n) (sf n) Q (F0 m head ls [])) (i0 : Nat) (hi0 : i0 ≤ n) (h0 : Inv i0 H locs ls) : W p l e R s m args below meth c H locs (cf i0) (sf i0) Q (F0 m head ls []) := by
  suffices hh : ∀ (k i : Nat), i + k = n → ∀ (H : Heap) (locs : List Loc) (ls : Array Slot), Inv i H locs ls → W p l e R s m args below meth c H locs (cf i) (sf i) Q (F0 m head ls []) from hh (n - i0) i0 (by omega) H locs ls h0
  intro k
  induction k with
  | zero => intro i hi H locs ls h; obtain rfl : i = n := by omega
            exact hend H locs ls h
  | succ k ih => intro i hi H locs ls h; exact hstep i (by omega) H locs ls h (fun H locs ls h => ih (i + 1) (by omega) H locs ls h)
theorem k_iR {S : Type} {post : Int32 → S → Prop} {mc ms : Nat} {st0 : List Value} {a : Array Value} (hr : va_Run p l e R s m args below meth c H locs cells slots mc ms (F0 m pc ls st0) rest (va_Qi post (Qst g [] H.size (fun _ => [])) (va_A [] H.size) a) (va_A [] H.size))
    (hP : va_P g.1 vwCl ws H) (hS : va_S A H0 H locs) (hA : ∀ q, H0.size ≤ q → A q)
    (kk : ∀ (r : Int32) (u : S) (H1 : Heap) (locs1 : List Loc), post r u → va_P g.1 vwCl ws H1 → va_S A H0 H1 locs1 → W p l e R s m args below meth c H1 locs1 (cells + mc) (slots + ms) Q (F0 m (pc + 3) ls (.int r :: rest))) : W p l e R s m args below meth c H locs cells slots Q (F0 m pc ls st0) := by
  have hF : ∀ q, va_A [] H.size q → A q := fun q h => h.elim (fun ⟨k, e, h⟩ => by simp at h) (fun h => hA q (Nat.le_trans hS.1 h))
  refine va_calli hr hS (fun q _ h => hF q h) hF (fun r u t H1 locs1 ht hvm hw hB hz1 hk1 hS1 => ?_)
  refine kk r u H1 locs1 hw (hP.kept (fun k x hx => hk1 x.1 ((hP k x hx).lt) (fun h => h.elim (fun ⟨k, e, h⟩ => by simp at h) (fun h => absurd ((hP k x hx).lt) (Nat.not_lt.mpr h))))) hS1
theorem k_lR {S : Type} {post : Int64 → S → Prop} {mc ms : Nat} {st0 : List Value} {a : Array Value} (hr : va_Run p l e R s m args below meth c H locs cells slots mc ms (F0 m pc ls st0) rest (va_Ql post (Qst g [] H.size (fun _ => [])) (va_A [] H.size) a) (va_A [] H.size))
    (hP : va_P g.1 vwCl ws H) (hS : va_S A H0 H locs) (hA : ∀ q, H0.size ≤ q → A q)
    (kk : ∀ (r : Int64) (u : S) (H1 : Heap) (locs1 : List Loc), post r u → va_P g.1 vwCl ws H1 → va_S A H0 H1 locs1 → W p l e R s m args below meth c H1 locs1 (cells + mc) (slots + ms) Q (F0 m (pc + 3) ls (.long r :: rest))) : W p l e R s m args below meth c H locs cells slots Q (F0 m pc ls st0) := by
  have hF : ∀ q, va_A [] H.size q → A q := fun q h => h.elim (fun ⟨k, e, h⟩ => by simp at h) (fun h => hA q (Nat.le_trans hS.1 h))
  refine va_calll hr hS (fun q _ h => hF q h) hF (fun r u t H1 locs1 ht hvm hw hB hz1 hk1 hS1 => ?_)
  refine kk r u H1 locs1 hw (hP.kept (fun k x hx => hk1 x.1 ((hP k x hx).lt) (fun h => h.elim (fun ⟨k, e, h⟩ => by simp at h) (fun h => absurd ((hP k x hx).lt) (Nat.not_lt.mpr h))))) hS1
theorem k_vR {S : Type} {post : S → Prop} {mc ms : Nat} {st0 : List Value} {a : Array Value} (hr : va_Run p l e R s m args below meth c H locs cells slots mc ms (F0 m pc ls st0) rest (va_Qv post (Qst g [] H.size (fun _ => [])) (va_A [] H.size) a) (va_A [] H.size))
    (hP : va_P g.1 vwCl ws H) (hS : va_S A H0 H locs) (hA : ∀ q, H0.size ≤ q → A q)
    (kk : ∀ (u : S) (H1 : Heap) (locs1 : List Loc), post u → va_P g.1 vwCl ws H1 → va_S A H0 H1 locs1 → W p l e R s m args below meth c H1 locs1 (cells + mc) (slots + ms) Q (F0 m (pc + 3) ls rest)) : W p l e R s m args below meth c H locs cells slots Q (F0 m pc ls st0) := by
  have hF : ∀ q, va_A [] H.size q → A q := fun q h => h.elim (fun ⟨k, e, h⟩ => by simp at h) (fun h => hA q (Nat.le_trans hS.1 h))
  refine va_callv hr hS (fun q _ h => hF q h) hF (fun u t H1 locs1 ht hvm hw hB hz1 hk1 hS1 => ?_)
  refine kk u H1 locs1 hw (hP.kept (fun k x hx => hk1 x.1 ((hP k x hx).lt) (fun h => h.elim (fun ⟨k, e, h⟩ => by simp at h) (fun h => absurd ((hP k x hx).lt) (Nat.not_lt.mpr h))))) hS1
end KC
theorem zshr (y : Int32) : (0 : Int32) >>> (y &&& 31) = 0 := by
  apply Int32.toBitVec_inj.1
  simp
theorem tsplit (x : Int32) (n : Nat) (hn : n < 2 ^ 31) : (x.toInt < 0 ∨ (n : Int) ≤ x.toInt) ∨ ∃ j : Nat, j < n ∧ x = nI j := by
  rcases pk_ix x hn with h | h | h
  · exact Or.inl (Or.inl (by simpa using Int32.lt_iff_toInt_lt.mp h))
  · refine Or.inl (Or.inr ?_)
    have h1 := Int32.le_iff_toInt_le.mp h
    rwa [nI_toInt hn] at h1
  · exact Or.inr h
theorem z0_c (sp dp n : Nat) : va_cpy z0 z0 sp dp n = z0 := by
  funext j
  unfold va_cpy
  split <;> rfl
theorem nz_0 : vp_nar .boolean 0 = 0 := by rfl
def Fr (b n : Int32) : Int32 := if 0 ≤ n ∧ n ≤ b then n else -1
def Fz (b n : Int32) : Int32 := if 0 ≤ n ∧ n ≤ b then 0 else -1
theorem cpy_n (f g : Nat → Int32) (sp dp : Nat) : va_cpy f g sp dp 0 = g := by
  funext j
  unfold va_cpy
  rw [if_neg (by omega)]
theorem upd_tw (f : Nat → Int32) (i : Nat) (x y : Int32) : upd (upd f i x) i y = upd f i y := by
  funext j
  unfold upd
  split <;> rfl
