/-! constructors: they make cells; the world behind them is some world of a told form -/
def NK2 (U : State) : Prop := va_Nw (.methodLinkNest RX10 9 yX4_init "PressedFerns") U ∧ va_Nw (.methodLinkNest RX4 26 yX1_init "PressedFerns") U ∧ va_Nw (.methodLinkNest RX10 24 yX6_init "PressedFerns") U ∧ va_Nw (.methodLinkNest RX10 31 yX7_init "PressedFerns") U ∧ va_Nw (.methodLinkNest RX10 38 yX8_init "PressedFerns") U ∧ va_Nw (.methodLinkNest RX10 45 yX3_init "PressedFerns") U ∧ va_Nw (.methodLinkNest RX10 52 yX0_init "PressedFerns") U ∧ va_Nw (.methodLinkNest RX10 59 yX9_init "PressedFerns") U ∧ va_Nw (.methodLinkNest RX10 66 yX2_init "PressedFerns") U
theorem NK2.warm {s U : State} (hW : s.WarmedH U.vm) (h : NK2 s) : NK2 U := by
  obtain ⟨h1, h2, h3, h4, h5, h6, h7, h8, h9⟩ := h
  exact ⟨va_Nw.warmM hW h1, va_Nw.warmM hW h2, va_Nw.warmM hW h3, va_Nw.warmM hW h4, va_Nw.warmM hW h5, va_Nw.warmM hW h6, va_Nw.warmM hW h7, va_Nw.warmM hW h8, va_Nw.warmM hW h9⟩
theorem NK2.calling {U : State} {g : JFrame} {mk : MethodId} {a : Array Value} (h : NK2 U) : NK2 (U.calling g mk a) := by
  obtain ⟨h1, h2, h3, h4, h5, h6, h7, h8, h9⟩ := h
  exact ⟨va_Nw.same (u := U) (U := U.calling g mk a) rfl rfl h1, va_Nw.same (u := U) (U := U.calling g mk a) rfl rfl h2, va_Nw.same (u := U) (U := U.calling g mk a) rfl rfl h3, va_Nw.same (u := U) (U := U.calling g mk a) rfl rfl h4, va_Nw.same (u := U) (U := U.calling g mk a) rfl rfl h5, va_Nw.same (u := U) (U := U.calling g mk a) rfl rfl h6, va_Nw.same (u := U) (U := U.calling g mk a) rfl rfl h7, va_Nw.same (u := U) (U := U.calling g mk a) rfl rfl h8, va_Nw.same (u := U) (U := U.calling g mk a) rfl rfl h9⟩
/-- a constructor's start, the heap's size told -/
def preC (D : va_G) (cI cJ : ClassId) (sz : Nat) (ws : va_W) : State → Prop := fun U => U.heap.size = sz ∧ va_P D vwCl ws U.heap ∧ va_K D vwCl (tyA cI cJ) U ∧ NK2 U ∧ va_D (fun _ => True) ws
theorem preC_blind {D : va_G} {cI cJ : ClassId} {sz : Nat} {ws : va_W} {av : List Value} : FrameBlind (va_Pc av (preC D cI cJ sz ws)) := fun a U g mk q => by
  obtain ⟨q0, qz, qP, qK, qN, qD⟩ := q
  exact ⟨q0, qz, qP, va_K.moved (u := U) (U := U.calling g mk a) (Vm.Alike.refl U.vm) qK, qN.calling, qD⟩
/-- its end: a world of the form Wq -/
def QC (D : va_G) (W0 : va_W) (sz : Nat) (Wq : va_W → Prop) : Array Value → State → Outcome → State → Prop := fun _ st oc t => oc = .returned none ∧ (∃ w1, Wq w1 ∧ va_P D vwCl w1 t.heap ∧ va_D (va_A W0 sz) w1) ∧ va_F (va_A W0 sz) st t
theorem tyI_eq {D : va_G} {cI cJ cA : ClassId} {U : State} (h : va_K D vwCl (tyA cI cJ ++ [(cA, .int)]) U) : cA = cI := by
  have h1 := (h.2 0 (cI, .int) rfl).2
  have h2 := (h.2 2 (cA, .int) rfl).2
  exact Option.some.inj (h2.symm.trans h1)
theorem tyJ_eq {D : va_G} {cI cJ cA : ClassId} {U : State} (h : va_K D vwCl (tyA cI cJ ++ [(cA, .long)]) U) : cA = cJ := by
  have h1 := (h.2 1 (cJ, .long) rfl).2
  have h2 := (h.2 2 (cA, .long) rfl).2
  exact Option.some.inj (h2.symm.trans h1)
section CLI
variable {p : Program} {l : Launch} {e : Env} {R : Room} {s : State} {m : MethodId} {args : Array Value} {below : List Frame} {meth : Method} {c : Code} {H : Heap} {locs : List Loc} {Q : State → Prop}
variable {cc : ByteArray} {pc : Nat} {ls : Array Slot} {rest st0 : List Value} {a : Array Value} {D : va_G} {A : Nat → Prop} {H0 : Heap} {cells slots mc ms : Nat}
theorem cl_init {WC wr ws : va_W} {Wq : va_W → Prop} (hr : va_Run p l e R s m args below meth c H locs cells slots mc ms (F0 m pc ls st0) rest (QC D WC H.size Wq a) (va_A WC H.size)) (hP : va_P D vwCl ws H) (hD : va_D A ws) (hS : va_S A H0 H locs) (hA : ∀ q, H0.size ≤ q → A q)
    (isC isR : List Nat) (hC : isC.map (fun i => ws[i]?) = WC.map some) (hR : isR.map (fun i => ws[i]?) = wr.map some) (hn : va_nd isR = true) (hdis : ∀ i ∈ isR, i ∉ isC)
    (kk : ∀ (w1 : va_W) (H1 : Heap) (locs1 : List Loc), Wq w1 → va_P D vwCl (wr ++ w1) H1 → va_D A (wr ++ w1) → va_S A H0 H1 locs1 → W p l e R s m args below meth c H1 locs1 (cells + mc) (slots + ms) Q (F0 m (pc + 3) ls rest)) : W p l e R s m args below meth c H locs cells slots Q (F0 m pc ls st0) := by
  intro T hT X
  obtain ⟨v, st₀, t, T', L, h0, X', hL, e1, e2, ⟨hv, ⟨w1, hw, hP1, hD1⟩, hz, hk⟩, st⟩ := hr T hT X
  cases hv
  rw [h0] at hz hk
  have hF := va_free (wc := WC) hD hS hA isC hC
  rw [← e1] at hP1 hk hz
  obtain ⟨hP2, hD2⟩ := va_join hP hD isC isR hC hR hn hdis hk hF hP1 hD1
  obtain ⟨t2, a1, b1⟩ := kk w1 T'.heap (locs ++ L) hw hP2 hD2
    ⟨Nat.le_trans hS.1 hz, fun q h1 h2 => by rw [hk q (Nat.lt_of_lt_of_le h1 hS.1) (fun z => h2 (hF q z))]; exact hS.2.1 q h1 h2, fun q hq => by
      rcases List.mem_append.mp hq with h | h
      · exact hS.2.2 q h
      · exact hF _ (hL q h)⟩ T' rfl X'
  exact ⟨t2, st t2 a1, b1⟩
variable {y : MethodName} {bytes : ByteArray} {maxL nL n index : Nat} {wsC : List Cond} {rm : Room} {Ts : List Cond} {own : String} {b : Addr} {cI cJ : ClassId}
theorem cl_prep {WC ws : va_W} {isC : List Nat} (hK : va_K D vwCl (tyA cI cJ) s) (hN : NK2 s) (hP : va_P D vwCl ws H) (hD : va_D A ws) (hC : isC.map (fun i => ws[i]?) = WC.map some) (hnd : va_nd isC = true) : PreS s H (va_Pc [.ref b] (preC D cI cJ H.size WC)) [.ref b] := by
  refine ⟨preC_blind, fun U hU hW => ⟨rfl, by rw [hU], ?_, va_K.moved hW.alike hK, hN.warm hW, (hD.sub isC hnd hC).weaken (fun _ _ _ _ => trivial)⟩⟩
  rw [hU]
  intro k q hk
  have h1 : (isC.map (fun i => ws[i]?))[k]? = some (some q) := by rw [hC, List.getElem?_map, hk]; rfl
  rw [List.getElem?_map] at h1
  cases hi : isC[k]? with
  | none => rw [hi] at h1; cases h1
  | some i => rw [hi] at h1; exact hP i q (Option.some.inj h1)
/-- a constructor of a nest mate -/
theorem cl_IN {WC wr ws : va_W} {Wq : va_W → Prop} {host : String} (hM : Met l y wsC rm (va_Pc [.ref b] (preC D cI cJ H.size WC)) (QC D WC H.size Wq) mc ms (va_A WC H.size)) (S : CallFix p m c cc nL s args Ts own) (cw : va_CN R s args own index y host bytes maxL none wsC rm mc ms 0 ∧ y.name = "<init>" ∧ (Cond.instanceMethod y).before args s = true)
    (hK : va_K D vwCl (tyA cI cJ) s) (hN : NK2 s) (hP : va_P D vwCl ws H) (hD : va_D A ws) (hS : va_S A H0 H locs) (hA : ∀ q, H0.size ≤ q → A q)
    (isC isR : List Nat) (hC : isC.map (fun i => ws[i]?) = WC.map some) (hnd : va_nd isC = true) (hR : isR.map (fun i => ws[i]?) = wr.map some) (hn : va_nd isR = true) (hdis : ∀ i ∈ isR, i ∉ isC)
    (hsize : ls.size = nL) (hstk : st0 = .ref b :: rest) (hW : (rest.map fun v => v.category).sum ≤ 8) (hdg : decode cc pc = .ok (.invokespecial index, 3)) (hcs : cells + mc ≤ R.cells ∧ slots + ms ≤ R.slots)
    (kk : ∀ (w1 : va_W) (H1 : Heap) (locs1 : List Loc), Wq w1 → va_P D vwCl (wr ++ w1) H1 → va_D A (wr ++ w1) → va_S A H0 H1 locs1 → W p l e R s m args below meth c H1 locs1 (cells + mc) (slots + ms) Q (F0 m (pc + 3) ls rest)) : W p l e R s m args below meth c H locs cells slots Q (F0 m pc ls st0) :=
  cl_init (va_runIN (As := []) (b := b) S hM cw (cl_prep hK hN hP hD hC hnd) rfl rfl hsize hstk (lv_room hW) hdg hcs) hP hD hS hA isC isR hC hR hn hdis kk
/-- a constructor that the class may call -/
theorem cl_I {WC wr ws : va_W} {Wq : va_W → Prop} (hM : Met l y wsC rm (va_Pc [.ref b] (preC D cI cJ H.size WC)) (QC D WC H.size Wq) mc ms (va_A WC H.size)) (S : CallFix p m c cc nL s args Ts own) (cw : CallB R s args own index y bytes maxL none wsC rm mc ms 0 ∧ y.name = "<init>" ∧ (Cond.instanceMethod y).before args s = true)
    (hK : va_K D vwCl (tyA cI cJ) s) (hN : NK2 s) (hP : va_P D vwCl ws H) (hD : va_D A ws) (hS : va_S A H0 H locs) (hA : ∀ q, H0.size ≤ q → A q)
    (isC isR : List Nat) (hC : isC.map (fun i => ws[i]?) = WC.map some) (hnd : va_nd isC = true) (hR : isR.map (fun i => ws[i]?) = wr.map some) (hn : va_nd isR = true) (hdis : ∀ i ∈ isR, i ∉ isC)
    (hsize : ls.size = nL) (hstk : st0 = .ref b :: rest) (hW : (rest.map fun v => v.category).sum ≤ 8) (hdg : decode cc pc = .ok (.invokespecial index, 3)) (hcs : cells + mc ≤ R.cells ∧ slots + ms ≤ R.slots)
    (kk : ∀ (w1 : va_W) (H1 : Heap) (locs1 : List Loc), Wq w1 → va_P D vwCl (wr ++ w1) H1 → va_D A (wr ++ w1) → va_S A H0 H1 locs1 → W p l e R s m args below meth c H1 locs1 (cells + mc) (slots + ms) Q (F0 m (pc + 3) ls rest)) : W p l e R s m args below meth c H locs cells slots Q (F0 m pc ls st0) :=
  cl_init (va_runI (As := []) (b := b) S hM cw (cl_prep hK hN hP hD hC hnd) rfl rfl hsize hstk (lv_room hW) hdg hcs) hP hD hS hA isC isR hC hR hn hdis kk
theorem rt_c {W0 : va_W} {Wq : va_W → Prop} {w1 : va_W} {A0 : Nat → Prop} {Q0 : State → Prop} (hA0 : va_A W0 s.heap.size = A0) (hQ0 : MQ below (QC D W0 s.heap.size Wq) args s cells slots (va_A W0 s.heap.size) = Q0) (hx : p.tables.exec = Jvm.exec) (hb : c.code = cc) (hr : meth.sig.returnType = none) (hlocks : meth.locks = false) (hw : Wq w1) (hP : va_P D vwCl w1 H) (hD : va_D A0 w1) (hS : va_S A0 s.heap H locs) (hdg : decode cc pc = .ok (.return_, 1)) :
    W p l e R s m args below meth c H locs cells slots Q0 (F0 m pc ls []) := by
  subst hA0
  subst hQ0
  exact W.vret hx hb hr (fun t ht _ => ⟨rfl, ⟨w1, hw, by rw [ht]; exact hP, hD⟩, hS.F ht⟩) hS.2.2 hdg hlocks
end CLI
