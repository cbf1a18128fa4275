/-! a maker of arrays, and the script's reader -/
def preA (D : va_G) (cI cJ : ClassId) (sz : Nat) (ws : va_W) : State → Prop := fun U => U.heap.size = sz ∧ va_P D vwCl ws U.heap ∧ va_K D vwCl (tyA cI cJ) U ∧ NK U ∧ va_D (fun _ => True) ws
theorem preA_blind {D : va_G} {cI cJ : ClassId} {sz : Nat} {ws : va_W} {av : List Value} : FrameBlind (va_Pc av (preA D cI cJ sz ws)) := fun a U g mk q => by
  obtain ⟨q0, qz, qP, qK, qN, qD⟩ := q
  exact ⟨q0, qz, qP, va_K.moved (u := U) (U := U.calling g mk a) (Vm.Alike.refl U.vm) qK, qN, qD⟩
def QA (D : va_G) (W0 : va_W) (sz : Nat) (W1 : va_W) (rv : Option Value) : Array Value → State → Outcome → State → Prop := fun _ st oc t => oc = .returned rv ∧ va_P D vwCl W1 t.heap ∧ va_F (va_A W0 sz) st t
def preX (b Ls : Nat) (xs : Nat → Int32) : State → Prop := fun U => va_X b Ls xs U U.heap ∧ b < U.heap.size
theorem preX_blind {b Ls : Nat} {xs : Nat → Int32} {av : List Value} : FrameBlind (va_Pc av (preX b Ls xs)) := fun a U g mk q => by
  obtain ⟨q0, qX, qb⟩ := q
  exact ⟨q0, va_X.moved (u := U) (U := U.calling g mk a) (Vm.Alike.refl U.vm) qX, qb⟩
section CLA
variable {p : Program} {l : Launch} {e : Env} {R : Room} {s : State} {m : MethodId} {args : Array Value} {below : List Frame} {meth : Method} {c : Code} {H : Heap} {locs : List Loc} {Q : State → Prop}
variable {cc : ByteArray} {pc : Nat} {ls : Array Slot} {rest st0 : List Value} {a : Array Value} {D : va_G} {A : Nat → Prop} {H0 : Heap} {cells slots mc ms : Nat}
theorem cl_goA {rv : Option Value} {WC WC1 ws : va_W} (ws1 : va_W) {isC : List Nat} (hr : va_Run p l e R s m args below meth c H locs cells slots mc ms (F0 m pc ls st0) rest (QA D WC H.size WC1 rv a) (va_A WC H.size)) (hP : va_P D vwCl ws H) (hD : va_D A ws) (hS : va_S A H0 H locs) (hA : ∀ q, H0.size ≤ q → A q)
    (hC : isC.map (fun i => ws[i]?) = WC.map some) (hlen : WC1.length = isC.length) (hpb : pb ws isC WC1 = ws1) (hF : ws1.map Prod.fst = ws.map Prod.fst)
    (kk : ∀ (H1 : Heap) (locs1 : List Loc), va_P D vwCl ws1 H1 → va_D A ws1 → va_S A H0 H1 locs1 → W p l e R s m args below meth c H1 locs1 (cells + mc) (slots + ms) Q (F0 m (pc + 3) ls (rv.toList ++ rest))) : W p l e R s m args below meth c H locs cells slots Q (F0 m pc ls st0) := by
  intro T hT X
  obtain ⟨v, st₀, t, T', L, h0, X', hL, e1, e2, ⟨hv, hP1, hz, hk⟩, st⟩ := hr T hT X
  cases hv
  rw [h0] at hz hk
  have hFr := va_free (wc := WC) hD hS hA isC hC
  have inC : ∀ (j : Nat) (q : Nat × va_E), WC[j]? = some q → ∃ i, isC[j]? = some i ∧ ws[i]? = some q := by
    intro j q hq
    have h1 : (isC.map (fun i => ws[i]?))[j]? = some (some q) := by rw [hC, List.getElem?_map, hq]; rfl
    rw [List.getElem?_map] at h1
    cases hi : isC[j]? with
    | none => rw [hi] at h1; cases h1
    | some i => rw [hi] at h1; exact ⟨i, rfl, Option.some.inj h1⟩
  have hPn : va_P D vwCl ws1 T'.heap := by
    rw [← hpb]
    intro k q hq
    rcases pb_at isC WC1 ws k q hlen hq with ⟨j, h1, h2⟩ | ⟨h1, h2⟩
    · rw [e1]
      exact hP1 j q h2
    · have hx := hP k q h1
      refine hx.kept ?_
      rw [e1]
      refine hk q.1 hx.lt ?_
      rintro (⟨j, x, hq⟩ | hge)
      · obtain ⟨i, h3, h4⟩ := inC j (q.1, x) hq
        have hki := hD.1 k i q (q.1, x) h1 h4 rfl
        subst hki
        exact h2 (List.mem_of_getElem? h3)
      · exact absurd hx.lt (Nat.not_lt.mpr hge)
  obtain ⟨t2, a1, b1⟩ := kk T'.heap (locs ++ L) hPn (va_D_fst hD hF)
    ⟨Nat.le_trans hS.1 (by rw [e1]; exact hz), fun q h1 h2 => by rw [e1, hk q (Nat.lt_of_lt_of_le h1 hS.1) (fun z => h2 (hFr q z))]; exact hS.2.1 q h1 h2, fun q hq => by
      rcases List.mem_append.mp hq with h | h
      · exact hS.2.2 q h
      · exact hFr _ (hL q h)⟩ T' rfl X'
  exact ⟨t2, st t2 a1, b1⟩
variable {y : MethodName} {bytes : ByteArray} {maxL nL n index : Nat} {ret : Option FieldType} {wsC : List Cond} {rm : Room} {Ts : List Cond} {own C : String} {b : Nat} {As : List Value} {cI cJ : ClassId}
/-- a static method that makes arrays and gives none of them away -/
theorem cl_SA {rv : Option Value} {WC WC1 ws : va_W} (ws1 : va_W) (hM : Met l y wsC rm (va_Pc As (preA D cI cJ H.size WC)) (QA D WC H.size WC1 rv) mc ms (va_A WC H.size)) (S : CallFix p m c cc nL s args Ts own) (cw : CallB R s args own index y bytes maxL ret wsC rm mc ms n ∧ (Cond.static y).before args s = true)
    (hK : va_K D vwCl (tyA cI cJ) s) (hN : NK s) (hP : va_P D vwCl ws H) (hD : va_D A ws) (hS : va_S A H0 H locs) (hA : ∀ q, H0.size ≤ q → A q) (isC : List Nat) (hC : isC.map (fun i => ws[i]?) = WC.map some) (hnd : va_nd isC = true) (hlen : WC1.length = isC.length) (hpb : pb ws isC WC1 = ws1) (hF : ws1.map Prod.fst = ws.map Prod.fst)
    (hn : As.length = n) (hsize : ls.size = nL) (hstk : st0 = As.reverse ++ rest) (hW : (rest.map fun v => v.category).sum ≤ 8) (hdg : decode cc pc = .ok (.invokestatic index, 3)) (hcs : cells + mc ≤ R.cells ∧ slots + ms ≤ R.slots)
    (kk : ∀ (H1 : Heap) (locs1 : List Loc), va_P D vwCl ws1 H1 → va_D A ws1 → va_S A H0 H1 locs1 → W p l e R s m args below meth c H1 locs1 (cells + mc) (slots + ms) Q (F0 m (pc + 3) ls (rv.toList ++ rest))) : W p l e R s m args below meth c H locs cells slots Q (F0 m pc ls st0) := by
  refine cl_goA ws1 (va_runS S hM cw ⟨preA_blind, fun U hU hW => ⟨rfl, by rw [hU], ?_, va_K.moved hW.alike hK, NK.warm hW hN, ?_⟩⟩ rfl hn hsize hstk (lv_room hW) hdg hcs) hP hD hS hA hC hlen hpb hF kk
  · rw [hU]
    intro k q hk
    have h1 : (isC.map (fun i => ws[i]?))[k]? = some (some q) := by rw [hC, List.getElem?_map, hk]; rfl
    rw [List.getElem?_map] at h1
    cases hi : isC[k]? with
    | none => rw [hi] at h1; cases h1
    | some i => rw [hi] at h1; exact hP i q (Option.some.inj h1)
  · exact (hD.sub isC hnd hC).weaken (fun _ _ _ _ => trivial)
/-- a static method that reads the script alone -/
theorem cl_X {rv : Option Value} {ws : va_W} {Ls : Nat} {xs : Nat → Int32} (hM : Met l y wsC rm (va_Pc As (preX b Ls xs)) (QG D [] [] rv) 0 0 (fr [])) (S : CallFix p m c cc nL s args Ts own) (cw : CallB R s args own index y bytes maxL ret wsC rm 0 0 n ∧ (Cond.static y).before args s = true)
    (hX : va_X b Ls xs s H0) (hbl : b < H0.size) (hbA : ¬ A b) (hP : va_P D vwCl ws H) (hD : va_D A ws) (hS : va_S A H0 H locs)
    (hn : As.length = n) (hsize : ls.size = nL) (hstk : st0 = As.reverse ++ rest) (hW : (rest.map fun v => v.category).sum ≤ 8) (hdg : decode cc pc = .ok (.invokestatic index, 3)) (hcs : cells ≤ R.cells ∧ slots ≤ R.slots)
    (kk : ∀ (H1 : Heap) (locs1 : List Loc), va_P D vwCl ws H1 → va_D A ws → va_S A H0 H1 locs1 → W p l e R s m args below meth c H1 locs1 cells slots Q (F0 m (pc + 3) ls (rv.toList ++ rest))) : W p l e R s m args below meth c H locs cells slots Q (F0 m pc ls st0) := by
  refine cl_go (WC := []) (WC1 := []) (isC := []) ws (va_runS S hM cw ⟨preX_blind, fun U hU hW => ⟨rfl, ?_, ?_⟩⟩ rfl hn hsize hstk (lv_room hW) hdg hcs) hP hD hS rfl rfl rfl rfl kk
  · rw [hU]
    exact (hX.kept (hS.2.1 b hbl hbA)).moved hW.alike
  · rw [hU]
    exact Nat.lt_of_lt_of_le hbl hS.1
variable {W0 W1 : va_W} {A0 : Nat → Prop} {Q0 : State → Prop}
theorem rtA_i {v : Int32} (hA0 : va_A W0 s.heap.size = A0) (hQ0 : MQ below (QA D W0 s.heap.size W1 (some (.int v))) args s cells slots (va_A W0 s.heap.size) = Q0) (hx : p.tables.exec = Jvm.exec) (hb : c.code = cc) (hr : meth.sig.returnType = some .int) (hlocks : meth.locks = false) (hP : va_P D vwCl W1 H) (hS : va_S A0 s.heap H locs) (hdg : decode cc pc = .ok (.ireturn, 1)) :
    W p l e R s m args below meth c H locs cells slots Q0 (F0 m pc ls [.int v]) := by
  subst hA0
  subst hQ0
  exact W.iret hx hb hr (fun t ht _ => ⟨rfl, by rw [ht]; exact hP, hS.F ht⟩) hS.2.2 hdg hlocks
theorem rtA_z {v : Int32} (hA0 : va_A W0 s.heap.size = A0) (hQ0 : MQ below (QA D W0 s.heap.size W1 (some (.int v))) args s cells slots (va_A W0 s.heap.size) = Q0) (hx : p.tables.exec = Jvm.exec) (hb : c.code = cc) (hr : meth.sig.returnType = some .boolean) (hlocks : meth.locks = false) (hv : narrow .boolean (.int v) = .int v) (hP : va_P D vwCl W1 H) (hS : va_S A0 s.heap H locs) (hdg : decode cc pc = .ok (.ireturn, 1)) :
    W p l e R s m args below meth c H locs cells slots Q0 (F0 m pc ls [.int v]) := by
  subst hA0
  subst hQ0
  exact W.zret hx hb hr hv (fun t ht _ => ⟨rfl, by rw [ht]; exact hP, hS.F ht⟩) hS.2.2 hdg hlocks
end CLA
