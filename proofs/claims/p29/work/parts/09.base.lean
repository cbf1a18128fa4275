/-! The layer between the kit's rows and the functions: guards, loops, a method's contract over a world of fixed cells, a call's row -/
def gd {α : Type} (b : Bool) (k : Option α) : Option α := if b = true then k else none
theorem gd_of {α : Type} {b : Bool} {k : Option α} {r : α} (h : gd b k = some r) : b = true ∧ k = some r := by
  unfold gd at h
  by_cases hb : b = true
  · exact ⟨hb, (if_pos hb).symm.trans h⟩
  · have h2 := (if_neg hb).symm.trans h
    cases h2
def inb (i : Int32) (n : Nat) : Bool := decide (¬ (i < 0 ∨ n ≤ i.toNatClampNeg))
theorem inb_of {i : Int32} {n : Nat} (h : inb i n = true) : vp_in i n := by
  unfold vp_in
  exact of_decide_eq_true h
def nzi (y : Int32) : Bool := decide (¬ y = 0)
theorem nzi_of {y : Int32} (h : nzi y = true) : ¬ y = 0 := of_decide_eq_true h
def nzl (y : Int64) : Bool := decide (¬ y = 0)
theorem nzl_of {y : Int64} (h : nzl y = true) : ¬ y = 0 := of_decide_eq_true h
def isb (y : Int32) : Bool := decide (y = 0 ∨ y = 1)
theorem isb_of {y : Int32} (h : isb y = true) : narrow .boolean (.int y) = .int y := by
  rcases of_decide_eq_true h with h | h <;> subst h <;> rfl
def cpok (n : Int32) (k : Nat) : Bool := decide (¬ n < 0 ∧ n.toNatClampNeg ≤ k)
theorem cpok_nn {n : Int32} {k : Nat} (h : cpok n k = true) : ¬ n < 0 := (of_decide_eq_true h : ¬ n < 0 ∧ n.toNatClampNeg ≤ k).1
theorem cpok_le {n : Int32} {k : Nat} (h : cpok n k = true) : (0 : Int32).toNatClampNeg + n.toNatClampNeg ≤ k := by
  have h2 := (of_decide_eq_true h : ¬ n < 0 ∧ n.toNatClampNeg ≤ k).2
  have h0 : (0 : Int32).toNatClampNeg = 0 := by decide
  omega
theorem bd_of {α β : Type} {x : Option α} {k : α → Option β} {r : β} (h : x.bind k = some r) : ∃ a, x = some a ∧ k a = some r := by
  cases x with
  | none => cases h
  | some a => exact ⟨a, rfl, h⟩
def iter {S E : Type} (st : S → Option (S ⊕ E)) (n : Nat) : S → Option E :=
  match n with
  | 0 => fun _ => none
  | n + 1 => fun s => (st s).bind (Sum.elim (iter st n) some)
termination_by n
theorem iter_succ {S E : Type} (st : S → Option (S ⊕ E)) (n : Nat) (s : S) : iter st (n + 1) s = (st s).bind (Sum.elim (iter st n) some) := by rw [iter]
theorem iter_zero {S E : Type} (st : S → Option (S ⊕ E)) (s : S) : iter st 0 s = none := by rw [iter]
theorem iter_s {S E : Type} {st : S → Option (S ⊕ E)} {n : Nat} {s : S} {e : E} (h : iter st (n + 1) s = some e) : ∃ r, st s = some r ∧ Sum.elim (iter st n) some r = some e := by
  rw [iter_succ] at h
  exact bd_of h
theorem iter_z {S E : Type} {st : S → Option (S ⊕ E)} {s : S} {e : E} (h : iter st 0 s = some e) : False := by
  rw [iter_zero] at h
  cases h
def FU : Nat := 100000
/-- the cells of a world -/
def fr (ws : va_W) : Nat → Prop := fun q => ∃ (k : Nat) (e : va_E), ws[k]? = some (q, e)
theorem fr_in {ws : va_W} {k : Nat} {q : Nat × va_E} (h : ws[k]? = some q) : fr ws q.1 := ⟨k, q.2, h⟩
theorem fr_D {ws : va_W} {A : Nat → Prop} (h : va_D A ws) : va_D (fr ws) ws := ⟨h.1, fun _ _ hk => fr_in hk⟩
theorem va_D_fst {A : Nat → Prop} {ws ws' : va_W} (hD : va_D A ws) (h : ws'.map Prod.fst = ws.map Prod.fst) : va_D A ws' := by
  have key : ∀ (k : Nat) (q : Nat × va_E), ws'[k]? = some q → ∃ q0, ws[k]? = some q0 ∧ q0.1 = q.1 := by
    intro k q hk
    have h1 : (ws'.map Prod.fst)[k]? = some q.1 := by rw [List.getElem?_map, hk]; rfl
    rw [h, List.getElem?_map] at h1
    cases hw : ws[k]? with
    | none => rw [hw] at h1; cases h1
    | some q0 => rw [hw] at h1; exact ⟨q0, rfl, Option.some.inj h1⟩
  refine ⟨fun i j p q hi hj hpq => ?_, fun k q hk => ?_⟩
  · obtain ⟨p0, a1, a2⟩ := key i p hi
    obtain ⟨q0, b1, b2⟩ := key j q hj
    exact hD.1 i j p0 q0 a1 b1 (a2.trans (hpq.trans b2.symm))
  · obtain ⟨q0, a1, a2⟩ := key k q hk
    rw [← a2]
    exact hD.2 k q0 a1
/-- what a method of a nest mate is linked by: no word of the lists says it -/
def NK (_ : State) : Prop := True
theorem NK.warm {s U : State} (_ : s.WarmedH U.vm) (_ : NK s) : NK U := trivial
abbrev tyA (cI cJ : ClassId) : List (ClassId × FieldType) := [(cI, .int), (cJ, .long)]
/-- a method's start: the world, the tables, the world's cells apart -/
def preG (D : va_G) (cI cJ : ClassId) (ws : va_W) : State → Prop := fun U => va_P D vwCl ws U.heap ∧ va_K D vwCl (tyA cI cJ) U ∧ NK U ∧ va_D (fun _ => True) ws
theorem preG_blind {D : va_G} {cI cJ : ClassId} {ws : va_W} {av : List Value} : FrameBlind (va_Pc av (preG D cI cJ ws)) := fun a U g mk q => by
  obtain ⟨q0, qP, qK, qN, qD⟩ := q
  exact ⟨q0, qP, va_K.moved (u := U) (U := U.calling g mk a) (Vm.Alike.refl U.vm) qK, qN, qD⟩
/-- a method's end: its answer, the new world, nothing else changed -/
def QG (D : va_G) (W0 W1 : va_W) (rv : Option Value) : Array Value → State → Outcome → State → Prop := fun _ st oc t => oc = .returned rv ∧ va_P D vwCl W1 t.heap ∧ va_F (fr W0) st t
def pb : va_W → List Nat → va_W → va_W
  | ws, [], _ => ws
  | ws, _ :: _, [] => ws
  | ws, i :: is, w :: w1 => pb (ws.set i w) is w1
theorem pb_at : ∀ (is : List Nat) (w1 ws : va_W) (k : Nat) (q : Nat × va_E), w1.length = is.length → (pb ws is w1)[k]? = some q → (∃ j : Nat, is[j]? = some k ∧ w1[j]? = some q) ∨ (ws[k]? = some q ∧ k ∉ is)
  | [], [], ws, k, q, _, h => Or.inr ⟨h, List.not_mem_nil⟩
  | [], _ :: _, _, _, _, hl, _ => by cases hl
  | _ :: _, [], _, _, _, hl, _ => by cases hl
  | i :: is, w :: w1, ws, k, q, hl, h => by
    rcases pb_at is w1 (ws.set i w) k q (Nat.succ.inj hl) h with ⟨j, h1, h2⟩ | ⟨h1, h2⟩
    · exact Or.inl ⟨j + 1, h1, h2⟩
    · by_cases hk : k = i
      · subst hk
        have hlt : k < ws.length := by
          have := (List.getElem?_eq_some_iff.mp h1).1
          rwa [List.length_set] at this
        rw [List.getElem?_set_self hlt] at h1
        exact Or.inl ⟨0, rfl, h1⟩
      · rw [List.getElem?_set_ne (Ne.symm hk)] at h1
        exact Or.inr ⟨h1, fun hm => (List.mem_cons.mp hm).elim hk h2⟩
section CL
variable {p : Program} {l : Launch} {e : Env} {R : Room} {s : State} {m : MethodId} {args : Array Value} {below : List Frame} {meth : Method} {c : Code} {H : Heap} {locs : List Loc} {Q : State → Prop}
variable {cc : ByteArray} {pc : Nat} {ls : Array Slot} {rest st0 : List Value} {a : Array Value} {D : va_G} {A : Nat → Prop} {H0 : Heap} {cells slots : Nat}
theorem cl_go {rv : Option Value} {WC WC1 ws : va_W} (ws1 : va_W) {isC : List Nat} (hr : va_Run p l e R s m args below meth c H locs cells slots 0 0 (F0 m pc ls st0) rest (QG D WC WC1 rv a) (fr WC)) (hP : va_P D vwCl ws H) (hD : va_D A ws) (hS : va_S A H0 H locs)
    (hC : isC.map (fun i => ws[i]?) = WC.map some) (hlen : WC1.length = isC.length) (hpb : pb ws isC WC1 = ws1) (hF : ws1.map Prod.fst = ws.map Prod.fst)
    (kk : ∀ (H1 : Heap) (locs1 : List Loc), va_P D vwCl ws1 H1 → va_D A ws1 → va_S A H0 H1 locs1 → W p l e R s m args below meth c H1 locs1 cells slots Q (F0 m (pc + 3) ls (rv.toList ++ rest))) : W p l e R s m args below meth c H locs cells slots Q (F0 m pc ls st0) := by
  intro T hT X
  obtain ⟨v, st₀, t, T', L, h0, X', hL, e1, e2, ⟨hv, hP1, hz, hk⟩, st⟩ := hr T hT X
  cases hv
  rw [h0] at hz hk
  have inC : ∀ (j : Nat) (q : Nat × va_E), WC[j]? = some q → ∃ i, isC[j]? = some i ∧ ws[i]? = some q := by
    intro j q hq
    have h1 : (isC.map (fun i => ws[i]?))[j]? = some (some q) := by rw [hC, List.getElem?_map, hq]; rfl
    rw [List.getElem?_map] at h1
    cases hi : isC[j]? with
    | none => rw [hi] at h1; cases h1
    | some i => rw [hi] at h1; exact ⟨i, rfl, Option.some.inj h1⟩
  have frA : ∀ q, fr WC q → A q := by
    rintro q ⟨j, x, hq⟩
    obtain ⟨i, -, h2⟩ := inC j (q, x) hq
    exact hD.2 i (q, x) h2
  have hPn : va_P D vwCl ws1 T'.heap := by
    rw [← hpb]
    intro k q hq
    rcases pb_at isC WC1 ws k q hlen hq with ⟨j, h1, h2⟩ | ⟨h1, h2⟩
    · rw [e1]
      exact hP1 j q h2
    · have hx := hP k q h1
      refine hx.kept ?_
      rw [e1]
      refine hk q.1 hx.lt ?_
      rintro ⟨j, x, hq⟩
      obtain ⟨i, h3, h4⟩ := inC j (q.1, x) hq
      have hki := hD.1 k i q (q.1, x) h1 h4 rfl
      subst hki
      exact h2 (List.mem_of_getElem? h3)
  obtain ⟨t2, a1, b1⟩ := kk T'.heap (locs ++ L) hPn (va_D_fst hD hF)
    ⟨Nat.le_trans hS.1 (by rw [e1]; exact hz), fun q h1 h2 => by rw [e1, hk q (Nat.lt_of_lt_of_le h1 hS.1) (fun z => h2 (frA q z))]; exact hS.2.1 q h1 h2, fun q hq => by
      rcases List.mem_append.mp hq with h | h
      · exact hS.2.2 q h
      · exact frA _ (hL q h)⟩ T' rfl X'
  exact ⟨t2, st t2 a1, b1⟩
variable {y : MethodName} {bytes : ByteArray} {maxL nL n index : Nat} {ret : Option FieldType} {wsC : List Cond} {rm : Room} {Ts : List Cond} {own C : String} {b : Addr} {As : List Value} {cI cJ : ClassId}
/-- an instance method -/
theorem cl_V {rv : Option Value} {WC WC1 ws : va_W} (ws1 : va_W) (hM : Met l y wsC rm (va_Pc (.ref b :: As) (preG D cI cJ WC)) (QG D WC WC1 rv) 0 0 (fr WC)) (S : CallFix p m c cc nL s args Ts own) (cw : CallW R s args own C index y bytes maxL ret wsC rm 0 0 n)
    (hK : va_K D vwCl (tyA cI cJ) s) (hN : NK s) (hP : va_P D vwCl ws H) (hD : va_D A ws) (hS : va_S A H0 H locs) (isC : List Nat) (hC : isC.map (fun i => ws[i]?) = WC.map some) (hnd : va_nd isC = true) (hlen : WC1.length = isC.length) (hpb : pb ws isC WC1 = ws1) (hF : ws1.map Prod.fst = ws.map Prod.fst)
    {q0 ci : Nat} {fs : List Value} {cq : vw_C} (hb0 : ws[q0]? = some (b, .inr (ci, fs))) (hc0 : vwCl[ci]? = some cq) (hcn : cq.1 = C) (hn : As.length = n) (hsize : ls.size = nL) (hstk : st0 = As.reverse ++ .ref b :: rest) (hW : (rest.map fun v => v.category).sum ≤ 8) (hdg : decode cc pc = .ok (.invokevirtual index, 3)) (hcs : cells ≤ R.cells ∧ slots ≤ R.slots)
    (kk : ∀ (H1 : Heap) (locs1 : List Loc), va_P D vwCl ws1 H1 → va_D A ws1 → va_S A H0 H1 locs1 → W p l e R s m args below meth c H1 locs1 cells slots Q (F0 m (pc + 3) ls (rv.toList ++ rest))) : W p l e R s m args below meth c H locs cells slots Q (F0 m pc ls st0) := by
  subst hcn
  refine cl_go ws1 (va_runV S hM cw ⟨preG_blind, va_recv hK hP hc0 hb0, fun U hU hW => ⟨rfl, ?_, va_K.moved hW.alike hK, NK.warm hW hN, ?_⟩⟩ rfl hn hsize hstk (lv_room hW) hdg hcs) hP hD hS hC hlen hpb hF kk
  · rw [hU]
    intro k q hk
    have h1 : (isC.map (fun i => ws[i]?))[k]? = some (some q) := by rw [hC, List.getElem?_map, hk]; rfl
    rw [List.getElem?_map] at h1
    cases hi : isC[k]? with
    | none => rw [hi] at h1; cases h1
    | some i => rw [hi] at h1; exact hP i q (Option.some.inj h1)
  · exact (hD.sub isC hnd hC).weaken (fun _ _ _ _ => trivial)
/-- a static method -/
theorem cl_S {rv : Option Value} {WC WC1 ws : va_W} (ws1 : va_W) (hM : Met l y wsC rm (va_Pc As (preG D cI cJ WC)) (QG D WC WC1 rv) 0 0 (fr WC)) (S : CallFix p m c cc nL s args Ts own) (cw : CallB R s args own index y bytes maxL ret wsC rm 0 0 n ∧ (Cond.static y).before args s = true)
    (hK : va_K D vwCl (tyA cI cJ) s) (hN : NK s) (hP : va_P D vwCl ws H) (hD : va_D A ws) (hS : va_S A H0 H locs) (isC : List Nat) (hC : isC.map (fun i => ws[i]?) = WC.map some) (hnd : va_nd isC = true) (hlen : WC1.length = isC.length) (hpb : pb ws isC WC1 = ws1) (hF : ws1.map Prod.fst = ws.map Prod.fst)
    (hn : As.length = n) (hsize : ls.size = nL) (hstk : st0 = As.reverse ++ rest) (hW : (rest.map fun v => v.category).sum ≤ 8) (hdg : decode cc pc = .ok (.invokestatic index, 3)) (hcs : cells ≤ R.cells ∧ slots ≤ R.slots)
    (kk : ∀ (H1 : Heap) (locs1 : List Loc), va_P D vwCl ws1 H1 → va_D A ws1 → va_S A H0 H1 locs1 → W p l e R s m args below meth c H1 locs1 cells slots Q (F0 m (pc + 3) ls (rv.toList ++ rest))) : W p l e R s m args below meth c H locs cells slots Q (F0 m pc ls st0) := by
  refine cl_go ws1 (va_runS S hM cw ⟨preG_blind, fun U hU hW => ⟨rfl, ?_, va_K.moved hW.alike hK, NK.warm hW hN, ?_⟩⟩ rfl hn hsize hstk (lv_room hW) hdg hcs) hP hD hS hC hlen hpb hF kk
  · rw [hU]
    intro k q hk
    have h1 : (isC.map (fun i => ws[i]?))[k]? = some (some q) := by rw [hC, List.getElem?_map, hk]; rfl
    rw [List.getElem?_map] at h1
    cases hi : isC[k]? with
    | none => rw [hi] at h1; cases h1
    | some i => rw [hi] at h1; exact hP i q (Option.some.inj h1)
  · exact (hD.sub isC hnd hC).weaken (fun _ _ _ _ => trivial)
/-- a nest mate's private static method -/
theorem cl_SN {rv : Option Value} {WC WC1 ws : va_W} {host : String} (ws1 : va_W) (hM : Met l y wsC rm (va_Pc As (preG D cI cJ WC)) (QG D WC WC1 rv) 0 0 (fr WC)) (S : CallFix p m c cc nL s args Ts own) (cw : va_CN R s args own index y host bytes maxL ret wsC rm 0 0 n ∧ (Cond.static y).before args s = true ∧ True)
    (hK : va_K D vwCl (tyA cI cJ) s) (hN : NK s) (hP : va_P D vwCl ws H) (hD : va_D A ws) (hS : va_S A H0 H locs) (isC : List Nat) (hC : isC.map (fun i => ws[i]?) = WC.map some) (hnd : va_nd isC = true) (hlen : WC1.length = isC.length) (hpb : pb ws isC WC1 = ws1) (hF : ws1.map Prod.fst = ws.map Prod.fst)
    (hn : As.length = n) (hsize : ls.size = nL) (hstk : st0 = As.reverse ++ rest) (hW : (rest.map fun v => v.category).sum ≤ 8) (hdg : decode cc pc = .ok (.invokestatic index, 3)) (hcs : cells ≤ R.cells ∧ slots ≤ R.slots)
    (kk : ∀ (H1 : Heap) (locs1 : List Loc), va_P D vwCl ws1 H1 → va_D A ws1 → va_S A H0 H1 locs1 → W p l e R s m args below meth c H1 locs1 cells slots Q (F0 m (pc + 3) ls (rv.toList ++ rest))) : W p l e R s m args below meth c H locs cells slots Q (F0 m pc ls st0) := by
  refine cl_go ws1 (va_runSN S hM cw ⟨preG_blind, fun U hU hW => ⟨rfl, ?_, va_K.moved hW.alike hK, NK.warm hW hN, ?_⟩⟩ rfl hn hsize hstk (lv_room hW) hdg hcs) hP hD hS hC hlen hpb hF kk
  · rw [hU]
    intro k q hk
    have h1 : (isC.map (fun i => ws[i]?))[k]? = some (some q) := by rw [hC, List.getElem?_map, hk]; rfl
    rw [List.getElem?_map] at h1
    cases hi : isC[k]? with
    | none => rw [hi] at h1; cases h1
    | some i => rw [hi] at h1; exact hP i q (Option.some.inj h1)
  · exact (hD.sub isC hnd hC).weaken (fun _ _ _ _ => trivial)
variable {W0 W1 : va_W} {A0 : Nat → Prop} {Q0 : State → Prop}
/-- ends -/
theorem rt_i {v : Int32} (hA0 : fr W0 = A0) (hQ0 : MQ below (QG D W0 W1 (some (.int v))) args s cells slots (fr W0) = Q0) (hx : p.tables.exec = Jvm.exec) (hb : c.code = cc) (hr : meth.sig.returnType = some .int) (hlocks : meth.locks = false) (hP : va_P D vwCl W1 H) (hS : va_S A0 s.heap H locs) (hdg : decode cc pc = .ok (.ireturn, 1)) :
    W p l e R s m args below meth c H locs cells slots Q0 (F0 m pc ls [.int v]) := by
  subst hA0
  subst hQ0
  exact W.iret hx hb hr (fun t ht _ => ⟨rfl, by rw [ht]; exact hP, hS.F ht⟩) hS.2.2 hdg hlocks
theorem rt_z {v : Int32} (hA0 : fr W0 = A0) (hQ0 : MQ below (QG D W0 W1 (some (.int v))) args s cells slots (fr W0) = Q0) (hx : p.tables.exec = Jvm.exec) (hb : c.code = cc) (hr : meth.sig.returnType = some .boolean) (hlocks : meth.locks = false) (hv : narrow .boolean (.int v) = .int v) (hP : va_P D vwCl W1 H) (hS : va_S A0 s.heap H locs) (hdg : decode cc pc = .ok (.ireturn, 1)) :
    W p l e R s m args below meth c H locs cells slots Q0 (F0 m pc ls [.int v]) := by
  subst hA0
  subst hQ0
  exact W.zret hx hb hr hv (fun t ht _ => ⟨rfl, by rw [ht]; exact hP, hS.F ht⟩) hS.2.2 hdg hlocks
theorem rt_l {v : Int64} (hA0 : fr W0 = A0) (hQ0 : MQ below (QG D W0 W1 (some (.long v))) args s cells slots (fr W0) = Q0) (hx : p.tables.exec = Jvm.exec) (hb : c.code = cc) (hr : meth.sig.returnType = some .long) (hlocks : meth.locks = false) (hP : va_P D vwCl W1 H) (hS : va_S A0 s.heap H locs) (hdg : decode cc pc = .ok (.lreturn, 1)) :
    W p l e R s m args below meth c H locs cells slots Q0 (F0 m pc ls [.long v]) := by
  subst hA0
  subst hQ0
  exact W.lret hx hb hr (fun t ht _ => ⟨rfl, by rw [ht]; exact hP, hS.F ht⟩) hS.2.2 hdg hlocks
theorem rt_v (hA0 : fr W0 = A0) (hQ0 : MQ below (QG D W0 W1 none) args s cells slots (fr W0) = Q0) (hx : p.tables.exec = Jvm.exec) (hb : c.code = cc) (hr : meth.sig.returnType = none) (hlocks : meth.locks = false) (hP : va_P D vwCl W1 H) (hS : va_S A0 s.heap H locs) (hdg : decode cc pc = .ok (.return_, 1)) :
    W p l e R s m args below meth c H locs cells slots Q0 (F0 m pc ls []) := by
  subst hA0
  subst hQ0
  exact W.vret hx hb hr (fun t ht _ => ⟨rfl, by rw [ht]; exact hP, hS.F ht⟩) hS.2.2 hdg hlocks
end CL
