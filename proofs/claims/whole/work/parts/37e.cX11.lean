def fX11_walks_X31_242  (a7 : Int32) : Option (Int32) :=
  some a7
def fX11_walks_J232 (z5 : Int32 × Int32) (a17 : Unit) : Option ((Int32 × Int32) ⊕ (Int32)) :=
  some (Sum.inl ((z5.1 + 0), (z5.2 + 1)))
def fX11_walks_J233 (z5 : Int32 × Int32) (a19 : Int32) : Option ((Int32 × Int32) ⊕ (Int32)) :=
  some (Sum.inl ((z5.1 + a19), (z5.2 + 1)))
def fX11_walks_J184 (v_t_rows : Nat → Int32) (x1 : Int32) (z5 : Int32 × Int32) (a13 : Int32 × Int32 × Int32 × Int32 × Int32 × Int32) (a15 : Unit) : Option ((Int32 × Int32) ⊕ (Int32)) :=
  if (0 : Int32) = 0 then (fX11_walks_J232 z5 ()) else (gd (inb ((8 * x1) + 6) 80) (if a13.2.2.2.1 = (v_t_rows ((8 * x1) + 6).toNatClampNeg) then (gd (inb ((8 * x1) + 7) 80) (if a13.2.2.2.2.1 = (v_t_rows ((8 * x1) + 7).toNatClampNeg) then (fX11_walks_J233 z5 1) else (fX11_walks_J232 z5 ()))) else (fX11_walks_J232 z5 ())))
def fX11_walks_J232a (z5 : Int32 × Int32) (a28 : Unit) : Option ((Int32 × Int32) ⊕ (Int32)) :=
  some (Sum.inl ((z5.1 + 0), (z5.2 + 1)))
def fX11_walks_J233a (z5 : Int32 × Int32) (a30 : Int32) : Option ((Int32 × Int32) ⊕ (Int32)) :=
  some (Sum.inl ((z5.1 + a30), (z5.2 + 1)))
def fX11_walks_J185 (v_t_rows : Nat → Int32) (x1 : Int32) (z5 : Int32 × Int32) (a13 : Int32 × Int32 × Int32 × Int32 × Int32 × Int32) (a26 : Int32) : Option ((Int32 × Int32) ⊕ (Int32)) :=
  if a26 = 0 then (fX11_walks_J232a z5 ()) else (gd (inb ((8 * x1) + 6) 80) (if a13.2.2.2.1 = (v_t_rows ((8 * x1) + 6).toNatClampNeg) then (gd (inb ((8 * x1) + 7) 80) (if a13.2.2.2.2.1 = (v_t_rows ((8 * x1) + 7).toNatClampNeg) then (fX11_walks_J233a z5 1) else (fX11_walks_J232a z5 ()))) else (fX11_walks_J232a z5 ())))
def fX11_walks_X63_127 (v_t_rows : Nat → Int32) (x1 : Int32) (z5 : Int32 × Int32) (a13 : Int32 × Int32 × Int32 × Int32 × Int32 × Int32) : Option ((Int32 × Int32) ⊕ (Int32)) :=
  if a13.2.2.2.2.2 = 0 then (fX11_walks_J184 v_t_rows x1 z5 a13 ()) else (gd (inb ((8 * x1) + 2) 80) (if a13.1 = (v_t_rows ((8 * x1) + 2).toNatClampNeg) then (gd (inb ((8 * x1) + 4) 80) (if a13.2.1 = (v_t_rows ((8 * x1) + 4).toNatClampNeg) then (gd (inb ((8 * x1) + 5) 80) (if a13.2.2.1 = (v_t_rows ((8 * x1) + 5).toNatClampNeg) then (fX11_walks_J185 v_t_rows x1 z5 a13 1) else (fX11_walks_J184 v_t_rows x1 z5 a13 ()))) else (fX11_walks_J184 v_t_rows x1 z5 a13 ()))) else (fX11_walks_J184 v_t_rows x1 z5 a13 ())))
def fX11_walks_J104 (z11 : Int32 × Int32 × Int32 × Int32 × Int32 × Int32 × Int32 × Int32) (a46 : Unit) : Option ((Int32 × Int32 × Int32 × Int32 × Int32 × Int32 × Int32 × Int32) ⊕ (Int32 × Int32 × Int32 × Int32 × Int32 × Int32)) :=
  some (Sum.inl ((z11.1 / 6), (z11.1 - z11.1 / 6 * 6), z11.2.1, z11.2.2.1, z11.2.2.2.1, z11.2.2.2.2.1, 0, (z11.2.2.2.2.2.2.2 + 1)))
def fX11_walks_J105 (z11 : Int32 × Int32 × Int32 × Int32 × Int32 × Int32 × Int32 × Int32) (a48 : Int32) : Option ((Int32 × Int32 × Int32 × Int32 × Int32 × Int32 × Int32 × Int32) ⊕ (Int32 × Int32 × Int32 × Int32 × Int32 × Int32)) :=
  some (Sum.inl ((z11.1 / 6), (z11.1 - z11.1 / 6 * 6), z11.2.1, z11.2.2.1, z11.2.2.2.1, z11.2.2.2.2.1, a48, (z11.2.2.2.2.2.2.2 + 1)))
def fX11_walks_L63 (x3 : Int32) (z11 : Int32 × Int32 × Int32 × Int32 × Int32 × Int32 × Int32 × Int32) : Option ((Int32 × Int32 × Int32 × Int32 × Int32 × Int32 × Int32 × Int32) ⊕ (Int32 × Int32 × Int32 × Int32 × Int32 × Int32)) :=
  if x3 ≤ z11.2.2.2.2.2.2.2 then (some (Sum.inr (z11.2.1, z11.2.2.1, z11.2.2.2.1, z11.2.2.2.2.1, z11.2.2.2.2.2.1, z11.2.2.2.2.2.2.1))) else (if z11.2.2.2.2.2.2.1 = 0 then (fX11_walks_J104 z11 ()) else (if (z11.1 - z11.1 / 6 * 6) = z11.2.1 then (fX11_walks_J104 z11 ()) else (fX11_walks_J105 z11 1)))
def fX11_walks_L31 (v_t_rows : Nat → Int32) (x1 : Int32) (x2 : Int32) (x3 : Int32) (a3 : Int32) (z5 : Int32 × Int32) : Option ((Int32 × Int32) ⊕ (Int32)) :=
  if a3 ≤ z5.2 then (some (Sum.inr z5.1)) else ((iter (fX11_walks_L63 x3) FU (z5.2, x2, (-1), (-1), (-1), (-1), 1, 0)).bind (fX11_walks_X63_127 v_t_rows x1 z5))
def fX11_walks_X6_25 (v_t_rows : Nat → Int32) (x1 : Int32) (x2 : Int32) (x3 : Int32) (a3 : Int32) : Option (Int32) :=
  (iter (fX11_walks_L31 v_t_rows x1 x2 x3 a3) FU (0, 0)).bind (fX11_walks_X31_242)
def fX11_walks_L6 (x3 : Int32) (z1 : Int32 × Int32) : Option ((Int32 × Int32) ⊕ (Int32)) :=
  if x3 ≤ z1.2 then (some (Sum.inr z1.1)) else (some (Sum.inl ((z1.1 * 6), (z1.2 + 1))))
def fX11_walks (v_t_pageMany : Int32) (v_t_readMany : Int32) (v_t_told : Int32) (v_t_many : Int32) (v_t_lostByHands : Int32) (v_t_lostByMould : Int32) (v_t_ringMany : Int32) (v_t_seedNow : Int32) (v_t_keptMany : Int32) (v_t_keptByHands : Int32) (v_t_keptByMould : Int32) (v_t_hash : Int64) (v_t_rows : Nat → Int32) (x1 : Int32) (x2 : Int32) (x3 : Int32) : Option (Int32) :=
  (iter (fX11_walks_L6 x3) FU (1, 0)).bind (fX11_walks_X6_25 v_t_rows x1 x2 x3)
set_option maxHeartbeats 4000000 in
set_option maxRecDepth 100000 in
theorem c_X11_walks (l : Launch) (D : va_G) (cI cJ : ClassId) (q_t q_t_page q_t_readKinds q_t_readLeaflets q_t_rows q_t_debts q_t_ring q_t_line q_t_groups q_t_likely q_t_likelyThen q_t_saved q_t_keptRows q_t_keptDebts : Nat) (v_t_pageMany : Int32) (v_t_readMany : Int32) (v_t_told : Int32) (v_t_many : Int32) (v_t_lostByHands : Int32) (v_t_lostByMould : Int32) (v_t_ringMany : Int32) (v_t_seedNow : Int32) (v_t_keptMany : Int32) (v_t_keptByHands : Int32) (v_t_keptByMould : Int32) (v_t_hash : Int64) (v_t_rows : Nat → Int32) (x1 : Int32) (x2 : Int32) (x3 : Int32) (z : Int32) (h : fX11_walks v_t_pageMany v_t_readMany v_t_told v_t_many v_t_lostByHands v_t_lostByMould v_t_ringMany v_t_seedNow v_t_keptMany v_t_keptByHands v_t_keptByMould v_t_hash v_t_rows x1 x2 x3 = some z) : Met l yX11_walks wsX11_walks ({ frames := 0, cells := 0, slots := 0, locals := 0 } : Room) (va_Pc [.ref q_t, .int x1, .int x2, .int x3] (preG D cI cJ [(q_t, .inr (10, [.ref q_t_page, .int v_t_pageMany, .ref q_t_readKinds, .ref q_t_readLeaflets, .int v_t_readMany, .int v_t_told, .int v_t_many, .int v_t_lostByHands, .int v_t_lostByMould, .ref q_t_rows, .ref q_t_debts, .int v_t_ringMany, .ref q_t_ring, .ref q_t_line, .ref q_t_groups, .ref q_t_likely, .ref q_t_likelyThen, .int v_t_seedNow, .ref q_t_saved, .int v_t_keptMany, .int v_t_keptByHands, .int v_t_keptByMould, .ref q_t_keptRows, .ref q_t_keptDebts, .long v_t_hash])), (q_t_rows, .inl (cI, 80, .inl v_t_rows))])) (QG D [(q_t, .inr (10, [.ref q_t_page, .int v_t_pageMany, .ref q_t_readKinds, .ref q_t_readLeaflets, .int v_t_readMany, .int v_t_told, .int v_t_many, .int v_t_lostByHands, .int v_t_lostByMould, .ref q_t_rows, .ref q_t_debts, .int v_t_ringMany, .ref q_t_ring, .ref q_t_line, .ref q_t_groups, .ref q_t_likely, .ref q_t_likelyThen, .int v_t_seedNow, .ref q_t_saved, .int v_t_keptMany, .int v_t_keptByHands, .int v_t_keptByMould, .ref q_t_keptRows, .ref q_t_keptDebts, .long v_t_hash])), (q_t_rows, .inl (cI, 80, .inl v_t_rows))] [(q_t, .inr (10, [.ref q_t_page, .int v_t_pageMany, .ref q_t_readKinds, .ref q_t_readLeaflets, .int v_t_readMany, .int v_t_told, .int v_t_many, .int v_t_lostByHands, .int v_t_lostByMould, .ref q_t_rows, .ref q_t_debts, .int v_t_ringMany, .ref q_t_ring, .ref q_t_line, .ref q_t_groups, .ref q_t_likely, .ref q_t_likelyThen, .int v_t_seedNow, .ref q_t_saved, .int v_t_keptMany, .int v_t_keptByHands, .int v_t_keptByMould, .ref q_t_keptRows, .ref q_t_keptDebts, .long v_t_hash])), (q_t_rows, .inl (cI, 80, .inl v_t_rows))] (some (.int z))) 0 0 (fr [(q_t, .inr (10, [.ref q_t_page, .int v_t_pageMany, .ref q_t_readKinds, .ref q_t_readLeaflets, .int v_t_readMany, .int v_t_told, .int v_t_many, .int v_t_lostByHands, .int v_t_lostByMould, .ref q_t_rows, .ref q_t_debts, .int v_t_ringMany, .ref q_t_ring, .ref q_t_line, .ref q_t_groups, .ref q_t_likely, .ref q_t_likelyThen, .int v_t_seedNow, .ref q_t_saved, .int v_t_keptMany, .int v_t_keptByHands, .int v_t_keptByMould, .ref q_t_keptRows, .ref q_t_keptDebts, .long v_t_hash])), (q_t_rows, .inl (cI, 80, .inl v_t_rows))]) := by
  refine Met.ofW (cc := cX11_walks) (maxL := 15) (ret := (some .int)) (by decide) rfl ?_
  intro p e s m args below meth c s₁ B hml hv
  obtain ⟨hargs, hP, hK, hN, hD0⟩ := hv
  have hx := B.exec
  have hb := B.bytes
  have hr := B.returns
  have hts := atoms_spec (ws := wsX11_walks) B.pre
  have hown : s.vm.findClass RX11 = some m.cls := findClass_of_methodNamed B.named
  have hlocks := B.notSynchronized
  have iX11 : ∀ w ∈ wsX110, w ∈ wsX11_walks := by decide +kernel
  have k19 := hts (.fieldLink RX11 19 "PressedFernsModel" "rows" "[I") (by decide +kernel)
  have hD := fr_D hD0
  have hS : va_S (fr [(q_t, .inr (10, [.ref q_t_page, .int v_t_pageMany, .ref q_t_readKinds, .ref q_t_readLeaflets, .int v_t_readMany, .int v_t_told, .int v_t_many, .int v_t_lostByHands, .int v_t_lostByMould, .ref q_t_rows, .ref q_t_debts, .int v_t_ringMany, .ref q_t_ring, .ref q_t_line, .ref q_t_groups, .ref q_t_likely, .ref q_t_likelyThen, .int v_t_seedNow, .ref q_t_saved, .int v_t_keptMany, .int v_t_keptByHands, .int v_t_keptByMould, .ref q_t_keptRows, .ref q_t_keptDebts, .long v_t_hash])), (q_t_rows, .inl (cI, 80, .inl v_t_rows))]) s.heap s.heap [] := va_S.rf
  have hl := lv_entry ([.ref q_t, .int x1, .int x2, .int x3]) (n := 15) (Nat.le_of_ble_eq_true rfl)
  refine W.eq (g2 := F0 m 0 ((lg_sl ([.ref q_t, .int x1, .int x2, .int x3]) ++ List.replicate (15 - (lg_sl ([.ref q_t, .int x1, .int x2, .int x3])).length) Slot.unset).toArray) []) (by rw [hargs, lg_entry_eq]) ?_
  generalize (lg_sl ([.ref q_t, .int x1, .int x2, .int x3]) ++ List.replicate (15 - (lg_sl ([.ref q_t, .int x1, .int x2, .int x3])).length) Slot.unset).toArray = ls at hl ⊢
  have hl : lv_has ls 15 [(0, .ref q_t), (1, .int x1), (2, .int x2), (3, .int x3)] := hl
  show W p l e ({ frames := 0, cells := 0, slots := 0, locals := 0 } : Room) s m args below meth c s.heap [] 0 0 (MQ below (QG D [(q_t, .inr (10, [.ref q_t_page, .int v_t_pageMany, .ref q_t_readKinds, .ref q_t_readLeaflets, .int v_t_readMany, .int v_t_told, .int v_t_many, .int v_t_lostByHands, .int v_t_lostByMould, .ref q_t_rows, .ref q_t_debts, .int v_t_ringMany, .ref q_t_ring, .ref q_t_line, .ref q_t_groups, .ref q_t_likely, .ref q_t_likelyThen, .int v_t_seedNow, .ref q_t_saved, .int v_t_keptMany, .int v_t_keptByHands, .int v_t_keptByMould, .ref q_t_keptRows, .ref q_t_keptDebts, .long v_t_hash])), (q_t_rows, .inl (cI, 80, .inl v_t_rows))] [(q_t, .inr (10, [.ref q_t_page, .int v_t_pageMany, .ref q_t_readKinds, .ref q_t_readLeaflets, .int v_t_readMany, .int v_t_told, .int v_t_many, .int v_t_lostByHands, .int v_t_lostByMould, .ref q_t_rows, .ref q_t_debts, .int v_t_ringMany, .ref q_t_ring, .ref q_t_line, .ref q_t_groups, .ref q_t_likely, .ref q_t_likelyThen, .int v_t_seedNow, .ref q_t_saved, .int v_t_keptMany, .int v_t_keptByHands, .int v_t_keptByMould, .ref q_t_keptRows, .ref q_t_keptDebts, .long v_t_hash])), (q_t_rows, .inl (cI, 80, .inl v_t_rows))] (some (.int z))) args s 0 0 (fr [(q_t, .inr (10, [.ref q_t_page, .int v_t_pageMany, .ref q_t_readKinds, .ref q_t_readLeaflets, .int v_t_readMany, .int v_t_told, .int v_t_many, .int v_t_lostByHands, .int v_t_lostByMould, .ref q_t_rows, .ref q_t_debts, .int v_t_ringMany, .ref q_t_ring, .ref q_t_line, .ref q_t_groups, .ref q_t_likely, .ref q_t_likelyThen, .int v_t_seedNow, .ref q_t_saved, .int v_t_keptMany, .int v_t_keptByHands, .int v_t_keptByMould, .ref q_t_keptRows, .ref q_t_keptDebts, .long v_t_hash])), (q_t_rows, .inl (cI, 80, .inl v_t_rows))])) (F0 m 0 ls [])
  generalize hQ0 : (MQ below (QG D [(q_t, .inr (10, [.ref q_t_page, .int v_t_pageMany, .ref q_t_readKinds, .ref q_t_readLeaflets, .int v_t_readMany, .int v_t_told, .int v_t_many, .int v_t_lostByHands, .int v_t_lostByMould, .ref q_t_rows, .ref q_t_debts, .int v_t_ringMany, .ref q_t_ring, .ref q_t_line, .ref q_t_groups, .ref q_t_likely, .ref q_t_likelyThen, .int v_t_seedNow, .ref q_t_saved, .int v_t_keptMany, .int v_t_keptByHands, .int v_t_keptByMould, .ref q_t_keptRows, .ref q_t_keptDebts, .long v_t_hash])), (q_t_rows, .inl (cI, 80, .inl v_t_rows))] [(q_t, .inr (10, [.ref q_t_page, .int v_t_pageMany, .ref q_t_readKinds, .ref q_t_readLeaflets, .int v_t_readMany, .int v_t_told, .int v_t_many, .int v_t_lostByHands, .int v_t_lostByMould, .ref q_t_rows, .ref q_t_debts, .int v_t_ringMany, .ref q_t_ring, .ref q_t_line, .ref q_t_groups, .ref q_t_likely, .ref q_t_likelyThen, .int v_t_seedNow, .ref q_t_saved, .int v_t_keptMany, .int v_t_keptByHands, .int v_t_keptByMould, .ref q_t_keptRows, .ref q_t_keptDebts, .long v_t_hash])), (q_t_rows, .inl (cI, 80, .inl v_t_rows))] (some (.int z))) args s 0 0 (fr [(q_t, .inr (10, [.ref q_t_page, .int v_t_pageMany, .ref q_t_readKinds, .ref q_t_readLeaflets, .int v_t_readMany, .int v_t_told, .int v_t_many, .int v_t_lostByHands, .int v_t_lostByMould, .ref q_t_rows, .ref q_t_debts, .int v_t_ringMany, .ref q_t_ring, .ref q_t_line, .ref q_t_groups, .ref q_t_likely, .ref q_t_likelyThen, .int v_t_seedNow, .ref q_t_saved, .int v_t_keptMany, .int v_t_keptByHands, .int v_t_keptByMould, .ref q_t_keptRows, .ref q_t_keptDebts, .long v_t_hash])), (q_t_rows, .inl (cI, 80, .inl v_t_rows))])) = Q0
  generalize hA0 : fr [(q_t, .inr (10, [.ref q_t_page, .int v_t_pageMany, .ref q_t_readKinds, .ref q_t_readLeaflets, .int v_t_readMany, .int v_t_told, .int v_t_many, .int v_t_lostByHands, .int v_t_lostByMould, .ref q_t_rows, .ref q_t_debts, .int v_t_ringMany, .ref q_t_ring, .ref q_t_line, .ref q_t_groups, .ref q_t_likely, .ref q_t_likelyThen, .int v_t_seedNow, .ref q_t_saved, .int v_t_keptMany, .int v_t_keptByHands, .int v_t_keptByMould, .ref q_t_keptRows, .ref q_t_keptDebts, .long v_t_hash])), (q_t_rows, .inl (cI, 80, .inl v_t_rows))] = A0 at hD hS
  unfold fX11_walks at h
  refine lv_iconst (v := 1) hx hb dX11_walks_0 (by decide) ?_
  refine lv_istore (lv' := [(4, .int 1), (0, .ref q_t), (1, .int x1), (2, .int x2), (3, .int x3)]) hx hb dX11_walks_1 hl (by decide) rfl (fun ls hl => ?_)
  refine lv_iconst (v := 0) hx hb dX11_walks_3 (by decide) ?_
  refine lv_istore (lv' := [(5, .int 0), (4, .int 1), (0, .ref q_t), (1, .int x1), (2, .int x2), (3, .int x3)]) hx hb dX11_walks_4 hl (by decide) rfl (fun ls hl => ?_)
  obtain ⟨e2, he_e2, hc_e2⟩ := bd_of h
  have X25_4 : ∀ (a3 : Int32) (H : Heap) (locs : List Loc) (ls : Array Slot), fX11_walks_X6_25 v_t_rows x1 x2 x3 a3 = some z → va_P D vwCl [(q_t, .inr (10, [.ref q_t_page, .int v_t_pageMany, .ref q_t_readKinds, .ref q_t_readLeaflets, .int v_t_readMany, .int v_t_told, .int v_t_many, .int v_t_lostByHands, .int v_t_lostByMould, .ref q_t_rows, .ref q_t_debts, .int v_t_ringMany, .ref q_t_ring, .ref q_t_line, .ref q_t_groups, .ref q_t_likely, .ref q_t_likelyThen, .int v_t_seedNow, .ref q_t_saved, .int v_t_keptMany, .int v_t_keptByHands, .int v_t_keptByMould, .ref q_t_keptRows, .ref q_t_keptDebts, .long v_t_hash])), (q_t_rows, .inl (cI, 80, .inl v_t_rows))] H → va_D A0 [(q_t, .inr (10, [.ref q_t_page, .int v_t_pageMany, .ref q_t_readKinds, .ref q_t_readLeaflets, .int v_t_readMany, .int v_t_told, .int v_t_many, .int v_t_lostByHands, .int v_t_lostByMould, .ref q_t_rows, .ref q_t_debts, .int v_t_ringMany, .ref q_t_ring, .ref q_t_line, .ref q_t_groups, .ref q_t_likely, .ref q_t_likelyThen, .int v_t_seedNow, .ref q_t_saved, .int v_t_keptMany, .int v_t_keptByHands, .int v_t_keptByMould, .ref q_t_keptRows, .ref q_t_keptDebts, .long v_t_hash])), (q_t_rows, .inl (cI, 80, .inl v_t_rows))] → va_S A0 s.heap H locs → lv_has ls 15 [(0, .ref q_t), (1, .int x1), (2, .int x2), (3, .int x3), (4, .int a3)] → W p l e ({ frames := 0, cells := 0, slots := 0, locals := 0 } : Room) s m args below meth c H locs 0 0 Q0 (F0 m 25 ls []) := by
    intro a3 H locs ls h hP hD hS hl
    unfold fX11_walks_X6_25 at h
    refine lv_iconst (v := 0) hx hb dX11_walks_25 (by decide) ?_
    refine lv_istore (lv' := [(5, .int 0), (0, .ref q_t), (1, .int x1), (2, .int x2), (3, .int x3), (4, .int a3)]) hx hb dX11_walks_26 hl (by decide) rfl (fun ls hl => ?_)
    refine lv_iconst (v := 0) hx hb dX11_walks_28 (by decide) ?_
    refine lv_istore (lv' := [(6, .int 0), (5, .int 0), (0, .ref q_t), (1, .int x1), (2, .int x2), (3, .int x3), (4, .int a3)]) hx hb dX11_walks_29 hl (by decide) rfl (fun ls hl => ?_)
    obtain ⟨e6, he_e6, hc_e6⟩ := bd_of h
    have X242_8 : ∀ (a7 : Int32) (H : Heap) (locs : List Loc) (ls : Array Slot), fX11_walks_X31_242 a7 = some z → va_P D vwCl [(q_t, .inr (10, [.ref q_t_page, .int v_t_pageMany, .ref q_t_readKinds, .ref q_t_readLeaflets, .int v_t_readMany, .int v_t_told, .int v_t_many, .int v_t_lostByHands, .int v_t_lostByMould, .ref q_t_rows, .ref q_t_debts, .int v_t_ringMany, .ref q_t_ring, .ref q_t_line, .ref q_t_groups, .ref q_t_likely, .ref q_t_likelyThen, .int v_t_seedNow, .ref q_t_saved, .int v_t_keptMany, .int v_t_keptByHands, .int v_t_keptByMould, .ref q_t_keptRows, .ref q_t_keptDebts, .long v_t_hash])), (q_t_rows, .inl (cI, 80, .inl v_t_rows))] H → va_D A0 [(q_t, .inr (10, [.ref q_t_page, .int v_t_pageMany, .ref q_t_readKinds, .ref q_t_readLeaflets, .int v_t_readMany, .int v_t_told, .int v_t_many, .int v_t_lostByHands, .int v_t_lostByMould, .ref q_t_rows, .ref q_t_debts, .int v_t_ringMany, .ref q_t_ring, .ref q_t_line, .ref q_t_groups, .ref q_t_likely, .ref q_t_likelyThen, .int v_t_seedNow, .ref q_t_saved, .int v_t_keptMany, .int v_t_keptByHands, .int v_t_keptByMould, .ref q_t_keptRows, .ref q_t_keptDebts, .long v_t_hash])), (q_t_rows, .inl (cI, 80, .inl v_t_rows))] → va_S A0 s.heap H locs → lv_has ls 15 [(5, .int a7)] → W p l e ({ frames := 0, cells := 0, slots := 0, locals := 0 } : Room) s m args below meth c H locs 0 0 Q0 (F0 m 242 ls []) := by
      intro a7 H locs ls h hP hD hS hl
      unfold fX11_walks_X31_242 at h
      refine lv_iload hx hb dX11_walks_242 (lv_at hl 0 rfl) ?_
      obtain rfl := Option.some.inj h
      exact rt_i hA0 hQ0 hx hb hr hlocks hP hS dX11_walks_244
    have L31_9 : ∀ (n : Nat) (z5 : Int32 × Int32) (H : Heap) (locs : List Loc) (ls : Array Slot), iter (fX11_walks_L31 v_t_rows x1 x2 x3 a3) n z5 = some e6 → va_P D vwCl [(q_t, .inr (10, [.ref q_t_page, .int v_t_pageMany, .ref q_t_readKinds, .ref q_t_readLeaflets, .int v_t_readMany, .int v_t_told, .int v_t_many, .int v_t_lostByHands, .int v_t_lostByMould, .ref q_t_rows, .ref q_t_debts, .int v_t_ringMany, .ref q_t_ring, .ref q_t_line, .ref q_t_groups, .ref q_t_likely, .ref q_t_likelyThen, .int v_t_seedNow, .ref q_t_saved, .int v_t_keptMany, .int v_t_keptByHands, .int v_t_keptByMould, .ref q_t_keptRows, .ref q_t_keptDebts, .long v_t_hash])), (q_t_rows, .inl (cI, 80, .inl v_t_rows))] H → va_D A0 [(q_t, .inr (10, [.ref q_t_page, .int v_t_pageMany, .ref q_t_readKinds, .ref q_t_readLeaflets, .int v_t_readMany, .int v_t_told, .int v_t_many, .int v_t_lostByHands, .int v_t_lostByMould, .ref q_t_rows, .ref q_t_debts, .int v_t_ringMany, .ref q_t_ring, .ref q_t_line, .ref q_t_groups, .ref q_t_likely, .ref q_t_likelyThen, .int v_t_seedNow, .ref q_t_saved, .int v_t_keptMany, .int v_t_keptByHands, .int v_t_keptByMould, .ref q_t_keptRows, .ref q_t_keptDebts, .long v_t_hash])), (q_t_rows, .inl (cI, 80, .inl v_t_rows))] → va_S A0 s.heap H locs → lv_has ls 15 [(0, .ref q_t), (1, .int x1), (2, .int x2), (3, .int x3), (4, .int a3), (5, .int z5.1), (6, .int z5.2)] → W p l e ({ frames := 0, cells := 0, slots := 0, locals := 0 } : Room) s m args below meth c H locs 0 0 Q0 (F0 m 31 ls []) := by
      intro n
      induction n with
      | zero => exact fun _ _ _ _ h => (iter_z h).elim
      | succ n ih =>
        intro z5 H locs ls h hP hD hS hl
        obtain ⟨r_e6, h, hn_e6⟩ := iter_s h
        unfold fX11_walks_L31 at h
        refine lv_iload hx hb dX11_walks_31 (lv_at hl 6 rfl) ?_
        refine lv_iload hx hb dX11_walks_33 (lv_at hl 4 rfl) ?_
        refine lv_icmp_ge (tgt := 242) hx hb dX11_walks_35 (by decide) (fun c10 => ?_) (fun c10 => ?_)
        · skip
          have h := (if_pos c10).symm.trans h
          obtain rfl := Option.some.inj h
          obtain rfl := Option.some.inj hn_e6
          exact X242_8 z5.1 _ _ _ hc_e6 hP hD hS (lv_sub hl [5] rfl)
        · skip
          have h := (if_neg c10).symm.trans h
          refine lv_iload hx hb dX11_walks_38 (lv_at hl 6 rfl) ?_
          refine lv_istore (lv' := [(7, .int z5.2), (0, .ref q_t), (1, .int x1), (2, .int x2), (3, .int x3), (4, .int a3), (5, .int z5.1), (6, .int z5.2)]) hx hb dX11_walks_40 hl (by decide) rfl (fun ls hl => ?_)
          refine lv_iload_n hx hb dX11_walks_42 rfl (lv_at hl 3 rfl) ?_
          refine lv_istore (lv' := [(8, .int x2), (7, .int z5.2), (0, .ref q_t), (1, .int x1), (2, .int x2), (3, .int x3), (4, .int a3), (5, .int z5.1), (6, .int z5.2)]) hx hb dX11_walks_43 hl (by decide) rfl (fun ls hl => ?_)
          refine lv_iconst (v := (-1)) hx hb dX11_walks_45 (by decide) ?_
          refine lv_istore (lv' := [(9, .int (-1)), (8, .int x2), (7, .int z5.2), (0, .ref q_t), (1, .int x1), (2, .int x2), (3, .int x3), (4, .int a3), (5, .int z5.1), (6, .int z5.2)]) hx hb dX11_walks_46 hl (by decide) rfl (fun ls hl => ?_)
          refine lv_iconst (v := (-1)) hx hb dX11_walks_48 (by decide) ?_
          refine lv_istore (lv' := [(10, .int (-1)), (9, .int (-1)), (8, .int x2), (7, .int z5.2), (0, .ref q_t), (1, .int x1), (2, .int x2), (3, .int x3), (4, .int a3), (5, .int z5.1), (6, .int z5.2)]) hx hb dX11_walks_49 hl (by decide) rfl (fun ls hl => ?_)
          refine lv_iconst (v := (-1)) hx hb dX11_walks_51 (by decide) ?_
          refine lv_istore (lv' := [(11, .int (-1)), (10, .int (-1)), (9, .int (-1)), (8, .int x2), (7, .int z5.2), (0, .ref q_t), (1, .int x1), (2, .int x2), (3, .int x3), (4, .int a3), (5, .int z5.1), (6, .int z5.2)]) hx hb dX11_walks_52 hl (by decide) rfl (fun ls hl => ?_)
          refine lv_iconst (v := (-1)) hx hb dX11_walks_54 (by decide) ?_
          refine lv_istore (lv' := [(12, .int (-1)), (11, .int (-1)), (10, .int (-1)), (9, .int (-1)), (8, .int x2), (7, .int z5.2), (0, .ref q_t), (1, .int x1), (2, .int x2), (3, .int x3), (4, .int a3), (5, .int z5.1), (6, .int z5.2)]) hx hb dX11_walks_55 hl (by decide) rfl (fun ls hl => ?_)
          refine lv_iconst (v := 1) hx hb dX11_walks_57 (by decide) ?_
          refine lv_istore (lv' := [(13, .int 1), (12, .int (-1)), (11, .int (-1)), (10, .int (-1)), (9, .int (-1)), (8, .int x2), (7, .int z5.2), (0, .ref q_t), (1, .int x1), (2, .int x2), (3, .int x3), (4, .int a3), (5, .int z5.1), (6, .int z5.2)]) hx hb dX11_walks_58 hl (by decide) rfl (fun ls hl => ?_)
          refine lv_iconst (v := 0) hx hb dX11_walks_60 (by decide) ?_
          refine lv_istore (lv' := [(14, .int 0), (13, .int 1), (12, .int (-1)), (11, .int (-1)), (10, .int (-1)), (9, .int (-1)), (8, .int x2), (7, .int z5.2), (0, .ref q_t), (1, .int x1), (2, .int x2), (3, .int x3), (4, .int a3), (5, .int z5.1), (6, .int z5.2)]) hx hb dX11_walks_61 hl (by decide) rfl (fun ls hl => ?_)
          obtain ⟨e12, he_e12, hc_e12⟩ := bd_of h
          have X127_14 : ∀ (a13 : Int32 × Int32 × Int32 × Int32 × Int32 × Int32) (H : Heap) (locs : List Loc) (ls : Array Slot), fX11_walks_X63_127 v_t_rows x1 z5 a13 = some r_e6 → va_P D vwCl [(q_t, .inr (10, [.ref q_t_page, .int v_t_pageMany, .ref q_t_readKinds, .ref q_t_readLeaflets, .int v_t_readMany, .int v_t_told, .int v_t_many, .int v_t_lostByHands, .int v_t_lostByMould, .ref q_t_rows, .ref q_t_debts, .int v_t_ringMany, .ref q_t_ring, .ref q_t_line, .ref q_t_groups, .ref q_t_likely, .ref q_t_likelyThen, .int v_t_seedNow, .ref q_t_saved, .int v_t_keptMany, .int v_t_keptByHands, .int v_t_keptByMould, .ref q_t_keptRows, .ref q_t_keptDebts, .long v_t_hash])), (q_t_rows, .inl (cI, 80, .inl v_t_rows))] H → va_D A0 [(q_t, .inr (10, [.ref q_t_page, .int v_t_pageMany, .ref q_t_readKinds, .ref q_t_readLeaflets, .int v_t_readMany, .int v_t_told, .int v_t_many, .int v_t_lostByHands, .int v_t_lostByMould, .ref q_t_rows, .ref q_t_debts, .int v_t_ringMany, .ref q_t_ring, .ref q_t_line, .ref q_t_groups, .ref q_t_likely, .ref q_t_likelyThen, .int v_t_seedNow, .ref q_t_saved, .int v_t_keptMany, .int v_t_keptByHands, .int v_t_keptByMould, .ref q_t_keptRows, .ref q_t_keptDebts, .long v_t_hash])), (q_t_rows, .inl (cI, 80, .inl v_t_rows))] → va_S A0 s.heap H locs → lv_has ls 15 [(0, .ref q_t), (1, .int x1), (2, .int x2), (3, .int x3), (4, .int a3), (5, .int z5.1), (6, .int z5.2), (8, .int a13.1), (9, .int a13.2.1), (10, .int a13.2.2.1), (11, .int a13.2.2.2.1), (12, .int a13.2.2.2.2.1), (13, .int a13.2.2.2.2.2)] → W p l e ({ frames := 0, cells := 0, slots := 0, locals := 0 } : Room) s m args below meth c H locs 0 0 Q0 (F0 m 127 ls []) := by
            intro a13 H locs ls h hP hD hS hl
            unfold fX11_walks_X63_127 at h
            refine lv_iload hx hb dX11_walks_127 (lv_at hl 12 rfl) ?_
            have J184_16 : ∀ (a15 : Unit) (H : Heap) (locs : List Loc) (ls : Array Slot), fX11_walks_J184 v_t_rows x1 z5 a13 a15 = some r_e6 → va_P D vwCl [(q_t, .inr (10, [.ref q_t_page, .int v_t_pageMany, .ref q_t_readKinds, .ref q_t_readLeaflets, .int v_t_readMany, .int v_t_told, .int v_t_many, .int v_t_lostByHands, .int v_t_lostByMould, .ref q_t_rows, .ref q_t_debts, .int v_t_ringMany, .ref q_t_ring, .ref q_t_line, .ref q_t_groups, .ref q_t_likely, .ref q_t_likelyThen, .int v_t_seedNow, .ref q_t_saved, .int v_t_keptMany, .int v_t_keptByHands, .int v_t_keptByMould, .ref q_t_keptRows, .ref q_t_keptDebts, .long v_t_hash])), (q_t_rows, .inl (cI, 80, .inl v_t_rows))] H → va_D A0 [(q_t, .inr (10, [.ref q_t_page, .int v_t_pageMany, .ref q_t_readKinds, .ref q_t_readLeaflets, .int v_t_readMany, .int v_t_told, .int v_t_many, .int v_t_lostByHands, .int v_t_lostByMould, .ref q_t_rows, .ref q_t_debts, .int v_t_ringMany, .ref q_t_ring, .ref q_t_line, .ref q_t_groups, .ref q_t_likely, .ref q_t_likelyThen, .int v_t_seedNow, .ref q_t_saved, .int v_t_keptMany, .int v_t_keptByHands, .int v_t_keptByMould, .ref q_t_keptRows, .ref q_t_keptDebts, .long v_t_hash])), (q_t_rows, .inl (cI, 80, .inl v_t_rows))] → va_S A0 s.heap H locs → lv_has ls 15 [(0, .ref q_t), (1, .int x1), (2, .int x2), (3, .int x3), (4, .int a3), (5, .int z5.1), (6, .int z5.2), (11, .int a13.2.2.2.1), (12, .int a13.2.2.2.2.1)] → W p l e ({ frames := 0, cells := 0, slots := 0, locals := 0 } : Room) s m args below meth c H locs 0 0 Q0 (F0 m 184 ls []) := by
              intro a15 H locs ls h hP hD hS hl
              unfold fX11_walks_J184 at h
              refine lv_iconst (v := 0) hx hb dX11_walks_184 (by decide) ?_
              refine lv_istore (lv' := [(13, .int 0), (0, .ref q_t), (1, .int x1), (2, .int x2), (3, .int x3), (4, .int a3), (5, .int z5.1), (6, .int z5.2), (11, .int a13.2.2.2.1), (12, .int a13.2.2.2.2.1)]) hx hb dX11_walks_185 hl (by decide) rfl (fun ls hl => ?_)
              refine lv_iload hx hb dX11_walks_187 (lv_at hl 6 rfl) ?_
              refine lv_iload hx hb dX11_walks_189 (lv_at hl 0 rfl) ?_
              have J232_18 : ∀ (a17 : Unit) (H : Heap) (locs : List Loc) (ls : Array Slot), fX11_walks_J232 z5 a17 = some r_e6 → va_P D vwCl [(q_t, .inr (10, [.ref q_t_page, .int v_t_pageMany, .ref q_t_readKinds, .ref q_t_readLeaflets, .int v_t_readMany, .int v_t_told, .int v_t_many, .int v_t_lostByHands, .int v_t_lostByMould, .ref q_t_rows, .ref q_t_debts, .int v_t_ringMany, .ref q_t_ring, .ref q_t_line, .ref q_t_groups, .ref q_t_likely, .ref q_t_likelyThen, .int v_t_seedNow, .ref q_t_saved, .int v_t_keptMany, .int v_t_keptByHands, .int v_t_keptByMould, .ref q_t_keptRows, .ref q_t_keptDebts, .long v_t_hash])), (q_t_rows, .inl (cI, 80, .inl v_t_rows))] H → va_D A0 [(q_t, .inr (10, [.ref q_t_page, .int v_t_pageMany, .ref q_t_readKinds, .ref q_t_readLeaflets, .int v_t_readMany, .int v_t_told, .int v_t_many, .int v_t_lostByHands, .int v_t_lostByMould, .ref q_t_rows, .ref q_t_debts, .int v_t_ringMany, .ref q_t_ring, .ref q_t_line, .ref q_t_groups, .ref q_t_likely, .ref q_t_likelyThen, .int v_t_seedNow, .ref q_t_saved, .int v_t_keptMany, .int v_t_keptByHands, .int v_t_keptByMould, .ref q_t_keptRows, .ref q_t_keptDebts, .long v_t_hash])), (q_t_rows, .inl (cI, 80, .inl v_t_rows))] → va_S A0 s.heap H locs → lv_has ls 15 [(0, .ref q_t), (1, .int x1), (2, .int x2), (3, .int x3), (4, .int a3), (6, .int z5.2)] → W p l e ({ frames := 0, cells := 0, slots := 0, locals := 0 } : Room) s m args below meth c H locs 0 0 Q0 (F0 m 232 ls [.int z5.1]) := by
                intro a17 H locs ls h hP hD hS hl
                unfold fX11_walks_J232 at h
                refine lv_iconst (v := 0) hx hb dX11_walks_232 (by decide) ?_
                refine lv_iadd hx hb dX11_walks_233 ?_
                refine lv_istore (lv' := [(5, .int (z5.1 + 0)), (0, .ref q_t), (1, .int x1), (2, .int x2), (3, .int x3), (4, .int a3), (6, .int z5.2)]) hx hb dX11_walks_234 hl (by decide) rfl (fun ls hl => ?_)
                refine lv_iinc (v := (z5.2 + 1)) (lv' := [(6, .int (z5.2 + 1)), (5, .int (z5.1 + 0)), (0, .ref q_t), (1, .int x1), (2, .int x2), (3, .int x3), (4, .int a3)]) hx hb dX11_walks_236 hl (k := 6) rfl rfl (by decide) rfl (fun ls hl => ?_)
                refine lv_goto (tgt := 31) hx hb dX11_walks_239 (by decide) ?_
                obtain rfl := Option.some.inj h
                exact ih ((z5.1 + 0), (z5.2 + 1)) _ _ _ hn_e6 hP hD hS (lv_sub hl [2, 3, 4, 5, 6, 1, 0] rfl)
              have J233_20 : ∀ (a19 : Int32) (H : Heap) (locs : List Loc) (ls : Array Slot), fX11_walks_J233 z5 a19 = some r_e6 → va_P D vwCl [(q_t, .inr (10, [.ref q_t_page, .int v_t_pageMany, .ref q_t_readKinds, .ref q_t_readLeaflets, .int v_t_readMany, .int v_t_told, .int v_t_many, .int v_t_lostByHands, .int v_t_lostByMould, .ref q_t_rows, .ref q_t_debts, .int v_t_ringMany, .ref q_t_ring, .ref q_t_line, .ref q_t_groups, .ref q_t_likely, .ref q_t_likelyThen, .int v_t_seedNow, .ref q_t_saved, .int v_t_keptMany, .int v_t_keptByHands, .int v_t_keptByMould, .ref q_t_keptRows, .ref q_t_keptDebts, .long v_t_hash])), (q_t_rows, .inl (cI, 80, .inl v_t_rows))] H → va_D A0 [(q_t, .inr (10, [.ref q_t_page, .int v_t_pageMany, .ref q_t_readKinds, .ref q_t_readLeaflets, .int v_t_readMany, .int v_t_told, .int v_t_many, .int v_t_lostByHands, .int v_t_lostByMould, .ref q_t_rows, .ref q_t_debts, .int v_t_ringMany, .ref q_t_ring, .ref q_t_line, .ref q_t_groups, .ref q_t_likely, .ref q_t_likelyThen, .int v_t_seedNow, .ref q_t_saved, .int v_t_keptMany, .int v_t_keptByHands, .int v_t_keptByMould, .ref q_t_keptRows, .ref q_t_keptDebts, .long v_t_hash])), (q_t_rows, .inl (cI, 80, .inl v_t_rows))] → va_S A0 s.heap H locs → lv_has ls 15 [(0, .ref q_t), (1, .int x1), (2, .int x2), (3, .int x3), (4, .int a3), (6, .int z5.2)] → W p l e ({ frames := 0, cells := 0, slots := 0, locals := 0 } : Room) s m args below meth c H locs 0 0 Q0 (F0 m 233 ls [.int a19, .int z5.1]) := by
                intro a19 H locs ls h hP hD hS hl
                unfold fX11_walks_J233 at h
                refine lv_iadd hx hb dX11_walks_233 ?_
                refine lv_istore (lv' := [(5, .int (z5.1 + a19)), (0, .ref q_t), (1, .int x1), (2, .int x2), (3, .int x3), (4, .int a3), (6, .int z5.2)]) hx hb dX11_walks_234 hl (by decide) rfl (fun ls hl => ?_)
                refine lv_iinc (v := (z5.2 + 1)) (lv' := [(6, .int (z5.2 + 1)), (5, .int (z5.1 + a19)), (0, .ref q_t), (1, .int x1), (2, .int x2), (3, .int x3), (4, .int a3)]) hx hb dX11_walks_236 hl (k := 6) rfl rfl (by decide) rfl (fun ls hl => ?_)
                refine lv_goto (tgt := 31) hx hb dX11_walks_239 (by decide) ?_
                obtain rfl := Option.some.inj h
                exact ih ((z5.1 + a19), (z5.2 + 1)) _ _ _ hn_e6 hP hD hS (lv_sub hl [2, 3, 4, 5, 6, 1, 0] rfl)
              refine lv_if_eq (tgt := 232) hx hb dX11_walks_191 (by decide) (fun c21 => ?_) (fun c21 => ?_)
              · skip
                have h := (if_pos c21).symm.trans h
                exact J232_18 () _ _ _ h hP hD hS (lv_sub hl [1, 2, 3, 4, 5, 7] rfl)
              · skip
                have h := (if_neg c21).symm.trans h
                refine lv_iload hx hb dX11_walks_194 (lv_at hl 8 rfl) ?_
                refine lv_aload_n hx hb dX11_walks_196 rfl (lv_at hl 1 rfl) ?_
                refine va_get (own := RX11) (ci := 10) (v := .ref q_t_rows) (C := RX11) (T := TX11) (N := 25) hx hb hts iX11 hown hK hP 0 rfl rfl 9 (by decide) k19 (fun _ h9 => h9) rfl dX11_walks_197 ?_
                refine lv_bipush (v := 8) hx hb dX11_walks_200 (by decide) ?_
                refine lv_iload_n hx hb dX11_walks_202 rfl (lv_at hl 2 rfl) ?_
                refine lv_imul hx hb dX11_walks_203 ?_
                refine lv_bipush (v := 6) hx hb dX11_walks_204 (by decide) ?_
                refine lv_iadd hx hb dX11_walks_206 ?_
                obtain ⟨g22, h⟩ := gd_of h
                refine va_iald hx hb hK hP 1 0 rfl rfl (inb_of g22) dX11_walks_207 ?_
                refine lv_icmp_ne (tgt := 232) hx hb dX11_walks_208 (by decide) (fun c23 => ?_) (fun c23 => ?_)
                · skip
                  have h := (if_neg c23).symm.trans h
                  exact J232_18 () _ _ _ h hP hD hS (lv_sub hl [1, 2, 3, 4, 5, 7] rfl)
                · skip
                  have h := (if_pos c23).symm.trans h
                  refine lv_iload hx hb dX11_walks_211 (lv_at hl 9 rfl) ?_
                  refine lv_aload_n hx hb dX11_walks_213 rfl (lv_at hl 1 rfl) ?_
                  refine va_get (own := RX11) (ci := 10) (v := .ref q_t_rows) (C := RX11) (T := TX11) (N := 25) hx hb hts iX11 hown hK hP 0 rfl rfl 9 (by decide) k19 (fun _ h9 => h9) rfl dX11_walks_214 ?_
                  refine lv_bipush (v := 8) hx hb dX11_walks_217 (by decide) ?_
                  refine lv_iload_n hx hb dX11_walks_219 rfl (lv_at hl 2 rfl) ?_
                  refine lv_imul hx hb dX11_walks_220 ?_
                  refine lv_bipush (v := 7) hx hb dX11_walks_221 (by decide) ?_
                  refine lv_iadd hx hb dX11_walks_223 ?_
                  obtain ⟨g24, h⟩ := gd_of h
                  refine va_iald hx hb hK hP 1 0 rfl rfl (inb_of g24) dX11_walks_224 ?_
                  refine lv_icmp_ne (tgt := 232) hx hb dX11_walks_225 (by decide) (fun c25 => ?_) (fun c25 => ?_)
                  · skip
                    have h := (if_neg c25).symm.trans h
                    exact J232_18 () _ _ _ h hP hD hS (lv_sub hl [1, 2, 3, 4, 5, 7] rfl)
                  · skip
                    have h := (if_pos c25).symm.trans h
                    refine lv_iconst (v := 1) hx hb dX11_walks_228 (by decide) ?_
                    refine lv_goto (tgt := 233) hx hb dX11_walks_229 (by decide) ?_
                    exact J233_20 1 _ _ _ h hP hD hS (lv_sub hl [1, 2, 3, 4, 5, 7] rfl)
            have J185_27 : ∀ (a26 : Int32) (H : Heap) (locs : List Loc) (ls : Array Slot), fX11_walks_J185 v_t_rows x1 z5 a13 a26 = some r_e6 → va_P D vwCl [(q_t, .inr (10, [.ref q_t_page, .int v_t_pageMany, .ref q_t_readKinds, .ref q_t_readLeaflets, .int v_t_readMany, .int v_t_told, .int v_t_many, .int v_t_lostByHands, .int v_t_lostByMould, .ref q_t_rows, .ref q_t_debts, .int v_t_ringMany, .ref q_t_ring, .ref q_t_line, .ref q_t_groups, .ref q_t_likely, .ref q_t_likelyThen, .int v_t_seedNow, .ref q_t_saved, .int v_t_keptMany, .int v_t_keptByHands, .int v_t_keptByMould, .ref q_t_keptRows, .ref q_t_keptDebts, .long v_t_hash])), (q_t_rows, .inl (cI, 80, .inl v_t_rows))] H → va_D A0 [(q_t, .inr (10, [.ref q_t_page, .int v_t_pageMany, .ref q_t_readKinds, .ref q_t_readLeaflets, .int v_t_readMany, .int v_t_told, .int v_t_many, .int v_t_lostByHands, .int v_t_lostByMould, .ref q_t_rows, .ref q_t_debts, .int v_t_ringMany, .ref q_t_ring, .ref q_t_line, .ref q_t_groups, .ref q_t_likely, .ref q_t_likelyThen, .int v_t_seedNow, .ref q_t_saved, .int v_t_keptMany, .int v_t_keptByHands, .int v_t_keptByMould, .ref q_t_keptRows, .ref q_t_keptDebts, .long v_t_hash])), (q_t_rows, .inl (cI, 80, .inl v_t_rows))] → va_S A0 s.heap H locs → lv_has ls 15 [(0, .ref q_t), (1, .int x1), (2, .int x2), (3, .int x3), (4, .int a3), (5, .int z5.1), (6, .int z5.2), (11, .int a13.2.2.2.1), (12, .int a13.2.2.2.2.1)] → W p l e ({ frames := 0, cells := 0, slots := 0, locals := 0 } : Room) s m args below meth c H locs 0 0 Q0 (F0 m 185 ls [.int a26]) := by
              intro a26 H locs ls h hP hD hS hl
              unfold fX11_walks_J185 at h
              refine lv_istore (lv' := [(13, .int a26), (0, .ref q_t), (1, .int x1), (2, .int x2), (3, .int x3), (4, .int a3), (5, .int z5.1), (6, .int z5.2), (11, .int a13.2.2.2.1), (12, .int a13.2.2.2.2.1)]) hx hb dX11_walks_185 hl (by decide) rfl (fun ls hl => ?_)
              refine lv_iload hx hb dX11_walks_187 (lv_at hl 6 rfl) ?_
              refine lv_iload hx hb dX11_walks_189 (lv_at hl 0 rfl) ?_
              have J232_29 : ∀ (a28 : Unit) (H : Heap) (locs : List Loc) (ls : Array Slot), fX11_walks_J232a z5 a28 = some r_e6 → va_P D vwCl [(q_t, .inr (10, [.ref q_t_page, .int v_t_pageMany, .ref q_t_readKinds, .ref q_t_readLeaflets, .int v_t_readMany, .int v_t_told, .int v_t_many, .int v_t_lostByHands, .int v_t_lostByMould, .ref q_t_rows, .ref q_t_debts, .int v_t_ringMany, .ref q_t_ring, .ref q_t_line, .ref q_t_groups, .ref q_t_likely, .ref q_t_likelyThen, .int v_t_seedNow, .ref q_t_saved, .int v_t_keptMany, .int v_t_keptByHands, .int v_t_keptByMould, .ref q_t_keptRows, .ref q_t_keptDebts, .long v_t_hash])), (q_t_rows, .inl (cI, 80, .inl v_t_rows))] H → va_D A0 [(q_t, .inr (10, [.ref q_t_page, .int v_t_pageMany, .ref q_t_readKinds, .ref q_t_readLeaflets, .int v_t_readMany, .int v_t_told, .int v_t_many, .int v_t_lostByHands, .int v_t_lostByMould, .ref q_t_rows, .ref q_t_debts, .int v_t_ringMany, .ref q_t_ring, .ref q_t_line, .ref q_t_groups, .ref q_t_likely, .ref q_t_likelyThen, .int v_t_seedNow, .ref q_t_saved, .int v_t_keptMany, .int v_t_keptByHands, .int v_t_keptByMould, .ref q_t_keptRows, .ref q_t_keptDebts, .long v_t_hash])), (q_t_rows, .inl (cI, 80, .inl v_t_rows))] → va_S A0 s.heap H locs → lv_has ls 15 [(0, .ref q_t), (1, .int x1), (2, .int x2), (3, .int x3), (4, .int a3), (6, .int z5.2)] → W p l e ({ frames := 0, cells := 0, slots := 0, locals := 0 } : Room) s m args below meth c H locs 0 0 Q0 (F0 m 232 ls [.int z5.1]) := by
                intro a28 H locs ls h hP hD hS hl
                unfold fX11_walks_J232a at h
                refine lv_iconst (v := 0) hx hb dX11_walks_232 (by decide) ?_
                refine lv_iadd hx hb dX11_walks_233 ?_
                refine lv_istore (lv' := [(5, .int (z5.1 + 0)), (0, .ref q_t), (1, .int x1), (2, .int x2), (3, .int x3), (4, .int a3), (6, .int z5.2)]) hx hb dX11_walks_234 hl (by decide) rfl (fun ls hl => ?_)
                refine lv_iinc (v := (z5.2 + 1)) (lv' := [(6, .int (z5.2 + 1)), (5, .int (z5.1 + 0)), (0, .ref q_t), (1, .int x1), (2, .int x2), (3, .int x3), (4, .int a3)]) hx hb dX11_walks_236 hl (k := 6) rfl rfl (by decide) rfl (fun ls hl => ?_)
                refine lv_goto (tgt := 31) hx hb dX11_walks_239 (by decide) ?_
                obtain rfl := Option.some.inj h
                exact ih ((z5.1 + 0), (z5.2 + 1)) _ _ _ hn_e6 hP hD hS (lv_sub hl [2, 3, 4, 5, 6, 1, 0] rfl)
              have J233_31 : ∀ (a30 : Int32) (H : Heap) (locs : List Loc) (ls : Array Slot), fX11_walks_J233a z5 a30 = some r_e6 → va_P D vwCl [(q_t, .inr (10, [.ref q_t_page, .int v_t_pageMany, .ref q_t_readKinds, .ref q_t_readLeaflets, .int v_t_readMany, .int v_t_told, .int v_t_many, .int v_t_lostByHands, .int v_t_lostByMould, .ref q_t_rows, .ref q_t_debts, .int v_t_ringMany, .ref q_t_ring, .ref q_t_line, .ref q_t_groups, .ref q_t_likely, .ref q_t_likelyThen, .int v_t_seedNow, .ref q_t_saved, .int v_t_keptMany, .int v_t_keptByHands, .int v_t_keptByMould, .ref q_t_keptRows, .ref q_t_keptDebts, .long v_t_hash])), (q_t_rows, .inl (cI, 80, .inl v_t_rows))] H → va_D A0 [(q_t, .inr (10, [.ref q_t_page, .int v_t_pageMany, .ref q_t_readKinds, .ref q_t_readLeaflets, .int v_t_readMany, .int v_t_told, .int v_t_many, .int v_t_lostByHands, .int v_t_lostByMould, .ref q_t_rows, .ref q_t_debts, .int v_t_ringMany, .ref q_t_ring, .ref q_t_line, .ref q_t_groups, .ref q_t_likely, .ref q_t_likelyThen, .int v_t_seedNow, .ref q_t_saved, .int v_t_keptMany, .int v_t_keptByHands, .int v_t_keptByMould, .ref q_t_keptRows, .ref q_t_keptDebts, .long v_t_hash])), (q_t_rows, .inl (cI, 80, .inl v_t_rows))] → va_S A0 s.heap H locs → lv_has ls 15 [(0, .ref q_t), (1, .int x1), (2, .int x2), (3, .int x3), (4, .int a3), (6, .int z5.2)] → W p l e ({ frames := 0, cells := 0, slots := 0, locals := 0 } : Room) s m args below meth c H locs 0 0 Q0 (F0 m 233 ls [.int a30, .int z5.1]) := by
                intro a30 H locs ls h hP hD hS hl
                unfold fX11_walks_J233a at h
                refine lv_iadd hx hb dX11_walks_233 ?_
                refine lv_istore (lv' := [(5, .int (z5.1 + a30)), (0, .ref q_t), (1, .int x1), (2, .int x2), (3, .int x3), (4, .int a3), (6, .int z5.2)]) hx hb dX11_walks_234 hl (by decide) rfl (fun ls hl => ?_)
                refine lv_iinc (v := (z5.2 + 1)) (lv' := [(6, .int (z5.2 + 1)), (5, .int (z5.1 + a30)), (0, .ref q_t), (1, .int x1), (2, .int x2), (3, .int x3), (4, .int a3)]) hx hb dX11_walks_236 hl (k := 6) rfl rfl (by decide) rfl (fun ls hl => ?_)
                refine lv_goto (tgt := 31) hx hb dX11_walks_239 (by decide) ?_
                obtain rfl := Option.some.inj h
                exact ih ((z5.1 + a30), (z5.2 + 1)) _ _ _ hn_e6 hP hD hS (lv_sub hl [2, 3, 4, 5, 6, 1, 0] rfl)
              refine lv_if_eq (tgt := 232) hx hb dX11_walks_191 (by decide) (fun c32 => ?_) (fun c32 => ?_)
              · skip
                have h := (if_pos c32).symm.trans h
                exact J232_29 () _ _ _ h hP hD hS (lv_sub hl [1, 2, 3, 4, 5, 7] rfl)
              · skip
                have h := (if_neg c32).symm.trans h
                refine lv_iload hx hb dX11_walks_194 (lv_at hl 8 rfl) ?_
                refine lv_aload_n hx hb dX11_walks_196 rfl (lv_at hl 1 rfl) ?_
                refine va_get (own := RX11) (ci := 10) (v := .ref q_t_rows) (C := RX11) (T := TX11) (N := 25) hx hb hts iX11 hown hK hP 0 rfl rfl 9 (by decide) k19 (fun _ h9 => h9) rfl dX11_walks_197 ?_
                refine lv_bipush (v := 8) hx hb dX11_walks_200 (by decide) ?_
                refine lv_iload_n hx hb dX11_walks_202 rfl (lv_at hl 2 rfl) ?_
                refine lv_imul hx hb dX11_walks_203 ?_
                refine lv_bipush (v := 6) hx hb dX11_walks_204 (by decide) ?_
                refine lv_iadd hx hb dX11_walks_206 ?_
                obtain ⟨g33, h⟩ := gd_of h
                refine va_iald hx hb hK hP 1 0 rfl rfl (inb_of g33) dX11_walks_207 ?_
                refine lv_icmp_ne (tgt := 232) hx hb dX11_walks_208 (by decide) (fun c34 => ?_) (fun c34 => ?_)
                · skip
                  have h := (if_neg c34).symm.trans h
                  exact J232_29 () _ _ _ h hP hD hS (lv_sub hl [1, 2, 3, 4, 5, 7] rfl)
                · skip
                  have h := (if_pos c34).symm.trans h
                  refine lv_iload hx hb dX11_walks_211 (lv_at hl 9 rfl) ?_
                  refine lv_aload_n hx hb dX11_walks_213 rfl (lv_at hl 1 rfl) ?_
                  refine va_get (own := RX11) (ci := 10) (v := .ref q_t_rows) (C := RX11) (T := TX11) (N := 25) hx hb hts iX11 hown hK hP 0 rfl rfl 9 (by decide) k19 (fun _ h9 => h9) rfl dX11_walks_214 ?_
                  refine lv_bipush (v := 8) hx hb dX11_walks_217 (by decide) ?_
                  refine lv_iload_n hx hb dX11_walks_219 rfl (lv_at hl 2 rfl) ?_
                  refine lv_imul hx hb dX11_walks_220 ?_
                  refine lv_bipush (v := 7) hx hb dX11_walks_221 (by decide) ?_
                  refine lv_iadd hx hb dX11_walks_223 ?_
                  obtain ⟨g35, h⟩ := gd_of h
                  refine va_iald hx hb hK hP 1 0 rfl rfl (inb_of g35) dX11_walks_224 ?_
                  refine lv_icmp_ne (tgt := 232) hx hb dX11_walks_225 (by decide) (fun c36 => ?_) (fun c36 => ?_)
                  · skip
                    have h := (if_neg c36).symm.trans h
                    exact J232_29 () _ _ _ h hP hD hS (lv_sub hl [1, 2, 3, 4, 5, 7] rfl)
                  · skip
                    have h := (if_pos c36).symm.trans h
                    refine lv_iconst (v := 1) hx hb dX11_walks_228 (by decide) ?_
                    refine lv_goto (tgt := 233) hx hb dX11_walks_229 (by decide) ?_
                    exact J233_31 1 _ _ _ h hP hD hS (lv_sub hl [1, 2, 3, 4, 5, 7] rfl)
            refine lv_if_eq (tgt := 184) hx hb dX11_walks_129 (by decide) (fun c37 => ?_) (fun c37 => ?_)
            · skip
              have h := (if_pos c37).symm.trans h
              exact J184_16 () _ _ _ h hP hD hS (lv_sub hl [0, 1, 2, 3, 4, 5, 6, 10, 11] rfl)
            · skip
              have h := (if_neg c37).symm.trans h
              refine lv_iload hx hb dX11_walks_132 (lv_at hl 7 rfl) ?_
              refine lv_aload_n hx hb dX11_walks_134 rfl (lv_at hl 0 rfl) ?_
              refine va_get (own := RX11) (ci := 10) (v := .ref q_t_rows) (C := RX11) (T := TX11) (N := 25) hx hb hts iX11 hown hK hP 0 rfl rfl 9 (by decide) k19 (fun _ h9 => h9) rfl dX11_walks_135 ?_
              refine lv_bipush (v := 8) hx hb dX11_walks_138 (by decide) ?_
              refine lv_iload_n hx hb dX11_walks_140 rfl (lv_at hl 1 rfl) ?_
              refine lv_imul hx hb dX11_walks_141 ?_
              refine lv_iconst (v := 2) hx hb dX11_walks_142 (by decide) ?_
              refine lv_iadd hx hb dX11_walks_143 ?_
              obtain ⟨g38, h⟩ := gd_of h
              refine va_iald hx hb hK hP 1 0 rfl rfl (inb_of g38) dX11_walks_144 ?_
              refine lv_icmp_ne (tgt := 184) hx hb dX11_walks_145 (by decide) (fun c39 => ?_) (fun c39 => ?_)
              · skip
                have h := (if_neg c39).symm.trans h
                exact J184_16 () _ _ _ h hP hD hS (lv_sub hl [0, 1, 2, 3, 4, 5, 6, 10, 11] rfl)
              · skip
                have h := (if_pos c39).symm.trans h
                refine lv_iload hx hb dX11_walks_148 (lv_at hl 8 rfl) ?_
                refine lv_aload_n hx hb dX11_walks_150 rfl (lv_at hl 0 rfl) ?_
                refine va_get (own := RX11) (ci := 10) (v := .ref q_t_rows) (C := RX11) (T := TX11) (N := 25) hx hb hts iX11 hown hK hP 0 rfl rfl 9 (by decide) k19 (fun _ h9 => h9) rfl dX11_walks_151 ?_
                refine lv_bipush (v := 8) hx hb dX11_walks_154 (by decide) ?_
                refine lv_iload_n hx hb dX11_walks_156 rfl (lv_at hl 1 rfl) ?_
                refine lv_imul hx hb dX11_walks_157 ?_
                refine lv_iconst (v := 4) hx hb dX11_walks_158 (by decide) ?_
                refine lv_iadd hx hb dX11_walks_159 ?_
                obtain ⟨g40, h⟩ := gd_of h
                refine va_iald hx hb hK hP 1 0 rfl rfl (inb_of g40) dX11_walks_160 ?_
                refine lv_icmp_ne (tgt := 184) hx hb dX11_walks_161 (by decide) (fun c41 => ?_) (fun c41 => ?_)
                · skip
                  have h := (if_neg c41).symm.trans h
                  exact J184_16 () _ _ _ h hP hD hS (lv_sub hl [0, 1, 2, 3, 4, 5, 6, 10, 11] rfl)
                · skip
                  have h := (if_pos c41).symm.trans h
                  refine lv_iload hx hb dX11_walks_164 (lv_at hl 9 rfl) ?_
                  refine lv_aload_n hx hb dX11_walks_166 rfl (lv_at hl 0 rfl) ?_
                  refine va_get (own := RX11) (ci := 10) (v := .ref q_t_rows) (C := RX11) (T := TX11) (N := 25) hx hb hts iX11 hown hK hP 0 rfl rfl 9 (by decide) k19 (fun _ h9 => h9) rfl dX11_walks_167 ?_
                  refine lv_bipush (v := 8) hx hb dX11_walks_170 (by decide) ?_
                  refine lv_iload_n hx hb dX11_walks_172 rfl (lv_at hl 1 rfl) ?_
                  refine lv_imul hx hb dX11_walks_173 ?_
                  refine lv_iconst (v := 5) hx hb dX11_walks_174 (by decide) ?_
                  refine lv_iadd hx hb dX11_walks_175 ?_
                  obtain ⟨g42, h⟩ := gd_of h
                  refine va_iald hx hb hK hP 1 0 rfl rfl (inb_of g42) dX11_walks_176 ?_
                  refine lv_icmp_ne (tgt := 184) hx hb dX11_walks_177 (by decide) (fun c43 => ?_) (fun c43 => ?_)
                  · skip
                    have h := (if_neg c43).symm.trans h
                    exact J184_16 () _ _ _ h hP hD hS (lv_sub hl [0, 1, 2, 3, 4, 5, 6, 10, 11] rfl)
                  · skip
                    have h := (if_pos c43).symm.trans h
                    refine lv_iconst (v := 1) hx hb dX11_walks_180 (by decide) ?_
                    refine lv_goto (tgt := 185) hx hb dX11_walks_181 (by decide) ?_
                    exact J185_27 1 _ _ _ h hP hD hS (lv_sub hl [0, 1, 2, 3, 4, 5, 6, 10, 11] rfl)
          have L63_44 : ∀ (n : Nat) (z11 : Int32 × Int32 × Int32 × Int32 × Int32 × Int32 × Int32 × Int32) (H : Heap) (locs : List Loc) (ls : Array Slot), iter (fX11_walks_L63 x3) n z11 = some e12 → va_P D vwCl [(q_t, .inr (10, [.ref q_t_page, .int v_t_pageMany, .ref q_t_readKinds, .ref q_t_readLeaflets, .int v_t_readMany, .int v_t_told, .int v_t_many, .int v_t_lostByHands, .int v_t_lostByMould, .ref q_t_rows, .ref q_t_debts, .int v_t_ringMany, .ref q_t_ring, .ref q_t_line, .ref q_t_groups, .ref q_t_likely, .ref q_t_likelyThen, .int v_t_seedNow, .ref q_t_saved, .int v_t_keptMany, .int v_t_keptByHands, .int v_t_keptByMould, .ref q_t_keptRows, .ref q_t_keptDebts, .long v_t_hash])), (q_t_rows, .inl (cI, 80, .inl v_t_rows))] H → va_D A0 [(q_t, .inr (10, [.ref q_t_page, .int v_t_pageMany, .ref q_t_readKinds, .ref q_t_readLeaflets, .int v_t_readMany, .int v_t_told, .int v_t_many, .int v_t_lostByHands, .int v_t_lostByMould, .ref q_t_rows, .ref q_t_debts, .int v_t_ringMany, .ref q_t_ring, .ref q_t_line, .ref q_t_groups, .ref q_t_likely, .ref q_t_likelyThen, .int v_t_seedNow, .ref q_t_saved, .int v_t_keptMany, .int v_t_keptByHands, .int v_t_keptByMould, .ref q_t_keptRows, .ref q_t_keptDebts, .long v_t_hash])), (q_t_rows, .inl (cI, 80, .inl v_t_rows))] → va_S A0 s.heap H locs → lv_has ls 15 [(0, .ref q_t), (1, .int x1), (2, .int x2), (3, .int x3), (4, .int a3), (5, .int z5.1), (6, .int z5.2), (7, .int z11.1), (8, .int z11.2.1), (9, .int z11.2.2.1), (10, .int z11.2.2.2.1), (11, .int z11.2.2.2.2.1), (12, .int z11.2.2.2.2.2.1), (13, .int z11.2.2.2.2.2.2.1), (14, .int z11.2.2.2.2.2.2.2)] → W p l e ({ frames := 0, cells := 0, slots := 0, locals := 0 } : Room) s m args below meth c H locs 0 0 Q0 (F0 m 63 ls []) := by
            intro n
            induction n with
            | zero => exact fun _ _ _ _ h => (iter_z h).elim
            | succ n ih =>
              intro z11 H locs ls h hP hD hS hl
              obtain ⟨r_e12, h, hn_e12⟩ := iter_s h
              unfold fX11_walks_L63 at h
              refine lv_iload hx hb dX11_walks_63 (lv_at hl 14 rfl) ?_
              refine lv_iload_n hx hb dX11_walks_65 rfl (lv_at hl 3 rfl) ?_
              refine lv_icmp_ge (tgt := 127) hx hb dX11_walks_66 (by decide) (fun c45 => ?_) (fun c45 => ?_)
              · skip
                have h := (if_pos c45).symm.trans h
                obtain rfl := Option.some.inj h
                obtain rfl := Option.some.inj hn_e12
                exact X127_14 (z11.2.1, z11.2.2.1, z11.2.2.2.1, z11.2.2.2.2.1, z11.2.2.2.2.2.1, z11.2.2.2.2.2.2.1) _ _ _ hc_e12 hP hD hS (lv_sub hl [0, 1, 2, 3, 4, 5, 6, 8, 9, 10, 11, 12, 13] rfl)
              · skip
                have h := (if_neg c45).symm.trans h
                refine lv_iload hx hb dX11_walks_69 (lv_at hl 11 rfl) ?_
                refine lv_istore (lv' := [(12, .int z11.2.2.2.2.1), (0, .ref q_t), (1, .int x1), (2, .int x2), (3, .int x3), (4, .int a3), (5, .int z5.1), (6, .int z5.2), (7, .int z11.1), (8, .int z11.2.1), (9, .int z11.2.2.1), (10, .int z11.2.2.2.1), (11, .int z11.2.2.2.2.1), (13, .int z11.2.2.2.2.2.2.1), (14, .int z11.2.2.2.2.2.2.2)]) hx hb dX11_walks_71 hl (by decide) rfl (fun ls hl => ?_)
                refine lv_iload hx hb dX11_walks_73 (lv_at hl 11 rfl) ?_
                refine lv_istore (lv' := [(11, .int z11.2.2.2.1), (12, .int z11.2.2.2.2.1), (0, .ref q_t), (1, .int x1), (2, .int x2), (3, .int x3), (4, .int a3), (5, .int z5.1), (6, .int z5.2), (7, .int z11.1), (8, .int z11.2.1), (9, .int z11.2.2.1), (10, .int z11.2.2.2.1), (13, .int z11.2.2.2.2.2.2.1), (14, .int z11.2.2.2.2.2.2.2)]) hx hb dX11_walks_75 hl (by decide) rfl (fun ls hl => ?_)
                refine lv_iload hx hb dX11_walks_77 (lv_at hl 11 rfl) ?_
                refine lv_istore (lv' := [(10, .int z11.2.2.1), (11, .int z11.2.2.2.1), (12, .int z11.2.2.2.2.1), (0, .ref q_t), (1, .int x1), (2, .int x2), (3, .int x3), (4, .int a3), (5, .int z5.1), (6, .int z5.2), (7, .int z11.1), (8, .int z11.2.1), (9, .int z11.2.2.1), (13, .int z11.2.2.2.2.2.2.1), (14, .int z11.2.2.2.2.2.2.2)]) hx hb dX11_walks_79 hl (by decide) rfl (fun ls hl => ?_)
                refine lv_iload hx hb dX11_walks_81 (lv_at hl 11 rfl) ?_
                refine lv_istore (lv' := [(9, .int z11.2.1), (10, .int z11.2.2.1), (11, .int z11.2.2.2.1), (12, .int z11.2.2.2.2.1), (0, .ref q_t), (1, .int x1), (2, .int x2), (3, .int x3), (4, .int a3), (5, .int z5.1), (6, .int z5.2), (7, .int z11.1), (8, .int z11.2.1), (13, .int z11.2.2.2.2.2.2.1), (14, .int z11.2.2.2.2.2.2.2)]) hx hb dX11_walks_83 hl (by decide) rfl (fun ls hl => ?_)
                refine lv_iload hx hb dX11_walks_85 (lv_at hl 13 rfl) ?_
                have J104_47 : ∀ (a46 : Unit) (H : Heap) (locs : List Loc) (ls : Array Slot), fX11_walks_J104 z11 a46 = some r_e12 → va_P D vwCl [(q_t, .inr (10, [.ref q_t_page, .int v_t_pageMany, .ref q_t_readKinds, .ref q_t_readLeaflets, .int v_t_readMany, .int v_t_told, .int v_t_many, .int v_t_lostByHands, .int v_t_lostByMould, .ref q_t_rows, .ref q_t_debts, .int v_t_ringMany, .ref q_t_ring, .ref q_t_line, .ref q_t_groups, .ref q_t_likely, .ref q_t_likelyThen, .int v_t_seedNow, .ref q_t_saved, .int v_t_keptMany, .int v_t_keptByHands, .int v_t_keptByMould, .ref q_t_keptRows, .ref q_t_keptDebts, .long v_t_hash])), (q_t_rows, .inl (cI, 80, .inl v_t_rows))] H → va_D A0 [(q_t, .inr (10, [.ref q_t_page, .int v_t_pageMany, .ref q_t_readKinds, .ref q_t_readLeaflets, .int v_t_readMany, .int v_t_told, .int v_t_many, .int v_t_lostByHands, .int v_t_lostByMould, .ref q_t_rows, .ref q_t_debts, .int v_t_ringMany, .ref q_t_ring, .ref q_t_line, .ref q_t_groups, .ref q_t_likely, .ref q_t_likelyThen, .int v_t_seedNow, .ref q_t_saved, .int v_t_keptMany, .int v_t_keptByHands, .int v_t_keptByMould, .ref q_t_keptRows, .ref q_t_keptDebts, .long v_t_hash])), (q_t_rows, .inl (cI, 80, .inl v_t_rows))] → va_S A0 s.heap H locs → lv_has ls 15 [(0, .ref q_t), (1, .int x1), (2, .int x2), (3, .int x3), (4, .int a3), (5, .int z5.1), (6, .int z5.2), (7, .int z11.1), (9, .int z11.2.1), (10, .int z11.2.2.1), (11, .int z11.2.2.2.1), (12, .int z11.2.2.2.2.1), (14, .int z11.2.2.2.2.2.2.2)] → W p l e ({ frames := 0, cells := 0, slots := 0, locals := 0 } : Room) s m args below meth c H locs 0 0 Q0 (F0 m 104 ls []) := by
                  intro a46 H locs ls h hP hD hS hl
                  unfold fX11_walks_J104 at h
                  refine lv_iconst (v := 0) hx hb dX11_walks_104 (by decide) ?_
                  refine lv_istore (lv' := [(13, .int 0), (0, .ref q_t), (1, .int x1), (2, .int x2), (3, .int x3), (4, .int a3), (5, .int z5.1), (6, .int z5.2), (7, .int z11.1), (9, .int z11.2.1), (10, .int z11.2.2.1), (11, .int z11.2.2.2.1), (12, .int z11.2.2.2.2.1), (14, .int z11.2.2.2.2.2.2.2)]) hx hb dX11_walks_105 hl (by decide) rfl (fun ls hl => ?_)
                  refine lv_iload hx hb dX11_walks_107 (lv_at hl 8 rfl) ?_
                  refine lv_bipush (v := 6) hx hb dX11_walks_109 (by decide) ?_
                  refine lv_irem hx hb dX11_walks_111 (by decide) ?_
                  refine lv_istore (lv' := [(8, .int (z11.1 - z11.1 / 6 * 6)), (13, .int 0), (0, .ref q_t), (1, .int x1), (2, .int x2), (3, .int x3), (4, .int a3), (5, .int z5.1), (6, .int z5.2), (7, .int z11.1), (9, .int z11.2.1), (10, .int z11.2.2.1), (11, .int z11.2.2.2.1), (12, .int z11.2.2.2.2.1), (14, .int z11.2.2.2.2.2.2.2)]) hx hb dX11_walks_112 hl (by decide) rfl (fun ls hl => ?_)
                  refine lv_iload hx hb dX11_walks_114 (lv_at hl 9 rfl) ?_
                  refine lv_bipush (v := 6) hx hb dX11_walks_116 (by decide) ?_
                  refine lv_idiv hx hb dX11_walks_118 (by decide) ?_
                  refine lv_istore (lv' := [(7, .int (z11.1 / 6)), (8, .int (z11.1 - z11.1 / 6 * 6)), (13, .int 0), (0, .ref q_t), (1, .int x1), (2, .int x2), (3, .int x3), (4, .int a3), (5, .int z5.1), (6, .int z5.2), (9, .int z11.2.1), (10, .int z11.2.2.1), (11, .int z11.2.2.2.1), (12, .int z11.2.2.2.2.1), (14, .int z11.2.2.2.2.2.2.2)]) hx hb dX11_walks_119 hl (by decide) rfl (fun ls hl => ?_)
                  refine lv_iinc (v := (z11.2.2.2.2.2.2.2 + 1)) (lv' := [(14, .int (z11.2.2.2.2.2.2.2 + 1)), (7, .int (z11.1 / 6)), (8, .int (z11.1 - z11.1 / 6 * 6)), (13, .int 0), (0, .ref q_t), (1, .int x1), (2, .int x2), (3, .int x3), (4, .int a3), (5, .int z5.1), (6, .int z5.2), (9, .int z11.2.1), (10, .int z11.2.2.1), (11, .int z11.2.2.2.1), (12, .int z11.2.2.2.2.1)]) hx hb dX11_walks_121 hl (k := 14) rfl rfl (by decide) rfl (fun ls hl => ?_)
                  refine lv_goto (tgt := 63) hx hb dX11_walks_124 (by decide) ?_
                  obtain rfl := Option.some.inj h
                  exact ih ((z11.1 / 6), (z11.1 - z11.1 / 6 * 6), z11.2.1, z11.2.2.1, z11.2.2.2.1, z11.2.2.2.2.1, 0, (z11.2.2.2.2.2.2.2 + 1)) _ _ _ hn_e12 hP hD hS (lv_sub hl [4, 5, 6, 7, 8, 9, 10, 1, 2, 11, 12, 13, 14, 3, 0] rfl)
                have J105_49 : ∀ (a48 : Int32) (H : Heap) (locs : List Loc) (ls : Array Slot), fX11_walks_J105 z11 a48 = some r_e12 → va_P D vwCl [(q_t, .inr (10, [.ref q_t_page, .int v_t_pageMany, .ref q_t_readKinds, .ref q_t_readLeaflets, .int v_t_readMany, .int v_t_told, .int v_t_many, .int v_t_lostByHands, .int v_t_lostByMould, .ref q_t_rows, .ref q_t_debts, .int v_t_ringMany, .ref q_t_ring, .ref q_t_line, .ref q_t_groups, .ref q_t_likely, .ref q_t_likelyThen, .int v_t_seedNow, .ref q_t_saved, .int v_t_keptMany, .int v_t_keptByHands, .int v_t_keptByMould, .ref q_t_keptRows, .ref q_t_keptDebts, .long v_t_hash])), (q_t_rows, .inl (cI, 80, .inl v_t_rows))] H → va_D A0 [(q_t, .inr (10, [.ref q_t_page, .int v_t_pageMany, .ref q_t_readKinds, .ref q_t_readLeaflets, .int v_t_readMany, .int v_t_told, .int v_t_many, .int v_t_lostByHands, .int v_t_lostByMould, .ref q_t_rows, .ref q_t_debts, .int v_t_ringMany, .ref q_t_ring, .ref q_t_line, .ref q_t_groups, .ref q_t_likely, .ref q_t_likelyThen, .int v_t_seedNow, .ref q_t_saved, .int v_t_keptMany, .int v_t_keptByHands, .int v_t_keptByMould, .ref q_t_keptRows, .ref q_t_keptDebts, .long v_t_hash])), (q_t_rows, .inl (cI, 80, .inl v_t_rows))] → va_S A0 s.heap H locs → lv_has ls 15 [(0, .ref q_t), (1, .int x1), (2, .int x2), (3, .int x3), (4, .int a3), (5, .int z5.1), (6, .int z5.2), (7, .int z11.1), (9, .int z11.2.1), (10, .int z11.2.2.1), (11, .int z11.2.2.2.1), (12, .int z11.2.2.2.2.1), (14, .int z11.2.2.2.2.2.2.2)] → W p l e ({ frames := 0, cells := 0, slots := 0, locals := 0 } : Room) s m args below meth c H locs 0 0 Q0 (F0 m 105 ls [.int a48]) := by
                  intro a48 H locs ls h hP hD hS hl
                  unfold fX11_walks_J105 at h
                  refine lv_istore (lv' := [(13, .int a48), (0, .ref q_t), (1, .int x1), (2, .int x2), (3, .int x3), (4, .int a3), (5, .int z5.1), (6, .int z5.2), (7, .int z11.1), (9, .int z11.2.1), (10, .int z11.2.2.1), (11, .int z11.2.2.2.1), (12, .int z11.2.2.2.2.1), (14, .int z11.2.2.2.2.2.2.2)]) hx hb dX11_walks_105 hl (by decide) rfl (fun ls hl => ?_)
                  refine lv_iload hx hb dX11_walks_107 (lv_at hl 8 rfl) ?_
                  refine lv_bipush (v := 6) hx hb dX11_walks_109 (by decide) ?_
                  refine lv_irem hx hb dX11_walks_111 (by decide) ?_
                  refine lv_istore (lv' := [(8, .int (z11.1 - z11.1 / 6 * 6)), (13, .int a48), (0, .ref q_t), (1, .int x1), (2, .int x2), (3, .int x3), (4, .int a3), (5, .int z5.1), (6, .int z5.2), (7, .int z11.1), (9, .int z11.2.1), (10, .int z11.2.2.1), (11, .int z11.2.2.2.1), (12, .int z11.2.2.2.2.1), (14, .int z11.2.2.2.2.2.2.2)]) hx hb dX11_walks_112 hl (by decide) rfl (fun ls hl => ?_)
                  refine lv_iload hx hb dX11_walks_114 (lv_at hl 9 rfl) ?_
                  refine lv_bipush (v := 6) hx hb dX11_walks_116 (by decide) ?_
                  refine lv_idiv hx hb dX11_walks_118 (by decide) ?_
                  refine lv_istore (lv' := [(7, .int (z11.1 / 6)), (8, .int (z11.1 - z11.1 / 6 * 6)), (13, .int a48), (0, .ref q_t), (1, .int x1), (2, .int x2), (3, .int x3), (4, .int a3), (5, .int z5.1), (6, .int z5.2), (9, .int z11.2.1), (10, .int z11.2.2.1), (11, .int z11.2.2.2.1), (12, .int z11.2.2.2.2.1), (14, .int z11.2.2.2.2.2.2.2)]) hx hb dX11_walks_119 hl (by decide) rfl (fun ls hl => ?_)
                  refine lv_iinc (v := (z11.2.2.2.2.2.2.2 + 1)) (lv' := [(14, .int (z11.2.2.2.2.2.2.2 + 1)), (7, .int (z11.1 / 6)), (8, .int (z11.1 - z11.1 / 6 * 6)), (13, .int a48), (0, .ref q_t), (1, .int x1), (2, .int x2), (3, .int x3), (4, .int a3), (5, .int z5.1), (6, .int z5.2), (9, .int z11.2.1), (10, .int z11.2.2.1), (11, .int z11.2.2.2.1), (12, .int z11.2.2.2.2.1)]) hx hb dX11_walks_121 hl (k := 14) rfl rfl (by decide) rfl (fun ls hl => ?_)
                  refine lv_goto (tgt := 63) hx hb dX11_walks_124 (by decide) ?_
                  obtain rfl := Option.some.inj h
                  exact ih ((z11.1 / 6), (z11.1 - z11.1 / 6 * 6), z11.2.1, z11.2.2.1, z11.2.2.2.1, z11.2.2.2.2.1, a48, (z11.2.2.2.2.2.2.2 + 1)) _ _ _ hn_e12 hP hD hS (lv_sub hl [4, 5, 6, 7, 8, 9, 10, 1, 2, 11, 12, 13, 14, 3, 0] rfl)
                refine lv_if_eq (tgt := 104) hx hb dX11_walks_87 (by decide) (fun c50 => ?_) (fun c50 => ?_)
                · skip
                  have h := (if_pos c50).symm.trans h
                  exact J104_47 () _ _ _ h hP hD hS (lv_sub hl [4, 5, 6, 7, 8, 9, 10, 11, 0, 1, 2, 3, 14] rfl)
                · skip
                  have h := (if_neg c50).symm.trans h
                  refine lv_iload hx hb dX11_walks_90 (lv_at hl 11 rfl) ?_
                  refine lv_bipush (v := 6) hx hb dX11_walks_92 (by decide) ?_
                  refine lv_irem hx hb dX11_walks_94 (by decide) ?_
                  refine lv_iload hx hb dX11_walks_95 (lv_at hl 12 rfl) ?_
                  refine lv_icmp_eq (tgt := 104) hx hb dX11_walks_97 (by decide) (fun c51 => ?_) (fun c51 => ?_)
                  · skip
                    have h := (if_pos c51).symm.trans h
                    exact J104_47 () _ _ _ h hP hD hS (lv_sub hl [4, 5, 6, 7, 8, 9, 10, 11, 0, 1, 2, 3, 14] rfl)
                  · skip
                    have h := (if_neg c51).symm.trans h
                    refine lv_iconst (v := 1) hx hb dX11_walks_100 (by decide) ?_
                    refine lv_goto (tgt := 105) hx hb dX11_walks_101 (by decide) ?_
                    exact J105_49 1 _ _ _ h hP hD hS (lv_sub hl [4, 5, 6, 7, 8, 9, 10, 11, 0, 1, 2, 3, 14] rfl)
          exact L63_44 FU (z5.2, x2, (-1), (-1), (-1), (-1), 1, 0) _ _ _ he_e12 hP hD hS (lv_sub hl [8, 9, 10, 11, 12, 13, 14, 7, 6, 5, 4, 3, 2, 1, 0] rfl)
    exact L31_9 FU (0, 0) _ _ _ he_e6 hP hD hS (lv_sub hl [2, 3, 4, 5, 6, 1, 0] rfl)
  have L6_52 : ∀ (n : Nat) (z1 : Int32 × Int32) (H : Heap) (locs : List Loc) (ls : Array Slot), iter (fX11_walks_L6 x3) n z1 = some e2 → va_P D vwCl [(q_t, .inr (10, [.ref q_t_page, .int v_t_pageMany, .ref q_t_readKinds, .ref q_t_readLeaflets, .int v_t_readMany, .int v_t_told, .int v_t_many, .int v_t_lostByHands, .int v_t_lostByMould, .ref q_t_rows, .ref q_t_debts, .int v_t_ringMany, .ref q_t_ring, .ref q_t_line, .ref q_t_groups, .ref q_t_likely, .ref q_t_likelyThen, .int v_t_seedNow, .ref q_t_saved, .int v_t_keptMany, .int v_t_keptByHands, .int v_t_keptByMould, .ref q_t_keptRows, .ref q_t_keptDebts, .long v_t_hash])), (q_t_rows, .inl (cI, 80, .inl v_t_rows))] H → va_D A0 [(q_t, .inr (10, [.ref q_t_page, .int v_t_pageMany, .ref q_t_readKinds, .ref q_t_readLeaflets, .int v_t_readMany, .int v_t_told, .int v_t_many, .int v_t_lostByHands, .int v_t_lostByMould, .ref q_t_rows, .ref q_t_debts, .int v_t_ringMany, .ref q_t_ring, .ref q_t_line, .ref q_t_groups, .ref q_t_likely, .ref q_t_likelyThen, .int v_t_seedNow, .ref q_t_saved, .int v_t_keptMany, .int v_t_keptByHands, .int v_t_keptByMould, .ref q_t_keptRows, .ref q_t_keptDebts, .long v_t_hash])), (q_t_rows, .inl (cI, 80, .inl v_t_rows))] → va_S A0 s.heap H locs → lv_has ls 15 [(0, .ref q_t), (1, .int x1), (2, .int x2), (3, .int x3), (4, .int z1.1), (5, .int z1.2)] → W p l e ({ frames := 0, cells := 0, slots := 0, locals := 0 } : Room) s m args below meth c H locs 0 0 Q0 (F0 m 6 ls []) := by
    intro n
    induction n with
    | zero => exact fun _ _ _ _ h => (iter_z h).elim
    | succ n ih =>
      intro z1 H locs ls h hP hD hS hl
      obtain ⟨r_e2, h, hn_e2⟩ := iter_s h
      unfold fX11_walks_L6 at h
      refine lv_iload hx hb dX11_walks_6 (lv_at hl 5 rfl) ?_
      refine lv_iload_n hx hb dX11_walks_8 rfl (lv_at hl 3 rfl) ?_
      refine lv_icmp_ge (tgt := 25) hx hb dX11_walks_9 (by decide) (fun c53 => ?_) (fun c53 => ?_)
      · skip
        have h := (if_pos c53).symm.trans h
        obtain rfl := Option.some.inj h
        obtain rfl := Option.some.inj hn_e2
        exact X25_4 z1.1 _ _ _ hc_e2 hP hD hS (lv_sub hl [0, 1, 2, 3, 4] rfl)
      · skip
        have h := (if_neg c53).symm.trans h
        refine lv_iload hx hb dX11_walks_12 (lv_at hl 4 rfl) ?_
        refine lv_bipush (v := 6) hx hb dX11_walks_14 (by decide) ?_
        refine lv_imul hx hb dX11_walks_16 ?_
        refine lv_istore (lv' := [(4, .int (z1.1 * 6)), (0, .ref q_t), (1, .int x1), (2, .int x2), (3, .int x3), (5, .int z1.2)]) hx hb dX11_walks_17 hl (by decide) rfl (fun ls hl => ?_)
        refine lv_iinc (v := (z1.2 + 1)) (lv' := [(5, .int (z1.2 + 1)), (4, .int (z1.1 * 6)), (0, .ref q_t), (1, .int x1), (2, .int x2), (3, .int x3)]) hx hb dX11_walks_19 hl (k := 5) rfl rfl (by decide) rfl (fun ls hl => ?_)
        refine lv_goto (tgt := 6) hx hb dX11_walks_22 (by decide) ?_
        obtain rfl := Option.some.inj h
        exact ih ((z1.1 * 6), (z1.2 + 1)) _ _ _ hn_e2 hP hD hS (lv_sub hl [2, 3, 4, 5, 1, 0] rfl)
  exact L6_52 FU (1, 0) _ _ _ he_e2 hP hD hS (lv_sub hl [2, 3, 4, 5, 1, 0] rfl)
def fX11_went (v_t_pageMany : Int32) (v_t_readMany : Int32) (v_t_told : Int32) (v_t_many : Int32) (v_t_lostByHands : Int32) (v_t_lostByMould : Int32) (v_t_ringMany : Int32) (v_t_seedNow : Int32) (v_t_keptMany : Int32) (v_t_keptByHands : Int32) (v_t_keptByMould : Int32) (v_t_hash : Int64) (v_t_rows : Nat → Int32) (x1 : Int32) (x2 : Int32) (x3 : Int32) (x4 : Int32) : Option (Int32) :=
  if (fX11_isFrond v_t_pageMany v_t_readMany v_t_told v_t_many v_t_lostByHands v_t_lostByMould v_t_ringMany v_t_seedNow v_t_keptMany v_t_keptByHands v_t_keptByMould v_t_hash x1) = 0 then (some (-101)) else (if (fX11_isPerson x2) = 0 then (some (-101)) else (if (fX11_in ((x3 : Int32).toInt64) 0 6) = 0 then (some (-102)) else (if (fX11_in ((x4 : Int32).toInt64) 0 4) = 0 then (some (-102)) else (gd (inb ((8 * x1) + 2) 80) (if (v_t_rows ((8 * x1) + 2).toNatClampNeg) = (-1) then (some (-103)) else ((fX11_orders v_t_pageMany v_t_readMany v_t_told v_t_many v_t_lostByHands v_t_lostByMould v_t_ringMany v_t_seedNow v_t_keptMany v_t_keptByHands v_t_keptByMould v_t_hash v_t_rows x1 x3 x4).bind (fun u7 => (fX11_walks v_t_pageMany v_t_readMany v_t_told v_t_many v_t_lostByHands v_t_lostByMould v_t_ringMany v_t_seedNow v_t_keptMany v_t_keptByHands v_t_keptByMould v_t_hash v_t_rows x1 x2 x3).bind (fun u9 => some (u7 * u9)))))))))
set_option maxHeartbeats 4000000 in
set_option maxRecDepth 100000 in
theorem c_X11_went (l : Launch) (D : va_G) (cI cJ : ClassId) (q_t q_t_page q_t_readKinds q_t_readLeaflets q_t_rows q_t_debts q_t_ring q_t_line q_t_groups q_t_likely q_t_likelyThen q_t_saved q_t_keptRows q_t_keptDebts : Nat) (v_t_pageMany : Int32) (v_t_readMany : Int32) (v_t_told : Int32) (v_t_many : Int32) (v_t_lostByHands : Int32) (v_t_lostByMould : Int32) (v_t_ringMany : Int32) (v_t_seedNow : Int32) (v_t_keptMany : Int32) (v_t_keptByHands : Int32) (v_t_keptByMould : Int32) (v_t_hash : Int64) (v_t_rows : Nat → Int32) (x1 : Int32) (x2 : Int32) (x3 : Int32) (x4 : Int32) (z : Int32) (h : fX11_went v_t_pageMany v_t_readMany v_t_told v_t_many v_t_lostByHands v_t_lostByMould v_t_ringMany v_t_seedNow v_t_keptMany v_t_keptByHands v_t_keptByMould v_t_hash v_t_rows x1 x2 x3 x4 = some z) : Met l yX11_went wsX11_went ({ frames := 2, cells := 0, slots := 0, locals := 53 } : Room) (va_Pc [.ref q_t, .int x1, .int x2, .int x3, .int x4] (preG D cI cJ [(q_t, .inr (10, [.ref q_t_page, .int v_t_pageMany, .ref q_t_readKinds, .ref q_t_readLeaflets, .int v_t_readMany, .int v_t_told, .int v_t_many, .int v_t_lostByHands, .int v_t_lostByMould, .ref q_t_rows, .ref q_t_debts, .int v_t_ringMany, .ref q_t_ring, .ref q_t_line, .ref q_t_groups, .ref q_t_likely, .ref q_t_likelyThen, .int v_t_seedNow, .ref q_t_saved, .int v_t_keptMany, .int v_t_keptByHands, .int v_t_keptByMould, .ref q_t_keptRows, .ref q_t_keptDebts, .long v_t_hash])), (q_t_rows, .inl (cI, 80, .inl v_t_rows))])) (QG D [(q_t, .inr (10, [.ref q_t_page, .int v_t_pageMany, .ref q_t_readKinds, .ref q_t_readLeaflets, .int v_t_readMany, .int v_t_told, .int v_t_many, .int v_t_lostByHands, .int v_t_lostByMould, .ref q_t_rows, .ref q_t_debts, .int v_t_ringMany, .ref q_t_ring, .ref q_t_line, .ref q_t_groups, .ref q_t_likely, .ref q_t_likelyThen, .int v_t_seedNow, .ref q_t_saved, .int v_t_keptMany, .int v_t_keptByHands, .int v_t_keptByMould, .ref q_t_keptRows, .ref q_t_keptDebts, .long v_t_hash])), (q_t_rows, .inl (cI, 80, .inl v_t_rows))] [(q_t, .inr (10, [.ref q_t_page, .int v_t_pageMany, .ref q_t_readKinds, .ref q_t_readLeaflets, .int v_t_readMany, .int v_t_told, .int v_t_many, .int v_t_lostByHands, .int v_t_lostByMould, .ref q_t_rows, .ref q_t_debts, .int v_t_ringMany, .ref q_t_ring, .ref q_t_line, .ref q_t_groups, .ref q_t_likely, .ref q_t_likelyThen, .int v_t_seedNow, .ref q_t_saved, .int v_t_keptMany, .int v_t_keptByHands, .int v_t_keptByMould, .ref q_t_keptRows, .ref q_t_keptDebts, .long v_t_hash])), (q_t_rows, .inl (cI, 80, .inl v_t_rows))] (some (.int z))) 0 0 (fr [(q_t, .inr (10, [.ref q_t_page, .int v_t_pageMany, .ref q_t_readKinds, .ref q_t_readLeaflets, .int v_t_readMany, .int v_t_told, .int v_t_many, .int v_t_lostByHands, .int v_t_lostByMould, .ref q_t_rows, .ref q_t_debts, .int v_t_ringMany, .ref q_t_ring, .ref q_t_line, .ref q_t_groups, .ref q_t_likely, .ref q_t_likelyThen, .int v_t_seedNow, .ref q_t_saved, .int v_t_keptMany, .int v_t_keptByHands, .int v_t_keptByMould, .ref q_t_keptRows, .ref q_t_keptDebts, .long v_t_hash])), (q_t_rows, .inl (cI, 80, .inl v_t_rows))]) := by
  refine Met.ofW (cc := cX11_went) (maxL := 5) (ret := (some .int)) (by decide) rfl ?_
  intro p e s m args below meth c s₁ B hml hv
  obtain ⟨hargs, hP, hK, hN, hD0⟩ := hv
  have hx := B.exec
  have hb := B.bytes
  have hr := B.returns
  have hts := atoms_spec (ws := wsX11_went) B.pre
  have hown : s.vm.findClass RX11 = some m.cls := findClass_of_methodNamed B.named
  have hlocks := B.notSynchronized
  have iX11 : ∀ w ∈ wsX110, w ∈ wsX11_went := by decide +kernel
  have k19 := hts (.fieldLink RX11 19 "PressedFernsModel" "rows" "[I") (by decide +kernel)
  have hD := fr_D hD0
  have hS : va_S (fr [(q_t, .inr (10, [.ref q_t_page, .int v_t_pageMany, .ref q_t_readKinds, .ref q_t_readLeaflets, .int v_t_readMany, .int v_t_told, .int v_t_many, .int v_t_lostByHands, .int v_t_lostByMould, .ref q_t_rows, .ref q_t_debts, .int v_t_ringMany, .ref q_t_ring, .ref q_t_line, .ref q_t_groups, .ref q_t_likely, .ref q_t_likelyThen, .int v_t_seedNow, .ref q_t_saved, .int v_t_keptMany, .int v_t_keptByHands, .int v_t_keptByMould, .ref q_t_keptRows, .ref q_t_keptDebts, .long v_t_hash])), (q_t_rows, .inl (cI, 80, .inl v_t_rows))]) s.heap s.heap [] := va_S.rf
  have hl := lv_entry ([.ref q_t, .int x1, .int x2, .int x3, .int x4]) (n := 5) (Nat.le_of_ble_eq_true rfl)
  refine W.eq (g2 := F0 m 0 ((lg_sl ([.ref q_t, .int x1, .int x2, .int x3, .int x4]) ++ List.replicate (5 - (lg_sl ([.ref q_t, .int x1, .int x2, .int x3, .int x4])).length) Slot.unset).toArray) []) (by rw [hargs, lg_entry_eq]) ?_
  generalize (lg_sl ([.ref q_t, .int x1, .int x2, .int x3, .int x4]) ++ List.replicate (5 - (lg_sl ([.ref q_t, .int x1, .int x2, .int x3, .int x4])).length) Slot.unset).toArray = ls at hl ⊢
  have hl : lv_has ls 5 [(0, .ref q_t), (1, .int x1), (2, .int x2), (3, .int x3), (4, .int x4)] := hl
  show W p l e ({ frames := 2, cells := 0, slots := 0, locals := 53 } : Room) s m args below meth c s.heap [] 0 0 (MQ below (QG D [(q_t, .inr (10, [.ref q_t_page, .int v_t_pageMany, .ref q_t_readKinds, .ref q_t_readLeaflets, .int v_t_readMany, .int v_t_told, .int v_t_many, .int v_t_lostByHands, .int v_t_lostByMould, .ref q_t_rows, .ref q_t_debts, .int v_t_ringMany, .ref q_t_ring, .ref q_t_line, .ref q_t_groups, .ref q_t_likely, .ref q_t_likelyThen, .int v_t_seedNow, .ref q_t_saved, .int v_t_keptMany, .int v_t_keptByHands, .int v_t_keptByMould, .ref q_t_keptRows, .ref q_t_keptDebts, .long v_t_hash])), (q_t_rows, .inl (cI, 80, .inl v_t_rows))] [(q_t, .inr (10, [.ref q_t_page, .int v_t_pageMany, .ref q_t_readKinds, .ref q_t_readLeaflets, .int v_t_readMany, .int v_t_told, .int v_t_many, .int v_t_lostByHands, .int v_t_lostByMould, .ref q_t_rows, .ref q_t_debts, .int v_t_ringMany, .ref q_t_ring, .ref q_t_line, .ref q_t_groups, .ref q_t_likely, .ref q_t_likelyThen, .int v_t_seedNow, .ref q_t_saved, .int v_t_keptMany, .int v_t_keptByHands, .int v_t_keptByMould, .ref q_t_keptRows, .ref q_t_keptDebts, .long v_t_hash])), (q_t_rows, .inl (cI, 80, .inl v_t_rows))] (some (.int z))) args s 0 0 (fr [(q_t, .inr (10, [.ref q_t_page, .int v_t_pageMany, .ref q_t_readKinds, .ref q_t_readLeaflets, .int v_t_readMany, .int v_t_told, .int v_t_many, .int v_t_lostByHands, .int v_t_lostByMould, .ref q_t_rows, .ref q_t_debts, .int v_t_ringMany, .ref q_t_ring, .ref q_t_line, .ref q_t_groups, .ref q_t_likely, .ref q_t_likelyThen, .int v_t_seedNow, .ref q_t_saved, .int v_t_keptMany, .int v_t_keptByHands, .int v_t_keptByMould, .ref q_t_keptRows, .ref q_t_keptDebts, .long v_t_hash])), (q_t_rows, .inl (cI, 80, .inl v_t_rows))])) (F0 m 0 ls [])
  generalize hQ0 : (MQ below (QG D [(q_t, .inr (10, [.ref q_t_page, .int v_t_pageMany, .ref q_t_readKinds, .ref q_t_readLeaflets, .int v_t_readMany, .int v_t_told, .int v_t_many, .int v_t_lostByHands, .int v_t_lostByMould, .ref q_t_rows, .ref q_t_debts, .int v_t_ringMany, .ref q_t_ring, .ref q_t_line, .ref q_t_groups, .ref q_t_likely, .ref q_t_likelyThen, .int v_t_seedNow, .ref q_t_saved, .int v_t_keptMany, .int v_t_keptByHands, .int v_t_keptByMould, .ref q_t_keptRows, .ref q_t_keptDebts, .long v_t_hash])), (q_t_rows, .inl (cI, 80, .inl v_t_rows))] [(q_t, .inr (10, [.ref q_t_page, .int v_t_pageMany, .ref q_t_readKinds, .ref q_t_readLeaflets, .int v_t_readMany, .int v_t_told, .int v_t_many, .int v_t_lostByHands, .int v_t_lostByMould, .ref q_t_rows, .ref q_t_debts, .int v_t_ringMany, .ref q_t_ring, .ref q_t_line, .ref q_t_groups, .ref q_t_likely, .ref q_t_likelyThen, .int v_t_seedNow, .ref q_t_saved, .int v_t_keptMany, .int v_t_keptByHands, .int v_t_keptByMould, .ref q_t_keptRows, .ref q_t_keptDebts, .long v_t_hash])), (q_t_rows, .inl (cI, 80, .inl v_t_rows))] (some (.int z))) args s 0 0 (fr [(q_t, .inr (10, [.ref q_t_page, .int v_t_pageMany, .ref q_t_readKinds, .ref q_t_readLeaflets, .int v_t_readMany, .int v_t_told, .int v_t_many, .int v_t_lostByHands, .int v_t_lostByMould, .ref q_t_rows, .ref q_t_debts, .int v_t_ringMany, .ref q_t_ring, .ref q_t_line, .ref q_t_groups, .ref q_t_likely, .ref q_t_likelyThen, .int v_t_seedNow, .ref q_t_saved, .int v_t_keptMany, .int v_t_keptByHands, .int v_t_keptByMould, .ref q_t_keptRows, .ref q_t_keptDebts, .long v_t_hash])), (q_t_rows, .inl (cI, 80, .inl v_t_rows))])) = Q0
  generalize hA0 : fr [(q_t, .inr (10, [.ref q_t_page, .int v_t_pageMany, .ref q_t_readKinds, .ref q_t_readLeaflets, .int v_t_readMany, .int v_t_told, .int v_t_many, .int v_t_lostByHands, .int v_t_lostByMould, .ref q_t_rows, .ref q_t_debts, .int v_t_ringMany, .ref q_t_ring, .ref q_t_line, .ref q_t_groups, .ref q_t_likely, .ref q_t_likelyThen, .int v_t_seedNow, .ref q_t_saved, .int v_t_keptMany, .int v_t_keptByHands, .int v_t_keptByMould, .ref q_t_keptRows, .ref q_t_keptDebts, .long v_t_hash])), (q_t_rows, .inl (cI, 80, .inl v_t_rows))] = A0 at hD hS
  unfold fX11_went at h
  refine lv_aload_n hx hb dX11_went_0 rfl (lv_at hl 0 rfl) ?_
  refine lv_iload_n hx hb dX11_went_1 rfl (lv_at hl 1 rfl) ?_
  refine cl_V [(q_t, .inr (10, [.ref q_t_page, .int v_t_pageMany, .ref q_t_readKinds, .ref q_t_readLeaflets, .int v_t_readMany, .int v_t_told, .int v_t_many, .int v_t_lostByHands, .int v_t_lostByMould, .ref q_t_rows, .ref q_t_debts, .int v_t_ringMany, .ref q_t_ring, .ref q_t_line, .ref q_t_groups, .ref q_t_likely, .ref q_t_likelyThen, .int v_t_seedNow, .ref q_t_saved, .int v_t_keptMany, .int v_t_keptByHands, .int v_t_keptByMould, .ref q_t_keptRows, .ref q_t_keptDebts, .long v_t_hash])), (q_t_rows, .inl (cI, 80, .inl v_t_rows))] (As := [.int x1]) (rest := []) (rv := (some (.int (fX11_isFrond v_t_pageMany v_t_readMany v_t_told v_t_many v_t_lostByHands v_t_lostByMould v_t_ringMany v_t_seedNow v_t_keptMany v_t_keptByHands v_t_keptByMould v_t_hash x1)))) (c_X11_isFrond l D cI cJ q_t q_t_page q_t_readKinds q_t_readLeaflets q_t_rows q_t_debts q_t_ring q_t_line q_t_groups q_t_likely q_t_likelyThen q_t_saved q_t_keptRows q_t_keptDebts v_t_pageMany v_t_readMany v_t_told v_t_many v_t_lostByHands v_t_lostByMould v_t_ringMany v_t_seedNow v_t_keptMany v_t_keptByHands v_t_keptByMould v_t_hash x1) ⟨hx, hb, hml, hown, hts⟩ (cwV 1 hts gX11_went_X11_isFrond rfl rfl rfl (by decide +kernel) ⟨(Nat.le_of_ble_eq_true rfl), (Nat.le_of_ble_eq_true rfl)⟩) hK hN hP hD hS [0] rfl (by decide) rfl rfl rfl (q0 := 0) (ci := 10) rfl rfl rfl rfl hl.1 rfl (Nat.le_of_ble_eq_true rfl) dX11_went_2 ⟨Nat.zero_le _, Nat.zero_le _⟩ (fun H locs hP hD hS => ?_)
  show W p l e ({ frames := 2, cells := 0, slots := 0, locals := 53 } : Room) s m args below meth c H locs 0 0 Q0 (F0 m 5 ls [.int (fX11_isFrond v_t_pageMany v_t_readMany v_t_told v_t_many v_t_lostByHands v_t_lostByMould v_t_ringMany v_t_seedNow v_t_keptMany v_t_keptByHands v_t_keptByMould v_t_hash x1)])
  refine lv_if_eq (tgt := 15) hx hb dX11_went_5 (by decide) (fun c1 => ?_) (fun c1 => ?_)
  · skip
    have h := (if_pos c1).symm.trans h
    refine lv_bipush (v := (-101)) hx hb dX11_went_15 (by decide) ?_
    obtain rfl := Option.some.inj h
    exact rt_i hA0 hQ0 hx hb hr hlocks hP hS dX11_went_17
  · skip
    have h := (if_neg c1).symm.trans h
    refine lv_iload_n hx hb dX11_went_8 rfl (lv_at hl 2 rfl) ?_
    refine cl_S [(q_t, .inr (10, [.ref q_t_page, .int v_t_pageMany, .ref q_t_readKinds, .ref q_t_readLeaflets, .int v_t_readMany, .int v_t_told, .int v_t_many, .int v_t_lostByHands, .int v_t_lostByMould, .ref q_t_rows, .ref q_t_debts, .int v_t_ringMany, .ref q_t_ring, .ref q_t_line, .ref q_t_groups, .ref q_t_likely, .ref q_t_likelyThen, .int v_t_seedNow, .ref q_t_saved, .int v_t_keptMany, .int v_t_keptByHands, .int v_t_keptByMould, .ref q_t_keptRows, .ref q_t_keptDebts, .long v_t_hash])), (q_t_rows, .inl (cI, 80, .inl v_t_rows))] (As := [.int x2]) (rest := []) (rv := (some (.int (fX11_isPerson x2)))) (c_X11_isPerson l D cI cJ x2) ⟨hx, hb, hml, hown, hts⟩ (va_cwS 1 hts gX11_went_X11_isPerson rfl rfl rfl (by decide +kernel) ⟨(Nat.le_of_ble_eq_true rfl), (Nat.le_of_ble_eq_true rfl)⟩) hK hN hP hD hS [] rfl (by decide) rfl rfl rfl rfl hl.1 rfl (Nat.le_of_ble_eq_true rfl) dX11_went_9 ⟨Nat.zero_le _, Nat.zero_le _⟩ (fun H locs hP hD hS => ?_)
    show W p l e ({ frames := 2, cells := 0, slots := 0, locals := 53 } : Room) s m args below meth c H locs 0 0 Q0 (F0 m 12 ls [.int (fX11_isPerson x2)])
    refine lv_if_ne (tgt := 18) hx hb dX11_went_12 (by decide) (fun c2 => ?_) (fun c2 => ?_)
    · skip
      have h := (if_neg c2).symm.trans h
      refine lv_iload_n hx hb dX11_went_18 rfl (lv_at hl 3 rfl) ?_
      refine lv_i2l hx hb dX11_went_19 rfl ?_
      refine lv_lconst (v := 0) hx hb dX11_went_20 (by decide) ?_
      refine lv_ldc2 (own := RX11) (v := 6) hx hb hown (hts (.constantLong RX11 188 (6)) (by decide +kernel)) dX11_went_21 ?_
      refine cl_S [(q_t, .inr (10, [.ref q_t_page, .int v_t_pageMany, .ref q_t_readKinds, .ref q_t_readLeaflets, .int v_t_readMany, .int v_t_told, .int v_t_many, .int v_t_lostByHands, .int v_t_lostByMould, .ref q_t_rows, .ref q_t_debts, .int v_t_ringMany, .ref q_t_ring, .ref q_t_line, .ref q_t_groups, .ref q_t_likely, .ref q_t_likelyThen, .int v_t_seedNow, .ref q_t_saved, .int v_t_keptMany, .int v_t_keptByHands, .int v_t_keptByMould, .ref q_t_keptRows, .ref q_t_keptDebts, .long v_t_hash])), (q_t_rows, .inl (cI, 80, .inl v_t_rows))] (As := [.long ((x3 : Int32).toInt64), .long 0, .long 6]) (rest := []) (rv := (some (.int (fX11_in ((x3 : Int32).toInt64) 0 6)))) (c_X11_in l D cI cJ ((x3 : Int32).toInt64) 0 6) ⟨hx, hb, hml, hown, hts⟩ (va_cwS 3 hts gX11_went_X11_in rfl rfl rfl (by decide +kernel) ⟨(Nat.le_of_ble_eq_true rfl), (Nat.le_of_ble_eq_true rfl)⟩) hK hN hP hD hS [] rfl (by decide) rfl rfl rfl rfl hl.1 rfl (Nat.le_of_ble_eq_true rfl) dX11_went_24 ⟨Nat.zero_le _, Nat.zero_le _⟩ (fun H locs hP hD hS => ?_)
      show W p l e ({ frames := 2, cells := 0, slots := 0, locals := 53 } : Room) s m args below meth c H locs 0 0 Q0 (F0 m 27 ls [.int (fX11_in ((x3 : Int32).toInt64) 0 6)])
      refine lv_if_eq (tgt := 43) hx hb dX11_went_27 (by decide) (fun c3 => ?_) (fun c3 => ?_)
      · skip
        have h := (if_pos c3).symm.trans h
        refine lv_bipush (v := (-102)) hx hb dX11_went_43 (by decide) ?_
        obtain rfl := Option.some.inj h
        exact rt_i hA0 hQ0 hx hb hr hlocks hP hS dX11_went_45
      · skip
        have h := (if_neg c3).symm.trans h
        refine lv_iload hx hb dX11_went_30 (lv_at hl 4 rfl) ?_
        refine lv_i2l hx hb dX11_went_32 rfl ?_
        refine lv_lconst (v := 0) hx hb dX11_went_33 (by decide) ?_
        refine lv_ldc2 (own := RX11) (v := 4) hx hb hown (hts (.constantLong RX11 113 (4)) (by decide +kernel)) dX11_went_34 ?_
        refine cl_S [(q_t, .inr (10, [.ref q_t_page, .int v_t_pageMany, .ref q_t_readKinds, .ref q_t_readLeaflets, .int v_t_readMany, .int v_t_told, .int v_t_many, .int v_t_lostByHands, .int v_t_lostByMould, .ref q_t_rows, .ref q_t_debts, .int v_t_ringMany, .ref q_t_ring, .ref q_t_line, .ref q_t_groups, .ref q_t_likely, .ref q_t_likelyThen, .int v_t_seedNow, .ref q_t_saved, .int v_t_keptMany, .int v_t_keptByHands, .int v_t_keptByMould, .ref q_t_keptRows, .ref q_t_keptDebts, .long v_t_hash])), (q_t_rows, .inl (cI, 80, .inl v_t_rows))] (As := [.long ((x4 : Int32).toInt64), .long 0, .long 4]) (rest := []) (rv := (some (.int (fX11_in ((x4 : Int32).toInt64) 0 4)))) (c_X11_in l D cI cJ ((x4 : Int32).toInt64) 0 4) ⟨hx, hb, hml, hown, hts⟩ (va_cwS 3 hts gX11_went_X11_in rfl rfl rfl (by decide +kernel) ⟨(Nat.le_of_ble_eq_true rfl), (Nat.le_of_ble_eq_true rfl)⟩) hK hN hP hD hS [] rfl (by decide) rfl rfl rfl rfl hl.1 rfl (Nat.le_of_ble_eq_true rfl) dX11_went_37 ⟨Nat.zero_le _, Nat.zero_le _⟩ (fun H locs hP hD hS => ?_)
        show W p l e ({ frames := 2, cells := 0, slots := 0, locals := 53 } : Room) s m args below meth c H locs 0 0 Q0 (F0 m 40 ls [.int (fX11_in ((x4 : Int32).toInt64) 0 4)])
        refine lv_if_ne (tgt := 46) hx hb dX11_went_40 (by decide) (fun c4 => ?_) (fun c4 => ?_)
        · skip
          have h := (if_neg c4).symm.trans h
          refine lv_aload_n hx hb dX11_went_46 rfl (lv_at hl 0 rfl) ?_
          refine va_get (own := RX11) (ci := 10) (v := .ref q_t_rows) (C := RX11) (T := TX11) (N := 25) hx hb hts iX11 hown hK hP 0 rfl rfl 9 (by decide) k19 (fun _ h9 => h9) rfl dX11_went_47 ?_
          refine lv_bipush (v := 8) hx hb dX11_went_50 (by decide) ?_
          refine lv_iload_n hx hb dX11_went_52 rfl (lv_at hl 1 rfl) ?_
          refine lv_imul hx hb dX11_went_53 ?_
          refine lv_iconst (v := 2) hx hb dX11_went_54 (by decide) ?_
          refine lv_iadd hx hb dX11_went_55 ?_
          obtain ⟨g5, h⟩ := gd_of h
          refine va_iald hx hb hK hP 1 0 rfl rfl (inb_of g5) dX11_went_56 ?_
          refine lv_iconst (v := (-1)) hx hb dX11_went_57 (by decide) ?_
          refine lv_icmp_ne (tgt := 66) hx hb dX11_went_58 (by decide) (fun c6 => ?_) (fun c6 => ?_)
          · skip
            have h := (if_neg c6).symm.trans h
            refine lv_aload_n hx hb dX11_went_66 rfl (lv_at hl 0 rfl) ?_
            refine lv_iload_n hx hb dX11_went_67 rfl (lv_at hl 1 rfl) ?_
            refine lv_iload_n hx hb dX11_went_68 rfl (lv_at hl 3 rfl) ?_
            refine lv_iload hx hb dX11_went_69 (lv_at hl 4 rfl) ?_
            obtain ⟨u7, g8, h⟩ := bd_of h
            refine cl_V [(q_t, .inr (10, [.ref q_t_page, .int v_t_pageMany, .ref q_t_readKinds, .ref q_t_readLeaflets, .int v_t_readMany, .int v_t_told, .int v_t_many, .int v_t_lostByHands, .int v_t_lostByMould, .ref q_t_rows, .ref q_t_debts, .int v_t_ringMany, .ref q_t_ring, .ref q_t_line, .ref q_t_groups, .ref q_t_likely, .ref q_t_likelyThen, .int v_t_seedNow, .ref q_t_saved, .int v_t_keptMany, .int v_t_keptByHands, .int v_t_keptByMould, .ref q_t_keptRows, .ref q_t_keptDebts, .long v_t_hash])), (q_t_rows, .inl (cI, 80, .inl v_t_rows))] (As := [.int x1, .int x3, .int x4]) (rest := []) (rv := (some (.int u7))) (c_X11_orders l D cI cJ q_t q_t_page q_t_readKinds q_t_readLeaflets q_t_rows q_t_debts q_t_ring q_t_line q_t_groups q_t_likely q_t_likelyThen q_t_saved q_t_keptRows q_t_keptDebts v_t_pageMany v_t_readMany v_t_told v_t_many v_t_lostByHands v_t_lostByMould v_t_ringMany v_t_seedNow v_t_keptMany v_t_keptByHands v_t_keptByMould v_t_hash v_t_rows x1 x3 x4 u7 g8) ⟨hx, hb, hml, hown, hts⟩ (cwV 3 hts gX11_went_X11_orders rfl rfl rfl (by decide +kernel) ⟨(Nat.le_of_ble_eq_true rfl), (Nat.le_of_ble_eq_true rfl)⟩) hK hN hP hD hS [0, 1] rfl (by decide) rfl rfl rfl (q0 := 0) (ci := 10) rfl rfl rfl rfl hl.1 rfl (Nat.le_of_ble_eq_true rfl) dX11_went_71 ⟨Nat.zero_le _, Nat.zero_le _⟩ (fun H locs hP hD hS => ?_)
            show W p l e ({ frames := 2, cells := 0, slots := 0, locals := 53 } : Room) s m args below meth c H locs 0 0 Q0 (F0 m 74 ls [.int u7])
            refine lv_aload_n hx hb dX11_went_74 rfl (lv_at hl 0 rfl) ?_
            refine lv_iload_n hx hb dX11_went_75 rfl (lv_at hl 1 rfl) ?_
            refine lv_iload_n hx hb dX11_went_76 rfl (lv_at hl 2 rfl) ?_
            refine lv_iload_n hx hb dX11_went_77 rfl (lv_at hl 3 rfl) ?_
            obtain ⟨u9, g10, h⟩ := bd_of h
            refine cl_V [(q_t, .inr (10, [.ref q_t_page, .int v_t_pageMany, .ref q_t_readKinds, .ref q_t_readLeaflets, .int v_t_readMany, .int v_t_told, .int v_t_many, .int v_t_lostByHands, .int v_t_lostByMould, .ref q_t_rows, .ref q_t_debts, .int v_t_ringMany, .ref q_t_ring, .ref q_t_line, .ref q_t_groups, .ref q_t_likely, .ref q_t_likelyThen, .int v_t_seedNow, .ref q_t_saved, .int v_t_keptMany, .int v_t_keptByHands, .int v_t_keptByMould, .ref q_t_keptRows, .ref q_t_keptDebts, .long v_t_hash])), (q_t_rows, .inl (cI, 80, .inl v_t_rows))] (As := [.int x1, .int x2, .int x3]) (rest := [.int u7]) (rv := (some (.int u9))) (c_X11_walks l D cI cJ q_t q_t_page q_t_readKinds q_t_readLeaflets q_t_rows q_t_debts q_t_ring q_t_line q_t_groups q_t_likely q_t_likelyThen q_t_saved q_t_keptRows q_t_keptDebts v_t_pageMany v_t_readMany v_t_told v_t_many v_t_lostByHands v_t_lostByMould v_t_ringMany v_t_seedNow v_t_keptMany v_t_keptByHands v_t_keptByMould v_t_hash v_t_rows x1 x2 x3 u9 g10) ⟨hx, hb, hml, hown, hts⟩ (cwV 3 hts gX11_went_X11_walks rfl rfl rfl (by decide +kernel) ⟨(Nat.le_of_ble_eq_true rfl), (Nat.le_of_ble_eq_true rfl)⟩) hK hN hP hD hS [0, 1] rfl (by decide) rfl rfl rfl (q0 := 0) (ci := 10) rfl rfl rfl rfl hl.1 rfl (Nat.le_of_ble_eq_true rfl) dX11_went_78 ⟨Nat.zero_le _, Nat.zero_le _⟩ (fun H locs hP hD hS => ?_)
            show W p l e ({ frames := 2, cells := 0, slots := 0, locals := 53 } : Room) s m args below meth c H locs 0 0 Q0 (F0 m 81 ls [.int u9, .int u7])
            refine lv_imul hx hb dX11_went_81 ?_
            obtain rfl := Option.some.inj h
            exact rt_i hA0 hQ0 hx hb hr hlocks hP hS dX11_went_82
          · skip
            have h := (if_pos c6).symm.trans h
            refine lv_bipush (v := (-103)) hx hb dX11_went_61 (by decide) ?_
            refine lv_goto (tgt := 82) hx hb dX11_went_63 (by decide) ?_
            obtain rfl := Option.some.inj h
            exact rt_i hA0 hQ0 hx hb hr hlocks hP hS dX11_went_82
        · skip
          have h := (if_pos c4).symm.trans h
          refine lv_bipush (v := (-102)) hx hb dX11_went_43 (by decide) ?_
          obtain rfl := Option.some.inj h
          exact rt_i hA0 hQ0 hx hb hr hlocks hP hS dX11_went_45
    · skip
      have h := (if_pos c2).symm.trans h
      refine lv_bipush (v := (-101)) hx hb dX11_went_15 (by decide) ?_
      obtain rfl := Option.some.inj h
      exact rt_i hA0 hQ0 hx hb hr hlocks hP hS dX11_went_17
def fX11_draw (v_t_pageMany : Int32) (v_t_readMany : Int32) (v_t_told : Int32) (v_t_many : Int32) (v_t_lostByHands : Int32) (v_t_lostByMould : Int32) (v_t_ringMany : Int32) (v_t_seedNow : Int32) (v_t_keptMany : Int32) (v_t_keptByHands : Int32) (v_t_keptByMould : Int32) (v_t_hash : Int64) (x1 : Int32) : Option (Int32 × Int32) :=
  gd (nzi x1) (some ((((((((1103515245 * ((v_t_seedNow : Int32).toInt64)) + 12345) &&& 2147483647) : Int64).toInt32) / 65536) - ((((((1103515245 * ((v_t_seedNow : Int32).toInt64)) + 12345) &&& 2147483647) : Int64).toInt32) / 65536) / x1 * x1), (((((1103515245 * ((v_t_seedNow : Int32).toInt64)) + 12345) &&& 2147483647) : Int64).toInt32)))
set_option maxHeartbeats 4000000 in
set_option maxRecDepth 100000 in
theorem c_X11_draw (l : Launch) (D : va_G) (cI cJ : ClassId) (q_t q_t_page q_t_readKinds q_t_readLeaflets q_t_rows q_t_debts q_t_ring q_t_line q_t_groups q_t_likely q_t_likelyThen q_t_saved q_t_keptRows q_t_keptDebts : Nat) (v_t_pageMany : Int32) (v_t_readMany : Int32) (v_t_told : Int32) (v_t_many : Int32) (v_t_lostByHands : Int32) (v_t_lostByMould : Int32) (v_t_ringMany : Int32) (v_t_seedNow : Int32) (v_t_keptMany : Int32) (v_t_keptByHands : Int32) (v_t_keptByMould : Int32) (v_t_hash : Int64) (x1 : Int32) (z : Int32 × Int32) (h : fX11_draw v_t_pageMany v_t_readMany v_t_told v_t_many v_t_lostByHands v_t_lostByMould v_t_ringMany v_t_seedNow v_t_keptMany v_t_keptByHands v_t_keptByMould v_t_hash x1 = some z) : Met l yX11_draw wsX11_draw ({ frames := 0, cells := 0, slots := 0, locals := 0 } : Room) (va_Pc [.ref q_t, .int x1] (preG D cI cJ [(q_t, .inr (10, [.ref q_t_page, .int v_t_pageMany, .ref q_t_readKinds, .ref q_t_readLeaflets, .int v_t_readMany, .int v_t_told, .int v_t_many, .int v_t_lostByHands, .int v_t_lostByMould, .ref q_t_rows, .ref q_t_debts, .int v_t_ringMany, .ref q_t_ring, .ref q_t_line, .ref q_t_groups, .ref q_t_likely, .ref q_t_likelyThen, .int v_t_seedNow, .ref q_t_saved, .int v_t_keptMany, .int v_t_keptByHands, .int v_t_keptByMould, .ref q_t_keptRows, .ref q_t_keptDebts, .long v_t_hash]))])) (QG D [(q_t, .inr (10, [.ref q_t_page, .int v_t_pageMany, .ref q_t_readKinds, .ref q_t_readLeaflets, .int v_t_readMany, .int v_t_told, .int v_t_many, .int v_t_lostByHands, .int v_t_lostByMould, .ref q_t_rows, .ref q_t_debts, .int v_t_ringMany, .ref q_t_ring, .ref q_t_line, .ref q_t_groups, .ref q_t_likely, .ref q_t_likelyThen, .int v_t_seedNow, .ref q_t_saved, .int v_t_keptMany, .int v_t_keptByHands, .int v_t_keptByMould, .ref q_t_keptRows, .ref q_t_keptDebts, .long v_t_hash]))] [(q_t, .inr (10, [.ref q_t_page, .int v_t_pageMany, .ref q_t_readKinds, .ref q_t_readLeaflets, .int v_t_readMany, .int v_t_told, .int v_t_many, .int v_t_lostByHands, .int v_t_lostByMould, .ref q_t_rows, .ref q_t_debts, .int v_t_ringMany, .ref q_t_ring, .ref q_t_line, .ref q_t_groups, .ref q_t_likely, .ref q_t_likelyThen, .int z.2, .ref q_t_saved, .int v_t_keptMany, .int v_t_keptByHands, .int v_t_keptByMould, .ref q_t_keptRows, .ref q_t_keptDebts, .long v_t_hash]))] (some (.int z.1))) 0 0 (fr [(q_t, .inr (10, [.ref q_t_page, .int v_t_pageMany, .ref q_t_readKinds, .ref q_t_readLeaflets, .int v_t_readMany, .int v_t_told, .int v_t_many, .int v_t_lostByHands, .int v_t_lostByMould, .ref q_t_rows, .ref q_t_debts, .int v_t_ringMany, .ref q_t_ring, .ref q_t_line, .ref q_t_groups, .ref q_t_likely, .ref q_t_likelyThen, .int v_t_seedNow, .ref q_t_saved, .int v_t_keptMany, .int v_t_keptByHands, .int v_t_keptByMould, .ref q_t_keptRows, .ref q_t_keptDebts, .long v_t_hash]))]) := by
  refine Met.ofW (cc := cX11_draw) (maxL := 2) (ret := (some .int)) (by decide) rfl ?_
  intro p e s m args below meth c s₁ B hml hv
  obtain ⟨hargs, hP, hK, hN, hD0⟩ := hv
  have hx := B.exec
  have hb := B.bytes
  have hr := B.returns
  have hts := atoms_spec (ws := wsX11_draw) B.pre
  have hown : s.vm.findClass RX11 = some m.cls := findClass_of_methodNamed B.named
  have hlocks := B.notSynchronized
  have iX11 : ∀ w ∈ wsX110, w ∈ wsX11_draw := by decide +kernel
  have k198 := hts (.fieldLink RX11 198 "PressedFernsModel" "seedNow" "I") (by decide +kernel)
  have hD := fr_D hD0
  have hS : va_S (fr [(q_t, .inr (10, [.ref q_t_page, .int v_t_pageMany, .ref q_t_readKinds, .ref q_t_readLeaflets, .int v_t_readMany, .int v_t_told, .int v_t_many, .int v_t_lostByHands, .int v_t_lostByMould, .ref q_t_rows, .ref q_t_debts, .int v_t_ringMany, .ref q_t_ring, .ref q_t_line, .ref q_t_groups, .ref q_t_likely, .ref q_t_likelyThen, .int v_t_seedNow, .ref q_t_saved, .int v_t_keptMany, .int v_t_keptByHands, .int v_t_keptByMould, .ref q_t_keptRows, .ref q_t_keptDebts, .long v_t_hash]))]) s.heap s.heap [] := va_S.rf
  have hl := lv_entry ([.ref q_t, .int x1]) (n := 2) (Nat.le_of_ble_eq_true rfl)
  refine W.eq (g2 := F0 m 0 ((lg_sl ([.ref q_t, .int x1]) ++ List.replicate (2 - (lg_sl ([.ref q_t, .int x1])).length) Slot.unset).toArray) []) (by rw [hargs, lg_entry_eq]) ?_
  generalize (lg_sl ([.ref q_t, .int x1]) ++ List.replicate (2 - (lg_sl ([.ref q_t, .int x1])).length) Slot.unset).toArray = ls at hl ⊢
  have hl : lv_has ls 2 [(0, .ref q_t), (1, .int x1)] := hl
  show W p l e ({ frames := 0, cells := 0, slots := 0, locals := 0 } : Room) s m args below meth c s.heap [] 0 0 (MQ below (QG D [(q_t, .inr (10, [.ref q_t_page, .int v_t_pageMany, .ref q_t_readKinds, .ref q_t_readLeaflets, .int v_t_readMany, .int v_t_told, .int v_t_many, .int v_t_lostByHands, .int v_t_lostByMould, .ref q_t_rows, .ref q_t_debts, .int v_t_ringMany, .ref q_t_ring, .ref q_t_line, .ref q_t_groups, .ref q_t_likely, .ref q_t_likelyThen, .int v_t_seedNow, .ref q_t_saved, .int v_t_keptMany, .int v_t_keptByHands, .int v_t_keptByMould, .ref q_t_keptRows, .ref q_t_keptDebts, .long v_t_hash]))] [(q_t, .inr (10, [.ref q_t_page, .int v_t_pageMany, .ref q_t_readKinds, .ref q_t_readLeaflets, .int v_t_readMany, .int v_t_told, .int v_t_many, .int v_t_lostByHands, .int v_t_lostByMould, .ref q_t_rows, .ref q_t_debts, .int v_t_ringMany, .ref q_t_ring, .ref q_t_line, .ref q_t_groups, .ref q_t_likely, .ref q_t_likelyThen, .int z.2, .ref q_t_saved, .int v_t_keptMany, .int v_t_keptByHands, .int v_t_keptByMould, .ref q_t_keptRows, .ref q_t_keptDebts, .long v_t_hash]))] (some (.int z.1))) args s 0 0 (fr [(q_t, .inr (10, [.ref q_t_page, .int v_t_pageMany, .ref q_t_readKinds, .ref q_t_readLeaflets, .int v_t_readMany, .int v_t_told, .int v_t_many, .int v_t_lostByHands, .int v_t_lostByMould, .ref q_t_rows, .ref q_t_debts, .int v_t_ringMany, .ref q_t_ring, .ref q_t_line, .ref q_t_groups, .ref q_t_likely, .ref q_t_likelyThen, .int v_t_seedNow, .ref q_t_saved, .int v_t_keptMany, .int v_t_keptByHands, .int v_t_keptByMould, .ref q_t_keptRows, .ref q_t_keptDebts, .long v_t_hash]))])) (F0 m 0 ls [])
  generalize hQ0 : (MQ below (QG D [(q_t, .inr (10, [.ref q_t_page, .int v_t_pageMany, .ref q_t_readKinds, .ref q_t_readLeaflets, .int v_t_readMany, .int v_t_told, .int v_t_many, .int v_t_lostByHands, .int v_t_lostByMould, .ref q_t_rows, .ref q_t_debts, .int v_t_ringMany, .ref q_t_ring, .ref q_t_line, .ref q_t_groups, .ref q_t_likely, .ref q_t_likelyThen, .int v_t_seedNow, .ref q_t_saved, .int v_t_keptMany, .int v_t_keptByHands, .int v_t_keptByMould, .ref q_t_keptRows, .ref q_t_keptDebts, .long v_t_hash]))] [(q_t, .inr (10, [.ref q_t_page, .int v_t_pageMany, .ref q_t_readKinds, .ref q_t_readLeaflets, .int v_t_readMany, .int v_t_told, .int v_t_many, .int v_t_lostByHands, .int v_t_lostByMould, .ref q_t_rows, .ref q_t_debts, .int v_t_ringMany, .ref q_t_ring, .ref q_t_line, .ref q_t_groups, .ref q_t_likely, .ref q_t_likelyThen, .int z.2, .ref q_t_saved, .int v_t_keptMany, .int v_t_keptByHands, .int v_t_keptByMould, .ref q_t_keptRows, .ref q_t_keptDebts, .long v_t_hash]))] (some (.int z.1))) args s 0 0 (fr [(q_t, .inr (10, [.ref q_t_page, .int v_t_pageMany, .ref q_t_readKinds, .ref q_t_readLeaflets, .int v_t_readMany, .int v_t_told, .int v_t_many, .int v_t_lostByHands, .int v_t_lostByMould, .ref q_t_rows, .ref q_t_debts, .int v_t_ringMany, .ref q_t_ring, .ref q_t_line, .ref q_t_groups, .ref q_t_likely, .ref q_t_likelyThen, .int v_t_seedNow, .ref q_t_saved, .int v_t_keptMany, .int v_t_keptByHands, .int v_t_keptByMould, .ref q_t_keptRows, .ref q_t_keptDebts, .long v_t_hash]))])) = Q0
  generalize hA0 : fr [(q_t, .inr (10, [.ref q_t_page, .int v_t_pageMany, .ref q_t_readKinds, .ref q_t_readLeaflets, .int v_t_readMany, .int v_t_told, .int v_t_many, .int v_t_lostByHands, .int v_t_lostByMould, .ref q_t_rows, .ref q_t_debts, .int v_t_ringMany, .ref q_t_ring, .ref q_t_line, .ref q_t_groups, .ref q_t_likely, .ref q_t_likelyThen, .int v_t_seedNow, .ref q_t_saved, .int v_t_keptMany, .int v_t_keptByHands, .int v_t_keptByMould, .ref q_t_keptRows, .ref q_t_keptDebts, .long v_t_hash]))] = A0 at hD hS
  unfold fX11_draw at h
  refine lv_aload_n hx hb dX11_draw_0 rfl (lv_at hl 0 rfl) ?_
  refine lv_ldc2 (own := RX11) (v := 1103515245) hx hb hown (hts (.constantLong RX11 196 (1103515245)) (by decide +kernel)) dX11_draw_1 ?_
  refine lv_aload_n hx hb dX11_draw_4 rfl (lv_at hl 0 rfl) ?_
  refine va_get (own := RX11) (ci := 10) (v := .int v_t_seedNow) (C := RX11) (T := TX11) (N := 25) hx hb hts iX11 hown hK hP 0 rfl rfl 17 (by decide) k198 (fun _ h9 => h9) rfl dX11_draw_5 ?_
  refine lv_i2l hx hb dX11_draw_8 rfl ?_
  refine lv_lmul hx hb dX11_draw_9 ?_
  refine lv_ldc2 (own := RX11) (v := 12345) hx hb hown (hts (.constantLong RX11 201 (12345)) (by decide +kernel)) dX11_draw_10 ?_
  refine lv_ladd hx hb dX11_draw_13 ?_
  refine lv_ldc2 (own := RX11) (v := 2147483647) hx hb hown (hts (.constantLong RX11 203 (2147483647)) (by decide +kernel)) dX11_draw_14 ?_
  refine lv_land hx hb dX11_draw_17 ?_
  refine lv_l2i hx hb dX11_draw_18 rfl ?_
  refine va_put (D := D) (own := RX11) (ci := 10) (v := .int (((((1103515245 * ((v_t_seedNow : Int32).toInt64)) + 12345) &&& 2147483647) : Int64).toInt32)) (ty := .int) (C := RX11) (T := TX11) (N := 25) hx hb hts iX11 tyX11 tyX11_ok nmX11 hown hK hP hD hS 0 rfl rfl 17 (by decide) k198 (fun _ h9 => h9) rfl (by decide +kernel) rfl rfl (Nat.le_of_ble_eq_true rfl) dX11_draw_19 (fun H locs hP hD hS => ?_)
  have hP : va_P D vwCl [(q_t, .inr (10, [.ref q_t_page, .int v_t_pageMany, .ref q_t_readKinds, .ref q_t_readLeaflets, .int v_t_readMany, .int v_t_told, .int v_t_many, .int v_t_lostByHands, .int v_t_lostByMould, .ref q_t_rows, .ref q_t_debts, .int v_t_ringMany, .ref q_t_ring, .ref q_t_line, .ref q_t_groups, .ref q_t_likely, .ref q_t_likelyThen, .int (((((1103515245 * ((v_t_seedNow : Int32).toInt64)) + 12345) &&& 2147483647) : Int64).toInt32), .ref q_t_saved, .int v_t_keptMany, .int v_t_keptByHands, .int v_t_keptByMould, .ref q_t_keptRows, .ref q_t_keptDebts, .long v_t_hash]))] H := hP
  have hD : va_D A0 [(q_t, .inr (10, [.ref q_t_page, .int v_t_pageMany, .ref q_t_readKinds, .ref q_t_readLeaflets, .int v_t_readMany, .int v_t_told, .int v_t_many, .int v_t_lostByHands, .int v_t_lostByMould, .ref q_t_rows, .ref q_t_debts, .int v_t_ringMany, .ref q_t_ring, .ref q_t_line, .ref q_t_groups, .ref q_t_likely, .ref q_t_likelyThen, .int (((((1103515245 * ((v_t_seedNow : Int32).toInt64)) + 12345) &&& 2147483647) : Int64).toInt32), .ref q_t_saved, .int v_t_keptMany, .int v_t_keptByHands, .int v_t_keptByMould, .ref q_t_keptRows, .ref q_t_keptDebts, .long v_t_hash]))] := hD
  refine lv_aload_n hx hb dX11_draw_22 rfl (lv_at hl 0 rfl) ?_
  refine va_get (own := RX11) (ci := 10) (v := .int (((((1103515245 * ((v_t_seedNow : Int32).toInt64)) + 12345) &&& 2147483647) : Int64).toInt32)) (C := RX11) (T := TX11) (N := 25) hx hb hts iX11 hown hK hP 0 rfl rfl 17 (by decide) k198 (fun _ h9 => h9) rfl dX11_draw_23 ?_
  refine lv_ldc (own := RX11) (v := 65536) hx hb hown (hts (.constant RX11 205 (65536)) (by decide +kernel)) dX11_draw_26 ?_
  refine lv_idiv hx hb dX11_draw_28 (by decide) ?_
  refine lv_iload_n hx hb dX11_draw_29 rfl (lv_at hl 1 rfl) ?_
  obtain ⟨g1, h⟩ := gd_of h
  refine lv_irem hx hb dX11_draw_30 (nzi_of g1) ?_
  obtain rfl := Option.some.inj h
  exact rt_i hA0 hQ0 hx hb hr hlocks hP hS dX11_draw_31
def fX11_together_X4_32  (a3 : Int32) : Option (Int32) :=
  some a3
def fX11_together_L4 (v_t_many : Int32) (v_t_rows : Nat → Int32) (z1 : Int32 × Int32) : Option ((Int32 × Int32) ⊕ (Int32)) :=
  if v_t_many ≤ z1.2 then (some (Sum.inr z1.1)) else (gd (inb ((8 * z1.2) + 1) 80) (some (Sum.inl ((z1.1 + (v_t_rows ((8 * z1.2) + 1).toNatClampNeg)), (z1.2 + 1)))))
def fX11_together (v_t_pageMany : Int32) (v_t_readMany : Int32) (v_t_told : Int32) (v_t_many : Int32) (v_t_lostByHands : Int32) (v_t_lostByMould : Int32) (v_t_ringMany : Int32) (v_t_seedNow : Int32) (v_t_keptMany : Int32) (v_t_keptByHands : Int32) (v_t_keptByMould : Int32) (v_t_hash : Int64) (v_t_rows : Nat → Int32) : Option (Int32) :=
  (iter (fX11_together_L4 v_t_many v_t_rows) FU (0, 0)).bind (fX11_together_X4_32)
set_option maxHeartbeats 4000000 in
set_option maxRecDepth 100000 in
theorem c_X11_together (l : Launch) (D : va_G) (cI cJ : ClassId) (q_t q_t_page q_t_readKinds q_t_readLeaflets q_t_rows q_t_debts q_t_ring q_t_line q_t_groups q_t_likely q_t_likelyThen q_t_saved q_t_keptRows q_t_keptDebts : Nat) (v_t_pageMany : Int32) (v_t_readMany : Int32) (v_t_told : Int32) (v_t_many : Int32) (v_t_lostByHands : Int32) (v_t_lostByMould : Int32) (v_t_ringMany : Int32) (v_t_seedNow : Int32) (v_t_keptMany : Int32) (v_t_keptByHands : Int32) (v_t_keptByMould : Int32) (v_t_hash : Int64) (v_t_rows : Nat → Int32) (z : Int32) (h : fX11_together v_t_pageMany v_t_readMany v_t_told v_t_many v_t_lostByHands v_t_lostByMould v_t_ringMany v_t_seedNow v_t_keptMany v_t_keptByHands v_t_keptByMould v_t_hash v_t_rows = some z) : Met l yX11_together wsX11_together ({ frames := 0, cells := 0, slots := 0, locals := 0 } : Room) (va_Pc [.ref q_t] (preG D cI cJ [(q_t, .inr (10, [.ref q_t_page, .int v_t_pageMany, .ref q_t_readKinds, .ref q_t_readLeaflets, .int v_t_readMany, .int v_t_told, .int v_t_many, .int v_t_lostByHands, .int v_t_lostByMould, .ref q_t_rows, .ref q_t_debts, .int v_t_ringMany, .ref q_t_ring, .ref q_t_line, .ref q_t_groups, .ref q_t_likely, .ref q_t_likelyThen, .int v_t_seedNow, .ref q_t_saved, .int v_t_keptMany, .int v_t_keptByHands, .int v_t_keptByMould, .ref q_t_keptRows, .ref q_t_keptDebts, .long v_t_hash])), (q_t_rows, .inl (cI, 80, .inl v_t_rows))])) (QG D [(q_t, .inr (10, [.ref q_t_page, .int v_t_pageMany, .ref q_t_readKinds, .ref q_t_readLeaflets, .int v_t_readMany, .int v_t_told, .int v_t_many, .int v_t_lostByHands, .int v_t_lostByMould, .ref q_t_rows, .ref q_t_debts, .int v_t_ringMany, .ref q_t_ring, .ref q_t_line, .ref q_t_groups, .ref q_t_likely, .ref q_t_likelyThen, .int v_t_seedNow, .ref q_t_saved, .int v_t_keptMany, .int v_t_keptByHands, .int v_t_keptByMould, .ref q_t_keptRows, .ref q_t_keptDebts, .long v_t_hash])), (q_t_rows, .inl (cI, 80, .inl v_t_rows))] [(q_t, .inr (10, [.ref q_t_page, .int v_t_pageMany, .ref q_t_readKinds, .ref q_t_readLeaflets, .int v_t_readMany, .int v_t_told, .int v_t_many, .int v_t_lostByHands, .int v_t_lostByMould, .ref q_t_rows, .ref q_t_debts, .int v_t_ringMany, .ref q_t_ring, .ref q_t_line, .ref q_t_groups, .ref q_t_likely, .ref q_t_likelyThen, .int v_t_seedNow, .ref q_t_saved, .int v_t_keptMany, .int v_t_keptByHands, .int v_t_keptByMould, .ref q_t_keptRows, .ref q_t_keptDebts, .long v_t_hash])), (q_t_rows, .inl (cI, 80, .inl v_t_rows))] (some (.int z))) 0 0 (fr [(q_t, .inr (10, [.ref q_t_page, .int v_t_pageMany, .ref q_t_readKinds, .ref q_t_readLeaflets, .int v_t_readMany, .int v_t_told, .int v_t_many, .int v_t_lostByHands, .int v_t_lostByMould, .ref q_t_rows, .ref q_t_debts, .int v_t_ringMany, .ref q_t_ring, .ref q_t_line, .ref q_t_groups, .ref q_t_likely, .ref q_t_likelyThen, .int v_t_seedNow, .ref q_t_saved, .int v_t_keptMany, .int v_t_keptByHands, .int v_t_keptByMould, .ref q_t_keptRows, .ref q_t_keptDebts, .long v_t_hash])), (q_t_rows, .inl (cI, 80, .inl v_t_rows))]) := by
  refine Met.ofW (cc := cX11_together) (maxL := 3) (ret := (some .int)) (by decide) rfl ?_
  intro p e s m args below meth c s₁ B hml hv
  obtain ⟨hargs, hP, hK, hN, hD0⟩ := hv
  have hx := B.exec
  have hb := B.bytes
  have hr := B.returns
  have hts := atoms_spec (ws := wsX11_together) B.pre
  have hown : s.vm.findClass RX11 = some m.cls := findClass_of_methodNamed B.named
  have hlocks := B.notSynchronized
  have iX11 : ∀ w ∈ wsX110, w ∈ wsX11_together := by decide +kernel
  have k19 := hts (.fieldLink RX11 19 "PressedFernsModel" "rows" "[I") (by decide +kernel)
  have k88 := hts (.fieldLink RX11 88 "PressedFernsModel" "many" "I") (by decide +kernel)
  have hD := fr_D hD0
  have hS : va_S (fr [(q_t, .inr (10, [.ref q_t_page, .int v_t_pageMany, .ref q_t_readKinds, .ref q_t_readLeaflets, .int v_t_readMany, .int v_t_told, .int v_t_many, .int v_t_lostByHands, .int v_t_lostByMould, .ref q_t_rows, .ref q_t_debts, .int v_t_ringMany, .ref q_t_ring, .ref q_t_line, .ref q_t_groups, .ref q_t_likely, .ref q_t_likelyThen, .int v_t_seedNow, .ref q_t_saved, .int v_t_keptMany, .int v_t_keptByHands, .int v_t_keptByMould, .ref q_t_keptRows, .ref q_t_keptDebts, .long v_t_hash])), (q_t_rows, .inl (cI, 80, .inl v_t_rows))]) s.heap s.heap [] := va_S.rf
  have hl := lv_entry ([.ref q_t]) (n := 3) (Nat.le_of_ble_eq_true rfl)
  refine W.eq (g2 := F0 m 0 ((lg_sl ([.ref q_t]) ++ List.replicate (3 - (lg_sl ([.ref q_t])).length) Slot.unset).toArray) []) (by rw [hargs, lg_entry_eq]) ?_
  generalize (lg_sl ([.ref q_t]) ++ List.replicate (3 - (lg_sl ([.ref q_t])).length) Slot.unset).toArray = ls at hl ⊢
  have hl : lv_has ls 3 [(0, .ref q_t)] := hl
  show W p l e ({ frames := 0, cells := 0, slots := 0, locals := 0 } : Room) s m args below meth c s.heap [] 0 0 (MQ below (QG D [(q_t, .inr (10, [.ref q_t_page, .int v_t_pageMany, .ref q_t_readKinds, .ref q_t_readLeaflets, .int v_t_readMany, .int v_t_told, .int v_t_many, .int v_t_lostByHands, .int v_t_lostByMould, .ref q_t_rows, .ref q_t_debts, .int v_t_ringMany, .ref q_t_ring, .ref q_t_line, .ref q_t_groups, .ref q_t_likely, .ref q_t_likelyThen, .int v_t_seedNow, .ref q_t_saved, .int v_t_keptMany, .int v_t_keptByHands, .int v_t_keptByMould, .ref q_t_keptRows, .ref q_t_keptDebts, .long v_t_hash])), (q_t_rows, .inl (cI, 80, .inl v_t_rows))] [(q_t, .inr (10, [.ref q_t_page, .int v_t_pageMany, .ref q_t_readKinds, .ref q_t_readLeaflets, .int v_t_readMany, .int v_t_told, .int v_t_many, .int v_t_lostByHands, .int v_t_lostByMould, .ref q_t_rows, .ref q_t_debts, .int v_t_ringMany, .ref q_t_ring, .ref q_t_line, .ref q_t_groups, .ref q_t_likely, .ref q_t_likelyThen, .int v_t_seedNow, .ref q_t_saved, .int v_t_keptMany, .int v_t_keptByHands, .int v_t_keptByMould, .ref q_t_keptRows, .ref q_t_keptDebts, .long v_t_hash])), (q_t_rows, .inl (cI, 80, .inl v_t_rows))] (some (.int z))) args s 0 0 (fr [(q_t, .inr (10, [.ref q_t_page, .int v_t_pageMany, .ref q_t_readKinds, .ref q_t_readLeaflets, .int v_t_readMany, .int v_t_told, .int v_t_many, .int v_t_lostByHands, .int v_t_lostByMould, .ref q_t_rows, .ref q_t_debts, .int v_t_ringMany, .ref q_t_ring, .ref q_t_line, .ref q_t_groups, .ref q_t_likely, .ref q_t_likelyThen, .int v_t_seedNow, .ref q_t_saved, .int v_t_keptMany, .int v_t_keptByHands, .int v_t_keptByMould, .ref q_t_keptRows, .ref q_t_keptDebts, .long v_t_hash])), (q_t_rows, .inl (cI, 80, .inl v_t_rows))])) (F0 m 0 ls [])
  generalize hQ0 : (MQ below (QG D [(q_t, .inr (10, [.ref q_t_page, .int v_t_pageMany, .ref q_t_readKinds, .ref q_t_readLeaflets, .int v_t_readMany, .int v_t_told, .int v_t_many, .int v_t_lostByHands, .int v_t_lostByMould, .ref q_t_rows, .ref q_t_debts, .int v_t_ringMany, .ref q_t_ring, .ref q_t_line, .ref q_t_groups, .ref q_t_likely, .ref q_t_likelyThen, .int v_t_seedNow, .ref q_t_saved, .int v_t_keptMany, .int v_t_keptByHands, .int v_t_keptByMould, .ref q_t_keptRows, .ref q_t_keptDebts, .long v_t_hash])), (q_t_rows, .inl (cI, 80, .inl v_t_rows))] [(q_t, .inr (10, [.ref q_t_page, .int v_t_pageMany, .ref q_t_readKinds, .ref q_t_readLeaflets, .int v_t_readMany, .int v_t_told, .int v_t_many, .int v_t_lostByHands, .int v_t_lostByMould, .ref q_t_rows, .ref q_t_debts, .int v_t_ringMany, .ref q_t_ring, .ref q_t_line, .ref q_t_groups, .ref q_t_likely, .ref q_t_likelyThen, .int v_t_seedNow, .ref q_t_saved, .int v_t_keptMany, .int v_t_keptByHands, .int v_t_keptByMould, .ref q_t_keptRows, .ref q_t_keptDebts, .long v_t_hash])), (q_t_rows, .inl (cI, 80, .inl v_t_rows))] (some (.int z))) args s 0 0 (fr [(q_t, .inr (10, [.ref q_t_page, .int v_t_pageMany, .ref q_t_readKinds, .ref q_t_readLeaflets, .int v_t_readMany, .int v_t_told, .int v_t_many, .int v_t_lostByHands, .int v_t_lostByMould, .ref q_t_rows, .ref q_t_debts, .int v_t_ringMany, .ref q_t_ring, .ref q_t_line, .ref q_t_groups, .ref q_t_likely, .ref q_t_likelyThen, .int v_t_seedNow, .ref q_t_saved, .int v_t_keptMany, .int v_t_keptByHands, .int v_t_keptByMould, .ref q_t_keptRows, .ref q_t_keptDebts, .long v_t_hash])), (q_t_rows, .inl (cI, 80, .inl v_t_rows))])) = Q0
  generalize hA0 : fr [(q_t, .inr (10, [.ref q_t_page, .int v_t_pageMany, .ref q_t_readKinds, .ref q_t_readLeaflets, .int v_t_readMany, .int v_t_told, .int v_t_many, .int v_t_lostByHands, .int v_t_lostByMould, .ref q_t_rows, .ref q_t_debts, .int v_t_ringMany, .ref q_t_ring, .ref q_t_line, .ref q_t_groups, .ref q_t_likely, .ref q_t_likelyThen, .int v_t_seedNow, .ref q_t_saved, .int v_t_keptMany, .int v_t_keptByHands, .int v_t_keptByMould, .ref q_t_keptRows, .ref q_t_keptDebts, .long v_t_hash])), (q_t_rows, .inl (cI, 80, .inl v_t_rows))] = A0 at hD hS
  unfold fX11_together at h
  refine lv_iconst (v := 0) hx hb dX11_together_0 (by decide) ?_
  refine lv_istore_n (lv' := [(1, .int 0), (0, .ref q_t)]) hx hb dX11_together_1 rfl hl (by decide) rfl (fun ls hl => ?_)
  refine lv_iconst (v := 0) hx hb dX11_together_2 (by decide) ?_
  refine lv_istore_n (lv' := [(2, .int 0), (1, .int 0), (0, .ref q_t)]) hx hb dX11_together_3 rfl hl (by decide) rfl (fun ls hl => ?_)
  obtain ⟨e2, he_e2, hc_e2⟩ := bd_of h
  have X32_4 : ∀ (a3 : Int32) (H : Heap) (locs : List Loc) (ls : Array Slot), fX11_together_X4_32 a3 = some z → va_P D vwCl [(q_t, .inr (10, [.ref q_t_page, .int v_t_pageMany, .ref q_t_readKinds, .ref q_t_readLeaflets, .int v_t_readMany, .int v_t_told, .int v_t_many, .int v_t_lostByHands, .int v_t_lostByMould, .ref q_t_rows, .ref q_t_debts, .int v_t_ringMany, .ref q_t_ring, .ref q_t_line, .ref q_t_groups, .ref q_t_likely, .ref q_t_likelyThen, .int v_t_seedNow, .ref q_t_saved, .int v_t_keptMany, .int v_t_keptByHands, .int v_t_keptByMould, .ref q_t_keptRows, .ref q_t_keptDebts, .long v_t_hash])), (q_t_rows, .inl (cI, 80, .inl v_t_rows))] H → va_D A0 [(q_t, .inr (10, [.ref q_t_page, .int v_t_pageMany, .ref q_t_readKinds, .ref q_t_readLeaflets, .int v_t_readMany, .int v_t_told, .int v_t_many, .int v_t_lostByHands, .int v_t_lostByMould, .ref q_t_rows, .ref q_t_debts, .int v_t_ringMany, .ref q_t_ring, .ref q_t_line, .ref q_t_groups, .ref q_t_likely, .ref q_t_likelyThen, .int v_t_seedNow, .ref q_t_saved, .int v_t_keptMany, .int v_t_keptByHands, .int v_t_keptByMould, .ref q_t_keptRows, .ref q_t_keptDebts, .long v_t_hash])), (q_t_rows, .inl (cI, 80, .inl v_t_rows))] → va_S A0 s.heap H locs → lv_has ls 3 [(1, .int a3)] → W p l e ({ frames := 0, cells := 0, slots := 0, locals := 0 } : Room) s m args below meth c H locs 0 0 Q0 (F0 m 32 ls []) := by
    intro a3 H locs ls h hP hD hS hl
    unfold fX11_together_X4_32 at h
    refine lv_iload_n hx hb dX11_together_32 rfl (lv_at hl 0 rfl) ?_
    obtain rfl := Option.some.inj h
    exact rt_i hA0 hQ0 hx hb hr hlocks hP hS dX11_together_33
  have L4_5 : ∀ (n : Nat) (z1 : Int32 × Int32) (H : Heap) (locs : List Loc) (ls : Array Slot), iter (fX11_together_L4 v_t_many v_t_rows) n z1 = some e2 → va_P D vwCl [(q_t, .inr (10, [.ref q_t_page, .int v_t_pageMany, .ref q_t_readKinds, .ref q_t_readLeaflets, .int v_t_readMany, .int v_t_told, .int v_t_many, .int v_t_lostByHands, .int v_t_lostByMould, .ref q_t_rows, .ref q_t_debts, .int v_t_ringMany, .ref q_t_ring, .ref q_t_line, .ref q_t_groups, .ref q_t_likely, .ref q_t_likelyThen, .int v_t_seedNow, .ref q_t_saved, .int v_t_keptMany, .int v_t_keptByHands, .int v_t_keptByMould, .ref q_t_keptRows, .ref q_t_keptDebts, .long v_t_hash])), (q_t_rows, .inl (cI, 80, .inl v_t_rows))] H → va_D A0 [(q_t, .inr (10, [.ref q_t_page, .int v_t_pageMany, .ref q_t_readKinds, .ref q_t_readLeaflets, .int v_t_readMany, .int v_t_told, .int v_t_many, .int v_t_lostByHands, .int v_t_lostByMould, .ref q_t_rows, .ref q_t_debts, .int v_t_ringMany, .ref q_t_ring, .ref q_t_line, .ref q_t_groups, .ref q_t_likely, .ref q_t_likelyThen, .int v_t_seedNow, .ref q_t_saved, .int v_t_keptMany, .int v_t_keptByHands, .int v_t_keptByMould, .ref q_t_keptRows, .ref q_t_keptDebts, .long v_t_hash])), (q_t_rows, .inl (cI, 80, .inl v_t_rows))] → va_S A0 s.heap H locs → lv_has ls 3 [(0, .ref q_t), (1, .int z1.1), (2, .int z1.2)] → W p l e ({ frames := 0, cells := 0, slots := 0, locals := 0 } : Room) s m args below meth c H locs 0 0 Q0 (F0 m 4 ls []) := by
    intro n
    induction n with
    | zero => exact fun _ _ _ _ h => (iter_z h).elim
    | succ n ih =>
      intro z1 H locs ls h hP hD hS hl
      obtain ⟨r_e2, h, hn_e2⟩ := iter_s h
      unfold fX11_together_L4 at h
      refine lv_iload_n hx hb dX11_together_4 rfl (lv_at hl 2 rfl) ?_
      refine lv_aload_n hx hb dX11_together_5 rfl (lv_at hl 0 rfl) ?_
      refine va_get (own := RX11) (ci := 10) (v := .int v_t_many) (C := RX11) (T := TX11) (N := 25) hx hb hts iX11 hown hK hP 0 rfl rfl 6 (by decide) k88 (fun _ h9 => h9) rfl dX11_together_6 ?_
      refine lv_icmp_ge (tgt := 32) hx hb dX11_together_9 (by decide) (fun c6 => ?_) (fun c6 => ?_)
      · skip
        have h := (if_pos c6).symm.trans h
        obtain rfl := Option.some.inj h
        obtain rfl := Option.some.inj hn_e2
        exact X32_4 z1.1 _ _ _ hc_e2 hP hD hS (lv_sub hl [1] rfl)
      · skip
        have h := (if_neg c6).symm.trans h
        refine lv_iload_n hx hb dX11_together_12 rfl (lv_at hl 1 rfl) ?_
        refine lv_aload_n hx hb dX11_together_13 rfl (lv_at hl 0 rfl) ?_
        refine va_get (own := RX11) (ci := 10) (v := .ref q_t_rows) (C := RX11) (T := TX11) (N := 25) hx hb hts iX11 hown hK hP 0 rfl rfl 9 (by decide) k19 (fun _ h9 => h9) rfl dX11_together_14 ?_
        refine lv_bipush (v := 8) hx hb dX11_together_17 (by decide) ?_
        refine lv_iload_n hx hb dX11_together_19 rfl (lv_at hl 2 rfl) ?_
        refine lv_imul hx hb dX11_together_20 ?_
        refine lv_iconst (v := 1) hx hb dX11_together_21 (by decide) ?_
        refine lv_iadd hx hb dX11_together_22 ?_
        obtain ⟨g7, h⟩ := gd_of h
        refine va_iald hx hb hK hP 1 0 rfl rfl (inb_of g7) dX11_together_23 ?_
        refine lv_iadd hx hb dX11_together_24 ?_
        refine lv_istore_n (lv' := [(1, .int (z1.1 + (v_t_rows ((8 * z1.2) + 1).toNatClampNeg))), (0, .ref q_t), (2, .int z1.2)]) hx hb dX11_together_25 rfl hl (by decide) rfl (fun ls hl => ?_)
        refine lv_iinc (v := (z1.2 + 1)) (lv' := [(2, .int (z1.2 + 1)), (1, .int (z1.1 + (v_t_rows ((8 * z1.2) + 1).toNatClampNeg))), (0, .ref q_t)]) hx hb dX11_together_26 hl (k := 2) rfl rfl (by decide) rfl (fun ls hl => ?_)
        refine lv_goto (tgt := 4) hx hb dX11_together_29 (by decide) ?_
        obtain rfl := Option.some.inj h
        exact ih ((z1.1 + (v_t_rows ((8 * z1.2) + 1).toNatClampNeg)), (z1.2 + 1)) _ _ _ hn_e2 hP hD hS (lv_sub hl [2, 1, 0] rfl)
  exact L4_5 FU (0, 0) _ _ _ he_e2 hP hD hS (lv_sub hl [2, 1, 0] rfl)
def fX11_copy_X2_20  (a3 : (Nat → Int32)) : Option ((Nat → Int32)) :=
  some a3
def fX11_copy_L2 (n_p0 : Nat) (n_p1 : Nat) (v_p0 : Nat → Int32) (z1 : Int32 × (Nat → Int32)) : Option ((Int32 × (Nat → Int32)) ⊕ ((Nat → Int32))) :=
  if (Int32.ofNat n_p0) ≤ z1.1 then (some (Sum.inr z1.2)) else (gd (inb z1.1 n_p0) (gd (inb z1.1 n_p1) (some (Sum.inl ((z1.1 + 1), (upd z1.2 z1.1.toNatClampNeg (v_p0 z1.1.toNatClampNeg)))))))
def fX11_copy (n_p0 : Nat) (n_p1 : Nat) (v_p0 : Nat → Int32) (v_p1 : Nat → Int32) : Option ((Nat → Int32)) :=
  (iter (fX11_copy_L2 n_p0 n_p1 v_p0) FU (0, v_p1)).bind (fX11_copy_X2_20)
set_option maxHeartbeats 4000000 in
set_option maxRecDepth 100000 in
theorem c_X11_copy (l : Launch) (D : va_G) (cI cJ : ClassId) (q_p0 q_p1 : Nat) (n_p0 : Nat) (n_p1 : Nat) (v_p0 : Nat → Int32) (v_p1 : Nat → Int32) (z : (Nat → Int32)) (h : fX11_copy n_p0 n_p1 v_p0 v_p1 = some z) : Met l yX11_copy wsX11_copy ({ frames := 0, cells := 0, slots := 0, locals := 0 } : Room) (va_Pc [.ref q_p0, .ref q_p1] (preG D cI cJ [(q_p0, .inl (cI, n_p0, .inl v_p0)), (q_p1, .inl (cI, n_p1, .inl v_p1))])) (QG D [(q_p0, .inl (cI, n_p0, .inl v_p0)), (q_p1, .inl (cI, n_p1, .inl v_p1))] [(q_p0, .inl (cI, n_p0, .inl v_p0)), (q_p1, .inl (cI, n_p1, .inl z))] none) 0 0 (fr [(q_p0, .inl (cI, n_p0, .inl v_p0)), (q_p1, .inl (cI, n_p1, .inl v_p1))]) := by
  refine Met.ofW (cc := cX11_copy) (maxL := 3) (ret := none) (by decide) rfl ?_
  intro p e s m args below meth c s₁ B hml hv
  obtain ⟨hargs, hP, hK, hN, hD0⟩ := hv
  have hx := B.exec
  have hb := B.bytes
  have hr := B.returns
  have hts := atoms_spec (ws := wsX11_copy) B.pre
  have hown : s.vm.findClass RX11 = some m.cls := findClass_of_methodNamed B.named
  have hlocks := B.notSynchronized
  have hD := fr_D hD0
  have hS : va_S (fr [(q_p0, .inl (cI, n_p0, .inl v_p0)), (q_p1, .inl (cI, n_p1, .inl v_p1))]) s.heap s.heap [] := va_S.rf
  have hl := lv_entry ([.ref q_p0, .ref q_p1]) (n := 3) (Nat.le_of_ble_eq_true rfl)
  refine W.eq (g2 := F0 m 0 ((lg_sl ([.ref q_p0, .ref q_p1]) ++ List.replicate (3 - (lg_sl ([.ref q_p0, .ref q_p1])).length) Slot.unset).toArray) []) (by rw [hargs, lg_entry_eq]) ?_
  generalize (lg_sl ([.ref q_p0, .ref q_p1]) ++ List.replicate (3 - (lg_sl ([.ref q_p0, .ref q_p1])).length) Slot.unset).toArray = ls at hl ⊢
  have hl : lv_has ls 3 [(0, .ref q_p0), (1, .ref q_p1)] := hl
  show W p l e ({ frames := 0, cells := 0, slots := 0, locals := 0 } : Room) s m args below meth c s.heap [] 0 0 (MQ below (QG D [(q_p0, .inl (cI, n_p0, .inl v_p0)), (q_p1, .inl (cI, n_p1, .inl v_p1))] [(q_p0, .inl (cI, n_p0, .inl v_p0)), (q_p1, .inl (cI, n_p1, .inl z))] none) args s 0 0 (fr [(q_p0, .inl (cI, n_p0, .inl v_p0)), (q_p1, .inl (cI, n_p1, .inl v_p1))])) (F0 m 0 ls [])
  generalize hQ0 : (MQ below (QG D [(q_p0, .inl (cI, n_p0, .inl v_p0)), (q_p1, .inl (cI, n_p1, .inl v_p1))] [(q_p0, .inl (cI, n_p0, .inl v_p0)), (q_p1, .inl (cI, n_p1, .inl z))] none) args s 0 0 (fr [(q_p0, .inl (cI, n_p0, .inl v_p0)), (q_p1, .inl (cI, n_p1, .inl v_p1))])) = Q0
  generalize hA0 : fr [(q_p0, .inl (cI, n_p0, .inl v_p0)), (q_p1, .inl (cI, n_p1, .inl v_p1))] = A0 at hD hS
  unfold fX11_copy at h
  refine lv_iconst (v := 0) hx hb dX11_copy_0 (by decide) ?_
  refine lv_istore_n (lv' := [(2, .int 0), (0, .ref q_p0), (1, .ref q_p1)]) hx hb dX11_copy_1 rfl hl (by decide) rfl (fun ls hl => ?_)
  obtain ⟨e2, he_e2, hc_e2⟩ := bd_of h
  have X20_4 : ∀ (a3 : (Nat → Int32)) (H : Heap) (locs : List Loc) (ls : Array Slot), fX11_copy_X2_20 a3 = some z → va_P D vwCl [(q_p0, .inl (cI, n_p0, .inl v_p0)), (q_p1, .inl (cI, n_p1, .inl a3))] H → va_D A0 [(q_p0, .inl (cI, n_p0, .inl v_p0)), (q_p1, .inl (cI, n_p1, .inl a3))] → va_S A0 s.heap H locs → lv_has ls 3 [] → W p l e ({ frames := 0, cells := 0, slots := 0, locals := 0 } : Room) s m args below meth c H locs 0 0 Q0 (F0 m 20 ls []) := by
    intro a3 H locs ls h hP hD hS hl
    unfold fX11_copy_X2_20 at h
    obtain rfl := Option.some.inj h
    exact rt_v hA0 hQ0 hx hb hr hlocks hP hS dX11_copy_20
  have L2_5 : ∀ (n : Nat) (z1 : Int32 × (Nat → Int32)) (H : Heap) (locs : List Loc) (ls : Array Slot), iter (fX11_copy_L2 n_p0 n_p1 v_p0) n z1 = some e2 → va_P D vwCl [(q_p0, .inl (cI, n_p0, .inl v_p0)), (q_p1, .inl (cI, n_p1, .inl z1.2))] H → va_D A0 [(q_p0, .inl (cI, n_p0, .inl v_p0)), (q_p1, .inl (cI, n_p1, .inl z1.2))] → va_S A0 s.heap H locs → lv_has ls 3 [(0, .ref q_p0), (1, .ref q_p1), (2, .int z1.1)] → W p l e ({ frames := 0, cells := 0, slots := 0, locals := 0 } : Room) s m args below meth c H locs 0 0 Q0 (F0 m 2 ls []) := by
    intro n
    induction n with
    | zero => exact fun _ _ _ _ h => (iter_z h).elim
    | succ n ih =>
      intro z1 H locs ls h hP hD hS hl
      obtain ⟨r_e2, h, hn_e2⟩ := iter_s h
      unfold fX11_copy_L2 at h
      refine lv_iload_n hx hb dX11_copy_2 rfl (lv_at hl 2 rfl) ?_
      refine lv_aload_n hx hb dX11_copy_3 rfl (lv_at hl 0 rfl) ?_
      refine va_alen (v := (Int32.ofNat n_p0)) hx hb hK hP 0 0 rfl rfl rfl dX11_copy_4 ?_
      refine lv_icmp_ge (tgt := 20) hx hb dX11_copy_5 (by decide) (fun c6 => ?_) (fun c6 => ?_)
      · skip
        have h := (if_pos c6).symm.trans h
        obtain rfl := Option.some.inj h
        obtain rfl := Option.some.inj hn_e2
        exact X20_4 z1.2 _ _ _ hc_e2 hP hD hS (lv_sub hl [] rfl)
      · skip
        have h := (if_neg c6).symm.trans h
        refine lv_aload_n hx hb dX11_copy_8 rfl (lv_at hl 1 rfl) ?_
        refine lv_iload_n hx hb dX11_copy_9 rfl (lv_at hl 2 rfl) ?_
        refine lv_aload_n hx hb dX11_copy_10 rfl (lv_at hl 0 rfl) ?_
        refine lv_iload_n hx hb dX11_copy_11 rfl (lv_at hl 2 rfl) ?_
        obtain ⟨g7, h⟩ := gd_of h
        refine va_iald hx hb hK hP 0 0 rfl rfl (inb_of g7) dX11_copy_12 ?_
        obtain ⟨g8, h⟩ := gd_of h
        refine va_iast hx hb hK hP hD hS 1 0 rfl rfl (inb_of g8) dX11_copy_13 (fun H locs hP hD hS => ?_)
        have hP : va_P D vwCl [(q_p0, .inl (cI, n_p0, .inl v_p0)), (q_p1, .inl (cI, n_p1, .inl (upd z1.2 z1.1.toNatClampNeg (v_p0 z1.1.toNatClampNeg))))] H := hP
        have hD : va_D A0 [(q_p0, .inl (cI, n_p0, .inl v_p0)), (q_p1, .inl (cI, n_p1, .inl (upd z1.2 z1.1.toNatClampNeg (v_p0 z1.1.toNatClampNeg))))] := hD
        refine lv_iinc (v := (z1.1 + 1)) (lv' := [(2, .int (z1.1 + 1)), (0, .ref q_p0), (1, .ref q_p1)]) hx hb dX11_copy_14 hl (k := 2) rfl rfl (by decide) rfl (fun ls hl => ?_)
        refine lv_goto (tgt := 2) hx hb dX11_copy_17 (by decide) ?_
        obtain rfl := Option.some.inj h
        exact ih ((z1.1 + 1), (upd z1.2 z1.1.toNatClampNeg (v_p0 z1.1.toNatClampNeg))) _ _ _ hn_e2 hP hD hS (lv_sub hl [1, 2, 0] rfl)
  exact L2_5 FU (0, v_p1) _ _ _ he_e2 hP hD hS (lv_sub hl [1, 2, 0] rfl)
def fX11_months_X66_181 (v_t_pageMany : Int32) (v_t_readMany : Int32) (v_t_told : Int32) (v_t_many : Int32) (v_t_lostByHands : Int32) (v_t_lostByMould : Int32) (v_t_ringMany : Int32) (v_t_keptMany : Int32) (v_t_keptByHands : Int32) (v_t_keptByMould : Int32) (v_t_hash : Int64) (x4 : Int32) (u5 : (Nat → Int32)) (a9 : Int32 × Int32 × (Nat → Int32)) : Option (Int32 × Int32 × (Nat → Int32) × (Nat → Int32)) :=
  (fX11_together v_t_pageMany v_t_readMany v_t_told v_t_many v_t_lostByHands v_t_lostByMould v_t_ringMany a9.2.1 v_t_keptMany v_t_keptByHands v_t_keptByMould v_t_hash a9.2.2).bind (fun u11 => (fX11_copy 80 80 u5 a9.2.2).bind (fun u13 => if x4 = 0 then (some (u11, a9.2.1, u13, u5)) else (if x4 = 1 then (some (a9.1, a9.2.1, u13, u5)) else (some (a9.2.1, a9.2.1, u13, u5)))))
def fX11_months_J175 (z7 : Int32 × Int32 × Int32 × (Nat → Int32)) (a21 : Int32 × (Nat → Int32)) (a23 : Int32 × (Nat → Int32)) : Option ((Int32 × Int32 × Int32 × (Nat → Int32)) ⊕ (Int32 × Int32 × (Nat → Int32))) :=
  some (Sum.inl (a21.1, (z7.2.1 + 1), a23.1, a23.2))
def fX11_months_J173 (z7 : Int32 × Int32 × Int32 × (Nat → Int32)) (a21 : Int32 × (Nat → Int32)) (u28 : Int32 × Int32) (a33 : Int32 × (Nat → Int32)) : Option ((Int32 × Int32 × Int32 × (Nat → Int32)) ⊕ (Int32 × Int32 × (Nat → Int32))) :=
  fX11_months_J175 z7 a21 (u28.2, a33.2)
def fX11_months_J153 (v_t_pageMany : Int32) (v_t_readMany : Int32) (v_t_told : Int32) (v_t_many : Int32) (v_t_lostByHands : Int32) (v_t_lostByMould : Int32) (v_t_ringMany : Int32) (v_t_keptMany : Int32) (v_t_keptByHands : Int32) (v_t_keptByMould : Int32) (v_t_hash : Int64) (z7 : Int32 × Int32 × Int32 × (Nat → Int32)) (a21 : Int32 × (Nat → Int32)) (u26 : Int32 × Int32) (u28 : Int32 × Int32) (a31 : Unit) : Option ((Int32 × Int32 × Int32 × (Nat → Int32)) ⊕ (Int32 × Int32 × (Nat → Int32))) :=
  if (0 : Int32) = 0 then (fX11_months_J173 z7 a21 u28 (0, a21.2)) else ((fX11_hand v_t_pageMany v_t_readMany v_t_told v_t_many v_t_lostByHands v_t_lostByMould v_t_ringMany u28.2 v_t_keptMany v_t_keptByHands v_t_keptByMould v_t_hash a21.2 u26.1 u28.1).bind (fun u36 => fX11_months_J173 z7 a21 u28 (u36.1, u36.2)))
def fX11_months_J173a (z7 : Int32 × Int32 × Int32 × (Nat → Int32)) (a21 : Int32 × (Nat → Int32)) (u28 : Int32 × Int32) (a40 : Int32 × (Nat → Int32)) : Option ((Int32 × Int32 × Int32 × (Nat → Int32)) ⊕ (Int32 × Int32 × (Nat → Int32))) :=
  fX11_months_J175 z7 a21 (u28.2, a40.2)
def fX11_months_J154 (v_t_pageMany : Int32) (v_t_readMany : Int32) (v_t_told : Int32) (v_t_many : Int32) (v_t_lostByHands : Int32) (v_t_lostByMould : Int32) (v_t_ringMany : Int32) (v_t_keptMany : Int32) (v_t_keptByHands : Int32) (v_t_keptByMould : Int32) (v_t_hash : Int64) (z7 : Int32 × Int32 × Int32 × (Nat → Int32)) (a21 : Int32 × (Nat → Int32)) (u26 : Int32 × Int32) (u28 : Int32 × Int32) (a38 : Int32) : Option ((Int32 × Int32 × Int32 × (Nat → Int32)) ⊕ (Int32 × Int32 × (Nat → Int32))) :=
  if a38 = 0 then (fX11_months_J173a z7 a21 u28 (0, a21.2)) else ((fX11_hand v_t_pageMany v_t_readMany v_t_told v_t_many v_t_lostByHands v_t_lostByMould v_t_ringMany u28.2 v_t_keptMany v_t_keptByHands v_t_keptByMould v_t_hash a21.2 u26.1 u28.1).bind (fun u43 => fX11_months_J173a z7 a21 u28 (u43.1, u43.2)))
def fX11_months_J91 (v_t_pageMany : Int32) (v_t_readMany : Int32) (v_t_told : Int32) (v_t_many : Int32) (v_t_lostByHands : Int32) (v_t_lostByMould : Int32) (v_t_ringMany : Int32) (v_t_keptMany : Int32) (v_t_keptByHands : Int32) (v_t_keptByMould : Int32) (v_t_hash : Int64) (z7 : Int32 × Int32 × Int32 × (Nat → Int32)) (u19 : Int32 × Int32) (a21 : Int32 × (Nat → Int32)) : Option ((Int32 × Int32 × Int32 × (Nat → Int32)) ⊕ (Int32 × Int32 × (Nat → Int32))) :=
  if v_t_many ≤ 0 then (fX11_months_J175 z7 a21 (u19.2, a21.2)) else ((fX11_draw v_t_pageMany v_t_readMany v_t_told v_t_many v_t_lostByHands v_t_lostByMould v_t_ringMany u19.2 v_t_keptMany v_t_keptByHands v_t_keptByMould v_t_hash v_t_many).bind (fun u26 => (fX11_draw v_t_pageMany v_t_readMany v_t_told v_t_many v_t_lostByHands v_t_lostByMould v_t_ringMany u26.2 v_t_keptMany v_t_keptByHands v_t_keptByMould v_t_hash 6).bind (fun u28 => gd (inb ((8 * u26.1) + 2) 80) (if (a21.2 ((8 * u26.1) + 2).toNatClampNeg) = (-1) then (fX11_months_J153 v_t_pageMany v_t_readMany v_t_told v_t_many v_t_lostByHands v_t_lostByMould v_t_ringMany v_t_keptMany v_t_keptByHands v_t_keptByMould v_t_hash z7 a21 u26 u28 ()) else (if (a21.2 ((8 * u26.1) + 2).toNatClampNeg) = u28.1 then (fX11_months_J153 v_t_pageMany v_t_readMany v_t_told v_t_many v_t_lostByHands v_t_lostByMould v_t_ringMany v_t_keptMany v_t_keptByHands v_t_keptByMould v_t_hash z7 a21 u26 u28 ()) else (fX11_months_J154 v_t_pageMany v_t_readMany v_t_told v_t_many v_t_lostByHands v_t_lostByMould v_t_ringMany v_t_keptMany v_t_keptByHands v_t_keptByMould v_t_hash z7 a21 u26 u28 1))))))
def fX11_months_L66 (v_t_pageMany : Int32) (v_t_readMany : Int32) (v_t_told : Int32) (v_t_many : Int32) (v_t_lostByHands : Int32) (v_t_lostByMould : Int32) (v_t_ringMany : Int32) (v_t_keptMany : Int32) (v_t_keptByHands : Int32) (v_t_keptByMould : Int32) (v_t_hash : Int64) (x1 : Int32) (x2 : Int32) (z7 : Int32 × Int32 × Int32 × (Nat → Int32)) : Option ((Int32 × Int32 × Int32 × (Nat → Int32)) ⊕ (Int32 × Int32 × (Nat → Int32))) :=
  if x1 ≤ z7.2.1 then (some (Sum.inr (z7.1, z7.2.2.1, z7.2.2.2))) else ((fX11_draw v_t_pageMany v_t_readMany v_t_told v_t_many v_t_lostByHands v_t_lostByMould v_t_ringMany z7.2.2.1 v_t_keptMany v_t_keptByHands v_t_keptByMould v_t_hash 10).bind (fun u19 => if x2 ≤ u19.1 then (fX11_months_J91 v_t_pageMany v_t_readMany v_t_told v_t_many v_t_lostByHands v_t_lostByMould v_t_ringMany v_t_keptMany v_t_keptByHands v_t_keptByMould v_t_hash z7 u19 (z7.1, z7.2.2.2)) else ((fX11_mould v_t_pageMany v_t_readMany v_t_told v_t_many v_t_lostByHands v_t_lostByMould v_t_ringMany u19.2 v_t_keptMany v_t_keptByHands v_t_keptByMould v_t_hash z7.2.2.2).bind (fun u48 => fX11_months_J91 v_t_pageMany v_t_readMany v_t_told v_t_many v_t_lostByHands v_t_lostByMould v_t_ringMany v_t_keptMany v_t_keptByHands v_t_keptByMould v_t_hash z7 u19 ((z7.1 + 1), u48.2)))))
def fX11_months (v_t_pageMany : Int32) (v_t_readMany : Int32) (v_t_told : Int32) (v_t_many : Int32) (v_t_lostByHands : Int32) (v_t_lostByMould : Int32) (v_t_ringMany : Int32) (v_t_seedNow : Int32) (v_t_keptMany : Int32) (v_t_keptByHands : Int32) (v_t_keptByMould : Int32) (v_t_hash : Int64) (v_t_rows : Nat → Int32) (v_t_saved : Nat → Int32) (x1 : Int32) (x2 : Int32) (x3 : Int32) (x4 : Int32) : Option (Int32 × Int32 × (Nat → Int32) × (Nat → Int32)) :=
  if (fX11_in ((x1 : Int32).toInt64) 1 60) = 0 then (some ((-102), v_t_seedNow, v_t_rows, v_t_saved)) else (if (fX11_in ((x2 : Int32).toInt64) 0 10) = 0 then (some ((-102), v_t_seedNow, v_t_rows, v_t_saved)) else (if x3 < 0 then (some ((-102), v_t_seedNow, v_t_rows, v_t_saved)) else (if (fX11_in ((x4 : Int32).toInt64) 0 2) = 0 then (some ((-102), v_t_seedNow, v_t_rows, v_t_saved)) else ((fX11_copy 80 80 v_t_rows v_t_saved).bind (fun u5 => (iter (fX11_months_L66 v_t_pageMany v_t_readMany v_t_told v_t_many v_t_lostByHands v_t_lostByMould v_t_ringMany v_t_keptMany v_t_keptByHands v_t_keptByMould v_t_hash x1 x2) FU (0, 0, x3, v_t_rows)).bind (fX11_months_X66_181 v_t_pageMany v_t_readMany v_t_told v_t_many v_t_lostByHands v_t_lostByMould v_t_ringMany v_t_keptMany v_t_keptByHands v_t_keptByMould v_t_hash x4 u5))))))
set_option maxHeartbeats 4000000 in
set_option maxRecDepth 100000 in
theorem c_X11_months (l : Launch) (D : va_G) (cI cJ : ClassId) (q_t q_t_page q_t_readKinds q_t_readLeaflets q_t_rows q_t_debts q_t_ring q_t_line q_t_groups q_t_likely q_t_likelyThen q_t_saved q_t_keptRows q_t_keptDebts : Nat) (v_t_pageMany : Int32) (v_t_readMany : Int32) (v_t_told : Int32) (v_t_many : Int32) (v_t_lostByHands : Int32) (v_t_lostByMould : Int32) (v_t_ringMany : Int32) (v_t_seedNow : Int32) (v_t_keptMany : Int32) (v_t_keptByHands : Int32) (v_t_keptByMould : Int32) (v_t_hash : Int64) (v_t_rows : Nat → Int32) (v_t_saved : Nat → Int32) (x1 : Int32) (x2 : Int32) (x3 : Int32) (x4 : Int32) (z : Int32 × Int32 × (Nat → Int32) × (Nat → Int32)) (h : fX11_months v_t_pageMany v_t_readMany v_t_told v_t_many v_t_lostByHands v_t_lostByMould v_t_ringMany v_t_seedNow v_t_keptMany v_t_keptByHands v_t_keptByMould v_t_hash v_t_rows v_t_saved x1 x2 x3 x4 = some z) : Met l yX11_months wsX11_months ({ frames := 3, cells := 0, slots := 0, locals := 68 } : Room) (va_Pc [.ref q_t, .int x1, .int x2, .int x3, .int x4] (preG D cI cJ [(q_t, .inr (10, [.ref q_t_page, .int v_t_pageMany, .ref q_t_readKinds, .ref q_t_readLeaflets, .int v_t_readMany, .int v_t_told, .int v_t_many, .int v_t_lostByHands, .int v_t_lostByMould, .ref q_t_rows, .ref q_t_debts, .int v_t_ringMany, .ref q_t_ring, .ref q_t_line, .ref q_t_groups, .ref q_t_likely, .ref q_t_likelyThen, .int v_t_seedNow, .ref q_t_saved, .int v_t_keptMany, .int v_t_keptByHands, .int v_t_keptByMould, .ref q_t_keptRows, .ref q_t_keptDebts, .long v_t_hash])), (q_t_rows, .inl (cI, 80, .inl v_t_rows)), (q_t_saved, .inl (cI, 80, .inl v_t_saved))])) (QG D [(q_t, .inr (10, [.ref q_t_page, .int v_t_pageMany, .ref q_t_readKinds, .ref q_t_readLeaflets, .int v_t_readMany, .int v_t_told, .int v_t_many, .int v_t_lostByHands, .int v_t_lostByMould, .ref q_t_rows, .ref q_t_debts, .int v_t_ringMany, .ref q_t_ring, .ref q_t_line, .ref q_t_groups, .ref q_t_likely, .ref q_t_likelyThen, .int v_t_seedNow, .ref q_t_saved, .int v_t_keptMany, .int v_t_keptByHands, .int v_t_keptByMould, .ref q_t_keptRows, .ref q_t_keptDebts, .long v_t_hash])), (q_t_rows, .inl (cI, 80, .inl v_t_rows)), (q_t_saved, .inl (cI, 80, .inl v_t_saved))] [(q_t, .inr (10, [.ref q_t_page, .int v_t_pageMany, .ref q_t_readKinds, .ref q_t_readLeaflets, .int v_t_readMany, .int v_t_told, .int v_t_many, .int v_t_lostByHands, .int v_t_lostByMould, .ref q_t_rows, .ref q_t_debts, .int v_t_ringMany, .ref q_t_ring, .ref q_t_line, .ref q_t_groups, .ref q_t_likely, .ref q_t_likelyThen, .int z.2.1, .ref q_t_saved, .int v_t_keptMany, .int v_t_keptByHands, .int v_t_keptByMould, .ref q_t_keptRows, .ref q_t_keptDebts, .long v_t_hash])), (q_t_rows, .inl (cI, 80, .inl z.2.2.1)), (q_t_saved, .inl (cI, 80, .inl z.2.2.2))] (some (.int z.1))) 0 0 (fr [(q_t, .inr (10, [.ref q_t_page, .int v_t_pageMany, .ref q_t_readKinds, .ref q_t_readLeaflets, .int v_t_readMany, .int v_t_told, .int v_t_many, .int v_t_lostByHands, .int v_t_lostByMould, .ref q_t_rows, .ref q_t_debts, .int v_t_ringMany, .ref q_t_ring, .ref q_t_line, .ref q_t_groups, .ref q_t_likely, .ref q_t_likelyThen, .int v_t_seedNow, .ref q_t_saved, .int v_t_keptMany, .int v_t_keptByHands, .int v_t_keptByMould, .ref q_t_keptRows, .ref q_t_keptDebts, .long v_t_hash])), (q_t_rows, .inl (cI, 80, .inl v_t_rows)), (q_t_saved, .inl (cI, 80, .inl v_t_saved))]) := by
  refine Met.ofW (cc := cX11_months) (maxL := 11) (ret := (some .int)) (by decide) rfl ?_
  intro p e s m args below meth c s₁ B hml hv
  obtain ⟨hargs, hP, hK, hN, hD0⟩ := hv
  have hx := B.exec
  have hb := B.bytes
  have hr := B.returns
  have hts := atoms_spec (ws := wsX11_months) B.pre
  have hown : s.vm.findClass RX11 = some m.cls := findClass_of_methodNamed B.named
  have hlocks := B.notSynchronized
  have iX11 : ∀ w ∈ wsX110, w ∈ wsX11_months := by decide +kernel
  have k19 := hts (.fieldLink RX11 19 "PressedFernsModel" "rows" "[I") (by decide +kernel)
  have k41 := hts (.fieldLink RX11 41 "PressedFernsModel" "saved" "[I") (by decide +kernel)
  have k88 := hts (.fieldLink RX11 88 "PressedFernsModel" "many" "I") (by decide +kernel)
  have k198 := hts (.fieldLink RX11 198 "PressedFernsModel" "seedNow" "I") (by decide +kernel)
  have hD := fr_D hD0
  have hS : va_S (fr [(q_t, .inr (10, [.ref q_t_page, .int v_t_pageMany, .ref q_t_readKinds, .ref q_t_readLeaflets, .int v_t_readMany, .int v_t_told, .int v_t_many, .int v_t_lostByHands, .int v_t_lostByMould, .ref q_t_rows, .ref q_t_debts, .int v_t_ringMany, .ref q_t_ring, .ref q_t_line, .ref q_t_groups, .ref q_t_likely, .ref q_t_likelyThen, .int v_t_seedNow, .ref q_t_saved, .int v_t_keptMany, .int v_t_keptByHands, .int v_t_keptByMould, .ref q_t_keptRows, .ref q_t_keptDebts, .long v_t_hash])), (q_t_rows, .inl (cI, 80, .inl v_t_rows)), (q_t_saved, .inl (cI, 80, .inl v_t_saved))]) s.heap s.heap [] := va_S.rf
  have hl := lv_entry ([.ref q_t, .int x1, .int x2, .int x3, .int x4]) (n := 11) (Nat.le_of_ble_eq_true rfl)
  refine W.eq (g2 := F0 m 0 ((lg_sl ([.ref q_t, .int x1, .int x2, .int x3, .int x4]) ++ List.replicate (11 - (lg_sl ([.ref q_t, .int x1, .int x2, .int x3, .int x4])).length) Slot.unset).toArray) []) (by rw [hargs, lg_entry_eq]) ?_
  generalize (lg_sl ([.ref q_t, .int x1, .int x2, .int x3, .int x4]) ++ List.replicate (11 - (lg_sl ([.ref q_t, .int x1, .int x2, .int x3, .int x4])).length) Slot.unset).toArray = ls at hl ⊢
  have hl : lv_has ls 11 [(0, .ref q_t), (1, .int x1), (2, .int x2), (3, .int x3), (4, .int x4)] := hl
  show W p l e ({ frames := 3, cells := 0, slots := 0, locals := 68 } : Room) s m args below meth c s.heap [] 0 0 (MQ below (QG D [(q_t, .inr (10, [.ref q_t_page, .int v_t_pageMany, .ref q_t_readKinds, .ref q_t_readLeaflets, .int v_t_readMany, .int v_t_told, .int v_t_many, .int v_t_lostByHands, .int v_t_lostByMould, .ref q_t_rows, .ref q_t_debts, .int v_t_ringMany, .ref q_t_ring, .ref q_t_line, .ref q_t_groups, .ref q_t_likely, .ref q_t_likelyThen, .int v_t_seedNow, .ref q_t_saved, .int v_t_keptMany, .int v_t_keptByHands, .int v_t_keptByMould, .ref q_t_keptRows, .ref q_t_keptDebts, .long v_t_hash])), (q_t_rows, .inl (cI, 80, .inl v_t_rows)), (q_t_saved, .inl (cI, 80, .inl v_t_saved))] [(q_t, .inr (10, [.ref q_t_page, .int v_t_pageMany, .ref q_t_readKinds, .ref q_t_readLeaflets, .int v_t_readMany, .int v_t_told, .int v_t_many, .int v_t_lostByHands, .int v_t_lostByMould, .ref q_t_rows, .ref q_t_debts, .int v_t_ringMany, .ref q_t_ring, .ref q_t_line, .ref q_t_groups, .ref q_t_likely, .ref q_t_likelyThen, .int z.2.1, .ref q_t_saved, .int v_t_keptMany, .int v_t_keptByHands, .int v_t_keptByMould, .ref q_t_keptRows, .ref q_t_keptDebts, .long v_t_hash])), (q_t_rows, .inl (cI, 80, .inl z.2.2.1)), (q_t_saved, .inl (cI, 80, .inl z.2.2.2))] (some (.int z.1))) args s 0 0 (fr [(q_t, .inr (10, [.ref q_t_page, .int v_t_pageMany, .ref q_t_readKinds, .ref q_t_readLeaflets, .int v_t_readMany, .int v_t_told, .int v_t_many, .int v_t_lostByHands, .int v_t_lostByMould, .ref q_t_rows, .ref q_t_debts, .int v_t_ringMany, .ref q_t_ring, .ref q_t_line, .ref q_t_groups, .ref q_t_likely, .ref q_t_likelyThen, .int v_t_seedNow, .ref q_t_saved, .int v_t_keptMany, .int v_t_keptByHands, .int v_t_keptByMould, .ref q_t_keptRows, .ref q_t_keptDebts, .long v_t_hash])), (q_t_rows, .inl (cI, 80, .inl v_t_rows)), (q_t_saved, .inl (cI, 80, .inl v_t_saved))])) (F0 m 0 ls [])
  generalize hQ0 : (MQ below (QG D [(q_t, .inr (10, [.ref q_t_page, .int v_t_pageMany, .ref q_t_readKinds, .ref q_t_readLeaflets, .int v_t_readMany, .int v_t_told, .int v_t_many, .int v_t_lostByHands, .int v_t_lostByMould, .ref q_t_rows, .ref q_t_debts, .int v_t_ringMany, .ref q_t_ring, .ref q_t_line, .ref q_t_groups, .ref q_t_likely, .ref q_t_likelyThen, .int v_t_seedNow, .ref q_t_saved, .int v_t_keptMany, .int v_t_keptByHands, .int v_t_keptByMould, .ref q_t_keptRows, .ref q_t_keptDebts, .long v_t_hash])), (q_t_rows, .inl (cI, 80, .inl v_t_rows)), (q_t_saved, .inl (cI, 80, .inl v_t_saved))] [(q_t, .inr (10, [.ref q_t_page, .int v_t_pageMany, .ref q_t_readKinds, .ref q_t_readLeaflets, .int v_t_readMany, .int v_t_told, .int v_t_many, .int v_t_lostByHands, .int v_t_lostByMould, .ref q_t_rows, .ref q_t_debts, .int v_t_ringMany, .ref q_t_ring, .ref q_t_line, .ref q_t_groups, .ref q_t_likely, .ref q_t_likelyThen, .int z.2.1, .ref q_t_saved, .int v_t_keptMany, .int v_t_keptByHands, .int v_t_keptByMould, .ref q_t_keptRows, .ref q_t_keptDebts, .long v_t_hash])), (q_t_rows, .inl (cI, 80, .inl z.2.2.1)), (q_t_saved, .inl (cI, 80, .inl z.2.2.2))] (some (.int z.1))) args s 0 0 (fr [(q_t, .inr (10, [.ref q_t_page, .int v_t_pageMany, .ref q_t_readKinds, .ref q_t_readLeaflets, .int v_t_readMany, .int v_t_told, .int v_t_many, .int v_t_lostByHands, .int v_t_lostByMould, .ref q_t_rows, .ref q_t_debts, .int v_t_ringMany, .ref q_t_ring, .ref q_t_line, .ref q_t_groups, .ref q_t_likely, .ref q_t_likelyThen, .int v_t_seedNow, .ref q_t_saved, .int v_t_keptMany, .int v_t_keptByHands, .int v_t_keptByMould, .ref q_t_keptRows, .ref q_t_keptDebts, .long v_t_hash])), (q_t_rows, .inl (cI, 80, .inl v_t_rows)), (q_t_saved, .inl (cI, 80, .inl v_t_saved))])) = Q0
  generalize hA0 : fr [(q_t, .inr (10, [.ref q_t_page, .int v_t_pageMany, .ref q_t_readKinds, .ref q_t_readLeaflets, .int v_t_readMany, .int v_t_told, .int v_t_many, .int v_t_lostByHands, .int v_t_lostByMould, .ref q_t_rows, .ref q_t_debts, .int v_t_ringMany, .ref q_t_ring, .ref q_t_line, .ref q_t_groups, .ref q_t_likely, .ref q_t_likelyThen, .int v_t_seedNow, .ref q_t_saved, .int v_t_keptMany, .int v_t_keptByHands, .int v_t_keptByMould, .ref q_t_keptRows, .ref q_t_keptDebts, .long v_t_hash])), (q_t_rows, .inl (cI, 80, .inl v_t_rows)), (q_t_saved, .inl (cI, 80, .inl v_t_saved))] = A0 at hD hS
  unfold fX11_months at h
  refine lv_iload_n hx hb dX11_months_0 rfl (lv_at hl 1 rfl) ?_
  refine lv_i2l hx hb dX11_months_1 rfl ?_
  refine lv_lconst (v := 1) hx hb dX11_months_2 (by decide) ?_
  refine lv_ldc2 (own := RX11) (v := 60) hx hb hown (hts (.constantLong RX11 206 (60)) (by decide +kernel)) dX11_months_3 ?_
  refine cl_S [(q_t, .inr (10, [.ref q_t_page, .int v_t_pageMany, .ref q_t_readKinds, .ref q_t_readLeaflets, .int v_t_readMany, .int v_t_told, .int v_t_many, .int v_t_lostByHands, .int v_t_lostByMould, .ref q_t_rows, .ref q_t_debts, .int v_t_ringMany, .ref q_t_ring, .ref q_t_line, .ref q_t_groups, .ref q_t_likely, .ref q_t_likelyThen, .int v_t_seedNow, .ref q_t_saved, .int v_t_keptMany, .int v_t_keptByHands, .int v_t_keptByMould, .ref q_t_keptRows, .ref q_t_keptDebts, .long v_t_hash])), (q_t_rows, .inl (cI, 80, .inl v_t_rows)), (q_t_saved, .inl (cI, 80, .inl v_t_saved))] (As := [.long ((x1 : Int32).toInt64), .long 1, .long 60]) (rest := []) (rv := (some (.int (fX11_in ((x1 : Int32).toInt64) 1 60)))) (c_X11_in l D cI cJ ((x1 : Int32).toInt64) 1 60) ⟨hx, hb, hml, hown, hts⟩ (va_cwS 3 hts gX11_months_X11_in rfl rfl rfl (by decide +kernel) ⟨(Nat.le_of_ble_eq_true rfl), (Nat.le_of_ble_eq_true rfl)⟩) hK hN hP hD hS [] rfl (by decide) rfl rfl rfl rfl hl.1 rfl (Nat.le_of_ble_eq_true rfl) dX11_months_6 ⟨Nat.zero_le _, Nat.zero_le _⟩ (fun H locs hP hD hS => ?_)
  show W p l e ({ frames := 3, cells := 0, slots := 0, locals := 68 } : Room) s m args below meth c H locs 0 0 Q0 (F0 m 9 ls [.int (fX11_in ((x1 : Int32).toInt64) 1 60)])
  refine lv_if_eq (tgt := 41) hx hb dX11_months_9 (by decide) (fun c1 => ?_) (fun c1 => ?_)
  · skip
    have h := (if_pos c1).symm.trans h
    refine lv_bipush (v := (-102)) hx hb dX11_months_41 (by decide) ?_
    obtain rfl := Option.some.inj h
    exact rt_i hA0 hQ0 hx hb hr hlocks hP hS dX11_months_43
  · skip
    have h := (if_neg c1).symm.trans h
    refine lv_iload_n hx hb dX11_months_12 rfl (lv_at hl 2 rfl) ?_
    refine lv_i2l hx hb dX11_months_13 rfl ?_
    refine lv_lconst (v := 0) hx hb dX11_months_14 (by decide) ?_
    refine lv_ldc2 (own := RX11) (v := 10) hx hb hown (hts (.constantLong RX11 157 (10)) (by decide +kernel)) dX11_months_15 ?_
    refine cl_S [(q_t, .inr (10, [.ref q_t_page, .int v_t_pageMany, .ref q_t_readKinds, .ref q_t_readLeaflets, .int v_t_readMany, .int v_t_told, .int v_t_many, .int v_t_lostByHands, .int v_t_lostByMould, .ref q_t_rows, .ref q_t_debts, .int v_t_ringMany, .ref q_t_ring, .ref q_t_line, .ref q_t_groups, .ref q_t_likely, .ref q_t_likelyThen, .int v_t_seedNow, .ref q_t_saved, .int v_t_keptMany, .int v_t_keptByHands, .int v_t_keptByMould, .ref q_t_keptRows, .ref q_t_keptDebts, .long v_t_hash])), (q_t_rows, .inl (cI, 80, .inl v_t_rows)), (q_t_saved, .inl (cI, 80, .inl v_t_saved))] (As := [.long ((x2 : Int32).toInt64), .long 0, .long 10]) (rest := []) (rv := (some (.int (fX11_in ((x2 : Int32).toInt64) 0 10)))) (c_X11_in l D cI cJ ((x2 : Int32).toInt64) 0 10) ⟨hx, hb, hml, hown, hts⟩ (va_cwS 3 hts gX11_months_X11_in rfl rfl rfl (by decide +kernel) ⟨(Nat.le_of_ble_eq_true rfl), (Nat.le_of_ble_eq_true rfl)⟩) hK hN hP hD hS [] rfl (by decide) rfl rfl rfl rfl hl.1 rfl (Nat.le_of_ble_eq_true rfl) dX11_months_18 ⟨Nat.zero_le _, Nat.zero_le _⟩ (fun H locs hP hD hS => ?_)
    show W p l e ({ frames := 3, cells := 0, slots := 0, locals := 68 } : Room) s m args below meth c H locs 0 0 Q0 (F0 m 21 ls [.int (fX11_in ((x2 : Int32).toInt64) 0 10)])
    refine lv_if_eq (tgt := 41) hx hb dX11_months_21 (by decide) (fun c2 => ?_) (fun c2 => ?_)
    · skip
      have h := (if_pos c2).symm.trans h
      refine lv_bipush (v := (-102)) hx hb dX11_months_41 (by decide) ?_
      obtain rfl := Option.some.inj h
      exact rt_i hA0 hQ0 hx hb hr hlocks hP hS dX11_months_43
    · skip
      have h := (if_neg c2).symm.trans h
      refine lv_iload_n hx hb dX11_months_24 rfl (lv_at hl 3 rfl) ?_
      refine lv_if_lt (tgt := 41) hx hb dX11_months_25 (by decide) (fun c3 => ?_) (fun c3 => ?_)
      · skip
        have h := (if_pos c3).symm.trans h
        refine lv_bipush (v := (-102)) hx hb dX11_months_41 (by decide) ?_
        obtain rfl := Option.some.inj h
        exact rt_i hA0 hQ0 hx hb hr hlocks hP hS dX11_months_43
      · skip
        have h := (if_neg c3).symm.trans h
        refine lv_iload hx hb dX11_months_28 (lv_at hl 4 rfl) ?_
        refine lv_i2l hx hb dX11_months_30 rfl ?_
        refine lv_lconst (v := 0) hx hb dX11_months_31 (by decide) ?_
        refine lv_ldc2 (own := RX11) (v := 2) hx hb hown (hts (.constantLong RX11 208 (2)) (by decide +kernel)) dX11_months_32 ?_
        refine cl_S [(q_t, .inr (10, [.ref q_t_page, .int v_t_pageMany, .ref q_t_readKinds, .ref q_t_readLeaflets, .int v_t_readMany, .int v_t_told, .int v_t_many, .int v_t_lostByHands, .int v_t_lostByMould, .ref q_t_rows, .ref q_t_debts, .int v_t_ringMany, .ref q_t_ring, .ref q_t_line, .ref q_t_groups, .ref q_t_likely, .ref q_t_likelyThen, .int v_t_seedNow, .ref q_t_saved, .int v_t_keptMany, .int v_t_keptByHands, .int v_t_keptByMould, .ref q_t_keptRows, .ref q_t_keptDebts, .long v_t_hash])), (q_t_rows, .inl (cI, 80, .inl v_t_rows)), (q_t_saved, .inl (cI, 80, .inl v_t_saved))] (As := [.long ((x4 : Int32).toInt64), .long 0, .long 2]) (rest := []) (rv := (some (.int (fX11_in ((x4 : Int32).toInt64) 0 2)))) (c_X11_in l D cI cJ ((x4 : Int32).toInt64) 0 2) ⟨hx, hb, hml, hown, hts⟩ (va_cwS 3 hts gX11_months_X11_in rfl rfl rfl (by decide +kernel) ⟨(Nat.le_of_ble_eq_true rfl), (Nat.le_of_ble_eq_true rfl)⟩) hK hN hP hD hS [] rfl (by decide) rfl rfl rfl rfl hl.1 rfl (Nat.le_of_ble_eq_true rfl) dX11_months_35 ⟨Nat.zero_le _, Nat.zero_le _⟩ (fun H locs hP hD hS => ?_)
        show W p l e ({ frames := 3, cells := 0, slots := 0, locals := 68 } : Room) s m args below meth c H locs 0 0 Q0 (F0 m 38 ls [.int (fX11_in ((x4 : Int32).toInt64) 0 2)])
        refine lv_if_ne (tgt := 44) hx hb dX11_months_38 (by decide) (fun c4 => ?_) (fun c4 => ?_)
        · skip
          have h := (if_neg c4).symm.trans h
          refine lv_aload_n hx hb dX11_months_44 rfl (lv_at hl 0 rfl) ?_
          refine va_get (own := RX11) (ci := 10) (v := .ref q_t_rows) (C := RX11) (T := TX11) (N := 25) hx hb hts iX11 hown hK hP 0 rfl rfl 9 (by decide) k19 (fun _ h9 => h9) rfl dX11_months_45 ?_
          refine lv_aload_n hx hb dX11_months_48 rfl (lv_at hl 0 rfl) ?_
          refine va_get (own := RX11) (ci := 10) (v := .ref q_t_saved) (C := RX11) (T := TX11) (N := 25) hx hb hts iX11 hown hK hP 0 rfl rfl 18 (by decide) k41 (fun _ h9 => h9) rfl dX11_months_49 ?_
          obtain ⟨u5, g6, h⟩ := bd_of h
          refine cl_S [(q_t, .inr (10, [.ref q_t_page, .int v_t_pageMany, .ref q_t_readKinds, .ref q_t_readLeaflets, .int v_t_readMany, .int v_t_told, .int v_t_many, .int v_t_lostByHands, .int v_t_lostByMould, .ref q_t_rows, .ref q_t_debts, .int v_t_ringMany, .ref q_t_ring, .ref q_t_line, .ref q_t_groups, .ref q_t_likely, .ref q_t_likelyThen, .int v_t_seedNow, .ref q_t_saved, .int v_t_keptMany, .int v_t_keptByHands, .int v_t_keptByMould, .ref q_t_keptRows, .ref q_t_keptDebts, .long v_t_hash])), (q_t_rows, .inl (cI, 80, .inl v_t_rows)), (q_t_saved, .inl (cI, 80, .inl u5))] (As := [.ref q_t_rows, .ref q_t_saved]) (rest := []) (rv := none) (c_X11_copy l D cI cJ q_t_rows q_t_saved 80 80 v_t_rows v_t_saved u5 g6) ⟨hx, hb, hml, hown, hts⟩ (va_cwS 2 hts gX11_months_X11_copy rfl rfl rfl (by decide +kernel) ⟨(Nat.le_of_ble_eq_true rfl), (Nat.le_of_ble_eq_true rfl)⟩) hK hN hP hD hS [1, 2] rfl (by decide) rfl rfl rfl rfl hl.1 rfl (Nat.le_of_ble_eq_true rfl) dX11_months_52 ⟨Nat.zero_le _, Nat.zero_le _⟩ (fun H locs hP hD hS => ?_)
          show W p l e ({ frames := 3, cells := 0, slots := 0, locals := 68 } : Room) s m args below meth c H locs 0 0 Q0 (F0 m 55 ls [])
          refine lv_aload_n hx hb dX11_months_55 rfl (lv_at hl 0 rfl) ?_
          refine lv_iload_n hx hb dX11_months_56 rfl (lv_at hl 3 rfl) ?_
          refine va_put (D := D) (own := RX11) (ci := 10) (v := .int x3) (ty := .int) (C := RX11) (T := TX11) (N := 25) hx hb hts iX11 tyX11 tyX11_ok nmX11 hown hK hP hD hS 0 rfl rfl 17 (by decide) k198 (fun _ h9 => h9) rfl (by decide +kernel) rfl rfl (Nat.le_of_ble_eq_true rfl) dX11_months_57 (fun H locs hP hD hS => ?_)
          have hP : va_P D vwCl [(q_t, .inr (10, [.ref q_t_page, .int v_t_pageMany, .ref q_t_readKinds, .ref q_t_readLeaflets, .int v_t_readMany, .int v_t_told, .int v_t_many, .int v_t_lostByHands, .int v_t_lostByMould, .ref q_t_rows, .ref q_t_debts, .int v_t_ringMany, .ref q_t_ring, .ref q_t_line, .ref q_t_groups, .ref q_t_likely, .ref q_t_likelyThen, .int x3, .ref q_t_saved, .int v_t_keptMany, .int v_t_keptByHands, .int v_t_keptByMould, .ref q_t_keptRows, .ref q_t_keptDebts, .long v_t_hash])), (q_t_rows, .inl (cI, 80, .inl v_t_rows)), (q_t_saved, .inl (cI, 80, .inl u5))] H := hP
          have hD : va_D A0 [(q_t, .inr (10, [.ref q_t_page, .int v_t_pageMany, .ref q_t_readKinds, .ref q_t_readLeaflets, .int v_t_readMany, .int v_t_told, .int v_t_many, .int v_t_lostByHands, .int v_t_lostByMould, .ref q_t_rows, .ref q_t_debts, .int v_t_ringMany, .ref q_t_ring, .ref q_t_line, .ref q_t_groups, .ref q_t_likely, .ref q_t_likelyThen, .int x3, .ref q_t_saved, .int v_t_keptMany, .int v_t_keptByHands, .int v_t_keptByMould, .ref q_t_keptRows, .ref q_t_keptDebts, .long v_t_hash])), (q_t_rows, .inl (cI, 80, .inl v_t_rows)), (q_t_saved, .inl (cI, 80, .inl u5))] := hD
          refine lv_iconst (v := 0) hx hb dX11_months_60 (by decide) ?_
          refine lv_istore (lv' := [(5, .int 0), (0, .ref q_t), (1, .int x1), (2, .int x2), (3, .int x3), (4, .int x4)]) hx hb dX11_months_61 hl (by decide) rfl (fun ls hl => ?_)
          refine lv_iconst (v := 0) hx hb dX11_months_63 (by decide) ?_
          refine lv_istore (lv' := [(6, .int 0), (5, .int 0), (0, .ref q_t), (1, .int x1), (2, .int x2), (3, .int x3), (4, .int x4)]) hx hb dX11_months_64 hl (by decide) rfl (fun ls hl => ?_)
          obtain ⟨e8, he_e8, hc_e8⟩ := bd_of h
          have X181_10 : ∀ (a9 : Int32 × Int32 × (Nat → Int32)) (H : Heap) (locs : List Loc) (ls : Array Slot), fX11_months_X66_181 v_t_pageMany v_t_readMany v_t_told v_t_many v_t_lostByHands v_t_lostByMould v_t_ringMany v_t_keptMany v_t_keptByHands v_t_keptByMould v_t_hash x4 u5 a9 = some z → va_P D vwCl [(q_t, .inr (10, [.ref q_t_page, .int v_t_pageMany, .ref q_t_readKinds, .ref q_t_readLeaflets, .int v_t_readMany, .int v_t_told, .int v_t_many, .int v_t_lostByHands, .int v_t_lostByMould, .ref q_t_rows, .ref q_t_debts, .int v_t_ringMany, .ref q_t_ring, .ref q_t_line, .ref q_t_groups, .ref q_t_likely, .ref q_t_likelyThen, .int a9.2.1, .ref q_t_saved, .int v_t_keptMany, .int v_t_keptByHands, .int v_t_keptByMould, .ref q_t_keptRows, .ref q_t_keptDebts, .long v_t_hash])), (q_t_rows, .inl (cI, 80, .inl a9.2.2)), (q_t_saved, .inl (cI, 80, .inl u5))] H → va_D A0 [(q_t, .inr (10, [.ref q_t_page, .int v_t_pageMany, .ref q_t_readKinds, .ref q_t_readLeaflets, .int v_t_readMany, .int v_t_told, .int v_t_many, .int v_t_lostByHands, .int v_t_lostByMould, .ref q_t_rows, .ref q_t_debts, .int v_t_ringMany, .ref q_t_ring, .ref q_t_line, .ref q_t_groups, .ref q_t_likely, .ref q_t_likelyThen, .int a9.2.1, .ref q_t_saved, .int v_t_keptMany, .int v_t_keptByHands, .int v_t_keptByMould, .ref q_t_keptRows, .ref q_t_keptDebts, .long v_t_hash])), (q_t_rows, .inl (cI, 80, .inl a9.2.2)), (q_t_saved, .inl (cI, 80, .inl u5))] → va_S A0 s.heap H locs → lv_has ls 11 [(0, .ref q_t), (4, .int x4), (5, .int a9.1)] → W p l e ({ frames := 3, cells := 0, slots := 0, locals := 68 } : Room) s m args below meth c H locs 0 0 Q0 (F0 m 181 ls []) := by
            intro a9 H locs ls h hP hD hS hl
            unfold fX11_months_X66_181 at h
            refine lv_aload_n hx hb dX11_months_181 rfl (lv_at hl 0 rfl) ?_
            obtain ⟨u11, g12, h⟩ := bd_of h
            refine cl_V [(q_t, .inr (10, [.ref q_t_page, .int v_t_pageMany, .ref q_t_readKinds, .ref q_t_readLeaflets, .int v_t_readMany, .int v_t_told, .int v_t_many, .int v_t_lostByHands, .int v_t_lostByMould, .ref q_t_rows, .ref q_t_debts, .int v_t_ringMany, .ref q_t_ring, .ref q_t_line, .ref q_t_groups, .ref q_t_likely, .ref q_t_likelyThen, .int a9.2.1, .ref q_t_saved, .int v_t_keptMany, .int v_t_keptByHands, .int v_t_keptByMould, .ref q_t_keptRows, .ref q_t_keptDebts, .long v_t_hash])), (q_t_rows, .inl (cI, 80, .inl a9.2.2)), (q_t_saved, .inl (cI, 80, .inl u5))] (As := []) (rest := []) (rv := (some (.int u11))) (c_X11_together l D cI cJ q_t q_t_page q_t_readKinds q_t_readLeaflets q_t_rows q_t_debts q_t_ring q_t_line q_t_groups q_t_likely q_t_likelyThen q_t_saved q_t_keptRows q_t_keptDebts v_t_pageMany v_t_readMany v_t_told v_t_many v_t_lostByHands v_t_lostByMould v_t_ringMany a9.2.1 v_t_keptMany v_t_keptByHands v_t_keptByMould v_t_hash a9.2.2 u11 g12) ⟨hx, hb, hml, hown, hts⟩ (cwV 0 hts gX11_months_X11_together rfl rfl rfl (by decide +kernel) ⟨(Nat.le_of_ble_eq_true rfl), (Nat.le_of_ble_eq_true rfl)⟩) hK hN hP hD hS [0, 1] rfl (by decide) rfl rfl rfl (q0 := 0) (ci := 10) rfl rfl rfl rfl hl.1 rfl (Nat.le_of_ble_eq_true rfl) dX11_months_182 ⟨Nat.zero_le _, Nat.zero_le _⟩ (fun H locs hP hD hS => ?_)
            show W p l e ({ frames := 3, cells := 0, slots := 0, locals := 68 } : Room) s m args below meth c H locs 0 0 Q0 (F0 m 185 ls [.int u11])
            refine lv_istore (lv' := [(6, .int u11), (0, .ref q_t), (4, .int x4), (5, .int a9.1)]) hx hb dX11_months_185 hl (by decide) rfl (fun ls hl => ?_)
            refine lv_aload_n hx hb dX11_months_187 rfl (lv_at hl 1 rfl) ?_
            refine va_get (own := RX11) (ci := 10) (v := .ref q_t_saved) (C := RX11) (T := TX11) (N := 25) hx hb hts iX11 hown hK hP 0 rfl rfl 18 (by decide) k41 (fun _ h9 => h9) rfl dX11_months_188 ?_
            refine lv_aload_n hx hb dX11_months_191 rfl (lv_at hl 1 rfl) ?_
            refine va_get (own := RX11) (ci := 10) (v := .ref q_t_rows) (C := RX11) (T := TX11) (N := 25) hx hb hts iX11 hown hK hP 0 rfl rfl 9 (by decide) k19 (fun _ h9 => h9) rfl dX11_months_192 ?_
            obtain ⟨u13, g14, h⟩ := bd_of h
            refine cl_S [(q_t, .inr (10, [.ref q_t_page, .int v_t_pageMany, .ref q_t_readKinds, .ref q_t_readLeaflets, .int v_t_readMany, .int v_t_told, .int v_t_many, .int v_t_lostByHands, .int v_t_lostByMould, .ref q_t_rows, .ref q_t_debts, .int v_t_ringMany, .ref q_t_ring, .ref q_t_line, .ref q_t_groups, .ref q_t_likely, .ref q_t_likelyThen, .int a9.2.1, .ref q_t_saved, .int v_t_keptMany, .int v_t_keptByHands, .int v_t_keptByMould, .ref q_t_keptRows, .ref q_t_keptDebts, .long v_t_hash])), (q_t_rows, .inl (cI, 80, .inl u13)), (q_t_saved, .inl (cI, 80, .inl u5))] (As := [.ref q_t_saved, .ref q_t_rows]) (rest := []) (rv := none) (c_X11_copy l D cI cJ q_t_saved q_t_rows 80 80 u5 a9.2.2 u13 g14) ⟨hx, hb, hml, hown, hts⟩ (va_cwS 2 hts gX11_months_X11_copy rfl rfl rfl (by decide +kernel) ⟨(Nat.le_of_ble_eq_true rfl), (Nat.le_of_ble_eq_true rfl)⟩) hK hN hP hD hS [2, 1] rfl (by decide) rfl rfl rfl rfl hl.1 rfl (Nat.le_of_ble_eq_true rfl) dX11_months_195 ⟨Nat.zero_le _, Nat.zero_le _⟩ (fun H locs hP hD hS => ?_)
            show W p l e ({ frames := 3, cells := 0, slots := 0, locals := 68 } : Room) s m args below meth c H locs 0 0 Q0 (F0 m 198 ls [])
            refine lv_iload hx hb dX11_months_198 (lv_at hl 2 rfl) ?_
            refine lv_if_ne (tgt := 208) hx hb dX11_months_200 (by decide) (fun c15 => ?_) (fun c15 => ?_)
            · skip
              have h := (if_neg c15).symm.trans h
              refine lv_iload hx hb dX11_months_208 (lv_at hl 2 rfl) ?_
              refine lv_iconst (v := 1) hx hb dX11_months_210 (by decide) ?_
              refine lv_icmp_ne (tgt := 219) hx hb dX11_months_211 (by decide) (fun c16 => ?_) (fun c16 => ?_)
              · skip
                have h := (if_neg c16).symm.trans h
                refine lv_aload_n hx hb dX11_months_219 rfl (lv_at hl 1 rfl) ?_
                refine va_get (own := RX11) (ci := 10) (v := .int a9.2.1) (C := RX11) (T := TX11) (N := 25) hx hb hts iX11 hown hK hP 0 rfl rfl 17 (by decide) k198 (fun _ h9 => h9) rfl dX11_months_220 ?_
                obtain rfl := Option.some.inj h
                exact rt_i hA0 hQ0 hx hb hr hlocks hP hS dX11_months_223
              · skip
                have h := (if_pos c16).symm.trans h
                refine lv_iload hx hb dX11_months_214 (lv_at hl 3 rfl) ?_
                refine lv_goto (tgt := 223) hx hb dX11_months_216 (by decide) ?_
                obtain rfl := Option.some.inj h
                exact rt_i hA0 hQ0 hx hb hr hlocks hP hS dX11_months_223
            · skip
              have h := (if_pos c15).symm.trans h
              refine lv_iload hx hb dX11_months_203 (lv_at hl 0 rfl) ?_
              refine lv_goto (tgt := 223) hx hb dX11_months_205 (by decide) ?_
              obtain rfl := Option.some.inj h
              exact rt_i hA0 hQ0 hx hb hr hlocks hP hS dX11_months_223
          have L66_17 : ∀ (n : Nat) (z7 : Int32 × Int32 × Int32 × (Nat → Int32)) (H : Heap) (locs : List Loc) (ls : Array Slot), iter (fX11_months_L66 v_t_pageMany v_t_readMany v_t_told v_t_many v_t_lostByHands v_t_lostByMould v_t_ringMany v_t_keptMany v_t_keptByHands v_t_keptByMould v_t_hash x1 x2) n z7 = some e8 → va_P D vwCl [(q_t, .inr (10, [.ref q_t_page, .int v_t_pageMany, .ref q_t_readKinds, .ref q_t_readLeaflets, .int v_t_readMany, .int v_t_told, .int v_t_many, .int v_t_lostByHands, .int v_t_lostByMould, .ref q_t_rows, .ref q_t_debts, .int v_t_ringMany, .ref q_t_ring, .ref q_t_line, .ref q_t_groups, .ref q_t_likely, .ref q_t_likelyThen, .int z7.2.2.1, .ref q_t_saved, .int v_t_keptMany, .int v_t_keptByHands, .int v_t_keptByMould, .ref q_t_keptRows, .ref q_t_keptDebts, .long v_t_hash])), (q_t_rows, .inl (cI, 80, .inl z7.2.2.2)), (q_t_saved, .inl (cI, 80, .inl u5))] H → va_D A0 [(q_t, .inr (10, [.ref q_t_page, .int v_t_pageMany, .ref q_t_readKinds, .ref q_t_readLeaflets, .int v_t_readMany, .int v_t_told, .int v_t_many, .int v_t_lostByHands, .int v_t_lostByMould, .ref q_t_rows, .ref q_t_debts, .int v_t_ringMany, .ref q_t_ring, .ref q_t_line, .ref q_t_groups, .ref q_t_likely, .ref q_t_likelyThen, .int z7.2.2.1, .ref q_t_saved, .int v_t_keptMany, .int v_t_keptByHands, .int v_t_keptByMould, .ref q_t_keptRows, .ref q_t_keptDebts, .long v_t_hash])), (q_t_rows, .inl (cI, 80, .inl z7.2.2.2)), (q_t_saved, .inl (cI, 80, .inl u5))] → va_S A0 s.heap H locs → lv_has ls 11 [(0, .ref q_t), (1, .int x1), (2, .int x2), (4, .int x4), (5, .int z7.1), (6, .int z7.2.1)] → W p l e ({ frames := 3, cells := 0, slots := 0, locals := 68 } : Room) s m args below meth c H locs 0 0 Q0 (F0 m 66 ls []) := by
            intro n
            induction n with
            | zero => exact fun _ _ _ _ h => (iter_z h).elim
            | succ n ih =>
              intro z7 H locs ls h hP hD hS hl
              obtain ⟨r_e8, h, hn_e8⟩ := iter_s h
              unfold fX11_months_L66 at h
              refine lv_iload hx hb dX11_months_66 (lv_at hl 5 rfl) ?_
              refine lv_iload_n hx hb dX11_months_68 rfl (lv_at hl 1 rfl) ?_
              refine lv_icmp_ge (tgt := 181) hx hb dX11_months_69 (by decide) (fun c18 => ?_) (fun c18 => ?_)
              · skip
                have h := (if_pos c18).symm.trans h
                obtain rfl := Option.some.inj h
                obtain rfl := Option.some.inj hn_e8
                exact X181_10 (z7.1, z7.2.2.1, z7.2.2.2) _ _ _ hc_e8 hP hD hS (lv_sub hl [0, 3, 4] rfl)
              · skip
                have h := (if_neg c18).symm.trans h
                refine lv_aload_n hx hb dX11_months_72 rfl (lv_at hl 0 rfl) ?_
                refine lv_bipush (v := 10) hx hb dX11_months_73 (by decide) ?_
                obtain ⟨u19, g20, h⟩ := bd_of h
                refine cl_V [(q_t, .inr (10, [.ref q_t_page, .int v_t_pageMany, .ref q_t_readKinds, .ref q_t_readLeaflets, .int v_t_readMany, .int v_t_told, .int v_t_many, .int v_t_lostByHands, .int v_t_lostByMould, .ref q_t_rows, .ref q_t_debts, .int v_t_ringMany, .ref q_t_ring, .ref q_t_line, .ref q_t_groups, .ref q_t_likely, .ref q_t_likelyThen, .int u19.2, .ref q_t_saved, .int v_t_keptMany, .int v_t_keptByHands, .int v_t_keptByMould, .ref q_t_keptRows, .ref q_t_keptDebts, .long v_t_hash])), (q_t_rows, .inl (cI, 80, .inl z7.2.2.2)), (q_t_saved, .inl (cI, 80, .inl u5))] (As := [.int 10]) (rest := []) (rv := (some (.int u19.1))) (c_X11_draw l D cI cJ q_t q_t_page q_t_readKinds q_t_readLeaflets q_t_rows q_t_debts q_t_ring q_t_line q_t_groups q_t_likely q_t_likelyThen q_t_saved q_t_keptRows q_t_keptDebts v_t_pageMany v_t_readMany v_t_told v_t_many v_t_lostByHands v_t_lostByMould v_t_ringMany z7.2.2.1 v_t_keptMany v_t_keptByHands v_t_keptByMould v_t_hash 10 u19 g20) ⟨hx, hb, hml, hown, hts⟩ (cwV 1 hts gX11_months_X11_draw rfl rfl rfl (by decide +kernel) ⟨(Nat.le_of_ble_eq_true rfl), (Nat.le_of_ble_eq_true rfl)⟩) hK hN hP hD hS [0] rfl (by decide) rfl rfl rfl (q0 := 0) (ci := 10) rfl rfl rfl rfl hl.1 rfl (Nat.le_of_ble_eq_true rfl) dX11_months_75 ⟨Nat.zero_le _, Nat.zero_le _⟩ (fun H locs hP hD hS => ?_)
                show W p l e ({ frames := 3, cells := 0, slots := 0, locals := 68 } : Room) s m args below meth c H locs 0 0 Q0 (F0 m 78 ls [.int u19.1])
                refine lv_iload_n hx hb dX11_months_78 rfl (lv_at hl 2 rfl) ?_
                have J91_22 : ∀ (a21 : Int32 × (Nat → Int32)) (H : Heap) (locs : List Loc) (ls : Array Slot), fX11_months_J91 v_t_pageMany v_t_readMany v_t_told v_t_many v_t_lostByHands v_t_lostByMould v_t_ringMany v_t_keptMany v_t_keptByHands v_t_keptByMould v_t_hash z7 u19 a21 = some r_e8 → va_P D vwCl [(q_t, .inr (10, [.ref q_t_page, .int v_t_pageMany, .ref q_t_readKinds, .ref q_t_readLeaflets, .int v_t_readMany, .int v_t_told, .int v_t_many, .int v_t_lostByHands, .int v_t_lostByMould, .ref q_t_rows, .ref q_t_debts, .int v_t_ringMany, .ref q_t_ring, .ref q_t_line, .ref q_t_groups, .ref q_t_likely, .ref q_t_likelyThen, .int u19.2, .ref q_t_saved, .int v_t_keptMany, .int v_t_keptByHands, .int v_t_keptByMould, .ref q_t_keptRows, .ref q_t_keptDebts, .long v_t_hash])), (q_t_rows, .inl (cI, 80, .inl a21.2)), (q_t_saved, .inl (cI, 80, .inl u5))] H → va_D A0 [(q_t, .inr (10, [.ref q_t_page, .int v_t_pageMany, .ref q_t_readKinds, .ref q_t_readLeaflets, .int v_t_readMany, .int v_t_told, .int v_t_many, .int v_t_lostByHands, .int v_t_lostByMould, .ref q_t_rows, .ref q_t_debts, .int v_t_ringMany, .ref q_t_ring, .ref q_t_line, .ref q_t_groups, .ref q_t_likely, .ref q_t_likelyThen, .int u19.2, .ref q_t_saved, .int v_t_keptMany, .int v_t_keptByHands, .int v_t_keptByMould, .ref q_t_keptRows, .ref q_t_keptDebts, .long v_t_hash])), (q_t_rows, .inl (cI, 80, .inl a21.2)), (q_t_saved, .inl (cI, 80, .inl u5))] → va_S A0 s.heap H locs → lv_has ls 11 [(0, .ref q_t), (1, .int x1), (2, .int x2), (4, .int x4), (5, .int a21.1), (6, .int z7.2.1)] → W p l e ({ frames := 3, cells := 0, slots := 0, locals := 68 } : Room) s m args below meth c H locs 0 0 Q0 (F0 m 91 ls []) := by
                  intro a21 H locs ls h hP hD hS hl
                  unfold fX11_months_J91 at h
                  refine lv_aload_n hx hb dX11_months_91 rfl (lv_at hl 0 rfl) ?_
                  refine va_get (own := RX11) (ci := 10) (v := .int v_t_many) (C := RX11) (T := TX11) (N := 25) hx hb hts iX11 hown hK hP 0 rfl rfl 6 (by decide) k88 (fun _ h9 => h9) rfl dX11_months_92 ?_
                  have J175_24 : ∀ (a23 : Int32 × (Nat → Int32)) (H : Heap) (locs : List Loc) (ls : Array Slot), fX11_months_J175 z7 a21 a23 = some r_e8 → va_P D vwCl [(q_t, .inr (10, [.ref q_t_page, .int v_t_pageMany, .ref q_t_readKinds, .ref q_t_readLeaflets, .int v_t_readMany, .int v_t_told, .int v_t_many, .int v_t_lostByHands, .int v_t_lostByMould, .ref q_t_rows, .ref q_t_debts, .int v_t_ringMany, .ref q_t_ring, .ref q_t_line, .ref q_t_groups, .ref q_t_likely, .ref q_t_likelyThen, .int a23.1, .ref q_t_saved, .int v_t_keptMany, .int v_t_keptByHands, .int v_t_keptByMould, .ref q_t_keptRows, .ref q_t_keptDebts, .long v_t_hash])), (q_t_rows, .inl (cI, 80, .inl a23.2)), (q_t_saved, .inl (cI, 80, .inl u5))] H → va_D A0 [(q_t, .inr (10, [.ref q_t_page, .int v_t_pageMany, .ref q_t_readKinds, .ref q_t_readLeaflets, .int v_t_readMany, .int v_t_told, .int v_t_many, .int v_t_lostByHands, .int v_t_lostByMould, .ref q_t_rows, .ref q_t_debts, .int v_t_ringMany, .ref q_t_ring, .ref q_t_line, .ref q_t_groups, .ref q_t_likely, .ref q_t_likelyThen, .int a23.1, .ref q_t_saved, .int v_t_keptMany, .int v_t_keptByHands, .int v_t_keptByMould, .ref q_t_keptRows, .ref q_t_keptDebts, .long v_t_hash])), (q_t_rows, .inl (cI, 80, .inl a23.2)), (q_t_saved, .inl (cI, 80, .inl u5))] → va_S A0 s.heap H locs → lv_has ls 11 [(0, .ref q_t), (1, .int x1), (2, .int x2), (4, .int x4), (5, .int a21.1), (6, .int z7.2.1)] → W p l e ({ frames := 3, cells := 0, slots := 0, locals := 68 } : Room) s m args below meth c H locs 0 0 Q0 (F0 m 175 ls []) := by
                    intro a23 H locs ls h hP hD hS hl
                    unfold fX11_months_J175 at h
                    refine lv_iinc (v := (z7.2.1 + 1)) (lv' := [(6, .int (z7.2.1 + 1)), (0, .ref q_t), (1, .int x1), (2, .int x2), (4, .int x4), (5, .int a21.1)]) hx hb dX11_months_175 hl (k := 5) rfl rfl (by decide) rfl (fun ls hl => ?_)
                    refine lv_goto (tgt := 66) hx hb dX11_months_178 (by decide) ?_
                    obtain rfl := Option.some.inj h
                    exact ih (a21.1, (z7.2.1 + 1), a23.1, a23.2) _ _ _ hn_e8 hP hD hS (lv_sub hl [1, 2, 3, 4, 5, 0] rfl)
                  refine lv_if_le (tgt := 175) hx hb dX11_months_95 (by decide) (fun c25 => ?_) (fun c25 => ?_)
                  · skip
                    have h := (if_pos c25).symm.trans h
                    exact J175_24 (u19.2, a21.2) _ _ _ h hP hD hS (lv_sub hl [0, 1, 2, 3, 4, 5] rfl)
                  · skip
                    have h := (if_neg c25).symm.trans h
                    refine lv_aload_n hx hb dX11_months_98 rfl (lv_at hl 0 rfl) ?_
                    refine lv_aload_n hx hb dX11_months_99 rfl (lv_at hl 0 rfl) ?_
                    refine va_get (own := RX11) (ci := 10) (v := .int v_t_many) (C := RX11) (T := TX11) (N := 25) hx hb hts iX11 hown hK hP 0 rfl rfl 6 (by decide) k88 (fun _ h9 => h9) rfl dX11_months_100 ?_
                    obtain ⟨u26, g27, h⟩ := bd_of h
                    refine cl_V [(q_t, .inr (10, [.ref q_t_page, .int v_t_pageMany, .ref q_t_readKinds, .ref q_t_readLeaflets, .int v_t_readMany, .int v_t_told, .int v_t_many, .int v_t_lostByHands, .int v_t_lostByMould, .ref q_t_rows, .ref q_t_debts, .int v_t_ringMany, .ref q_t_ring, .ref q_t_line, .ref q_t_groups, .ref q_t_likely, .ref q_t_likelyThen, .int u26.2, .ref q_t_saved, .int v_t_keptMany, .int v_t_keptByHands, .int v_t_keptByMould, .ref q_t_keptRows, .ref q_t_keptDebts, .long v_t_hash])), (q_t_rows, .inl (cI, 80, .inl a21.2)), (q_t_saved, .inl (cI, 80, .inl u5))] (As := [.int v_t_many]) (rest := []) (rv := (some (.int u26.1))) (c_X11_draw l D cI cJ q_t q_t_page q_t_readKinds q_t_readLeaflets q_t_rows q_t_debts q_t_ring q_t_line q_t_groups q_t_likely q_t_likelyThen q_t_saved q_t_keptRows q_t_keptDebts v_t_pageMany v_t_readMany v_t_told v_t_many v_t_lostByHands v_t_lostByMould v_t_ringMany u19.2 v_t_keptMany v_t_keptByHands v_t_keptByMould v_t_hash v_t_many u26 g27) ⟨hx, hb, hml, hown, hts⟩ (cwV 1 hts gX11_months_X11_draw rfl rfl rfl (by decide +kernel) ⟨(Nat.le_of_ble_eq_true rfl), (Nat.le_of_ble_eq_true rfl)⟩) hK hN hP hD hS [0] rfl (by decide) rfl rfl rfl (q0 := 0) (ci := 10) rfl rfl rfl rfl hl.1 rfl (Nat.le_of_ble_eq_true rfl) dX11_months_103 ⟨Nat.zero_le _, Nat.zero_le _⟩ (fun H locs hP hD hS => ?_)
                    show W p l e ({ frames := 3, cells := 0, slots := 0, locals := 68 } : Room) s m args below meth c H locs 0 0 Q0 (F0 m 106 ls [.int u26.1])
                    refine lv_istore (lv' := [(7, .int u26.1), (0, .ref q_t), (1, .int x1), (2, .int x2), (4, .int x4), (5, .int a21.1), (6, .int z7.2.1)]) hx hb dX11_months_106 hl (by decide) rfl (fun ls hl => ?_)
                    refine lv_aload_n hx hb dX11_months_108 rfl (lv_at hl 1 rfl) ?_
                    refine lv_bipush (v := 6) hx hb dX11_months_109 (by decide) ?_
                    obtain ⟨u28, g29, h⟩ := bd_of h
                    refine cl_V [(q_t, .inr (10, [.ref q_t_page, .int v_t_pageMany, .ref q_t_readKinds, .ref q_t_readLeaflets, .int v_t_readMany, .int v_t_told, .int v_t_many, .int v_t_lostByHands, .int v_t_lostByMould, .ref q_t_rows, .ref q_t_debts, .int v_t_ringMany, .ref q_t_ring, .ref q_t_line, .ref q_t_groups, .ref q_t_likely, .ref q_t_likelyThen, .int u28.2, .ref q_t_saved, .int v_t_keptMany, .int v_t_keptByHands, .int v_t_keptByMould, .ref q_t_keptRows, .ref q_t_keptDebts, .long v_t_hash])), (q_t_rows, .inl (cI, 80, .inl a21.2)), (q_t_saved, .inl (cI, 80, .inl u5))] (As := [.int 6]) (rest := []) (rv := (some (.int u28.1))) (c_X11_draw l D cI cJ q_t q_t_page q_t_readKinds q_t_readLeaflets q_t_rows q_t_debts q_t_ring q_t_line q_t_groups q_t_likely q_t_likelyThen q_t_saved q_t_keptRows q_t_keptDebts v_t_pageMany v_t_readMany v_t_told v_t_many v_t_lostByHands v_t_lostByMould v_t_ringMany u26.2 v_t_keptMany v_t_keptByHands v_t_keptByMould v_t_hash 6 u28 g29) ⟨hx, hb, hml, hown, hts⟩ (cwV 1 hts gX11_months_X11_draw rfl rfl rfl (by decide +kernel) ⟨(Nat.le_of_ble_eq_true rfl), (Nat.le_of_ble_eq_true rfl)⟩) hK hN hP hD hS [0] rfl (by decide) rfl rfl rfl (q0 := 0) (ci := 10) rfl rfl rfl rfl hl.1 rfl (Nat.le_of_ble_eq_true rfl) dX11_months_111 ⟨Nat.zero_le _, Nat.zero_le _⟩ (fun H locs hP hD hS => ?_)
                    show W p l e ({ frames := 3, cells := 0, slots := 0, locals := 68 } : Room) s m args below meth c H locs 0 0 Q0 (F0 m 114 ls [.int u28.1])
                    refine lv_istore (lv' := [(8, .int u28.1), (7, .int u26.1), (0, .ref q_t), (1, .int x1), (2, .int x2), (4, .int x4), (5, .int a21.1), (6, .int z7.2.1)]) hx hb dX11_months_114 hl (by decide) rfl (fun ls hl => ?_)
                    refine lv_aload_n hx hb dX11_months_116 rfl (lv_at hl 2 rfl) ?_
                    refine va_get (own := RX11) (ci := 10) (v := .ref q_t_rows) (C := RX11) (T := TX11) (N := 25) hx hb hts iX11 hown hK hP 0 rfl rfl 9 (by decide) k19 (fun _ h9 => h9) rfl dX11_months_117 ?_
                    refine lv_bipush (v := 8) hx hb dX11_months_120 (by decide) ?_
                    refine lv_iload hx hb dX11_months_122 (lv_at hl 1 rfl) ?_
                    refine lv_imul hx hb dX11_months_124 ?_
                    refine lv_iconst (v := 2) hx hb dX11_months_125 (by decide) ?_
                    refine lv_iadd hx hb dX11_months_126 ?_
                    obtain ⟨g30, h⟩ := gd_of h
                    refine va_iald hx hb hK hP 1 0 rfl rfl (inb_of g30) dX11_months_127 ?_
                    refine lv_iconst (v := (-1)) hx hb dX11_months_128 (by decide) ?_
                    have J153_32 : ∀ (a31 : Unit) (H : Heap) (locs : List Loc) (ls : Array Slot), fX11_months_J153 v_t_pageMany v_t_readMany v_t_told v_t_many v_t_lostByHands v_t_lostByMould v_t_ringMany v_t_keptMany v_t_keptByHands v_t_keptByMould v_t_hash z7 a21 u26 u28 a31 = some r_e8 → va_P D vwCl [(q_t, .inr (10, [.ref q_t_page, .int v_t_pageMany, .ref q_t_readKinds, .ref q_t_readLeaflets, .int v_t_readMany, .int v_t_told, .int v_t_many, .int v_t_lostByHands, .int v_t_lostByMould, .ref q_t_rows, .ref q_t_debts, .int v_t_ringMany, .ref q_t_ring, .ref q_t_line, .ref q_t_groups, .ref q_t_likely, .ref q_t_likelyThen, .int u28.2, .ref q_t_saved, .int v_t_keptMany, .int v_t_keptByHands, .int v_t_keptByMould, .ref q_t_keptRows, .ref q_t_keptDebts, .long v_t_hash])), (q_t_rows, .inl (cI, 80, .inl a21.2)), (q_t_saved, .inl (cI, 80, .inl u5))] H → va_D A0 [(q_t, .inr (10, [.ref q_t_page, .int v_t_pageMany, .ref q_t_readKinds, .ref q_t_readLeaflets, .int v_t_readMany, .int v_t_told, .int v_t_many, .int v_t_lostByHands, .int v_t_lostByMould, .ref q_t_rows, .ref q_t_debts, .int v_t_ringMany, .ref q_t_ring, .ref q_t_line, .ref q_t_groups, .ref q_t_likely, .ref q_t_likelyThen, .int u28.2, .ref q_t_saved, .int v_t_keptMany, .int v_t_keptByHands, .int v_t_keptByMould, .ref q_t_keptRows, .ref q_t_keptDebts, .long v_t_hash])), (q_t_rows, .inl (cI, 80, .inl a21.2)), (q_t_saved, .inl (cI, 80, .inl u5))] → va_S A0 s.heap H locs → lv_has ls 11 [(0, .ref q_t), (1, .int x1), (2, .int x2), (4, .int x4), (5, .int a21.1), (6, .int z7.2.1), (7, .int u26.1), (8, .int u28.1)] → W p l e ({ frames := 3, cells := 0, slots := 0, locals := 68 } : Room) s m args below meth c H locs 0 0 Q0 (F0 m 153 ls []) := by
                      intro a31 H locs ls h hP hD hS hl
                      unfold fX11_months_J153 at h
                      refine lv_iconst (v := 0) hx hb dX11_months_153 (by decide) ?_
                      refine lv_istore (lv' := [(9, .int 0), (0, .ref q_t), (1, .int x1), (2, .int x2), (4, .int x4), (5, .int a21.1), (6, .int z7.2.1), (7, .int u26.1), (8, .int u28.1)]) hx hb dX11_months_154 hl (by decide) rfl (fun ls hl => ?_)
                      refine lv_iload hx hb dX11_months_156 (lv_at hl 0 rfl) ?_
                      have J173_34 : ∀ (a33 : Int32 × (Nat → Int32)) (H : Heap) (locs : List Loc) (ls : Array Slot), fX11_months_J173 z7 a21 u28 a33 = some r_e8 → va_P D vwCl [(q_t, .inr (10, [.ref q_t_page, .int v_t_pageMany, .ref q_t_readKinds, .ref q_t_readLeaflets, .int v_t_readMany, .int v_t_told, .int v_t_many, .int v_t_lostByHands, .int v_t_lostByMould, .ref q_t_rows, .ref q_t_debts, .int v_t_ringMany, .ref q_t_ring, .ref q_t_line, .ref q_t_groups, .ref q_t_likely, .ref q_t_likelyThen, .int u28.2, .ref q_t_saved, .int v_t_keptMany, .int v_t_keptByHands, .int v_t_keptByMould, .ref q_t_keptRows, .ref q_t_keptDebts, .long v_t_hash])), (q_t_rows, .inl (cI, 80, .inl a33.2)), (q_t_saved, .inl (cI, 80, .inl u5))] H → va_D A0 [(q_t, .inr (10, [.ref q_t_page, .int v_t_pageMany, .ref q_t_readKinds, .ref q_t_readLeaflets, .int v_t_readMany, .int v_t_told, .int v_t_many, .int v_t_lostByHands, .int v_t_lostByMould, .ref q_t_rows, .ref q_t_debts, .int v_t_ringMany, .ref q_t_ring, .ref q_t_line, .ref q_t_groups, .ref q_t_likely, .ref q_t_likelyThen, .int u28.2, .ref q_t_saved, .int v_t_keptMany, .int v_t_keptByHands, .int v_t_keptByMould, .ref q_t_keptRows, .ref q_t_keptDebts, .long v_t_hash])), (q_t_rows, .inl (cI, 80, .inl a33.2)), (q_t_saved, .inl (cI, 80, .inl u5))] → va_S A0 s.heap H locs → lv_has ls 11 [(0, .ref q_t), (1, .int x1), (2, .int x2), (4, .int x4), (5, .int a21.1), (6, .int z7.2.1)] → W p l e ({ frames := 3, cells := 0, slots := 0, locals := 68 } : Room) s m args below meth c H locs 0 0 Q0 (F0 m 173 ls [.int a33.1]) := by
                        intro a33 H locs ls h hP hD hS hl
                        unfold fX11_months_J173 at h
                        refine lv_istore (lv' := [(10, .int a33.1), (0, .ref q_t), (1, .int x1), (2, .int x2), (4, .int x4), (5, .int a21.1), (6, .int z7.2.1)]) hx hb dX11_months_173 hl (by decide) rfl (fun ls hl => ?_)
                        exact J175_24 (u28.2, a33.2) _ _ _ h hP hD hS (lv_sub hl [1, 2, 3, 4, 5, 6] rfl)
                      refine lv_if_eq (tgt := 172) hx hb dX11_months_158 (by decide) (fun c35 => ?_) (fun c35 => ?_)
                      · skip
                        have h := (if_pos c35).symm.trans h
                        refine lv_iconst (v := 0) hx hb dX11_months_172 (by decide) ?_
                        exact J173_34 (0, a21.2) _ _ _ h hP hD hS (lv_sub hl [1, 2, 3, 4, 5, 6] rfl)
                      · skip
                        have h := (if_neg c35).symm.trans h
                        refine lv_aload_n hx hb dX11_months_161 rfl (lv_at hl 1 rfl) ?_
                        refine lv_iload hx hb dX11_months_162 (lv_at hl 7 rfl) ?_
                        refine lv_iload hx hb dX11_months_164 (lv_at hl 8 rfl) ?_
                        obtain ⟨u36, g37, h⟩ := bd_of h
                        refine cl_V [(q_t, .inr (10, [.ref q_t_page, .int v_t_pageMany, .ref q_t_readKinds, .ref q_t_readLeaflets, .int v_t_readMany, .int v_t_told, .int v_t_many, .int v_t_lostByHands, .int v_t_lostByMould, .ref q_t_rows, .ref q_t_debts, .int v_t_ringMany, .ref q_t_ring, .ref q_t_line, .ref q_t_groups, .ref q_t_likely, .ref q_t_likelyThen, .int u28.2, .ref q_t_saved, .int v_t_keptMany, .int v_t_keptByHands, .int v_t_keptByMould, .ref q_t_keptRows, .ref q_t_keptDebts, .long v_t_hash])), (q_t_rows, .inl (cI, 80, .inl u36.2)), (q_t_saved, .inl (cI, 80, .inl u5))] (As := [.int u26.1, .int u28.1]) (rest := []) (rv := (some (.int u36.1))) (c_X11_hand l D cI cJ q_t q_t_page q_t_readKinds q_t_readLeaflets q_t_rows q_t_debts q_t_ring q_t_line q_t_groups q_t_likely q_t_likelyThen q_t_saved q_t_keptRows q_t_keptDebts v_t_pageMany v_t_readMany v_t_told v_t_many v_t_lostByHands v_t_lostByMould v_t_ringMany u28.2 v_t_keptMany v_t_keptByHands v_t_keptByMould v_t_hash a21.2 u26.1 u28.1 u36 g37) ⟨hx, hb, hml, hown, hts⟩ (cwV 2 hts gX11_months_X11_hand rfl rfl rfl (by decide +kernel) ⟨(Nat.le_of_ble_eq_true rfl), (Nat.le_of_ble_eq_true rfl)⟩) hK hN hP hD hS [0, 1] rfl (by decide) rfl rfl rfl (q0 := 0) (ci := 10) rfl rfl rfl rfl hl.1 rfl (Nat.le_of_ble_eq_true rfl) dX11_months_166 ⟨Nat.zero_le _, Nat.zero_le _⟩ (fun H locs hP hD hS => ?_)
                        show W p l e ({ frames := 3, cells := 0, slots := 0, locals := 68 } : Room) s m args below meth c H locs 0 0 Q0 (F0 m 169 ls [.int u36.1])
                        refine lv_goto (tgt := 173) hx hb dX11_months_169 (by decide) ?_
                        exact J173_34 (u36.1, u36.2) _ _ _ h hP hD hS (lv_sub hl [1, 2, 3, 4, 5, 6] rfl)
                    have J154_39 : ∀ (a38 : Int32) (H : Heap) (locs : List Loc) (ls : Array Slot), fX11_months_J154 v_t_pageMany v_t_readMany v_t_told v_t_many v_t_lostByHands v_t_lostByMould v_t_ringMany v_t_keptMany v_t_keptByHands v_t_keptByMould v_t_hash z7 a21 u26 u28 a38 = some r_e8 → va_P D vwCl [(q_t, .inr (10, [.ref q_t_page, .int v_t_pageMany, .ref q_t_readKinds, .ref q_t_readLeaflets, .int v_t_readMany, .int v_t_told, .int v_t_many, .int v_t_lostByHands, .int v_t_lostByMould, .ref q_t_rows, .ref q_t_debts, .int v_t_ringMany, .ref q_t_ring, .ref q_t_line, .ref q_t_groups, .ref q_t_likely, .ref q_t_likelyThen, .int u28.2, .ref q_t_saved, .int v_t_keptMany, .int v_t_keptByHands, .int v_t_keptByMould, .ref q_t_keptRows, .ref q_t_keptDebts, .long v_t_hash])), (q_t_rows, .inl (cI, 80, .inl a21.2)), (q_t_saved, .inl (cI, 80, .inl u5))] H → va_D A0 [(q_t, .inr (10, [.ref q_t_page, .int v_t_pageMany, .ref q_t_readKinds, .ref q_t_readLeaflets, .int v_t_readMany, .int v_t_told, .int v_t_many, .int v_t_lostByHands, .int v_t_lostByMould, .ref q_t_rows, .ref q_t_debts, .int v_t_ringMany, .ref q_t_ring, .ref q_t_line, .ref q_t_groups, .ref q_t_likely, .ref q_t_likelyThen, .int u28.2, .ref q_t_saved, .int v_t_keptMany, .int v_t_keptByHands, .int v_t_keptByMould, .ref q_t_keptRows, .ref q_t_keptDebts, .long v_t_hash])), (q_t_rows, .inl (cI, 80, .inl a21.2)), (q_t_saved, .inl (cI, 80, .inl u5))] → va_S A0 s.heap H locs → lv_has ls 11 [(0, .ref q_t), (1, .int x1), (2, .int x2), (4, .int x4), (5, .int a21.1), (6, .int z7.2.1), (7, .int u26.1), (8, .int u28.1)] → W p l e ({ frames := 3, cells := 0, slots := 0, locals := 68 } : Room) s m args below meth c H locs 0 0 Q0 (F0 m 154 ls [.int a38]) := by
                      intro a38 H locs ls h hP hD hS hl
                      unfold fX11_months_J154 at h
                      refine lv_istore (lv' := [(9, .int a38), (0, .ref q_t), (1, .int x1), (2, .int x2), (4, .int x4), (5, .int a21.1), (6, .int z7.2.1), (7, .int u26.1), (8, .int u28.1)]) hx hb dX11_months_154 hl (by decide) rfl (fun ls hl => ?_)
                      refine lv_iload hx hb dX11_months_156 (lv_at hl 0 rfl) ?_
                      have J173_41 : ∀ (a40 : Int32 × (Nat → Int32)) (H : Heap) (locs : List Loc) (ls : Array Slot), fX11_months_J173a z7 a21 u28 a40 = some r_e8 → va_P D vwCl [(q_t, .inr (10, [.ref q_t_page, .int v_t_pageMany, .ref q_t_readKinds, .ref q_t_readLeaflets, .int v_t_readMany, .int v_t_told, .int v_t_many, .int v_t_lostByHands, .int v_t_lostByMould, .ref q_t_rows, .ref q_t_debts, .int v_t_ringMany, .ref q_t_ring, .ref q_t_line, .ref q_t_groups, .ref q_t_likely, .ref q_t_likelyThen, .int u28.2, .ref q_t_saved, .int v_t_keptMany, .int v_t_keptByHands, .int v_t_keptByMould, .ref q_t_keptRows, .ref q_t_keptDebts, .long v_t_hash])), (q_t_rows, .inl (cI, 80, .inl a40.2)), (q_t_saved, .inl (cI, 80, .inl u5))] H → va_D A0 [(q_t, .inr (10, [.ref q_t_page, .int v_t_pageMany, .ref q_t_readKinds, .ref q_t_readLeaflets, .int v_t_readMany, .int v_t_told, .int v_t_many, .int v_t_lostByHands, .int v_t_lostByMould, .ref q_t_rows, .ref q_t_debts, .int v_t_ringMany, .ref q_t_ring, .ref q_t_line, .ref q_t_groups, .ref q_t_likely, .ref q_t_likelyThen, .int u28.2, .ref q_t_saved, .int v_t_keptMany, .int v_t_keptByHands, .int v_t_keptByMould, .ref q_t_keptRows, .ref q_t_keptDebts, .long v_t_hash])), (q_t_rows, .inl (cI, 80, .inl a40.2)), (q_t_saved, .inl (cI, 80, .inl u5))] → va_S A0 s.heap H locs → lv_has ls 11 [(0, .ref q_t), (1, .int x1), (2, .int x2), (4, .int x4), (5, .int a21.1), (6, .int z7.2.1)] → W p l e ({ frames := 3, cells := 0, slots := 0, locals := 68 } : Room) s m args below meth c H locs 0 0 Q0 (F0 m 173 ls [.int a40.1]) := by
                        intro a40 H locs ls h hP hD hS hl
                        unfold fX11_months_J173a at h
                        refine lv_istore (lv' := [(10, .int a40.1), (0, .ref q_t), (1, .int x1), (2, .int x2), (4, .int x4), (5, .int a21.1), (6, .int z7.2.1)]) hx hb dX11_months_173 hl (by decide) rfl (fun ls hl => ?_)
                        exact J175_24 (u28.2, a40.2) _ _ _ h hP hD hS (lv_sub hl [1, 2, 3, 4, 5, 6] rfl)
                      refine lv_if_eq (tgt := 172) hx hb dX11_months_158 (by decide) (fun c42 => ?_) (fun c42 => ?_)
                      · skip
                        have h := (if_pos c42).symm.trans h
                        refine lv_iconst (v := 0) hx hb dX11_months_172 (by decide) ?_
                        exact J173_41 (0, a21.2) _ _ _ h hP hD hS (lv_sub hl [1, 2, 3, 4, 5, 6] rfl)
                      · skip
                        have h := (if_neg c42).symm.trans h
                        refine lv_aload_n hx hb dX11_months_161 rfl (lv_at hl 1 rfl) ?_
                        refine lv_iload hx hb dX11_months_162 (lv_at hl 7 rfl) ?_
                        refine lv_iload hx hb dX11_months_164 (lv_at hl 8 rfl) ?_
                        obtain ⟨u43, g44, h⟩ := bd_of h
                        refine cl_V [(q_t, .inr (10, [.ref q_t_page, .int v_t_pageMany, .ref q_t_readKinds, .ref q_t_readLeaflets, .int v_t_readMany, .int v_t_told, .int v_t_many, .int v_t_lostByHands, .int v_t_lostByMould, .ref q_t_rows, .ref q_t_debts, .int v_t_ringMany, .ref q_t_ring, .ref q_t_line, .ref q_t_groups, .ref q_t_likely, .ref q_t_likelyThen, .int u28.2, .ref q_t_saved, .int v_t_keptMany, .int v_t_keptByHands, .int v_t_keptByMould, .ref q_t_keptRows, .ref q_t_keptDebts, .long v_t_hash])), (q_t_rows, .inl (cI, 80, .inl u43.2)), (q_t_saved, .inl (cI, 80, .inl u5))] (As := [.int u26.1, .int u28.1]) (rest := []) (rv := (some (.int u43.1))) (c_X11_hand l D cI cJ q_t q_t_page q_t_readKinds q_t_readLeaflets q_t_rows q_t_debts q_t_ring q_t_line q_t_groups q_t_likely q_t_likelyThen q_t_saved q_t_keptRows q_t_keptDebts v_t_pageMany v_t_readMany v_t_told v_t_many v_t_lostByHands v_t_lostByMould v_t_ringMany u28.2 v_t_keptMany v_t_keptByHands v_t_keptByMould v_t_hash a21.2 u26.1 u28.1 u43 g44) ⟨hx, hb, hml, hown, hts⟩ (cwV 2 hts gX11_months_X11_hand rfl rfl rfl (by decide +kernel) ⟨(Nat.le_of_ble_eq_true rfl), (Nat.le_of_ble_eq_true rfl)⟩) hK hN hP hD hS [0, 1] rfl (by decide) rfl rfl rfl (q0 := 0) (ci := 10) rfl rfl rfl rfl hl.1 rfl (Nat.le_of_ble_eq_true rfl) dX11_months_166 ⟨Nat.zero_le _, Nat.zero_le _⟩ (fun H locs hP hD hS => ?_)
                        show W p l e ({ frames := 3, cells := 0, slots := 0, locals := 68 } : Room) s m args below meth c H locs 0 0 Q0 (F0 m 169 ls [.int u43.1])
                        refine lv_goto (tgt := 173) hx hb dX11_months_169 (by decide) ?_
                        exact J173_41 (u43.1, u43.2) _ _ _ h hP hD hS (lv_sub hl [1, 2, 3, 4, 5, 6] rfl)
                    refine lv_icmp_eq (tgt := 153) hx hb dX11_months_129 (by decide) (fun c45 => ?_) (fun c45 => ?_)
                    · skip
                      have h := (if_pos c45).symm.trans h
                      exact J153_32 () _ _ _ h hP hD hS (lv_sub hl [2, 3, 4, 5, 6, 7, 1, 0] rfl)
                    · skip
                      have h := (if_neg c45).symm.trans h
                      refine lv_aload_n hx hb dX11_months_132 rfl (lv_at hl 2 rfl) ?_
                      refine va_get (own := RX11) (ci := 10) (v := .ref q_t_rows) (C := RX11) (T := TX11) (N := 25) hx hb hts iX11 hown hK hP 0 rfl rfl 9 (by decide) k19 (fun _ h9 => h9) rfl dX11_months_133 ?_
                      refine lv_bipush (v := 8) hx hb dX11_months_136 (by decide) ?_
                      refine lv_iload hx hb dX11_months_138 (lv_at hl 1 rfl) ?_
                      refine lv_imul hx hb dX11_months_140 ?_
                      refine lv_iconst (v := 2) hx hb dX11_months_141 (by decide) ?_
                      refine lv_iadd hx hb dX11_months_142 ?_
                      refine va_iald hx hb hK hP 1 0 rfl rfl (inb_of g30) dX11_months_143 ?_
                      refine lv_iload hx hb dX11_months_144 (lv_at hl 0 rfl) ?_
                      refine lv_icmp_eq (tgt := 153) hx hb dX11_months_146 (by decide) (fun c46 => ?_) (fun c46 => ?_)
                      · skip
                        have h := (if_pos c46).symm.trans h
                        exact J153_32 () _ _ _ h hP hD hS (lv_sub hl [2, 3, 4, 5, 6, 7, 1, 0] rfl)
                      · skip
                        have h := (if_neg c46).symm.trans h
                        refine lv_iconst (v := 1) hx hb dX11_months_149 (by decide) ?_
                        refine lv_goto (tgt := 154) hx hb dX11_months_150 (by decide) ?_
                        exact J154_39 1 _ _ _ h hP hD hS (lv_sub hl [2, 3, 4, 5, 6, 7, 1, 0] rfl)
                refine lv_icmp_ge (tgt := 91) hx hb dX11_months_79 (by decide) (fun c47 => ?_) (fun c47 => ?_)
                · skip
                  have h := (if_pos c47).symm.trans h
                  exact J91_22 (z7.1, z7.2.2.2) _ _ _ h hP hD hS (lv_sub hl [0, 1, 2, 3, 4, 5] rfl)
                · skip
                  have h := (if_neg c47).symm.trans h
                  refine lv_aload_n hx hb dX11_months_82 rfl (lv_at hl 0 rfl) ?_
                  obtain ⟨u48, g49, h⟩ := bd_of h
                  refine cl_V [(q_t, .inr (10, [.ref q_t_page, .int v_t_pageMany, .ref q_t_readKinds, .ref q_t_readLeaflets, .int v_t_readMany, .int v_t_told, .int v_t_many, .int v_t_lostByHands, .int v_t_lostByMould, .ref q_t_rows, .ref q_t_debts, .int v_t_ringMany, .ref q_t_ring, .ref q_t_line, .ref q_t_groups, .ref q_t_likely, .ref q_t_likelyThen, .int u19.2, .ref q_t_saved, .int v_t_keptMany, .int v_t_keptByHands, .int v_t_keptByMould, .ref q_t_keptRows, .ref q_t_keptDebts, .long v_t_hash])), (q_t_rows, .inl (cI, 80, .inl u48.2)), (q_t_saved, .inl (cI, 80, .inl u5))] (As := []) (rest := []) (rv := (some (.int u48.1))) (c_X11_mould l D cI cJ q_t q_t_page q_t_readKinds q_t_readLeaflets q_t_rows q_t_debts q_t_ring q_t_line q_t_groups q_t_likely q_t_likelyThen q_t_saved q_t_keptRows q_t_keptDebts v_t_pageMany v_t_readMany v_t_told v_t_many v_t_lostByHands v_t_lostByMould v_t_ringMany u19.2 v_t_keptMany v_t_keptByHands v_t_keptByMould v_t_hash z7.2.2.2 u48 g49) ⟨hx, hb, hml, hown, hts⟩ (cwV 0 hts gX11_months_X11_mould rfl rfl rfl (by decide +kernel) ⟨(Nat.le_of_ble_eq_true rfl), (Nat.le_of_ble_eq_true rfl)⟩) hK hN hP hD hS [0, 1] rfl (by decide) rfl rfl rfl (q0 := 0) (ci := 10) rfl rfl rfl rfl hl.1 rfl (Nat.le_of_ble_eq_true rfl) dX11_months_83 ⟨Nat.zero_le _, Nat.zero_le _⟩ (fun H locs hP hD hS => ?_)
                  show W p l e ({ frames := 3, cells := 0, slots := 0, locals := 68 } : Room) s m args below meth c H locs 0 0 Q0 (F0 m 86 ls [.int u48.1])
                  refine lv_istore (lv' := [(7, .int u48.1), (0, .ref q_t), (1, .int x1), (2, .int x2), (4, .int x4), (5, .int z7.1), (6, .int z7.2.1)]) hx hb dX11_months_86 hl (by decide) rfl (fun ls hl => ?_)
                  refine lv_iinc (v := (z7.1 + 1)) (lv' := [(5, .int (z7.1 + 1)), (7, .int u48.1), (0, .ref q_t), (1, .int x1), (2, .int x2), (4, .int x4), (6, .int z7.2.1)]) hx hb dX11_months_88 hl (k := 5) rfl rfl (by decide) rfl (fun ls hl => ?_)
                  exact J91_22 ((z7.1 + 1), u48.2) _ _ _ h hP hD hS (lv_sub hl [2, 3, 4, 5, 0, 6] rfl)
          exact L66_17 FU (0, 0, x3, v_t_rows) _ _ _ he_e8 hP hD hS (lv_sub hl [2, 3, 4, 6, 1, 0] rfl)
        · skip
          have h := (if_pos c4).symm.trans h
          refine lv_bipush (v := (-102)) hx hb dX11_months_41 (by decide) ?_
          obtain rfl := Option.some.inj h
          exact rt_i hA0 hQ0 hx hb hr hlocks hP hS dX11_months_43
def fX11_image (v_t_pageMany : Int32) (v_t_readMany : Int32) (v_t_told : Int32) (v_t_many : Int32) (v_t_lostByHands : Int32) (v_t_lostByMould : Int32) (v_t_ringMany : Int32) (v_t_seedNow : Int32) (v_t_keptMany : Int32) (v_t_keptByHands : Int32) (v_t_keptByMould : Int32) (v_t_hash : Int64) (v_t_rows : Nat → Int32) (v_t_debts : Nat → Int32) (v_t_keptRows : Nat → Int32) (v_t_keptDebts : Nat → Int32) : Option (Int32 × Int32 × Int32 × Int32 × (Nat → Int32) × (Nat → Int32)) :=
  (fX11_copy 80 80 v_t_rows v_t_keptRows).bind (fun u1 => (fX11_copy 36 36 v_t_debts v_t_keptDebts).bind (fun u3 => some (v_t_many, v_t_many, v_t_lostByHands, v_t_lostByMould, u1, u3)))
set_option maxHeartbeats 4000000 in
set_option maxRecDepth 100000 in
theorem c_X11_image (l : Launch) (D : va_G) (cI cJ : ClassId) (q_t q_t_page q_t_readKinds q_t_readLeaflets q_t_rows q_t_debts q_t_ring q_t_line q_t_groups q_t_likely q_t_likelyThen q_t_saved q_t_keptRows q_t_keptDebts : Nat) (v_t_pageMany : Int32) (v_t_readMany : Int32) (v_t_told : Int32) (v_t_many : Int32) (v_t_lostByHands : Int32) (v_t_lostByMould : Int32) (v_t_ringMany : Int32) (v_t_seedNow : Int32) (v_t_keptMany : Int32) (v_t_keptByHands : Int32) (v_t_keptByMould : Int32) (v_t_hash : Int64) (v_t_rows : Nat → Int32) (v_t_debts : Nat → Int32) (v_t_keptRows : Nat → Int32) (v_t_keptDebts : Nat → Int32) (z : Int32 × Int32 × Int32 × Int32 × (Nat → Int32) × (Nat → Int32)) (h : fX11_image v_t_pageMany v_t_readMany v_t_told v_t_many v_t_lostByHands v_t_lostByMould v_t_ringMany v_t_seedNow v_t_keptMany v_t_keptByHands v_t_keptByMould v_t_hash v_t_rows v_t_debts v_t_keptRows v_t_keptDebts = some z) : Met l yX11_image wsX11_image ({ frames := 1, cells := 0, slots := 0, locals := 22 } : Room) (va_Pc [.ref q_t] (preG D cI cJ [(q_t, .inr (10, [.ref q_t_page, .int v_t_pageMany, .ref q_t_readKinds, .ref q_t_readLeaflets, .int v_t_readMany, .int v_t_told, .int v_t_many, .int v_t_lostByHands, .int v_t_lostByMould, .ref q_t_rows, .ref q_t_debts, .int v_t_ringMany, .ref q_t_ring, .ref q_t_line, .ref q_t_groups, .ref q_t_likely, .ref q_t_likelyThen, .int v_t_seedNow, .ref q_t_saved, .int v_t_keptMany, .int v_t_keptByHands, .int v_t_keptByMould, .ref q_t_keptRows, .ref q_t_keptDebts, .long v_t_hash])), (q_t_rows, .inl (cI, 80, .inl v_t_rows)), (q_t_debts, .inl (cI, 36, .inl v_t_debts)), (q_t_keptRows, .inl (cI, 80, .inl v_t_keptRows)), (q_t_keptDebts, .inl (cI, 36, .inl v_t_keptDebts))])) (QG D [(q_t, .inr (10, [.ref q_t_page, .int v_t_pageMany, .ref q_t_readKinds, .ref q_t_readLeaflets, .int v_t_readMany, .int v_t_told, .int v_t_many, .int v_t_lostByHands, .int v_t_lostByMould, .ref q_t_rows, .ref q_t_debts, .int v_t_ringMany, .ref q_t_ring, .ref q_t_line, .ref q_t_groups, .ref q_t_likely, .ref q_t_likelyThen, .int v_t_seedNow, .ref q_t_saved, .int v_t_keptMany, .int v_t_keptByHands, .int v_t_keptByMould, .ref q_t_keptRows, .ref q_t_keptDebts, .long v_t_hash])), (q_t_rows, .inl (cI, 80, .inl v_t_rows)), (q_t_debts, .inl (cI, 36, .inl v_t_debts)), (q_t_keptRows, .inl (cI, 80, .inl v_t_keptRows)), (q_t_keptDebts, .inl (cI, 36, .inl v_t_keptDebts))] [(q_t, .inr (10, [.ref q_t_page, .int v_t_pageMany, .ref q_t_readKinds, .ref q_t_readLeaflets, .int v_t_readMany, .int v_t_told, .int v_t_many, .int v_t_lostByHands, .int v_t_lostByMould, .ref q_t_rows, .ref q_t_debts, .int v_t_ringMany, .ref q_t_ring, .ref q_t_line, .ref q_t_groups, .ref q_t_likely, .ref q_t_likelyThen, .int v_t_seedNow, .ref q_t_saved, .int z.2.1, .int z.2.2.1, .int z.2.2.2.1, .ref q_t_keptRows, .ref q_t_keptDebts, .long v_t_hash])), (q_t_rows, .inl (cI, 80, .inl v_t_rows)), (q_t_debts, .inl (cI, 36, .inl v_t_debts)), (q_t_keptRows, .inl (cI, 80, .inl z.2.2.2.2.1)), (q_t_keptDebts, .inl (cI, 36, .inl z.2.2.2.2.2))] (some (.int z.1))) 0 0 (fr [(q_t, .inr (10, [.ref q_t_page, .int v_t_pageMany, .ref q_t_readKinds, .ref q_t_readLeaflets, .int v_t_readMany, .int v_t_told, .int v_t_many, .int v_t_lostByHands, .int v_t_lostByMould, .ref q_t_rows, .ref q_t_debts, .int v_t_ringMany, .ref q_t_ring, .ref q_t_line, .ref q_t_groups, .ref q_t_likely, .ref q_t_likelyThen, .int v_t_seedNow, .ref q_t_saved, .int v_t_keptMany, .int v_t_keptByHands, .int v_t_keptByMould, .ref q_t_keptRows, .ref q_t_keptDebts, .long v_t_hash])), (q_t_rows, .inl (cI, 80, .inl v_t_rows)), (q_t_debts, .inl (cI, 36, .inl v_t_debts)), (q_t_keptRows, .inl (cI, 80, .inl v_t_keptRows)), (q_t_keptDebts, .inl (cI, 36, .inl v_t_keptDebts))]) := by
  refine Met.ofW (cc := cX11_image) (maxL := 1) (ret := (some .int)) (by decide) rfl ?_
  intro p e s m args below meth c s₁ B hml hv
  obtain ⟨hargs, hP, hK, hN, hD0⟩ := hv
  have hx := B.exec
  have hb := B.bytes
  have hr := B.returns
  have hts := atoms_spec (ws := wsX11_image) B.pre
  have hown : s.vm.findClass RX11 = some m.cls := findClass_of_methodNamed B.named
  have hlocks := B.notSynchronized
  have iX11 : ∀ w ∈ wsX110, w ∈ wsX11_image := by decide +kernel
  have k19 := hts (.fieldLink RX11 19 "PressedFernsModel" "rows" "[I") (by decide +kernel)
  have k22 := hts (.fieldLink RX11 22 "PressedFernsModel" "debts" "[I") (by decide +kernel)
  have k44 := hts (.fieldLink RX11 44 "PressedFernsModel" "keptRows" "[I") (by decide +kernel)
  have k47 := hts (.fieldLink RX11 47 "PressedFernsModel" "keptDebts" "[I") (by decide +kernel)
  have k50 := hts (.fieldLink RX11 50 "PressedFernsModel" "keptMany" "I") (by decide +kernel)
  have k88 := hts (.fieldLink RX11 88 "PressedFernsModel" "many" "I") (by decide +kernel)
  have k120 := hts (.fieldLink RX11 120 "PressedFernsModel" "lostByHands" "I") (by decide +kernel)
  have k135 := hts (.fieldLink RX11 135 "PressedFernsModel" "lostByMould" "I") (by decide +kernel)
  have k220 := hts (.fieldLink RX11 220 "PressedFernsModel" "keptByHands" "I") (by decide +kernel)
  have k223 := hts (.fieldLink RX11 223 "PressedFernsModel" "keptByMould" "I") (by decide +kernel)
  have hD := fr_D hD0
  have hS : va_S (fr [(q_t, .inr (10, [.ref q_t_page, .int v_t_pageMany, .ref q_t_readKinds, .ref q_t_readLeaflets, .int v_t_readMany, .int v_t_told, .int v_t_many, .int v_t_lostByHands, .int v_t_lostByMould, .ref q_t_rows, .ref q_t_debts, .int v_t_ringMany, .ref q_t_ring, .ref q_t_line, .ref q_t_groups, .ref q_t_likely, .ref q_t_likelyThen, .int v_t_seedNow, .ref q_t_saved, .int v_t_keptMany, .int v_t_keptByHands, .int v_t_keptByMould, .ref q_t_keptRows, .ref q_t_keptDebts, .long v_t_hash])), (q_t_rows, .inl (cI, 80, .inl v_t_rows)), (q_t_debts, .inl (cI, 36, .inl v_t_debts)), (q_t_keptRows, .inl (cI, 80, .inl v_t_keptRows)), (q_t_keptDebts, .inl (cI, 36, .inl v_t_keptDebts))]) s.heap s.heap [] := va_S.rf
  have hl := lv_entry ([.ref q_t]) (n := 1) (Nat.le_of_ble_eq_true rfl)
  refine W.eq (g2 := F0 m 0 ((lg_sl ([.ref q_t]) ++ List.replicate (1 - (lg_sl ([.ref q_t])).length) Slot.unset).toArray) []) (by rw [hargs, lg_entry_eq]) ?_
  generalize (lg_sl ([.ref q_t]) ++ List.replicate (1 - (lg_sl ([.ref q_t])).length) Slot.unset).toArray = ls at hl ⊢
  have hl : lv_has ls 1 [(0, .ref q_t)] := hl
  show W p l e ({ frames := 1, cells := 0, slots := 0, locals := 22 } : Room) s m args below meth c s.heap [] 0 0 (MQ below (QG D [(q_t, .inr (10, [.ref q_t_page, .int v_t_pageMany, .ref q_t_readKinds, .ref q_t_readLeaflets, .int v_t_readMany, .int v_t_told, .int v_t_many, .int v_t_lostByHands, .int v_t_lostByMould, .ref q_t_rows, .ref q_t_debts, .int v_t_ringMany, .ref q_t_ring, .ref q_t_line, .ref q_t_groups, .ref q_t_likely, .ref q_t_likelyThen, .int v_t_seedNow, .ref q_t_saved, .int v_t_keptMany, .int v_t_keptByHands, .int v_t_keptByMould, .ref q_t_keptRows, .ref q_t_keptDebts, .long v_t_hash])), (q_t_rows, .inl (cI, 80, .inl v_t_rows)), (q_t_debts, .inl (cI, 36, .inl v_t_debts)), (q_t_keptRows, .inl (cI, 80, .inl v_t_keptRows)), (q_t_keptDebts, .inl (cI, 36, .inl v_t_keptDebts))] [(q_t, .inr (10, [.ref q_t_page, .int v_t_pageMany, .ref q_t_readKinds, .ref q_t_readLeaflets, .int v_t_readMany, .int v_t_told, .int v_t_many, .int v_t_lostByHands, .int v_t_lostByMould, .ref q_t_rows, .ref q_t_debts, .int v_t_ringMany, .ref q_t_ring, .ref q_t_line, .ref q_t_groups, .ref q_t_likely, .ref q_t_likelyThen, .int v_t_seedNow, .ref q_t_saved, .int z.2.1, .int z.2.2.1, .int z.2.2.2.1, .ref q_t_keptRows, .ref q_t_keptDebts, .long v_t_hash])), (q_t_rows, .inl (cI, 80, .inl v_t_rows)), (q_t_debts, .inl (cI, 36, .inl v_t_debts)), (q_t_keptRows, .inl (cI, 80, .inl z.2.2.2.2.1)), (q_t_keptDebts, .inl (cI, 36, .inl z.2.2.2.2.2))] (some (.int z.1))) args s 0 0 (fr [(q_t, .inr (10, [.ref q_t_page, .int v_t_pageMany, .ref q_t_readKinds, .ref q_t_readLeaflets, .int v_t_readMany, .int v_t_told, .int v_t_many, .int v_t_lostByHands, .int v_t_lostByMould, .ref q_t_rows, .ref q_t_debts, .int v_t_ringMany, .ref q_t_ring, .ref q_t_line, .ref q_t_groups, .ref q_t_likely, .ref q_t_likelyThen, .int v_t_seedNow, .ref q_t_saved, .int v_t_keptMany, .int v_t_keptByHands, .int v_t_keptByMould, .ref q_t_keptRows, .ref q_t_keptDebts, .long v_t_hash])), (q_t_rows, .inl (cI, 80, .inl v_t_rows)), (q_t_debts, .inl (cI, 36, .inl v_t_debts)), (q_t_keptRows, .inl (cI, 80, .inl v_t_keptRows)), (q_t_keptDebts, .inl (cI, 36, .inl v_t_keptDebts))])) (F0 m 0 ls [])
  generalize hQ0 : (MQ below (QG D [(q_t, .inr (10, [.ref q_t_page, .int v_t_pageMany, .ref q_t_readKinds, .ref q_t_readLeaflets, .int v_t_readMany, .int v_t_told, .int v_t_many, .int v_t_lostByHands, .int v_t_lostByMould, .ref q_t_rows, .ref q_t_debts, .int v_t_ringMany, .ref q_t_ring, .ref q_t_line, .ref q_t_groups, .ref q_t_likely, .ref q_t_likelyThen, .int v_t_seedNow, .ref q_t_saved, .int v_t_keptMany, .int v_t_keptByHands, .int v_t_keptByMould, .ref q_t_keptRows, .ref q_t_keptDebts, .long v_t_hash])), (q_t_rows, .inl (cI, 80, .inl v_t_rows)), (q_t_debts, .inl (cI, 36, .inl v_t_debts)), (q_t_keptRows, .inl (cI, 80, .inl v_t_keptRows)), (q_t_keptDebts, .inl (cI, 36, .inl v_t_keptDebts))] [(q_t, .inr (10, [.ref q_t_page, .int v_t_pageMany, .ref q_t_readKinds, .ref q_t_readLeaflets, .int v_t_readMany, .int v_t_told, .int v_t_many, .int v_t_lostByHands, .int v_t_lostByMould, .ref q_t_rows, .ref q_t_debts, .int v_t_ringMany, .ref q_t_ring, .ref q_t_line, .ref q_t_groups, .ref q_t_likely, .ref q_t_likelyThen, .int v_t_seedNow, .ref q_t_saved, .int z.2.1, .int z.2.2.1, .int z.2.2.2.1, .ref q_t_keptRows, .ref q_t_keptDebts, .long v_t_hash])), (q_t_rows, .inl (cI, 80, .inl v_t_rows)), (q_t_debts, .inl (cI, 36, .inl v_t_debts)), (q_t_keptRows, .inl (cI, 80, .inl z.2.2.2.2.1)), (q_t_keptDebts, .inl (cI, 36, .inl z.2.2.2.2.2))] (some (.int z.1))) args s 0 0 (fr [(q_t, .inr (10, [.ref q_t_page, .int v_t_pageMany, .ref q_t_readKinds, .ref q_t_readLeaflets, .int v_t_readMany, .int v_t_told, .int v_t_many, .int v_t_lostByHands, .int v_t_lostByMould, .ref q_t_rows, .ref q_t_debts, .int v_t_ringMany, .ref q_t_ring, .ref q_t_line, .ref q_t_groups, .ref q_t_likely, .ref q_t_likelyThen, .int v_t_seedNow, .ref q_t_saved, .int v_t_keptMany, .int v_t_keptByHands, .int v_t_keptByMould, .ref q_t_keptRows, .ref q_t_keptDebts, .long v_t_hash])), (q_t_rows, .inl (cI, 80, .inl v_t_rows)), (q_t_debts, .inl (cI, 36, .inl v_t_debts)), (q_t_keptRows, .inl (cI, 80, .inl v_t_keptRows)), (q_t_keptDebts, .inl (cI, 36, .inl v_t_keptDebts))])) = Q0
  generalize hA0 : fr [(q_t, .inr (10, [.ref q_t_page, .int v_t_pageMany, .ref q_t_readKinds, .ref q_t_readLeaflets, .int v_t_readMany, .int v_t_told, .int v_t_many, .int v_t_lostByHands, .int v_t_lostByMould, .ref q_t_rows, .ref q_t_debts, .int v_t_ringMany, .ref q_t_ring, .ref q_t_line, .ref q_t_groups, .ref q_t_likely, .ref q_t_likelyThen, .int v_t_seedNow, .ref q_t_saved, .int v_t_keptMany, .int v_t_keptByHands, .int v_t_keptByMould, .ref q_t_keptRows, .ref q_t_keptDebts, .long v_t_hash])), (q_t_rows, .inl (cI, 80, .inl v_t_rows)), (q_t_debts, .inl (cI, 36, .inl v_t_debts)), (q_t_keptRows, .inl (cI, 80, .inl v_t_keptRows)), (q_t_keptDebts, .inl (cI, 36, .inl v_t_keptDebts))] = A0 at hD hS
  unfold fX11_image at h
  refine lv_aload_n hx hb dX11_image_0 rfl (lv_at hl 0 rfl) ?_
  refine va_get (own := RX11) (ci := 10) (v := .ref q_t_rows) (C := RX11) (T := TX11) (N := 25) hx hb hts iX11 hown hK hP 0 rfl rfl 9 (by decide) k19 (fun _ h9 => h9) rfl dX11_image_1 ?_
  refine lv_aload_n hx hb dX11_image_4 rfl (lv_at hl 0 rfl) ?_
  refine va_get (own := RX11) (ci := 10) (v := .ref q_t_keptRows) (C := RX11) (T := TX11) (N := 25) hx hb hts iX11 hown hK hP 0 rfl rfl 22 (by decide) k44 (fun _ h9 => h9) rfl dX11_image_5 ?_
  obtain ⟨u1, g2, h⟩ := bd_of h
  refine cl_S [(q_t, .inr (10, [.ref q_t_page, .int v_t_pageMany, .ref q_t_readKinds, .ref q_t_readLeaflets, .int v_t_readMany, .int v_t_told, .int v_t_many, .int v_t_lostByHands, .int v_t_lostByMould, .ref q_t_rows, .ref q_t_debts, .int v_t_ringMany, .ref q_t_ring, .ref q_t_line, .ref q_t_groups, .ref q_t_likely, .ref q_t_likelyThen, .int v_t_seedNow, .ref q_t_saved, .int v_t_keptMany, .int v_t_keptByHands, .int v_t_keptByMould, .ref q_t_keptRows, .ref q_t_keptDebts, .long v_t_hash])), (q_t_rows, .inl (cI, 80, .inl v_t_rows)), (q_t_debts, .inl (cI, 36, .inl v_t_debts)), (q_t_keptRows, .inl (cI, 80, .inl u1)), (q_t_keptDebts, .inl (cI, 36, .inl v_t_keptDebts))] (As := [.ref q_t_rows, .ref q_t_keptRows]) (rest := []) (rv := none) (c_X11_copy l D cI cJ q_t_rows q_t_keptRows 80 80 v_t_rows v_t_keptRows u1 g2) ⟨hx, hb, hml, hown, hts⟩ (va_cwS 2 hts gX11_image_X11_copy rfl rfl rfl (by decide +kernel) ⟨(Nat.le_of_ble_eq_true rfl), (Nat.le_of_ble_eq_true rfl)⟩) hK hN hP hD hS [1, 3] rfl (by decide) rfl rfl rfl rfl hl.1 rfl (Nat.le_of_ble_eq_true rfl) dX11_image_8 ⟨Nat.zero_le _, Nat.zero_le _⟩ (fun H locs hP hD hS => ?_)
  show W p l e ({ frames := 1, cells := 0, slots := 0, locals := 22 } : Room) s m args below meth c H locs 0 0 Q0 (F0 m 11 ls [])
  refine lv_aload_n hx hb dX11_image_11 rfl (lv_at hl 0 rfl) ?_
  refine va_get (own := RX11) (ci := 10) (v := .ref q_t_debts) (C := RX11) (T := TX11) (N := 25) hx hb hts iX11 hown hK hP 0 rfl rfl 10 (by decide) k22 (fun _ h9 => h9) rfl dX11_image_12 ?_
  refine lv_aload_n hx hb dX11_image_15 rfl (lv_at hl 0 rfl) ?_
  refine va_get (own := RX11) (ci := 10) (v := .ref q_t_keptDebts) (C := RX11) (T := TX11) (N := 25) hx hb hts iX11 hown hK hP 0 rfl rfl 23 (by decide) k47 (fun _ h9 => h9) rfl dX11_image_16 ?_
  obtain ⟨u3, g4, h⟩ := bd_of h
  refine cl_S [(q_t, .inr (10, [.ref q_t_page, .int v_t_pageMany, .ref q_t_readKinds, .ref q_t_readLeaflets, .int v_t_readMany, .int v_t_told, .int v_t_many, .int v_t_lostByHands, .int v_t_lostByMould, .ref q_t_rows, .ref q_t_debts, .int v_t_ringMany, .ref q_t_ring, .ref q_t_line, .ref q_t_groups, .ref q_t_likely, .ref q_t_likelyThen, .int v_t_seedNow, .ref q_t_saved, .int v_t_keptMany, .int v_t_keptByHands, .int v_t_keptByMould, .ref q_t_keptRows, .ref q_t_keptDebts, .long v_t_hash])), (q_t_rows, .inl (cI, 80, .inl v_t_rows)), (q_t_debts, .inl (cI, 36, .inl v_t_debts)), (q_t_keptRows, .inl (cI, 80, .inl u1)), (q_t_keptDebts, .inl (cI, 36, .inl u3))] (As := [.ref q_t_debts, .ref q_t_keptDebts]) (rest := []) (rv := none) (c_X11_copy l D cI cJ q_t_debts q_t_keptDebts 36 36 v_t_debts v_t_keptDebts u3 g4) ⟨hx, hb, hml, hown, hts⟩ (va_cwS 2 hts gX11_image_X11_copy rfl rfl rfl (by decide +kernel) ⟨(Nat.le_of_ble_eq_true rfl), (Nat.le_of_ble_eq_true rfl)⟩) hK hN hP hD hS [2, 4] rfl (by decide) rfl rfl rfl rfl hl.1 rfl (Nat.le_of_ble_eq_true rfl) dX11_image_19 ⟨Nat.zero_le _, Nat.zero_le _⟩ (fun H locs hP hD hS => ?_)
  show W p l e ({ frames := 1, cells := 0, slots := 0, locals := 22 } : Room) s m args below meth c H locs 0 0 Q0 (F0 m 22 ls [])
  refine lv_aload_n hx hb dX11_image_22 rfl (lv_at hl 0 rfl) ?_
  refine lv_aload_n hx hb dX11_image_23 rfl (lv_at hl 0 rfl) ?_
  refine va_get (own := RX11) (ci := 10) (v := .int v_t_lostByHands) (C := RX11) (T := TX11) (N := 25) hx hb hts iX11 hown hK hP 0 rfl rfl 7 (by decide) k120 (fun _ h9 => h9) rfl dX11_image_24 ?_
  refine va_put (D := D) (own := RX11) (ci := 10) (v := .int v_t_lostByHands) (ty := .int) (C := RX11) (T := TX11) (N := 25) hx hb hts iX11 tyX11 tyX11_ok nmX11 hown hK hP hD hS 0 rfl rfl 20 (by decide) k220 (fun _ h9 => h9) rfl (by decide +kernel) rfl rfl (Nat.le_of_ble_eq_true rfl) dX11_image_27 (fun H locs hP hD hS => ?_)
  have hP : va_P D vwCl [(q_t, .inr (10, [.ref q_t_page, .int v_t_pageMany, .ref q_t_readKinds, .ref q_t_readLeaflets, .int v_t_readMany, .int v_t_told, .int v_t_many, .int v_t_lostByHands, .int v_t_lostByMould, .ref q_t_rows, .ref q_t_debts, .int v_t_ringMany, .ref q_t_ring, .ref q_t_line, .ref q_t_groups, .ref q_t_likely, .ref q_t_likelyThen, .int v_t_seedNow, .ref q_t_saved, .int v_t_keptMany, .int v_t_lostByHands, .int v_t_keptByMould, .ref q_t_keptRows, .ref q_t_keptDebts, .long v_t_hash])), (q_t_rows, .inl (cI, 80, .inl v_t_rows)), (q_t_debts, .inl (cI, 36, .inl v_t_debts)), (q_t_keptRows, .inl (cI, 80, .inl u1)), (q_t_keptDebts, .inl (cI, 36, .inl u3))] H := hP
  have hD : va_D A0 [(q_t, .inr (10, [.ref q_t_page, .int v_t_pageMany, .ref q_t_readKinds, .ref q_t_readLeaflets, .int v_t_readMany, .int v_t_told, .int v_t_many, .int v_t_lostByHands, .int v_t_lostByMould, .ref q_t_rows, .ref q_t_debts, .int v_t_ringMany, .ref q_t_ring, .ref q_t_line, .ref q_t_groups, .ref q_t_likely, .ref q_t_likelyThen, .int v_t_seedNow, .ref q_t_saved, .int v_t_keptMany, .int v_t_lostByHands, .int v_t_keptByMould, .ref q_t_keptRows, .ref q_t_keptDebts, .long v_t_hash])), (q_t_rows, .inl (cI, 80, .inl v_t_rows)), (q_t_debts, .inl (cI, 36, .inl v_t_debts)), (q_t_keptRows, .inl (cI, 80, .inl u1)), (q_t_keptDebts, .inl (cI, 36, .inl u3))] := hD
  refine lv_aload_n hx hb dX11_image_30 rfl (lv_at hl 0 rfl) ?_
  refine lv_aload_n hx hb dX11_image_31 rfl (lv_at hl 0 rfl) ?_
  refine va_get (own := RX11) (ci := 10) (v := .int v_t_lostByMould) (C := RX11) (T := TX11) (N := 25) hx hb hts iX11 hown hK hP 0 rfl rfl 8 (by decide) k135 (fun _ h9 => h9) rfl dX11_image_32 ?_
  refine va_put (D := D) (own := RX11) (ci := 10) (v := .int v_t_lostByMould) (ty := .int) (C := RX11) (T := TX11) (N := 25) hx hb hts iX11 tyX11 tyX11_ok nmX11 hown hK hP hD hS 0 rfl rfl 21 (by decide) k223 (fun _ h9 => h9) rfl (by decide +kernel) rfl rfl (Nat.le_of_ble_eq_true rfl) dX11_image_35 (fun H locs hP hD hS => ?_)
  have hP : va_P D vwCl [(q_t, .inr (10, [.ref q_t_page, .int v_t_pageMany, .ref q_t_readKinds, .ref q_t_readLeaflets, .int v_t_readMany, .int v_t_told, .int v_t_many, .int v_t_lostByHands, .int v_t_lostByMould, .ref q_t_rows, .ref q_t_debts, .int v_t_ringMany, .ref q_t_ring, .ref q_t_line, .ref q_t_groups, .ref q_t_likely, .ref q_t_likelyThen, .int v_t_seedNow, .ref q_t_saved, .int v_t_keptMany, .int v_t_lostByHands, .int v_t_lostByMould, .ref q_t_keptRows, .ref q_t_keptDebts, .long v_t_hash])), (q_t_rows, .inl (cI, 80, .inl v_t_rows)), (q_t_debts, .inl (cI, 36, .inl v_t_debts)), (q_t_keptRows, .inl (cI, 80, .inl u1)), (q_t_keptDebts, .inl (cI, 36, .inl u3))] H := hP
  have hD : va_D A0 [(q_t, .inr (10, [.ref q_t_page, .int v_t_pageMany, .ref q_t_readKinds, .ref q_t_readLeaflets, .int v_t_readMany, .int v_t_told, .int v_t_many, .int v_t_lostByHands, .int v_t_lostByMould, .ref q_t_rows, .ref q_t_debts, .int v_t_ringMany, .ref q_t_ring, .ref q_t_line, .ref q_t_groups, .ref q_t_likely, .ref q_t_likelyThen, .int v_t_seedNow, .ref q_t_saved, .int v_t_keptMany, .int v_t_lostByHands, .int v_t_lostByMould, .ref q_t_keptRows, .ref q_t_keptDebts, .long v_t_hash])), (q_t_rows, .inl (cI, 80, .inl v_t_rows)), (q_t_debts, .inl (cI, 36, .inl v_t_debts)), (q_t_keptRows, .inl (cI, 80, .inl u1)), (q_t_keptDebts, .inl (cI, 36, .inl u3))] := hD
  refine lv_aload_n hx hb dX11_image_38 rfl (lv_at hl 0 rfl) ?_
  refine lv_aload_n hx hb dX11_image_39 rfl (lv_at hl 0 rfl) ?_
  refine va_get (own := RX11) (ci := 10) (v := .int v_t_many) (C := RX11) (T := TX11) (N := 25) hx hb hts iX11 hown hK hP 0 rfl rfl 6 (by decide) k88 (fun _ h9 => h9) rfl dX11_image_40 ?_
  refine va_put (D := D) (own := RX11) (ci := 10) (v := .int v_t_many) (ty := .int) (C := RX11) (T := TX11) (N := 25) hx hb hts iX11 tyX11 tyX11_ok nmX11 hown hK hP hD hS 0 rfl rfl 19 (by decide) k50 (fun _ h9 => h9) rfl (by decide +kernel) rfl rfl (Nat.le_of_ble_eq_true rfl) dX11_image_43 (fun H locs hP hD hS => ?_)
  have hP : va_P D vwCl [(q_t, .inr (10, [.ref q_t_page, .int v_t_pageMany, .ref q_t_readKinds, .ref q_t_readLeaflets, .int v_t_readMany, .int v_t_told, .int v_t_many, .int v_t_lostByHands, .int v_t_lostByMould, .ref q_t_rows, .ref q_t_debts, .int v_t_ringMany, .ref q_t_ring, .ref q_t_line, .ref q_t_groups, .ref q_t_likely, .ref q_t_likelyThen, .int v_t_seedNow, .ref q_t_saved, .int v_t_many, .int v_t_lostByHands, .int v_t_lostByMould, .ref q_t_keptRows, .ref q_t_keptDebts, .long v_t_hash])), (q_t_rows, .inl (cI, 80, .inl v_t_rows)), (q_t_debts, .inl (cI, 36, .inl v_t_debts)), (q_t_keptRows, .inl (cI, 80, .inl u1)), (q_t_keptDebts, .inl (cI, 36, .inl u3))] H := hP
  have hD : va_D A0 [(q_t, .inr (10, [.ref q_t_page, .int v_t_pageMany, .ref q_t_readKinds, .ref q_t_readLeaflets, .int v_t_readMany, .int v_t_told, .int v_t_many, .int v_t_lostByHands, .int v_t_lostByMould, .ref q_t_rows, .ref q_t_debts, .int v_t_ringMany, .ref q_t_ring, .ref q_t_line, .ref q_t_groups, .ref q_t_likely, .ref q_t_likelyThen, .int v_t_seedNow, .ref q_t_saved, .int v_t_many, .int v_t_lostByHands, .int v_t_lostByMould, .ref q_t_keptRows, .ref q_t_keptDebts, .long v_t_hash])), (q_t_rows, .inl (cI, 80, .inl v_t_rows)), (q_t_debts, .inl (cI, 36, .inl v_t_debts)), (q_t_keptRows, .inl (cI, 80, .inl u1)), (q_t_keptDebts, .inl (cI, 36, .inl u3))] := hD
  refine lv_aload_n hx hb dX11_image_46 rfl (lv_at hl 0 rfl) ?_
  refine va_get (own := RX11) (ci := 10) (v := .int v_t_many) (C := RX11) (T := TX11) (N := 25) hx hb hts iX11 hown hK hP 0 rfl rfl 6 (by decide) k88 (fun _ h9 => h9) rfl dX11_image_47 ?_
  obtain rfl := Option.some.inj h
  exact rt_i hA0 hQ0 hx hb hr hlocks hP hS dX11_image_50
def fX11_restore (v_t_pageMany : Int32) (v_t_readMany : Int32) (v_t_told : Int32) (v_t_many : Int32) (v_t_lostByHands : Int32) (v_t_lostByMould : Int32) (v_t_ringMany : Int32) (v_t_seedNow : Int32) (v_t_keptMany : Int32) (v_t_keptByHands : Int32) (v_t_keptByMould : Int32) (v_t_hash : Int64) (v_t_rows : Nat → Int32) (v_t_debts : Nat → Int32) (v_t_keptRows : Nat → Int32) (v_t_keptDebts : Nat → Int32) : Option (Int32 × Int32 × Int32 × Int32 × (Nat → Int32) × (Nat → Int32)) :=
  if v_t_keptMany = (-1) then (some ((-103), v_t_many, v_t_lostByHands, v_t_lostByMould, v_t_rows, v_t_debts)) else ((fX11_copy 80 80 v_t_keptRows v_t_rows).bind (fun u2 => (fX11_copy 36 36 v_t_keptDebts v_t_debts).bind (fun u4 => some (v_t_keptMany, v_t_keptMany, v_t_keptByHands, v_t_keptByMould, u2, u4))))
set_option maxHeartbeats 4000000 in
set_option maxRecDepth 100000 in
theorem c_X11_restore (l : Launch) (D : va_G) (cI cJ : ClassId) (q_t q_t_page q_t_readKinds q_t_readLeaflets q_t_rows q_t_debts q_t_ring q_t_line q_t_groups q_t_likely q_t_likelyThen q_t_saved q_t_keptRows q_t_keptDebts : Nat) (v_t_pageMany : Int32) (v_t_readMany : Int32) (v_t_told : Int32) (v_t_many : Int32) (v_t_lostByHands : Int32) (v_t_lostByMould : Int32) (v_t_ringMany : Int32) (v_t_seedNow : Int32) (v_t_keptMany : Int32) (v_t_keptByHands : Int32) (v_t_keptByMould : Int32) (v_t_hash : Int64) (v_t_rows : Nat → Int32) (v_t_debts : Nat → Int32) (v_t_keptRows : Nat → Int32) (v_t_keptDebts : Nat → Int32) (z : Int32 × Int32 × Int32 × Int32 × (Nat → Int32) × (Nat → Int32)) (h : fX11_restore v_t_pageMany v_t_readMany v_t_told v_t_many v_t_lostByHands v_t_lostByMould v_t_ringMany v_t_seedNow v_t_keptMany v_t_keptByHands v_t_keptByMould v_t_hash v_t_rows v_t_debts v_t_keptRows v_t_keptDebts = some z) : Met l yX11_restore wsX11_restore ({ frames := 1, cells := 0, slots := 0, locals := 22 } : Room) (va_Pc [.ref q_t] (preG D cI cJ [(q_t, .inr (10, [.ref q_t_page, .int v_t_pageMany, .ref q_t_readKinds, .ref q_t_readLeaflets, .int v_t_readMany, .int v_t_told, .int v_t_many, .int v_t_lostByHands, .int v_t_lostByMould, .ref q_t_rows, .ref q_t_debts, .int v_t_ringMany, .ref q_t_ring, .ref q_t_line, .ref q_t_groups, .ref q_t_likely, .ref q_t_likelyThen, .int v_t_seedNow, .ref q_t_saved, .int v_t_keptMany, .int v_t_keptByHands, .int v_t_keptByMould, .ref q_t_keptRows, .ref q_t_keptDebts, .long v_t_hash])), (q_t_rows, .inl (cI, 80, .inl v_t_rows)), (q_t_debts, .inl (cI, 36, .inl v_t_debts)), (q_t_keptRows, .inl (cI, 80, .inl v_t_keptRows)), (q_t_keptDebts, .inl (cI, 36, .inl v_t_keptDebts))])) (QG D [(q_t, .inr (10, [.ref q_t_page, .int v_t_pageMany, .ref q_t_readKinds, .ref q_t_readLeaflets, .int v_t_readMany, .int v_t_told, .int v_t_many, .int v_t_lostByHands, .int v_t_lostByMould, .ref q_t_rows, .ref q_t_debts, .int v_t_ringMany, .ref q_t_ring, .ref q_t_line, .ref q_t_groups, .ref q_t_likely, .ref q_t_likelyThen, .int v_t_seedNow, .ref q_t_saved, .int v_t_keptMany, .int v_t_keptByHands, .int v_t_keptByMould, .ref q_t_keptRows, .ref q_t_keptDebts, .long v_t_hash])), (q_t_rows, .inl (cI, 80, .inl v_t_rows)), (q_t_debts, .inl (cI, 36, .inl v_t_debts)), (q_t_keptRows, .inl (cI, 80, .inl v_t_keptRows)), (q_t_keptDebts, .inl (cI, 36, .inl v_t_keptDebts))] [(q_t, .inr (10, [.ref q_t_page, .int v_t_pageMany, .ref q_t_readKinds, .ref q_t_readLeaflets, .int v_t_readMany, .int v_t_told, .int z.2.1, .int z.2.2.1, .int z.2.2.2.1, .ref q_t_rows, .ref q_t_debts, .int v_t_ringMany, .ref q_t_ring, .ref q_t_line, .ref q_t_groups, .ref q_t_likely, .ref q_t_likelyThen, .int v_t_seedNow, .ref q_t_saved, .int v_t_keptMany, .int v_t_keptByHands, .int v_t_keptByMould, .ref q_t_keptRows, .ref q_t_keptDebts, .long v_t_hash])), (q_t_rows, .inl (cI, 80, .inl z.2.2.2.2.1)), (q_t_debts, .inl (cI, 36, .inl z.2.2.2.2.2)), (q_t_keptRows, .inl (cI, 80, .inl v_t_keptRows)), (q_t_keptDebts, .inl (cI, 36, .inl v_t_keptDebts))] (some (.int z.1))) 0 0 (fr [(q_t, .inr (10, [.ref q_t_page, .int v_t_pageMany, .ref q_t_readKinds, .ref q_t_readLeaflets, .int v_t_readMany, .int v_t_told, .int v_t_many, .int v_t_lostByHands, .int v_t_lostByMould, .ref q_t_rows, .ref q_t_debts, .int v_t_ringMany, .ref q_t_ring, .ref q_t_line, .ref q_t_groups, .ref q_t_likely, .ref q_t_likelyThen, .int v_t_seedNow, .ref q_t_saved, .int v_t_keptMany, .int v_t_keptByHands, .int v_t_keptByMould, .ref q_t_keptRows, .ref q_t_keptDebts, .long v_t_hash])), (q_t_rows, .inl (cI, 80, .inl v_t_rows)), (q_t_debts, .inl (cI, 36, .inl v_t_debts)), (q_t_keptRows, .inl (cI, 80, .inl v_t_keptRows)), (q_t_keptDebts, .inl (cI, 36, .inl v_t_keptDebts))]) := by
  refine Met.ofW (cc := cX11_restore) (maxL := 1) (ret := (some .int)) (by decide) rfl ?_
  intro p e s m args below meth c s₁ B hml hv
  obtain ⟨hargs, hP, hK, hN, hD0⟩ := hv
  have hx := B.exec
  have hb := B.bytes
  have hr := B.returns
  have hts := atoms_spec (ws := wsX11_restore) B.pre
  have hown : s.vm.findClass RX11 = some m.cls := findClass_of_methodNamed B.named
  have hlocks := B.notSynchronized
  have iX11 : ∀ w ∈ wsX110, w ∈ wsX11_restore := by decide +kernel
  have k19 := hts (.fieldLink RX11 19 "PressedFernsModel" "rows" "[I") (by decide +kernel)
  have k22 := hts (.fieldLink RX11 22 "PressedFernsModel" "debts" "[I") (by decide +kernel)
  have k44 := hts (.fieldLink RX11 44 "PressedFernsModel" "keptRows" "[I") (by decide +kernel)
  have k47 := hts (.fieldLink RX11 47 "PressedFernsModel" "keptDebts" "[I") (by decide +kernel)
  have k50 := hts (.fieldLink RX11 50 "PressedFernsModel" "keptMany" "I") (by decide +kernel)
  have k88 := hts (.fieldLink RX11 88 "PressedFernsModel" "many" "I") (by decide +kernel)
  have k120 := hts (.fieldLink RX11 120 "PressedFernsModel" "lostByHands" "I") (by decide +kernel)
  have k135 := hts (.fieldLink RX11 135 "PressedFernsModel" "lostByMould" "I") (by decide +kernel)
  have k220 := hts (.fieldLink RX11 220 "PressedFernsModel" "keptByHands" "I") (by decide +kernel)
  have k223 := hts (.fieldLink RX11 223 "PressedFernsModel" "keptByMould" "I") (by decide +kernel)
  have hD := fr_D hD0
  have hS : va_S (fr [(q_t, .inr (10, [.ref q_t_page, .int v_t_pageMany, .ref q_t_readKinds, .ref q_t_readLeaflets, .int v_t_readMany, .int v_t_told, .int v_t_many, .int v_t_lostByHands, .int v_t_lostByMould, .ref q_t_rows, .ref q_t_debts, .int v_t_ringMany, .ref q_t_ring, .ref q_t_line, .ref q_t_groups, .ref q_t_likely, .ref q_t_likelyThen, .int v_t_seedNow, .ref q_t_saved, .int v_t_keptMany, .int v_t_keptByHands, .int v_t_keptByMould, .ref q_t_keptRows, .ref q_t_keptDebts, .long v_t_hash])), (q_t_rows, .inl (cI, 80, .inl v_t_rows)), (q_t_debts, .inl (cI, 36, .inl v_t_debts)), (q_t_keptRows, .inl (cI, 80, .inl v_t_keptRows)), (q_t_keptDebts, .inl (cI, 36, .inl v_t_keptDebts))]) s.heap s.heap [] := va_S.rf
  have hl := lv_entry ([.ref q_t]) (n := 1) (Nat.le_of_ble_eq_true rfl)
  refine W.eq (g2 := F0 m 0 ((lg_sl ([.ref q_t]) ++ List.replicate (1 - (lg_sl ([.ref q_t])).length) Slot.unset).toArray) []) (by rw [hargs, lg_entry_eq]) ?_
  generalize (lg_sl ([.ref q_t]) ++ List.replicate (1 - (lg_sl ([.ref q_t])).length) Slot.unset).toArray = ls at hl ⊢
  have hl : lv_has ls 1 [(0, .ref q_t)] := hl
  show W p l e ({ frames := 1, cells := 0, slots := 0, locals := 22 } : Room) s m args below meth c s.heap [] 0 0 (MQ below (QG D [(q_t, .inr (10, [.ref q_t_page, .int v_t_pageMany, .ref q_t_readKinds, .ref q_t_readLeaflets, .int v_t_readMany, .int v_t_told, .int v_t_many, .int v_t_lostByHands, .int v_t_lostByMould, .ref q_t_rows, .ref q_t_debts, .int v_t_ringMany, .ref q_t_ring, .ref q_t_line, .ref q_t_groups, .ref q_t_likely, .ref q_t_likelyThen, .int v_t_seedNow, .ref q_t_saved, .int v_t_keptMany, .int v_t_keptByHands, .int v_t_keptByMould, .ref q_t_keptRows, .ref q_t_keptDebts, .long v_t_hash])), (q_t_rows, .inl (cI, 80, .inl v_t_rows)), (q_t_debts, .inl (cI, 36, .inl v_t_debts)), (q_t_keptRows, .inl (cI, 80, .inl v_t_keptRows)), (q_t_keptDebts, .inl (cI, 36, .inl v_t_keptDebts))] [(q_t, .inr (10, [.ref q_t_page, .int v_t_pageMany, .ref q_t_readKinds, .ref q_t_readLeaflets, .int v_t_readMany, .int v_t_told, .int z.2.1, .int z.2.2.1, .int z.2.2.2.1, .ref q_t_rows, .ref q_t_debts, .int v_t_ringMany, .ref q_t_ring, .ref q_t_line, .ref q_t_groups, .ref q_t_likely, .ref q_t_likelyThen, .int v_t_seedNow, .ref q_t_saved, .int v_t_keptMany, .int v_t_keptByHands, .int v_t_keptByMould, .ref q_t_keptRows, .ref q_t_keptDebts, .long v_t_hash])), (q_t_rows, .inl (cI, 80, .inl z.2.2.2.2.1)), (q_t_debts, .inl (cI, 36, .inl z.2.2.2.2.2)), (q_t_keptRows, .inl (cI, 80, .inl v_t_keptRows)), (q_t_keptDebts, .inl (cI, 36, .inl v_t_keptDebts))] (some (.int z.1))) args s 0 0 (fr [(q_t, .inr (10, [.ref q_t_page, .int v_t_pageMany, .ref q_t_readKinds, .ref q_t_readLeaflets, .int v_t_readMany, .int v_t_told, .int v_t_many, .int v_t_lostByHands, .int v_t_lostByMould, .ref q_t_rows, .ref q_t_debts, .int v_t_ringMany, .ref q_t_ring, .ref q_t_line, .ref q_t_groups, .ref q_t_likely, .ref q_t_likelyThen, .int v_t_seedNow, .ref q_t_saved, .int v_t_keptMany, .int v_t_keptByHands, .int v_t_keptByMould, .ref q_t_keptRows, .ref q_t_keptDebts, .long v_t_hash])), (q_t_rows, .inl (cI, 80, .inl v_t_rows)), (q_t_debts, .inl (cI, 36, .inl v_t_debts)), (q_t_keptRows, .inl (cI, 80, .inl v_t_keptRows)), (q_t_keptDebts, .inl (cI, 36, .inl v_t_keptDebts))])) (F0 m 0 ls [])
  generalize hQ0 : (MQ below (QG D [(q_t, .inr (10, [.ref q_t_page, .int v_t_pageMany, .ref q_t_readKinds, .ref q_t_readLeaflets, .int v_t_readMany, .int v_t_told, .int v_t_many, .int v_t_lostByHands, .int v_t_lostByMould, .ref q_t_rows, .ref q_t_debts, .int v_t_ringMany, .ref q_t_ring, .ref q_t_line, .ref q_t_groups, .ref q_t_likely, .ref q_t_likelyThen, .int v_t_seedNow, .ref q_t_saved, .int v_t_keptMany, .int v_t_keptByHands, .int v_t_keptByMould, .ref q_t_keptRows, .ref q_t_keptDebts, .long v_t_hash])), (q_t_rows, .inl (cI, 80, .inl v_t_rows)), (q_t_debts, .inl (cI, 36, .inl v_t_debts)), (q_t_keptRows, .inl (cI, 80, .inl v_t_keptRows)), (q_t_keptDebts, .inl (cI, 36, .inl v_t_keptDebts))] [(q_t, .inr (10, [.ref q_t_page, .int v_t_pageMany, .ref q_t_readKinds, .ref q_t_readLeaflets, .int v_t_readMany, .int v_t_told, .int z.2.1, .int z.2.2.1, .int z.2.2.2.1, .ref q_t_rows, .ref q_t_debts, .int v_t_ringMany, .ref q_t_ring, .ref q_t_line, .ref q_t_groups, .ref q_t_likely, .ref q_t_likelyThen, .int v_t_seedNow, .ref q_t_saved, .int v_t_keptMany, .int v_t_keptByHands, .int v_t_keptByMould, .ref q_t_keptRows, .ref q_t_keptDebts, .long v_t_hash])), (q_t_rows, .inl (cI, 80, .inl z.2.2.2.2.1)), (q_t_debts, .inl (cI, 36, .inl z.2.2.2.2.2)), (q_t_keptRows, .inl (cI, 80, .inl v_t_keptRows)), (q_t_keptDebts, .inl (cI, 36, .inl v_t_keptDebts))] (some (.int z.1))) args s 0 0 (fr [(q_t, .inr (10, [.ref q_t_page, .int v_t_pageMany, .ref q_t_readKinds, .ref q_t_readLeaflets, .int v_t_readMany, .int v_t_told, .int v_t_many, .int v_t_lostByHands, .int v_t_lostByMould, .ref q_t_rows, .ref q_t_debts, .int v_t_ringMany, .ref q_t_ring, .ref q_t_line, .ref q_t_groups, .ref q_t_likely, .ref q_t_likelyThen, .int v_t_seedNow, .ref q_t_saved, .int v_t_keptMany, .int v_t_keptByHands, .int v_t_keptByMould, .ref q_t_keptRows, .ref q_t_keptDebts, .long v_t_hash])), (q_t_rows, .inl (cI, 80, .inl v_t_rows)), (q_t_debts, .inl (cI, 36, .inl v_t_debts)), (q_t_keptRows, .inl (cI, 80, .inl v_t_keptRows)), (q_t_keptDebts, .inl (cI, 36, .inl v_t_keptDebts))])) = Q0
  generalize hA0 : fr [(q_t, .inr (10, [.ref q_t_page, .int v_t_pageMany, .ref q_t_readKinds, .ref q_t_readLeaflets, .int v_t_readMany, .int v_t_told, .int v_t_many, .int v_t_lostByHands, .int v_t_lostByMould, .ref q_t_rows, .ref q_t_debts, .int v_t_ringMany, .ref q_t_ring, .ref q_t_line, .ref q_t_groups, .ref q_t_likely, .ref q_t_likelyThen, .int v_t_seedNow, .ref q_t_saved, .int v_t_keptMany, .int v_t_keptByHands, .int v_t_keptByMould, .ref q_t_keptRows, .ref q_t_keptDebts, .long v_t_hash])), (q_t_rows, .inl (cI, 80, .inl v_t_rows)), (q_t_debts, .inl (cI, 36, .inl v_t_debts)), (q_t_keptRows, .inl (cI, 80, .inl v_t_keptRows)), (q_t_keptDebts, .inl (cI, 36, .inl v_t_keptDebts))] = A0 at hD hS
  unfold fX11_restore at h
  refine lv_aload_n hx hb dX11_restore_0 rfl (lv_at hl 0 rfl) ?_
  refine va_get (own := RX11) (ci := 10) (v := .int v_t_keptMany) (C := RX11) (T := TX11) (N := 25) hx hb hts iX11 hown hK hP 0 rfl rfl 19 (by decide) k50 (fun _ h9 => h9) rfl dX11_restore_1 ?_
  refine lv_iconst (v := (-1)) hx hb dX11_restore_4 (by decide) ?_
  refine lv_icmp_ne (tgt := 11) hx hb dX11_restore_5 (by decide) (fun c1 => ?_) (fun c1 => ?_)
  · skip
    have h := (if_neg c1).symm.trans h
    refine lv_aload_n hx hb dX11_restore_11 rfl (lv_at hl 0 rfl) ?_
    refine va_get (own := RX11) (ci := 10) (v := .ref q_t_keptRows) (C := RX11) (T := TX11) (N := 25) hx hb hts iX11 hown hK hP 0 rfl rfl 22 (by decide) k44 (fun _ h9 => h9) rfl dX11_restore_12 ?_
    refine lv_aload_n hx hb dX11_restore_15 rfl (lv_at hl 0 rfl) ?_
    refine va_get (own := RX11) (ci := 10) (v := .ref q_t_rows) (C := RX11) (T := TX11) (N := 25) hx hb hts iX11 hown hK hP 0 rfl rfl 9 (by decide) k19 (fun _ h9 => h9) rfl dX11_restore_16 ?_
    obtain ⟨u2, g3, h⟩ := bd_of h
    refine cl_S [(q_t, .inr (10, [.ref q_t_page, .int v_t_pageMany, .ref q_t_readKinds, .ref q_t_readLeaflets, .int v_t_readMany, .int v_t_told, .int v_t_many, .int v_t_lostByHands, .int v_t_lostByMould, .ref q_t_rows, .ref q_t_debts, .int v_t_ringMany, .ref q_t_ring, .ref q_t_line, .ref q_t_groups, .ref q_t_likely, .ref q_t_likelyThen, .int v_t_seedNow, .ref q_t_saved, .int v_t_keptMany, .int v_t_keptByHands, .int v_t_keptByMould, .ref q_t_keptRows, .ref q_t_keptDebts, .long v_t_hash])), (q_t_rows, .inl (cI, 80, .inl u2)), (q_t_debts, .inl (cI, 36, .inl v_t_debts)), (q_t_keptRows, .inl (cI, 80, .inl v_t_keptRows)), (q_t_keptDebts, .inl (cI, 36, .inl v_t_keptDebts))] (As := [.ref q_t_keptRows, .ref q_t_rows]) (rest := []) (rv := none) (c_X11_copy l D cI cJ q_t_keptRows q_t_rows 80 80 v_t_keptRows v_t_rows u2 g3) ⟨hx, hb, hml, hown, hts⟩ (va_cwS 2 hts gX11_restore_X11_copy rfl rfl rfl (by decide +kernel) ⟨(Nat.le_of_ble_eq_true rfl), (Nat.le_of_ble_eq_true rfl)⟩) hK hN hP hD hS [3, 1] rfl (by decide) rfl rfl rfl rfl hl.1 rfl (Nat.le_of_ble_eq_true rfl) dX11_restore_19 ⟨Nat.zero_le _, Nat.zero_le _⟩ (fun H locs hP hD hS => ?_)
    show W p l e ({ frames := 1, cells := 0, slots := 0, locals := 22 } : Room) s m args below meth c H locs 0 0 Q0 (F0 m 22 ls [])
    refine lv_aload_n hx hb dX11_restore_22 rfl (lv_at hl 0 rfl) ?_
    refine va_get (own := RX11) (ci := 10) (v := .ref q_t_keptDebts) (C := RX11) (T := TX11) (N := 25) hx hb hts iX11 hown hK hP 0 rfl rfl 23 (by decide) k47 (fun _ h9 => h9) rfl dX11_restore_23 ?_
    refine lv_aload_n hx hb dX11_restore_26 rfl (lv_at hl 0 rfl) ?_
    refine va_get (own := RX11) (ci := 10) (v := .ref q_t_debts) (C := RX11) (T := TX11) (N := 25) hx hb hts iX11 hown hK hP 0 rfl rfl 10 (by decide) k22 (fun _ h9 => h9) rfl dX11_restore_27 ?_
    obtain ⟨u4, g5, h⟩ := bd_of h
    refine cl_S [(q_t, .inr (10, [.ref q_t_page, .int v_t_pageMany, .ref q_t_readKinds, .ref q_t_readLeaflets, .int v_t_readMany, .int v_t_told, .int v_t_many, .int v_t_lostByHands, .int v_t_lostByMould, .ref q_t_rows, .ref q_t_debts, .int v_t_ringMany, .ref q_t_ring, .ref q_t_line, .ref q_t_groups, .ref q_t_likely, .ref q_t_likelyThen, .int v_t_seedNow, .ref q_t_saved, .int v_t_keptMany, .int v_t_keptByHands, .int v_t_keptByMould, .ref q_t_keptRows, .ref q_t_keptDebts, .long v_t_hash])), (q_t_rows, .inl (cI, 80, .inl u2)), (q_t_debts, .inl (cI, 36, .inl u4)), (q_t_keptRows, .inl (cI, 80, .inl v_t_keptRows)), (q_t_keptDebts, .inl (cI, 36, .inl v_t_keptDebts))] (As := [.ref q_t_keptDebts, .ref q_t_debts]) (rest := []) (rv := none) (c_X11_copy l D cI cJ q_t_keptDebts q_t_debts 36 36 v_t_keptDebts v_t_debts u4 g5) ⟨hx, hb, hml, hown, hts⟩ (va_cwS 2 hts gX11_restore_X11_copy rfl rfl rfl (by decide +kernel) ⟨(Nat.le_of_ble_eq_true rfl), (Nat.le_of_ble_eq_true rfl)⟩) hK hN hP hD hS [4, 2] rfl (by decide) rfl rfl rfl rfl hl.1 rfl (Nat.le_of_ble_eq_true rfl) dX11_restore_30 ⟨Nat.zero_le _, Nat.zero_le _⟩ (fun H locs hP hD hS => ?_)
    show W p l e ({ frames := 1, cells := 0, slots := 0, locals := 22 } : Room) s m args below meth c H locs 0 0 Q0 (F0 m 33 ls [])
    refine lv_aload_n hx hb dX11_restore_33 rfl (lv_at hl 0 rfl) ?_
    refine lv_aload_n hx hb dX11_restore_34 rfl (lv_at hl 0 rfl) ?_
    refine va_get (own := RX11) (ci := 10) (v := .int v_t_keptByHands) (C := RX11) (T := TX11) (N := 25) hx hb hts iX11 hown hK hP 0 rfl rfl 20 (by decide) k220 (fun _ h9 => h9) rfl dX11_restore_35 ?_
    refine va_put (D := D) (own := RX11) (ci := 10) (v := .int v_t_keptByHands) (ty := .int) (C := RX11) (T := TX11) (N := 25) hx hb hts iX11 tyX11 tyX11_ok nmX11 hown hK hP hD hS 0 rfl rfl 7 (by decide) k120 (fun _ h9 => h9) rfl (by decide +kernel) rfl rfl (Nat.le_of_ble_eq_true rfl) dX11_restore_38 (fun H locs hP hD hS => ?_)
    have hP : va_P D vwCl [(q_t, .inr (10, [.ref q_t_page, .int v_t_pageMany, .ref q_t_readKinds, .ref q_t_readLeaflets, .int v_t_readMany, .int v_t_told, .int v_t_many, .int v_t_keptByHands, .int v_t_lostByMould, .ref q_t_rows, .ref q_t_debts, .int v_t_ringMany, .ref q_t_ring, .ref q_t_line, .ref q_t_groups, .ref q_t_likely, .ref q_t_likelyThen, .int v_t_seedNow, .ref q_t_saved, .int v_t_keptMany, .int v_t_keptByHands, .int v_t_keptByMould, .ref q_t_keptRows, .ref q_t_keptDebts, .long v_t_hash])), (q_t_rows, .inl (cI, 80, .inl u2)), (q_t_debts, .inl (cI, 36, .inl u4)), (q_t_keptRows, .inl (cI, 80, .inl v_t_keptRows)), (q_t_keptDebts, .inl (cI, 36, .inl v_t_keptDebts))] H := hP
    have hD : va_D A0 [(q_t, .inr (10, [.ref q_t_page, .int v_t_pageMany, .ref q_t_readKinds, .ref q_t_readLeaflets, .int v_t_readMany, .int v_t_told, .int v_t_many, .int v_t_keptByHands, .int v_t_lostByMould, .ref q_t_rows, .ref q_t_debts, .int v_t_ringMany, .ref q_t_ring, .ref q_t_line, .ref q_t_groups, .ref q_t_likely, .ref q_t_likelyThen, .int v_t_seedNow, .ref q_t_saved, .int v_t_keptMany, .int v_t_keptByHands, .int v_t_keptByMould, .ref q_t_keptRows, .ref q_t_keptDebts, .long v_t_hash])), (q_t_rows, .inl (cI, 80, .inl u2)), (q_t_debts, .inl (cI, 36, .inl u4)), (q_t_keptRows, .inl (cI, 80, .inl v_t_keptRows)), (q_t_keptDebts, .inl (cI, 36, .inl v_t_keptDebts))] := hD
    refine lv_aload_n hx hb dX11_restore_41 rfl (lv_at hl 0 rfl) ?_
    refine lv_aload_n hx hb dX11_restore_42 rfl (lv_at hl 0 rfl) ?_
    refine va_get (own := RX11) (ci := 10) (v := .int v_t_keptByMould) (C := RX11) (T := TX11) (N := 25) hx hb hts iX11 hown hK hP 0 rfl rfl 21 (by decide) k223 (fun _ h9 => h9) rfl dX11_restore_43 ?_
    refine va_put (D := D) (own := RX11) (ci := 10) (v := .int v_t_keptByMould) (ty := .int) (C := RX11) (T := TX11) (N := 25) hx hb hts iX11 tyX11 tyX11_ok nmX11 hown hK hP hD hS 0 rfl rfl 8 (by decide) k135 (fun _ h9 => h9) rfl (by decide +kernel) rfl rfl (Nat.le_of_ble_eq_true rfl) dX11_restore_46 (fun H locs hP hD hS => ?_)
    have hP : va_P D vwCl [(q_t, .inr (10, [.ref q_t_page, .int v_t_pageMany, .ref q_t_readKinds, .ref q_t_readLeaflets, .int v_t_readMany, .int v_t_told, .int v_t_many, .int v_t_keptByHands, .int v_t_keptByMould, .ref q_t_rows, .ref q_t_debts, .int v_t_ringMany, .ref q_t_ring, .ref q_t_line, .ref q_t_groups, .ref q_t_likely, .ref q_t_likelyThen, .int v_t_seedNow, .ref q_t_saved, .int v_t_keptMany, .int v_t_keptByHands, .int v_t_keptByMould, .ref q_t_keptRows, .ref q_t_keptDebts, .long v_t_hash])), (q_t_rows, .inl (cI, 80, .inl u2)), (q_t_debts, .inl (cI, 36, .inl u4)), (q_t_keptRows, .inl (cI, 80, .inl v_t_keptRows)), (q_t_keptDebts, .inl (cI, 36, .inl v_t_keptDebts))] H := hP
    have hD : va_D A0 [(q_t, .inr (10, [.ref q_t_page, .int v_t_pageMany, .ref q_t_readKinds, .ref q_t_readLeaflets, .int v_t_readMany, .int v_t_told, .int v_t_many, .int v_t_keptByHands, .int v_t_keptByMould, .ref q_t_rows, .ref q_t_debts, .int v_t_ringMany, .ref q_t_ring, .ref q_t_line, .ref q_t_groups, .ref q_t_likely, .ref q_t_likelyThen, .int v_t_seedNow, .ref q_t_saved, .int v_t_keptMany, .int v_t_keptByHands, .int v_t_keptByMould, .ref q_t_keptRows, .ref q_t_keptDebts, .long v_t_hash])), (q_t_rows, .inl (cI, 80, .inl u2)), (q_t_debts, .inl (cI, 36, .inl u4)), (q_t_keptRows, .inl (cI, 80, .inl v_t_keptRows)), (q_t_keptDebts, .inl (cI, 36, .inl v_t_keptDebts))] := hD
    refine lv_aload_n hx hb dX11_restore_49 rfl (lv_at hl 0 rfl) ?_
    refine lv_aload_n hx hb dX11_restore_50 rfl (lv_at hl 0 rfl) ?_
    refine va_get (own := RX11) (ci := 10) (v := .int v_t_keptMany) (C := RX11) (T := TX11) (N := 25) hx hb hts iX11 hown hK hP 0 rfl rfl 19 (by decide) k50 (fun _ h9 => h9) rfl dX11_restore_51 ?_
    refine va_put (D := D) (own := RX11) (ci := 10) (v := .int v_t_keptMany) (ty := .int) (C := RX11) (T := TX11) (N := 25) hx hb hts iX11 tyX11 tyX11_ok nmX11 hown hK hP hD hS 0 rfl rfl 6 (by decide) k88 (fun _ h9 => h9) rfl (by decide +kernel) rfl rfl (Nat.le_of_ble_eq_true rfl) dX11_restore_54 (fun H locs hP hD hS => ?_)
    have hP : va_P D vwCl [(q_t, .inr (10, [.ref q_t_page, .int v_t_pageMany, .ref q_t_readKinds, .ref q_t_readLeaflets, .int v_t_readMany, .int v_t_told, .int v_t_keptMany, .int v_t_keptByHands, .int v_t_keptByMould, .ref q_t_rows, .ref q_t_debts, .int v_t_ringMany, .ref q_t_ring, .ref q_t_line, .ref q_t_groups, .ref q_t_likely, .ref q_t_likelyThen, .int v_t_seedNow, .ref q_t_saved, .int v_t_keptMany, .int v_t_keptByHands, .int v_t_keptByMould, .ref q_t_keptRows, .ref q_t_keptDebts, .long v_t_hash])), (q_t_rows, .inl (cI, 80, .inl u2)), (q_t_debts, .inl (cI, 36, .inl u4)), (q_t_keptRows, .inl (cI, 80, .inl v_t_keptRows)), (q_t_keptDebts, .inl (cI, 36, .inl v_t_keptDebts))] H := hP
    have hD : va_D A0 [(q_t, .inr (10, [.ref q_t_page, .int v_t_pageMany, .ref q_t_readKinds, .ref q_t_readLeaflets, .int v_t_readMany, .int v_t_told, .int v_t_keptMany, .int v_t_keptByHands, .int v_t_keptByMould, .ref q_t_rows, .ref q_t_debts, .int v_t_ringMany, .ref q_t_ring, .ref q_t_line, .ref q_t_groups, .ref q_t_likely, .ref q_t_likelyThen, .int v_t_seedNow, .ref q_t_saved, .int v_t_keptMany, .int v_t_keptByHands, .int v_t_keptByMould, .ref q_t_keptRows, .ref q_t_keptDebts, .long v_t_hash])), (q_t_rows, .inl (cI, 80, .inl u2)), (q_t_debts, .inl (cI, 36, .inl u4)), (q_t_keptRows, .inl (cI, 80, .inl v_t_keptRows)), (q_t_keptDebts, .inl (cI, 36, .inl v_t_keptDebts))] := hD
    refine lv_aload_n hx hb dX11_restore_57 rfl (lv_at hl 0 rfl) ?_
    refine va_get (own := RX11) (ci := 10) (v := .int v_t_keptMany) (C := RX11) (T := TX11) (N := 25) hx hb hts iX11 hown hK hP 0 rfl rfl 6 (by decide) k88 (fun _ h9 => h9) rfl dX11_restore_58 ?_
    obtain rfl := Option.some.inj h
    exact rt_i hA0 hQ0 hx hb hr hlocks hP hS dX11_restore_61
  · skip
    have h := (if_pos c1).symm.trans h
    refine lv_bipush (v := (-103)) hx hb dX11_restore_8 (by decide) ?_
    obtain rfl := Option.some.inj h
    exact rt_i hA0 hQ0 hx hb hr hlocks hP hS dX11_restore_10
