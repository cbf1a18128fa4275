def fX11_in (x0 : Int64) (x2 : Int64) (x4 : Int64) : Int32 :=
  if (lg_cmp x0 x2) < 0 then (0) else (if 0 < (lg_cmp x0 x4) then (0) else (1))
set_option maxHeartbeats 4000000 in
set_option maxRecDepth 100000 in
theorem c_X11_in (l : Launch) (D : va_G) (cI cJ : ClassId) (x0 : Int64) (x2 : Int64) (x4 : Int64) : Met l yX11_in wsX11_in ({ frames := 0, cells := 0, slots := 0, locals := 0 } : Room) (va_Pc [.long x0, .long x2, .long x4] (preG D cI cJ [])) (QG D [] [] (some (.int (fX11_in x0 x2 x4)))) 0 0 (fr []) := by
  generalize h : fX11_in x0 x2 x4 = z
  refine Met.ofW (cc := cX11_in) (maxL := 6) (ret := (some .boolean)) (by decide) rfl ?_
  intro p e s m args below meth c s₁ B hml hv
  obtain ⟨hargs, hP, hK, hN, hD0⟩ := hv
  have hx := B.exec
  have hb := B.bytes
  have hr := B.returns
  have hts := atoms_spec (ws := wsX11_in) B.pre
  have hown : s.vm.findClass RX11 = some m.cls := findClass_of_methodNamed B.named
  have hlocks := B.notSynchronized
  have hD := fr_D hD0
  have hS : va_S (fr []) s.heap s.heap [] := va_S.rf
  have hl := lv_entry ([.long x0, .long x2, .long x4]) (n := 6) (Nat.le_of_ble_eq_true rfl)
  refine W.eq (g2 := F0 m 0 ((lg_sl ([.long x0, .long x2, .long x4]) ++ List.replicate (6 - (lg_sl ([.long x0, .long x2, .long x4])).length) Slot.unset).toArray) []) (by rw [hargs, lg_entry_eq]) ?_
  generalize (lg_sl ([.long x0, .long x2, .long x4]) ++ List.replicate (6 - (lg_sl ([.long x0, .long x2, .long x4])).length) Slot.unset).toArray = ls at hl ⊢
  have hl : lv_has ls 6 [(0, .long x0), (2, .long x2), (4, .long x4)] := hl
  show W p l e ({ frames := 0, cells := 0, slots := 0, locals := 0 } : Room) s m args below meth c s.heap [] 0 0 (MQ below (QG D [] [] (some (.int z))) args s 0 0 (fr [])) (F0 m 0 ls [])
  generalize hQ0 : (MQ below (QG D [] [] (some (.int z))) args s 0 0 (fr [])) = Q0
  generalize hA0 : fr [] = A0 at hD hS
  unfold fX11_in at h
  refine lv_lload_n hx hb dX11_in_0 rfl (lv_at hl 0 rfl) ?_
  refine lv_lload_n hx hb dX11_in_1 rfl (lv_at hl 1 rfl) ?_
  refine W.lcmp hx hb dX11_in_2 ?_
  refine lv_if_lt (tgt := 17) hx hb dX11_in_3 (by decide) (fun c1 => ?_) (fun c1 => ?_)
  · skip
    have h := (if_pos c1).symm.trans h
    refine lv_iconst (v := 0) hx hb dX11_in_17 (by decide) ?_
    subst h
    exact rt_z hA0 hQ0 hx hb hr hlocks rfl hP hS dX11_in_18
  · skip
    have h := (if_neg c1).symm.trans h
    refine lv_lload_n hx hb dX11_in_6 rfl (lv_at hl 0 rfl) ?_
    refine lv_lload hx hb dX11_in_7 (lv_at hl 2 rfl) ?_
    refine W.lcmp hx hb dX11_in_9 ?_
    refine lv_if_gt (tgt := 17) hx hb dX11_in_10 (by decide) (fun c2 => ?_) (fun c2 => ?_)
    · skip
      have h := (if_pos c2).symm.trans h
      refine lv_iconst (v := 0) hx hb dX11_in_17 (by decide) ?_
      subst h
      exact rt_z hA0 hQ0 hx hb hr hlocks rfl hP hS dX11_in_18
    · skip
      have h := (if_neg c2).symm.trans h
      refine lv_iconst (v := 1) hx hb dX11_in_13 (by decide) ?_
      refine lv_goto (tgt := 18) hx hb dX11_in_14 (by decide) ?_
      subst h
      exact rt_z hA0 hQ0 hx hb hr hlocks rfl hP hS dX11_in_18
theorem zb_X11_in (x0 : Int64) (x2 : Int64) (x4 : Int64) : narrow .boolean (.int (fX11_in x0 x2 x4)) = .int (fX11_in x0 x2 x4) := by
  unfold fX11_in
  repeat' split
  all_goals rfl
def fX11_letters_X108_151  (a9 : Int32 × (Nat → Int32)) : Option (Int32 × Int32 × (Nat → Int32)) :=
  some (a9.1, a9.1, a9.2)
def fX11_letters_L108 (x1 : Int64) (a3 : Int32 × Int32) (z7 : Int32 × Int32 × (Nat → Int32)) : Option ((Int32 × Int32 × (Nat → Int32)) ⊕ (Int32 × (Nat → Int32))) :=
  if a3.1 ≤ z7.1 then (some (Sum.inr (z7.2.1, z7.2.2))) else (gd (inb z7.2.1 22) (some (Sum.inl ((z7.1 + 1), (z7.2.1 + 1), (upd z7.2.2 z7.2.1.toNatClampNeg ((((((x1 : Int64).toUInt64 >>> (((8 * z7.1) : Int32).toInt64.toUInt64 &&& Int64.toUInt64 63)).toInt64) &&& 255) : Int64).toInt32))))))
def fX11_letters_X11_83 (v_t_pageMany : Int32) (v_t_page : Nat → Int32) (x1 : Int64) (a3 : Int32 × Int32) : Option (Int32 × Int32 × (Nat → Int32)) :=
  if a3.2 = 0 then (some ((-102), v_t_pageMany, v_t_page)) else (if (v_t_pageMany + a3.1) ≤ 22 then ((iter (fX11_letters_L108 x1 a3) FU (0, v_t_pageMany, v_t_page)).bind (fX11_letters_X108_151)) else (some ((-104), v_t_pageMany, v_t_page)))
def fX11_letters_L11  (z1 : Int32 × Int32 × Int64 × Int32) : Option ((Int32 × Int32 × Int64 × Int32) ⊕ (Int32 × Int32)) :=
  if 8 ≤ z1.2.2.2 then (some (Sum.inr (z1.1, z1.2.1))) else (some (Sum.inl ((z1.1 + (if (((z1.2.2.1 &&& 255) : Int64).toInt32) ≤ 0 then 0 else 1 : Int32)), (if z1.2.1 = 0 then 0 else (if 126 < (((z1.2.2.1 &&& 255) : Int64).toInt32) then 0 else (if (((z1.2.2.1 &&& 255) : Int64).toInt32) = 0 then 1 else (if z1.1 = z1.2.2.2 then 1 else 0 : Int32) : Int32) : Int32) : Int32), (((z1.2.2.1 : Int64).toUInt64 >>> ((8 : Int32).toInt64.toUInt64 &&& Int64.toUInt64 63)).toInt64), (z1.2.2.2 + 1))))
def fX11_letters (v_t_pageMany : Int32) (v_t_readMany : Int32) (v_t_told : Int32) (v_t_many : Int32) (v_t_lostByHands : Int32) (v_t_lostByMould : Int32) (v_t_ringMany : Int32) (v_t_seedNow : Int32) (v_t_keptMany : Int32) (v_t_keptByHands : Int32) (v_t_keptByMould : Int32) (v_t_hash : Int64) (v_t_page : Nat → Int32) (x1 : Int64) : Option (Int32 × Int32 × (Nat → Int32)) :=
  (iter (fX11_letters_L11) FU (0, 1, x1, 0)).bind (fX11_letters_X11_83 v_t_pageMany v_t_page x1)
set_option maxHeartbeats 4000000 in
set_option maxRecDepth 100000 in
theorem c_X11_letters (l : Launch) (D : va_G) (cI cJ : ClassId) (q_t q_t_page q_t_readKinds q_t_readLeaflets q_t_rows q_t_debts q_t_ring q_t_line q_t_groups q_t_likely q_t_likelyThen q_t_saved q_t_keptRows q_t_keptDebts : Nat) (v_t_pageMany : Int32) (v_t_readMany : Int32) (v_t_told : Int32) (v_t_many : Int32) (v_t_lostByHands : Int32) (v_t_lostByMould : Int32) (v_t_ringMany : Int32) (v_t_seedNow : Int32) (v_t_keptMany : Int32) (v_t_keptByHands : Int32) (v_t_keptByMould : Int32) (v_t_hash : Int64) (v_t_page : Nat → Int32) (x1 : Int64) (z : Int32 × Int32 × (Nat → Int32)) (h : fX11_letters v_t_pageMany v_t_readMany v_t_told v_t_many v_t_lostByHands v_t_lostByMould v_t_ringMany v_t_seedNow v_t_keptMany v_t_keptByHands v_t_keptByMould v_t_hash v_t_page x1 = some z) : Met l yX11_letters wsX11_letters ({ frames := 0, cells := 0, slots := 0, locals := 0 } : Room) (va_Pc [.ref q_t, .long x1] (preG D cI cJ [(q_t, .inr (10, [.ref q_t_page, .int v_t_pageMany, .ref q_t_readKinds, .ref q_t_readLeaflets, .int v_t_readMany, .int v_t_told, .int v_t_many, .int v_t_lostByHands, .int v_t_lostByMould, .ref q_t_rows, .ref q_t_debts, .int v_t_ringMany, .ref q_t_ring, .ref q_t_line, .ref q_t_groups, .ref q_t_likely, .ref q_t_likelyThen, .int v_t_seedNow, .ref q_t_saved, .int v_t_keptMany, .int v_t_keptByHands, .int v_t_keptByMould, .ref q_t_keptRows, .ref q_t_keptDebts, .long v_t_hash])), (q_t_page, .inl (cI, 22, .inl v_t_page))])) (QG D [(q_t, .inr (10, [.ref q_t_page, .int v_t_pageMany, .ref q_t_readKinds, .ref q_t_readLeaflets, .int v_t_readMany, .int v_t_told, .int v_t_many, .int v_t_lostByHands, .int v_t_lostByMould, .ref q_t_rows, .ref q_t_debts, .int v_t_ringMany, .ref q_t_ring, .ref q_t_line, .ref q_t_groups, .ref q_t_likely, .ref q_t_likelyThen, .int v_t_seedNow, .ref q_t_saved, .int v_t_keptMany, .int v_t_keptByHands, .int v_t_keptByMould, .ref q_t_keptRows, .ref q_t_keptDebts, .long v_t_hash])), (q_t_page, .inl (cI, 22, .inl v_t_page))] [(q_t, .inr (10, [.ref q_t_page, .int z.2.1, .ref q_t_readKinds, .ref q_t_readLeaflets, .int v_t_readMany, .int v_t_told, .int v_t_many, .int v_t_lostByHands, .int v_t_lostByMould, .ref q_t_rows, .ref q_t_debts, .int v_t_ringMany, .ref q_t_ring, .ref q_t_line, .ref q_t_groups, .ref q_t_likely, .ref q_t_likelyThen, .int v_t_seedNow, .ref q_t_saved, .int v_t_keptMany, .int v_t_keptByHands, .int v_t_keptByMould, .ref q_t_keptRows, .ref q_t_keptDebts, .long v_t_hash])), (q_t_page, .inl (cI, 22, .inl z.2.2))] (some (.int z.1))) 0 0 (fr [(q_t, .inr (10, [.ref q_t_page, .int v_t_pageMany, .ref q_t_readKinds, .ref q_t_readLeaflets, .int v_t_readMany, .int v_t_told, .int v_t_many, .int v_t_lostByHands, .int v_t_lostByMould, .ref q_t_rows, .ref q_t_debts, .int v_t_ringMany, .ref q_t_ring, .ref q_t_line, .ref q_t_groups, .ref q_t_likely, .ref q_t_likelyThen, .int v_t_seedNow, .ref q_t_saved, .int v_t_keptMany, .int v_t_keptByHands, .int v_t_keptByMould, .ref q_t_keptRows, .ref q_t_keptDebts, .long v_t_hash])), (q_t_page, .inl (cI, 22, .inl v_t_page))]) := by
  refine Met.ofW (cc := cX11_letters) (maxL := 9) (ret := (some .int)) (by decide) rfl ?_
  intro p e s m args below meth c s₁ B hml hv
  obtain ⟨hargs, hP, hK, hN, hD0⟩ := hv
  have hx := B.exec
  have hb := B.bytes
  have hr := B.returns
  have hts := atoms_spec (ws := wsX11_letters) B.pre
  have hown : s.vm.findClass RX11 = some m.cls := findClass_of_methodNamed B.named
  have hlocks := B.notSynchronized
  have iX11 : ∀ w ∈ wsX110, w ∈ wsX11_letters := by decide +kernel
  have k7 := hts (.fieldLink RX11 7 "PressedFernsModel" "page" "[I") (by decide +kernel)
  have k56 := hts (.fieldLink RX11 56 "PressedFernsModel" "pageMany" "I") (by decide +kernel)
  have hD := fr_D hD0
  have hS : va_S (fr [(q_t, .inr (10, [.ref q_t_page, .int v_t_pageMany, .ref q_t_readKinds, .ref q_t_readLeaflets, .int v_t_readMany, .int v_t_told, .int v_t_many, .int v_t_lostByHands, .int v_t_lostByMould, .ref q_t_rows, .ref q_t_debts, .int v_t_ringMany, .ref q_t_ring, .ref q_t_line, .ref q_t_groups, .ref q_t_likely, .ref q_t_likelyThen, .int v_t_seedNow, .ref q_t_saved, .int v_t_keptMany, .int v_t_keptByHands, .int v_t_keptByMould, .ref q_t_keptRows, .ref q_t_keptDebts, .long v_t_hash])), (q_t_page, .inl (cI, 22, .inl v_t_page))]) s.heap s.heap [] := va_S.rf
  have hl := lv_entry ([.ref q_t, .long x1]) (n := 9) (Nat.le_of_ble_eq_true rfl)
  refine W.eq (g2 := F0 m 0 ((lg_sl ([.ref q_t, .long x1]) ++ List.replicate (9 - (lg_sl ([.ref q_t, .long x1])).length) Slot.unset).toArray) []) (by rw [hargs, lg_entry_eq]) ?_
  generalize (lg_sl ([.ref q_t, .long x1]) ++ List.replicate (9 - (lg_sl ([.ref q_t, .long x1])).length) Slot.unset).toArray = ls at hl ⊢
  have hl : lv_has ls 9 [(0, .ref q_t), (1, .long x1)] := hl
  show W p l e ({ frames := 0, cells := 0, slots := 0, locals := 0 } : Room) s m args below meth c s.heap [] 0 0 (MQ below (QG D [(q_t, .inr (10, [.ref q_t_page, .int v_t_pageMany, .ref q_t_readKinds, .ref q_t_readLeaflets, .int v_t_readMany, .int v_t_told, .int v_t_many, .int v_t_lostByHands, .int v_t_lostByMould, .ref q_t_rows, .ref q_t_debts, .int v_t_ringMany, .ref q_t_ring, .ref q_t_line, .ref q_t_groups, .ref q_t_likely, .ref q_t_likelyThen, .int v_t_seedNow, .ref q_t_saved, .int v_t_keptMany, .int v_t_keptByHands, .int v_t_keptByMould, .ref q_t_keptRows, .ref q_t_keptDebts, .long v_t_hash])), (q_t_page, .inl (cI, 22, .inl v_t_page))] [(q_t, .inr (10, [.ref q_t_page, .int z.2.1, .ref q_t_readKinds, .ref q_t_readLeaflets, .int v_t_readMany, .int v_t_told, .int v_t_many, .int v_t_lostByHands, .int v_t_lostByMould, .ref q_t_rows, .ref q_t_debts, .int v_t_ringMany, .ref q_t_ring, .ref q_t_line, .ref q_t_groups, .ref q_t_likely, .ref q_t_likelyThen, .int v_t_seedNow, .ref q_t_saved, .int v_t_keptMany, .int v_t_keptByHands, .int v_t_keptByMould, .ref q_t_keptRows, .ref q_t_keptDebts, .long v_t_hash])), (q_t_page, .inl (cI, 22, .inl z.2.2))] (some (.int z.1))) args s 0 0 (fr [(q_t, .inr (10, [.ref q_t_page, .int v_t_pageMany, .ref q_t_readKinds, .ref q_t_readLeaflets, .int v_t_readMany, .int v_t_told, .int v_t_many, .int v_t_lostByHands, .int v_t_lostByMould, .ref q_t_rows, .ref q_t_debts, .int v_t_ringMany, .ref q_t_ring, .ref q_t_line, .ref q_t_groups, .ref q_t_likely, .ref q_t_likelyThen, .int v_t_seedNow, .ref q_t_saved, .int v_t_keptMany, .int v_t_keptByHands, .int v_t_keptByMould, .ref q_t_keptRows, .ref q_t_keptDebts, .long v_t_hash])), (q_t_page, .inl (cI, 22, .inl v_t_page))])) (F0 m 0 ls [])
  generalize hQ0 : (MQ below (QG D [(q_t, .inr (10, [.ref q_t_page, .int v_t_pageMany, .ref q_t_readKinds, .ref q_t_readLeaflets, .int v_t_readMany, .int v_t_told, .int v_t_many, .int v_t_lostByHands, .int v_t_lostByMould, .ref q_t_rows, .ref q_t_debts, .int v_t_ringMany, .ref q_t_ring, .ref q_t_line, .ref q_t_groups, .ref q_t_likely, .ref q_t_likelyThen, .int v_t_seedNow, .ref q_t_saved, .int v_t_keptMany, .int v_t_keptByHands, .int v_t_keptByMould, .ref q_t_keptRows, .ref q_t_keptDebts, .long v_t_hash])), (q_t_page, .inl (cI, 22, .inl v_t_page))] [(q_t, .inr (10, [.ref q_t_page, .int z.2.1, .ref q_t_readKinds, .ref q_t_readLeaflets, .int v_t_readMany, .int v_t_told, .int v_t_many, .int v_t_lostByHands, .int v_t_lostByMould, .ref q_t_rows, .ref q_t_debts, .int v_t_ringMany, .ref q_t_ring, .ref q_t_line, .ref q_t_groups, .ref q_t_likely, .ref q_t_likelyThen, .int v_t_seedNow, .ref q_t_saved, .int v_t_keptMany, .int v_t_keptByHands, .int v_t_keptByMould, .ref q_t_keptRows, .ref q_t_keptDebts, .long v_t_hash])), (q_t_page, .inl (cI, 22, .inl z.2.2))] (some (.int z.1))) args s 0 0 (fr [(q_t, .inr (10, [.ref q_t_page, .int v_t_pageMany, .ref q_t_readKinds, .ref q_t_readLeaflets, .int v_t_readMany, .int v_t_told, .int v_t_many, .int v_t_lostByHands, .int v_t_lostByMould, .ref q_t_rows, .ref q_t_debts, .int v_t_ringMany, .ref q_t_ring, .ref q_t_line, .ref q_t_groups, .ref q_t_likely, .ref q_t_likelyThen, .int v_t_seedNow, .ref q_t_saved, .int v_t_keptMany, .int v_t_keptByHands, .int v_t_keptByMould, .ref q_t_keptRows, .ref q_t_keptDebts, .long v_t_hash])), (q_t_page, .inl (cI, 22, .inl v_t_page))])) = Q0
  generalize hA0 : fr [(q_t, .inr (10, [.ref q_t_page, .int v_t_pageMany, .ref q_t_readKinds, .ref q_t_readLeaflets, .int v_t_readMany, .int v_t_told, .int v_t_many, .int v_t_lostByHands, .int v_t_lostByMould, .ref q_t_rows, .ref q_t_debts, .int v_t_ringMany, .ref q_t_ring, .ref q_t_line, .ref q_t_groups, .ref q_t_likely, .ref q_t_likelyThen, .int v_t_seedNow, .ref q_t_saved, .int v_t_keptMany, .int v_t_keptByHands, .int v_t_keptByMould, .ref q_t_keptRows, .ref q_t_keptDebts, .long v_t_hash])), (q_t_page, .inl (cI, 22, .inl v_t_page))] = A0 at hD hS
  unfold fX11_letters at h
  refine lv_iconst (v := 0) hx hb dX11_letters_0 (by decide) ?_
  refine lv_istore_n (lv' := [(3, .int 0), (0, .ref q_t), (1, .long x1)]) hx hb dX11_letters_1 rfl hl (by decide) rfl (fun ls hl => ?_)
  refine lv_iconst (v := 1) hx hb dX11_letters_2 (by decide) ?_
  refine lv_istore (lv' := [(4, .int 1), (3, .int 0), (0, .ref q_t), (1, .long x1)]) hx hb dX11_letters_3 hl (by decide) rfl (fun ls hl => ?_)
  refine lv_lload_n hx hb dX11_letters_5 rfl (lv_at hl 3 rfl) ?_
  refine lv_lstore (lv' := [(5, .long x1), (4, .int 1), (3, .int 0), (0, .ref q_t), (1, .long x1)]) hx hb dX11_letters_6 hl (by decide) rfl (fun ls hl => ?_)
  refine lv_iconst (v := 0) hx hb dX11_letters_8 (by decide) ?_
  refine lv_istore (lv' := [(7, .int 0), (5, .long x1), (4, .int 1), (3, .int 0), (0, .ref q_t), (1, .long x1)]) hx hb dX11_letters_9 hl (by decide) rfl (fun ls hl => ?_)
  obtain ⟨e2, he_e2, hc_e2⟩ := bd_of h
  have X83_4 : ∀ (a3 : Int32 × Int32) (H : Heap) (locs : List Loc) (ls : Array Slot), fX11_letters_X11_83 v_t_pageMany v_t_page x1 a3 = some z → va_P D vwCl [(q_t, .inr (10, [.ref q_t_page, .int v_t_pageMany, .ref q_t_readKinds, .ref q_t_readLeaflets, .int v_t_readMany, .int v_t_told, .int v_t_many, .int v_t_lostByHands, .int v_t_lostByMould, .ref q_t_rows, .ref q_t_debts, .int v_t_ringMany, .ref q_t_ring, .ref q_t_line, .ref q_t_groups, .ref q_t_likely, .ref q_t_likelyThen, .int v_t_seedNow, .ref q_t_saved, .int v_t_keptMany, .int v_t_keptByHands, .int v_t_keptByMould, .ref q_t_keptRows, .ref q_t_keptDebts, .long v_t_hash])), (q_t_page, .inl (cI, 22, .inl v_t_page))] H → va_D A0 [(q_t, .inr (10, [.ref q_t_page, .int v_t_pageMany, .ref q_t_readKinds, .ref q_t_readLeaflets, .int v_t_readMany, .int v_t_told, .int v_t_many, .int v_t_lostByHands, .int v_t_lostByMould, .ref q_t_rows, .ref q_t_debts, .int v_t_ringMany, .ref q_t_ring, .ref q_t_line, .ref q_t_groups, .ref q_t_likely, .ref q_t_likelyThen, .int v_t_seedNow, .ref q_t_saved, .int v_t_keptMany, .int v_t_keptByHands, .int v_t_keptByMould, .ref q_t_keptRows, .ref q_t_keptDebts, .long v_t_hash])), (q_t_page, .inl (cI, 22, .inl v_t_page))] → va_S A0 s.heap H locs → lv_has ls 9 [(0, .ref q_t), (1, .long x1), (3, .int a3.1), (4, .int a3.2)] → W p l e ({ frames := 0, cells := 0, slots := 0, locals := 0 } : Room) s m args below meth c H locs 0 0 Q0 (F0 m 83 ls []) := by
    intro a3 H locs ls h hP hD hS hl
    unfold fX11_letters_X11_83 at h
    refine lv_iload hx hb dX11_letters_83 (lv_at hl 3 rfl) ?_
    refine lv_if_ne (tgt := 91) hx hb dX11_letters_85 (by decide) (fun c5 => ?_) (fun c5 => ?_)
    · skip
      have h := (if_neg c5).symm.trans h
      refine lv_aload_n hx hb dX11_letters_91 rfl (lv_at hl 0 rfl) ?_
      refine va_get (own := RX11) (ci := 10) (v := .int v_t_pageMany) (C := RX11) (T := TX11) (N := 25) hx hb hts iX11 hown hK hP 0 rfl rfl 1 (by decide) k56 (fun _ h9 => h9) rfl dX11_letters_92 ?_
      refine lv_iload_n hx hb dX11_letters_95 rfl (lv_at hl 2 rfl) ?_
      refine lv_iadd hx hb dX11_letters_96 ?_
      refine lv_bipush (v := 22) hx hb dX11_letters_97 (by decide) ?_
      refine lv_icmp_le (tgt := 105) hx hb dX11_letters_99 (by decide) (fun c6 => ?_) (fun c6 => ?_)
      · skip
        have h := (if_pos c6).symm.trans h
        refine lv_iconst (v := 0) hx hb dX11_letters_105 (by decide) ?_
        refine lv_istore (lv' := [(7, .int 0), (0, .ref q_t), (1, .long x1), (3, .int a3.1), (4, .int a3.2)]) hx hb dX11_letters_106 hl (by decide) rfl (fun ls hl => ?_)
        obtain ⟨e8, he_e8, hc_e8⟩ := bd_of h
        have X151_10 : ∀ (a9 : Int32 × (Nat → Int32)) (H : Heap) (locs : List Loc) (ls : Array Slot), fX11_letters_X108_151 a9 = some z → va_P D vwCl [(q_t, .inr (10, [.ref q_t_page, .int a9.1, .ref q_t_readKinds, .ref q_t_readLeaflets, .int v_t_readMany, .int v_t_told, .int v_t_many, .int v_t_lostByHands, .int v_t_lostByMould, .ref q_t_rows, .ref q_t_debts, .int v_t_ringMany, .ref q_t_ring, .ref q_t_line, .ref q_t_groups, .ref q_t_likely, .ref q_t_likelyThen, .int v_t_seedNow, .ref q_t_saved, .int v_t_keptMany, .int v_t_keptByHands, .int v_t_keptByMould, .ref q_t_keptRows, .ref q_t_keptDebts, .long v_t_hash])), (q_t_page, .inl (cI, 22, .inl a9.2))] H → va_D A0 [(q_t, .inr (10, [.ref q_t_page, .int a9.1, .ref q_t_readKinds, .ref q_t_readLeaflets, .int v_t_readMany, .int v_t_told, .int v_t_many, .int v_t_lostByHands, .int v_t_lostByMould, .ref q_t_rows, .ref q_t_debts, .int v_t_ringMany, .ref q_t_ring, .ref q_t_line, .ref q_t_groups, .ref q_t_likely, .ref q_t_likelyThen, .int v_t_seedNow, .ref q_t_saved, .int v_t_keptMany, .int v_t_keptByHands, .int v_t_keptByMould, .ref q_t_keptRows, .ref q_t_keptDebts, .long v_t_hash])), (q_t_page, .inl (cI, 22, .inl a9.2))] → va_S A0 s.heap H locs → lv_has ls 9 [(0, .ref q_t)] → W p l e ({ frames := 0, cells := 0, slots := 0, locals := 0 } : Room) s m args below meth c H locs 0 0 Q0 (F0 m 151 ls []) := by
          intro a9 H locs ls h hP hD hS hl
          unfold fX11_letters_X108_151 at h
          refine lv_aload_n hx hb dX11_letters_151 rfl (lv_at hl 0 rfl) ?_
          refine va_get (own := RX11) (ci := 10) (v := .int a9.1) (C := RX11) (T := TX11) (N := 25) hx hb hts iX11 hown hK hP 0 rfl rfl 1 (by decide) k56 (fun _ h9 => h9) rfl dX11_letters_152 ?_
          obtain rfl := Option.some.inj h
          exact rt_i hA0 hQ0 hx hb hr hlocks hP hS dX11_letters_155
        have L108_11 : ∀ (n : Nat) (z7 : Int32 × Int32 × (Nat → Int32)) (H : Heap) (locs : List Loc) (ls : Array Slot), iter (fX11_letters_L108 x1 a3) n z7 = some e8 → va_P D vwCl [(q_t, .inr (10, [.ref q_t_page, .int z7.2.1, .ref q_t_readKinds, .ref q_t_readLeaflets, .int v_t_readMany, .int v_t_told, .int v_t_many, .int v_t_lostByHands, .int v_t_lostByMould, .ref q_t_rows, .ref q_t_debts, .int v_t_ringMany, .ref q_t_ring, .ref q_t_line, .ref q_t_groups, .ref q_t_likely, .ref q_t_likelyThen, .int v_t_seedNow, .ref q_t_saved, .int v_t_keptMany, .int v_t_keptByHands, .int v_t_keptByMould, .ref q_t_keptRows, .ref q_t_keptDebts, .long v_t_hash])), (q_t_page, .inl (cI, 22, .inl z7.2.2))] H → va_D A0 [(q_t, .inr (10, [.ref q_t_page, .int z7.2.1, .ref q_t_readKinds, .ref q_t_readLeaflets, .int v_t_readMany, .int v_t_told, .int v_t_many, .int v_t_lostByHands, .int v_t_lostByMould, .ref q_t_rows, .ref q_t_debts, .int v_t_ringMany, .ref q_t_ring, .ref q_t_line, .ref q_t_groups, .ref q_t_likely, .ref q_t_likelyThen, .int v_t_seedNow, .ref q_t_saved, .int v_t_keptMany, .int v_t_keptByHands, .int v_t_keptByMould, .ref q_t_keptRows, .ref q_t_keptDebts, .long v_t_hash])), (q_t_page, .inl (cI, 22, .inl z7.2.2))] → va_S A0 s.heap H locs → lv_has ls 9 [(0, .ref q_t), (1, .long x1), (3, .int a3.1), (7, .int z7.1)] → W p l e ({ frames := 0, cells := 0, slots := 0, locals := 0 } : Room) s m args below meth c H locs 0 0 Q0 (F0 m 108 ls []) := by
          intro n
          induction n with
          | zero => exact fun _ _ _ _ h => (iter_z h).elim
          | succ n ih =>
            intro z7 H locs ls h hP hD hS hl
            obtain ⟨r_e8, h, hn_e8⟩ := iter_s h
            unfold fX11_letters_L108 at h
            refine lv_iload hx hb dX11_letters_108 (lv_at hl 3 rfl) ?_
            refine lv_iload_n hx hb dX11_letters_110 rfl (lv_at hl 2 rfl) ?_
            refine lv_icmp_ge (tgt := 151) hx hb dX11_letters_111 (by decide) (fun c12 => ?_) (fun c12 => ?_)
            · skip
              have h := (if_pos c12).symm.trans h
              obtain rfl := Option.some.inj h
              obtain rfl := Option.some.inj hn_e8
              exact X151_10 (z7.2.1, z7.2.2) _ _ _ hc_e8 hP hD hS (lv_sub hl [0] rfl)
            · skip
              have h := (if_neg c12).symm.trans h
              refine lv_aload_n hx hb dX11_letters_114 rfl (lv_at hl 0 rfl) ?_
              refine va_get (own := RX11) (ci := 10) (v := .ref q_t_page) (C := RX11) (T := TX11) (N := 25) hx hb hts iX11 hown hK hP 0 rfl rfl 0 (by decide) k7 (fun _ h9 => h9) rfl dX11_letters_115 ?_
              refine lv_aload_n hx hb dX11_letters_118 rfl (lv_at hl 0 rfl) ?_
              refine va_get (own := RX11) (ci := 10) (v := .int z7.2.1) (C := RX11) (T := TX11) (N := 25) hx hb hts iX11 hown hK hP 0 rfl rfl 1 (by decide) k56 (fun _ h9 => h9) rfl dX11_letters_119 ?_
              refine lv_lload_n hx hb dX11_letters_122 rfl (lv_at hl 1 rfl) ?_
              refine lv_bipush (v := 8) hx hb dX11_letters_123 (by decide) ?_
              refine lv_iload hx hb dX11_letters_125 (lv_at hl 3 rfl) ?_
              refine lv_imul hx hb dX11_letters_127 ?_
              refine lv_lushr hx hb dX11_letters_128 rfl ?_
              refine lv_ldc2 (own := RX11) (v := 255) hx hb hown (hts (.constantLong RX11 54 (255)) (by decide +kernel)) dX11_letters_129 ?_
              refine lv_land hx hb dX11_letters_132 ?_
              refine lv_l2i hx hb dX11_letters_133 rfl ?_
              obtain ⟨g13, h⟩ := gd_of h
              refine va_iast hx hb hK hP hD hS 1 0 rfl rfl (inb_of g13) dX11_letters_134 (fun H locs hP hD hS => ?_)
              have hP : va_P D vwCl [(q_t, .inr (10, [.ref q_t_page, .int z7.2.1, .ref q_t_readKinds, .ref q_t_readLeaflets, .int v_t_readMany, .int v_t_told, .int v_t_many, .int v_t_lostByHands, .int v_t_lostByMould, .ref q_t_rows, .ref q_t_debts, .int v_t_ringMany, .ref q_t_ring, .ref q_t_line, .ref q_t_groups, .ref q_t_likely, .ref q_t_likelyThen, .int v_t_seedNow, .ref q_t_saved, .int v_t_keptMany, .int v_t_keptByHands, .int v_t_keptByMould, .ref q_t_keptRows, .ref q_t_keptDebts, .long v_t_hash])), (q_t_page, .inl (cI, 22, .inl (upd z7.2.2 z7.2.1.toNatClampNeg ((((((x1 : Int64).toUInt64 >>> (((8 * z7.1) : Int32).toInt64.toUInt64 &&& Int64.toUInt64 63)).toInt64) &&& 255) : Int64).toInt32))))] H := hP
              have hD : va_D A0 [(q_t, .inr (10, [.ref q_t_page, .int z7.2.1, .ref q_t_readKinds, .ref q_t_readLeaflets, .int v_t_readMany, .int v_t_told, .int v_t_many, .int v_t_lostByHands, .int v_t_lostByMould, .ref q_t_rows, .ref q_t_debts, .int v_t_ringMany, .ref q_t_ring, .ref q_t_line, .ref q_t_groups, .ref q_t_likely, .ref q_t_likelyThen, .int v_t_seedNow, .ref q_t_saved, .int v_t_keptMany, .int v_t_keptByHands, .int v_t_keptByMould, .ref q_t_keptRows, .ref q_t_keptDebts, .long v_t_hash])), (q_t_page, .inl (cI, 22, .inl (upd z7.2.2 z7.2.1.toNatClampNeg ((((((x1 : Int64).toUInt64 >>> (((8 * z7.1) : Int32).toInt64.toUInt64 &&& Int64.toUInt64 63)).toInt64) &&& 255) : Int64).toInt32))))] := hD
              refine lv_aload_n hx hb dX11_letters_135 rfl (lv_at hl 0 rfl) ?_
              refine lv_dup hx hb dX11_letters_136 rfl ?_
              refine va_get (own := RX11) (ci := 10) (v := .int z7.2.1) (C := RX11) (T := TX11) (N := 25) hx hb hts iX11 hown hK hP 0 rfl rfl 1 (by decide) k56 (fun _ h9 => h9) rfl dX11_letters_137 ?_
              refine lv_iconst (v := 1) hx hb dX11_letters_140 (by decide) ?_
              refine lv_iadd hx hb dX11_letters_141 ?_
              refine va_put (D := D) (own := RX11) (ci := 10) (v := .int (z7.2.1 + 1)) (ty := .int) (C := RX11) (T := TX11) (N := 25) hx hb hts iX11 tyX11 tyX11_ok nmX11 hown hK hP hD hS 0 rfl rfl 1 (by decide) k56 (fun _ h9 => h9) rfl (by decide +kernel) rfl rfl (Nat.le_of_ble_eq_true rfl) dX11_letters_142 (fun H locs hP hD hS => ?_)
              have hP : va_P D vwCl [(q_t, .inr (10, [.ref q_t_page, .int (z7.2.1 + 1), .ref q_t_readKinds, .ref q_t_readLeaflets, .int v_t_readMany, .int v_t_told, .int v_t_many, .int v_t_lostByHands, .int v_t_lostByMould, .ref q_t_rows, .ref q_t_debts, .int v_t_ringMany, .ref q_t_ring, .ref q_t_line, .ref q_t_groups, .ref q_t_likely, .ref q_t_likelyThen, .int v_t_seedNow, .ref q_t_saved, .int v_t_keptMany, .int v_t_keptByHands, .int v_t_keptByMould, .ref q_t_keptRows, .ref q_t_keptDebts, .long v_t_hash])), (q_t_page, .inl (cI, 22, .inl (upd z7.2.2 z7.2.1.toNatClampNeg ((((((x1 : Int64).toUInt64 >>> (((8 * z7.1) : Int32).toInt64.toUInt64 &&& Int64.toUInt64 63)).toInt64) &&& 255) : Int64).toInt32))))] H := hP
              have hD : va_D A0 [(q_t, .inr (10, [.ref q_t_page, .int (z7.2.1 + 1), .ref q_t_readKinds, .ref q_t_readLeaflets, .int v_t_readMany, .int v_t_told, .int v_t_many, .int v_t_lostByHands, .int v_t_lostByMould, .ref q_t_rows, .ref q_t_debts, .int v_t_ringMany, .ref q_t_ring, .ref q_t_line, .ref q_t_groups, .ref q_t_likely, .ref q_t_likelyThen, .int v_t_seedNow, .ref q_t_saved, .int v_t_keptMany, .int v_t_keptByHands, .int v_t_keptByMould, .ref q_t_keptRows, .ref q_t_keptDebts, .long v_t_hash])), (q_t_page, .inl (cI, 22, .inl (upd z7.2.2 z7.2.1.toNatClampNeg ((((((x1 : Int64).toUInt64 >>> (((8 * z7.1) : Int32).toInt64.toUInt64 &&& Int64.toUInt64 63)).toInt64) &&& 255) : Int64).toInt32))))] := hD
              refine lv_iinc (v := (z7.1 + 1)) (lv' := [(7, .int (z7.1 + 1)), (0, .ref q_t), (1, .long x1), (3, .int a3.1)]) hx hb dX11_letters_145 hl (k := 3) rfl rfl (by decide) rfl (fun ls hl => ?_)
              refine lv_goto (tgt := 108) hx hb dX11_letters_148 (by decide) ?_
              obtain rfl := Option.some.inj h
              exact ih ((z7.1 + 1), (z7.2.1 + 1), (upd z7.2.2 z7.2.1.toNatClampNeg ((((((x1 : Int64).toUInt64 >>> (((8 * z7.1) : Int32).toInt64.toUInt64 &&& Int64.toUInt64 63)).toInt64) &&& 255) : Int64).toInt32))) _ _ _ hn_e8 hP hD hS (lv_sub hl [1, 2, 3, 0] rfl)
        exact L108_11 FU (0, v_t_pageMany, v_t_page) _ _ _ he_e8 hP hD hS (lv_sub hl [1, 2, 3, 0] rfl)
      · skip
        have h := (if_neg c6).symm.trans h
        refine lv_bipush (v := (-104)) hx hb dX11_letters_102 (by decide) ?_
        obtain rfl := Option.some.inj h
        exact rt_i hA0 hQ0 hx hb hr hlocks hP hS dX11_letters_104
    · skip
      have h := (if_pos c5).symm.trans h
      refine lv_bipush (v := (-102)) hx hb dX11_letters_88 (by decide) ?_
      obtain rfl := Option.some.inj h
      exact rt_i hA0 hQ0 hx hb hr hlocks hP hS dX11_letters_90
  have L11_14 : ∀ (n : Nat) (z1 : Int32 × Int32 × Int64 × Int32) (H : Heap) (locs : List Loc) (ls : Array Slot), iter (fX11_letters_L11) n z1 = some e2 → va_P D vwCl [(q_t, .inr (10, [.ref q_t_page, .int v_t_pageMany, .ref q_t_readKinds, .ref q_t_readLeaflets, .int v_t_readMany, .int v_t_told, .int v_t_many, .int v_t_lostByHands, .int v_t_lostByMould, .ref q_t_rows, .ref q_t_debts, .int v_t_ringMany, .ref q_t_ring, .ref q_t_line, .ref q_t_groups, .ref q_t_likely, .ref q_t_likelyThen, .int v_t_seedNow, .ref q_t_saved, .int v_t_keptMany, .int v_t_keptByHands, .int v_t_keptByMould, .ref q_t_keptRows, .ref q_t_keptDebts, .long v_t_hash])), (q_t_page, .inl (cI, 22, .inl v_t_page))] H → va_D A0 [(q_t, .inr (10, [.ref q_t_page, .int v_t_pageMany, .ref q_t_readKinds, .ref q_t_readLeaflets, .int v_t_readMany, .int v_t_told, .int v_t_many, .int v_t_lostByHands, .int v_t_lostByMould, .ref q_t_rows, .ref q_t_debts, .int v_t_ringMany, .ref q_t_ring, .ref q_t_line, .ref q_t_groups, .ref q_t_likely, .ref q_t_likelyThen, .int v_t_seedNow, .ref q_t_saved, .int v_t_keptMany, .int v_t_keptByHands, .int v_t_keptByMould, .ref q_t_keptRows, .ref q_t_keptDebts, .long v_t_hash])), (q_t_page, .inl (cI, 22, .inl v_t_page))] → va_S A0 s.heap H locs → lv_has ls 9 [(0, .ref q_t), (1, .long x1), (3, .int z1.1), (4, .int z1.2.1), (5, .long z1.2.2.1), (7, .int z1.2.2.2)] → W p l e ({ frames := 0, cells := 0, slots := 0, locals := 0 } : Room) s m args below meth c H locs 0 0 Q0 (F0 m 11 ls []) := by
    intro n
    induction n with
    | zero => exact fun _ _ _ _ h => (iter_z h).elim
    | succ n ih =>
      intro z1 H locs ls h hP hD hS hl
      obtain ⟨r_e2, h, hn_e2⟩ := iter_s h
      unfold fX11_letters_L11 at h
      refine lv_iload hx hb dX11_letters_11 (lv_at hl 5 rfl) ?_
      refine lv_bipush (v := 8) hx hb dX11_letters_13 (by decide) ?_
      refine lv_icmp_ge (tgt := 83) hx hb dX11_letters_15 (by decide) (fun c15 => ?_) (fun c15 => ?_)
      · skip
        have h := (if_pos c15).symm.trans h
        obtain rfl := Option.some.inj h
        obtain rfl := Option.some.inj hn_e2
        exact X83_4 (z1.1, z1.2.1) _ _ _ hc_e2 hP hD hS (lv_sub hl [0, 1, 2, 3] rfl)
      · skip
        have h := (if_neg c15).symm.trans h
        refine lv_lload hx hb dX11_letters_18 (lv_at hl 4 rfl) ?_
        refine lv_ldc2 (own := RX11) (v := 255) hx hb hown (hts (.constantLong RX11 54 (255)) (by decide +kernel)) dX11_letters_20 ?_
        refine lv_land hx hb dX11_letters_23 ?_
        refine lv_l2i hx hb dX11_letters_24 rfl ?_
        refine lv_istore (lv' := [(8, .int (((z1.2.2.1 &&& 255) : Int64).toInt32)), (0, .ref q_t), (1, .long x1), (3, .int z1.1), (4, .int z1.2.1), (5, .long z1.2.2.1), (7, .int z1.2.2.2)]) hx hb dX11_letters_25 hl (by decide) rfl (fun ls hl => ?_)
        refine lv_lload hx hb dX11_letters_27 (lv_at hl 5 rfl) ?_
        refine lv_bipush (v := 8) hx hb dX11_letters_29 (by decide) ?_
        refine lv_lushr hx hb dX11_letters_31 rfl ?_
        refine lv_lstore (lv' := [(5, .long (((z1.2.2.1 : Int64).toUInt64 >>> ((8 : Int32).toInt64.toUInt64 &&& Int64.toUInt64 63)).toInt64)), (8, .int (((z1.2.2.1 &&& 255) : Int64).toInt32)), (0, .ref q_t), (1, .long x1), (3, .int z1.1), (4, .int z1.2.1), (7, .int z1.2.2.2)]) hx hb dX11_letters_32 hl (by decide) rfl (fun ls hl => ?_)
        refine lv_iload hx hb dX11_letters_34 (lv_at hl 5 rfl) ?_
        have K62_16 : ∀ (w17 : Int32) (H : Heap) (locs : List Loc) (ls : Array Slot), w17 = (if z1.2.1 = 0 then 0 else (if 126 < (((z1.2.2.1 &&& 255) : Int64).toInt32) then 0 else (if (((z1.2.2.1 &&& 255) : Int64).toInt32) = 0 then 1 else (if z1.1 = z1.2.2.2 then 1 else 0 : Int32) : Int32) : Int32) : Int32) → va_P D vwCl [(q_t, .inr (10, [.ref q_t_page, .int v_t_pageMany, .ref q_t_readKinds, .ref q_t_readLeaflets, .int v_t_readMany, .int v_t_told, .int v_t_many, .int v_t_lostByHands, .int v_t_lostByMould, .ref q_t_rows, .ref q_t_debts, .int v_t_ringMany, .ref q_t_ring, .ref q_t_line, .ref q_t_groups, .ref q_t_likely, .ref q_t_likelyThen, .int v_t_seedNow, .ref q_t_saved, .int v_t_keptMany, .int v_t_keptByHands, .int v_t_keptByMould, .ref q_t_keptRows, .ref q_t_keptDebts, .long v_t_hash])), (q_t_page, .inl (cI, 22, .inl v_t_page))] H → va_D A0 [(q_t, .inr (10, [.ref q_t_page, .int v_t_pageMany, .ref q_t_readKinds, .ref q_t_readLeaflets, .int v_t_readMany, .int v_t_told, .int v_t_many, .int v_t_lostByHands, .int v_t_lostByMould, .ref q_t_rows, .ref q_t_debts, .int v_t_ringMany, .ref q_t_ring, .ref q_t_line, .ref q_t_groups, .ref q_t_likely, .ref q_t_likelyThen, .int v_t_seedNow, .ref q_t_saved, .int v_t_keptMany, .int v_t_keptByHands, .int v_t_keptByMould, .ref q_t_keptRows, .ref q_t_keptDebts, .long v_t_hash])), (q_t_page, .inl (cI, 22, .inl v_t_page))] → va_S A0 s.heap H locs → lv_has ls 9 [(0, .ref q_t), (1, .long x1), (3, .int z1.1), (5, .long (((z1.2.2.1 : Int64).toUInt64 >>> ((8 : Int32).toInt64.toUInt64 &&& Int64.toUInt64 63)).toInt64)), (7, .int z1.2.2.2), (8, .int (((z1.2.2.1 &&& 255) : Int64).toInt32))] → W p l e ({ frames := 0, cells := 0, slots := 0, locals := 0 } : Room) s m args below meth c H locs 0 0 Q0 (F0 m 62 ls [.int w17]) := by
          intro w17 H locs ls e_w17 hP hD hS hl
          subst e_w17
          refine lv_istore (lv' := [(4, .int (if z1.2.1 = 0 then 0 else (if 126 < (((z1.2.2.1 &&& 255) : Int64).toInt32) then 0 else (if (((z1.2.2.1 &&& 255) : Int64).toInt32) = 0 then 1 else (if z1.1 = z1.2.2.2 then 1 else 0 : Int32) : Int32) : Int32) : Int32)), (0, .ref q_t), (1, .long x1), (3, .int z1.1), (5, .long (((z1.2.2.1 : Int64).toUInt64 >>> ((8 : Int32).toInt64.toUInt64 &&& Int64.toUInt64 63)).toInt64)), (7, .int z1.2.2.2), (8, .int (((z1.2.2.1 &&& 255) : Int64).toInt32))]) hx hb dX11_letters_62 hl (by decide) rfl (fun ls hl => ?_)
          refine lv_iload_n hx hb dX11_letters_64 rfl (lv_at hl 3 rfl) ?_
          refine lv_iload hx hb dX11_letters_65 (lv_at hl 6 rfl) ?_
          have K75_18 : ∀ (w19 : Int32) (H : Heap) (locs : List Loc) (ls : Array Slot), w19 = (if (((z1.2.2.1 &&& 255) : Int64).toInt32) ≤ 0 then 0 else 1 : Int32) → va_P D vwCl [(q_t, .inr (10, [.ref q_t_page, .int v_t_pageMany, .ref q_t_readKinds, .ref q_t_readLeaflets, .int v_t_readMany, .int v_t_told, .int v_t_many, .int v_t_lostByHands, .int v_t_lostByMould, .ref q_t_rows, .ref q_t_debts, .int v_t_ringMany, .ref q_t_ring, .ref q_t_line, .ref q_t_groups, .ref q_t_likely, .ref q_t_likelyThen, .int v_t_seedNow, .ref q_t_saved, .int v_t_keptMany, .int v_t_keptByHands, .int v_t_keptByMould, .ref q_t_keptRows, .ref q_t_keptDebts, .long v_t_hash])), (q_t_page, .inl (cI, 22, .inl v_t_page))] H → va_D A0 [(q_t, .inr (10, [.ref q_t_page, .int v_t_pageMany, .ref q_t_readKinds, .ref q_t_readLeaflets, .int v_t_readMany, .int v_t_told, .int v_t_many, .int v_t_lostByHands, .int v_t_lostByMould, .ref q_t_rows, .ref q_t_debts, .int v_t_ringMany, .ref q_t_ring, .ref q_t_line, .ref q_t_groups, .ref q_t_likely, .ref q_t_likelyThen, .int v_t_seedNow, .ref q_t_saved, .int v_t_keptMany, .int v_t_keptByHands, .int v_t_keptByMould, .ref q_t_keptRows, .ref q_t_keptDebts, .long v_t_hash])), (q_t_page, .inl (cI, 22, .inl v_t_page))] → va_S A0 s.heap H locs → lv_has ls 9 [(0, .ref q_t), (1, .long x1), (4, .int (if z1.2.1 = 0 then 0 else (if 126 < (((z1.2.2.1 &&& 255) : Int64).toInt32) then 0 else (if (((z1.2.2.1 &&& 255) : Int64).toInt32) = 0 then 1 else (if z1.1 = z1.2.2.2 then 1 else 0 : Int32) : Int32) : Int32) : Int32)), (5, .long (((z1.2.2.1 : Int64).toUInt64 >>> ((8 : Int32).toInt64.toUInt64 &&& Int64.toUInt64 63)).toInt64)), (7, .int z1.2.2.2)] → W p l e ({ frames := 0, cells := 0, slots := 0, locals := 0 } : Room) s m args below meth c H locs 0 0 Q0 (F0 m 75 ls [.int w19, .int z1.1]) := by
            intro w19 H locs ls e_w19 hP hD hS hl
            subst e_w19
            refine lv_iadd hx hb dX11_letters_75 ?_
            refine lv_istore_n (lv' := [(3, .int (z1.1 + (if (((z1.2.2.1 &&& 255) : Int64).toInt32) ≤ 0 then 0 else 1 : Int32))), (0, .ref q_t), (1, .long x1), (4, .int (if z1.2.1 = 0 then 0 else (if 126 < (((z1.2.2.1 &&& 255) : Int64).toInt32) then 0 else (if (((z1.2.2.1 &&& 255) : Int64).toInt32) = 0 then 1 else (if z1.1 = z1.2.2.2 then 1 else 0 : Int32) : Int32) : Int32) : Int32)), (5, .long (((z1.2.2.1 : Int64).toUInt64 >>> ((8 : Int32).toInt64.toUInt64 &&& Int64.toUInt64 63)).toInt64)), (7, .int z1.2.2.2)]) hx hb dX11_letters_76 rfl hl (by decide) rfl (fun ls hl => ?_)
            refine lv_iinc (v := (z1.2.2.2 + 1)) (lv' := [(7, .int (z1.2.2.2 + 1)), (3, .int (z1.1 + (if (((z1.2.2.1 &&& 255) : Int64).toInt32) ≤ 0 then 0 else 1 : Int32))), (0, .ref q_t), (1, .long x1), (4, .int (if z1.2.1 = 0 then 0 else (if 126 < (((z1.2.2.1 &&& 255) : Int64).toInt32) then 0 else (if (((z1.2.2.1 &&& 255) : Int64).toInt32) = 0 then 1 else (if z1.1 = z1.2.2.2 then 1 else 0 : Int32) : Int32) : Int32) : Int32)), (5, .long (((z1.2.2.1 : Int64).toUInt64 >>> ((8 : Int32).toInt64.toUInt64 &&& Int64.toUInt64 63)).toInt64))]) hx hb dX11_letters_77 hl (k := 5) rfl rfl (by decide) rfl (fun ls hl => ?_)
            refine lv_goto (tgt := 11) hx hb dX11_letters_80 (by decide) ?_
            obtain rfl := Option.some.inj h
            exact ih ((z1.1 + (if (((z1.2.2.1 &&& 255) : Int64).toInt32) ≤ 0 then 0 else 1 : Int32)), (if z1.2.1 = 0 then 0 else (if 126 < (((z1.2.2.1 &&& 255) : Int64).toInt32) then 0 else (if (((z1.2.2.1 &&& 255) : Int64).toInt32) = 0 then 1 else (if z1.1 = z1.2.2.2 then 1 else 0 : Int32) : Int32) : Int32) : Int32), (((z1.2.2.1 : Int64).toUInt64 >>> ((8 : Int32).toInt64.toUInt64 &&& Int64.toUInt64 63)).toInt64), (z1.2.2.2 + 1)) _ _ _ hn_e2 hP hD hS (lv_sub hl [2, 3, 1, 4, 5, 0] rfl)
          refine lv_if_le (tgt := 74) hx hb dX11_letters_67 (by decide) (fun c20 => ?_) (fun c20 => ?_)
          · skip
            refine lv_iconst (v := 0) hx hb dX11_letters_74 (by decide) ?_
            exact K75_18 0 _ _ _ (by rw [if_pos c20]) hP hD hS (lv_sub hl [1, 2, 0, 4, 5] rfl)
          · skip
            refine lv_iconst (v := 1) hx hb dX11_letters_70 (by decide) ?_
            refine lv_goto (tgt := 75) hx hb dX11_letters_71 (by decide) ?_
            exact K75_18 1 _ _ _ (by rw [if_neg c20]) hP hD hS (lv_sub hl [1, 2, 0, 4, 5] rfl)
        refine lv_if_eq (tgt := 61) hx hb dX11_letters_36 (by decide) (fun c21 => ?_) (fun c21 => ?_)
        · skip
          refine lv_iconst (v := 0) hx hb dX11_letters_61 (by decide) ?_
          exact K62_16 0 _ _ _ (by rw [if_pos c21]) hP hD hS (lv_sub hl [2, 3, 4, 0, 6, 1] rfl)
        · skip
          refine lv_iload hx hb dX11_letters_39 (lv_at hl 1 rfl) ?_
          refine lv_bipush (v := 126) hx hb dX11_letters_41 (by decide) ?_
          refine lv_icmp_gt (tgt := 61) hx hb dX11_letters_43 (by decide) (fun c22 => ?_) (fun c22 => ?_)
          · skip
            refine lv_iconst (v := 0) hx hb dX11_letters_61 (by decide) ?_
            exact K62_16 0 _ _ _ (by rw [if_neg c21, if_pos c22]) hP hD hS (lv_sub hl [2, 3, 4, 0, 6, 1] rfl)
          · skip
            refine lv_iload hx hb dX11_letters_46 (lv_at hl 1 rfl) ?_
            refine lv_if_eq (tgt := 57) hx hb dX11_letters_48 (by decide) (fun c23 => ?_) (fun c23 => ?_)
            · skip
              refine lv_iconst (v := 1) hx hb dX11_letters_57 (by decide) ?_
              refine lv_goto (tgt := 62) hx hb dX11_letters_58 (by decide) ?_
              exact K62_16 1 _ _ _ (by rw [if_neg c21, if_neg c22, if_pos c23]) hP hD hS (lv_sub hl [2, 3, 4, 0, 6, 1] rfl)
            · skip
              refine lv_iload_n hx hb dX11_letters_51 rfl (lv_at hl 4 rfl) ?_
              refine lv_iload hx hb dX11_letters_52 (lv_at hl 6 rfl) ?_
              refine lv_icmp_ne (tgt := 61) hx hb dX11_letters_54 (by decide) (fun c24 => ?_) (fun c24 => ?_)
              · skip
                refine lv_iconst (v := 0) hx hb dX11_letters_61 (by decide) ?_
                exact K62_16 0 _ _ _ (by rw [if_neg c21, if_neg c22, if_neg c23, if_neg c24]) hP hD hS (lv_sub hl [2, 3, 4, 0, 6, 1] rfl)
              · skip
                refine lv_iconst (v := 1) hx hb dX11_letters_57 (by decide) ?_
                refine lv_goto (tgt := 62) hx hb dX11_letters_58 (by decide) ?_
                exact K62_16 1 _ _ _ (by rw [if_neg c21, if_neg c22, if_neg c23, if_pos c24]) hP hD hS (lv_sub hl [2, 3, 4, 0, 6, 1] rfl)
  exact L11_14 FU (0, 1, x1, 0) _ _ _ he_e2 hP hD hS (lv_sub hl [4, 5, 3, 2, 1, 0] rfl)
def fX11_blank (v_t_pageMany : Int32) (v_t_readMany : Int32) (v_t_told : Int32) (v_t_many : Int32) (v_t_lostByHands : Int32) (v_t_lostByMould : Int32) (v_t_ringMany : Int32) (v_t_seedNow : Int32) (v_t_keptMany : Int32) (v_t_keptByHands : Int32) (v_t_keptByMould : Int32) (v_t_hash : Int64) : Option (Int32 × Int32) :=
  some (v_t_pageMany, 0)
set_option maxHeartbeats 4000000 in
set_option maxRecDepth 100000 in
theorem c_X11_blank (l : Launch) (D : va_G) (cI cJ : ClassId) (q_t q_t_page q_t_readKinds q_t_readLeaflets q_t_rows q_t_debts q_t_ring q_t_line q_t_groups q_t_likely q_t_likelyThen q_t_saved q_t_keptRows q_t_keptDebts : Nat) (v_t_pageMany : Int32) (v_t_readMany : Int32) (v_t_told : Int32) (v_t_many : Int32) (v_t_lostByHands : Int32) (v_t_lostByMould : Int32) (v_t_ringMany : Int32) (v_t_seedNow : Int32) (v_t_keptMany : Int32) (v_t_keptByHands : Int32) (v_t_keptByMould : Int32) (v_t_hash : Int64) (z : Int32 × Int32) (h : fX11_blank v_t_pageMany v_t_readMany v_t_told v_t_many v_t_lostByHands v_t_lostByMould v_t_ringMany v_t_seedNow v_t_keptMany v_t_keptByHands v_t_keptByMould v_t_hash = some z) : Met l yX11_blank wsX11_blank ({ frames := 0, cells := 0, slots := 0, locals := 0 } : Room) (va_Pc [.ref q_t] (preG D cI cJ [(q_t, .inr (10, [.ref q_t_page, .int v_t_pageMany, .ref q_t_readKinds, .ref q_t_readLeaflets, .int v_t_readMany, .int v_t_told, .int v_t_many, .int v_t_lostByHands, .int v_t_lostByMould, .ref q_t_rows, .ref q_t_debts, .int v_t_ringMany, .ref q_t_ring, .ref q_t_line, .ref q_t_groups, .ref q_t_likely, .ref q_t_likelyThen, .int v_t_seedNow, .ref q_t_saved, .int v_t_keptMany, .int v_t_keptByHands, .int v_t_keptByMould, .ref q_t_keptRows, .ref q_t_keptDebts, .long v_t_hash]))])) (QG D [(q_t, .inr (10, [.ref q_t_page, .int v_t_pageMany, .ref q_t_readKinds, .ref q_t_readLeaflets, .int v_t_readMany, .int v_t_told, .int v_t_many, .int v_t_lostByHands, .int v_t_lostByMould, .ref q_t_rows, .ref q_t_debts, .int v_t_ringMany, .ref q_t_ring, .ref q_t_line, .ref q_t_groups, .ref q_t_likely, .ref q_t_likelyThen, .int v_t_seedNow, .ref q_t_saved, .int v_t_keptMany, .int v_t_keptByHands, .int v_t_keptByMould, .ref q_t_keptRows, .ref q_t_keptDebts, .long v_t_hash]))] [(q_t, .inr (10, [.ref q_t_page, .int z.2, .ref q_t_readKinds, .ref q_t_readLeaflets, .int v_t_readMany, .int v_t_told, .int v_t_many, .int v_t_lostByHands, .int v_t_lostByMould, .ref q_t_rows, .ref q_t_debts, .int v_t_ringMany, .ref q_t_ring, .ref q_t_line, .ref q_t_groups, .ref q_t_likely, .ref q_t_likelyThen, .int v_t_seedNow, .ref q_t_saved, .int v_t_keptMany, .int v_t_keptByHands, .int v_t_keptByMould, .ref q_t_keptRows, .ref q_t_keptDebts, .long v_t_hash]))] (some (.int z.1))) 0 0 (fr [(q_t, .inr (10, [.ref q_t_page, .int v_t_pageMany, .ref q_t_readKinds, .ref q_t_readLeaflets, .int v_t_readMany, .int v_t_told, .int v_t_many, .int v_t_lostByHands, .int v_t_lostByMould, .ref q_t_rows, .ref q_t_debts, .int v_t_ringMany, .ref q_t_ring, .ref q_t_line, .ref q_t_groups, .ref q_t_likely, .ref q_t_likelyThen, .int v_t_seedNow, .ref q_t_saved, .int v_t_keptMany, .int v_t_keptByHands, .int v_t_keptByMould, .ref q_t_keptRows, .ref q_t_keptDebts, .long v_t_hash]))]) := by
  refine Met.ofW (cc := cX11_blank) (maxL := 2) (ret := (some .int)) (by decide) rfl ?_
  intro p e s m args below meth c s₁ B hml hv
  obtain ⟨hargs, hP, hK, hN, hD0⟩ := hv
  have hx := B.exec
  have hb := B.bytes
  have hr := B.returns
  have hts := atoms_spec (ws := wsX11_blank) B.pre
  have hown : s.vm.findClass RX11 = some m.cls := findClass_of_methodNamed B.named
  have hlocks := B.notSynchronized
  have iX11 : ∀ w ∈ wsX110, w ∈ wsX11_blank := by decide +kernel
  have k56 := hts (.fieldLink RX11 56 "PressedFernsModel" "pageMany" "I") (by decide +kernel)
  have hD := fr_D hD0
  have hS : va_S (fr [(q_t, .inr (10, [.ref q_t_page, .int v_t_pageMany, .ref q_t_readKinds, .ref q_t_readLeaflets, .int v_t_readMany, .int v_t_told, .int v_t_many, .int v_t_lostByHands, .int v_t_lostByMould, .ref q_t_rows, .ref q_t_debts, .int v_t_ringMany, .ref q_t_ring, .ref q_t_line, .ref q_t_groups, .ref q_t_likely, .ref q_t_likelyThen, .int v_t_seedNow, .ref q_t_saved, .int v_t_keptMany, .int v_t_keptByHands, .int v_t_keptByMould, .ref q_t_keptRows, .ref q_t_keptDebts, .long v_t_hash]))]) s.heap s.heap [] := va_S.rf
  have hl := lv_entry ([.ref q_t]) (n := 2) (Nat.le_of_ble_eq_true rfl)
  refine W.eq (g2 := F0 m 0 ((lg_sl ([.ref q_t]) ++ List.replicate (2 - (lg_sl ([.ref q_t])).length) Slot.unset).toArray) []) (by rw [hargs, lg_entry_eq]) ?_
  generalize (lg_sl ([.ref q_t]) ++ List.replicate (2 - (lg_sl ([.ref q_t])).length) Slot.unset).toArray = ls at hl ⊢
  have hl : lv_has ls 2 [(0, .ref q_t)] := hl
  show W p l e ({ frames := 0, cells := 0, slots := 0, locals := 0 } : Room) s m args below meth c s.heap [] 0 0 (MQ below (QG D [(q_t, .inr (10, [.ref q_t_page, .int v_t_pageMany, .ref q_t_readKinds, .ref q_t_readLeaflets, .int v_t_readMany, .int v_t_told, .int v_t_many, .int v_t_lostByHands, .int v_t_lostByMould, .ref q_t_rows, .ref q_t_debts, .int v_t_ringMany, .ref q_t_ring, .ref q_t_line, .ref q_t_groups, .ref q_t_likely, .ref q_t_likelyThen, .int v_t_seedNow, .ref q_t_saved, .int v_t_keptMany, .int v_t_keptByHands, .int v_t_keptByMould, .ref q_t_keptRows, .ref q_t_keptDebts, .long v_t_hash]))] [(q_t, .inr (10, [.ref q_t_page, .int z.2, .ref q_t_readKinds, .ref q_t_readLeaflets, .int v_t_readMany, .int v_t_told, .int v_t_many, .int v_t_lostByHands, .int v_t_lostByMould, .ref q_t_rows, .ref q_t_debts, .int v_t_ringMany, .ref q_t_ring, .ref q_t_line, .ref q_t_groups, .ref q_t_likely, .ref q_t_likelyThen, .int v_t_seedNow, .ref q_t_saved, .int v_t_keptMany, .int v_t_keptByHands, .int v_t_keptByMould, .ref q_t_keptRows, .ref q_t_keptDebts, .long v_t_hash]))] (some (.int z.1))) args s 0 0 (fr [(q_t, .inr (10, [.ref q_t_page, .int v_t_pageMany, .ref q_t_readKinds, .ref q_t_readLeaflets, .int v_t_readMany, .int v_t_told, .int v_t_many, .int v_t_lostByHands, .int v_t_lostByMould, .ref q_t_rows, .ref q_t_debts, .int v_t_ringMany, .ref q_t_ring, .ref q_t_line, .ref q_t_groups, .ref q_t_likely, .ref q_t_likelyThen, .int v_t_seedNow, .ref q_t_saved, .int v_t_keptMany, .int v_t_keptByHands, .int v_t_keptByMould, .ref q_t_keptRows, .ref q_t_keptDebts, .long v_t_hash]))])) (F0 m 0 ls [])
  generalize hQ0 : (MQ below (QG D [(q_t, .inr (10, [.ref q_t_page, .int v_t_pageMany, .ref q_t_readKinds, .ref q_t_readLeaflets, .int v_t_readMany, .int v_t_told, .int v_t_many, .int v_t_lostByHands, .int v_t_lostByMould, .ref q_t_rows, .ref q_t_debts, .int v_t_ringMany, .ref q_t_ring, .ref q_t_line, .ref q_t_groups, .ref q_t_likely, .ref q_t_likelyThen, .int v_t_seedNow, .ref q_t_saved, .int v_t_keptMany, .int v_t_keptByHands, .int v_t_keptByMould, .ref q_t_keptRows, .ref q_t_keptDebts, .long v_t_hash]))] [(q_t, .inr (10, [.ref q_t_page, .int z.2, .ref q_t_readKinds, .ref q_t_readLeaflets, .int v_t_readMany, .int v_t_told, .int v_t_many, .int v_t_lostByHands, .int v_t_lostByMould, .ref q_t_rows, .ref q_t_debts, .int v_t_ringMany, .ref q_t_ring, .ref q_t_line, .ref q_t_groups, .ref q_t_likely, .ref q_t_likelyThen, .int v_t_seedNow, .ref q_t_saved, .int v_t_keptMany, .int v_t_keptByHands, .int v_t_keptByMould, .ref q_t_keptRows, .ref q_t_keptDebts, .long v_t_hash]))] (some (.int z.1))) args s 0 0 (fr [(q_t, .inr (10, [.ref q_t_page, .int v_t_pageMany, .ref q_t_readKinds, .ref q_t_readLeaflets, .int v_t_readMany, .int v_t_told, .int v_t_many, .int v_t_lostByHands, .int v_t_lostByMould, .ref q_t_rows, .ref q_t_debts, .int v_t_ringMany, .ref q_t_ring, .ref q_t_line, .ref q_t_groups, .ref q_t_likely, .ref q_t_likelyThen, .int v_t_seedNow, .ref q_t_saved, .int v_t_keptMany, .int v_t_keptByHands, .int v_t_keptByMould, .ref q_t_keptRows, .ref q_t_keptDebts, .long v_t_hash]))])) = Q0
  generalize hA0 : fr [(q_t, .inr (10, [.ref q_t_page, .int v_t_pageMany, .ref q_t_readKinds, .ref q_t_readLeaflets, .int v_t_readMany, .int v_t_told, .int v_t_many, .int v_t_lostByHands, .int v_t_lostByMould, .ref q_t_rows, .ref q_t_debts, .int v_t_ringMany, .ref q_t_ring, .ref q_t_line, .ref q_t_groups, .ref q_t_likely, .ref q_t_likelyThen, .int v_t_seedNow, .ref q_t_saved, .int v_t_keptMany, .int v_t_keptByHands, .int v_t_keptByMould, .ref q_t_keptRows, .ref q_t_keptDebts, .long v_t_hash]))] = A0 at hD hS
  unfold fX11_blank at h
  refine lv_aload_n hx hb dX11_blank_0 rfl (lv_at hl 0 rfl) ?_
  refine va_get (own := RX11) (ci := 10) (v := .int v_t_pageMany) (C := RX11) (T := TX11) (N := 25) hx hb hts iX11 hown hK hP 0 rfl rfl 1 (by decide) k56 (fun _ h9 => h9) rfl dX11_blank_1 ?_
  refine lv_istore_n (lv' := [(1, .int v_t_pageMany), (0, .ref q_t)]) hx hb dX11_blank_4 rfl hl (by decide) rfl (fun ls hl => ?_)
  refine lv_aload_n hx hb dX11_blank_5 rfl (lv_at hl 1 rfl) ?_
  refine lv_iconst (v := 0) hx hb dX11_blank_6 (by decide) ?_
  refine va_put (D := D) (own := RX11) (ci := 10) (v := .int 0) (ty := .int) (C := RX11) (T := TX11) (N := 25) hx hb hts iX11 tyX11 tyX11_ok nmX11 hown hK hP hD hS 0 rfl rfl 1 (by decide) k56 (fun _ h9 => h9) rfl (by decide +kernel) rfl rfl (Nat.le_of_ble_eq_true rfl) dX11_blank_7 (fun H locs hP hD hS => ?_)
  have hP : va_P D vwCl [(q_t, .inr (10, [.ref q_t_page, .int 0, .ref q_t_readKinds, .ref q_t_readLeaflets, .int v_t_readMany, .int v_t_told, .int v_t_many, .int v_t_lostByHands, .int v_t_lostByMould, .ref q_t_rows, .ref q_t_debts, .int v_t_ringMany, .ref q_t_ring, .ref q_t_line, .ref q_t_groups, .ref q_t_likely, .ref q_t_likelyThen, .int v_t_seedNow, .ref q_t_saved, .int v_t_keptMany, .int v_t_keptByHands, .int v_t_keptByMould, .ref q_t_keptRows, .ref q_t_keptDebts, .long v_t_hash]))] H := hP
  have hD : va_D A0 [(q_t, .inr (10, [.ref q_t_page, .int 0, .ref q_t_readKinds, .ref q_t_readLeaflets, .int v_t_readMany, .int v_t_told, .int v_t_many, .int v_t_lostByHands, .int v_t_lostByMould, .ref q_t_rows, .ref q_t_debts, .int v_t_ringMany, .ref q_t_ring, .ref q_t_line, .ref q_t_groups, .ref q_t_likely, .ref q_t_likelyThen, .int v_t_seedNow, .ref q_t_saved, .int v_t_keptMany, .int v_t_keptByHands, .int v_t_keptByMould, .ref q_t_keptRows, .ref q_t_keptDebts, .long v_t_hash]))] := hD
  refine lv_iload_n hx hb dX11_blank_10 rfl (lv_at hl 0 rfl) ?_
  obtain rfl := Option.some.inj h
  exact rt_i hA0 hQ0 hx hb hr hlocks hP hS dX11_blank_11
def fX11_kindOf (x0 : Int32) : Int32 :=
  if x0 = 98 then (1) else (if x0 = 109 then (2) else (if x0 = 112 then (3) else (if x0 = 119 then (4) else ((-1)))))
set_option maxHeartbeats 4000000 in
set_option maxRecDepth 100000 in
theorem c_X11_kindOf (l : Launch) (D : va_G) (cI cJ : ClassId) (x0 : Int32) : Met l yX11_kindOf wsX11_kindOf ({ frames := 0, cells := 0, slots := 0, locals := 0 } : Room) (va_Pc [.int x0] (preG D cI cJ [])) (QG D [] [] (some (.int (fX11_kindOf x0)))) 0 0 (fr []) := by
  generalize h : fX11_kindOf x0 = z
  refine Met.ofW (cc := cX11_kindOf) (maxL := 1) (ret := (some .int)) (by decide) rfl ?_
  intro p e s m args below meth c s₁ B hml hv
  obtain ⟨hargs, hP, hK, hN, hD0⟩ := hv
  have hx := B.exec
  have hb := B.bytes
  have hr := B.returns
  have hts := atoms_spec (ws := wsX11_kindOf) B.pre
  have hown : s.vm.findClass RX11 = some m.cls := findClass_of_methodNamed B.named
  have hlocks := B.notSynchronized
  have hD := fr_D hD0
  have hS : va_S (fr []) s.heap s.heap [] := va_S.rf
  have hl := lv_entry ([.int x0]) (n := 1) (Nat.le_of_ble_eq_true rfl)
  refine W.eq (g2 := F0 m 0 ((lg_sl ([.int x0]) ++ List.replicate (1 - (lg_sl ([.int x0])).length) Slot.unset).toArray) []) (by rw [hargs, lg_entry_eq]) ?_
  generalize (lg_sl ([.int x0]) ++ List.replicate (1 - (lg_sl ([.int x0])).length) Slot.unset).toArray = ls at hl ⊢
  have hl : lv_has ls 1 [(0, .int x0)] := hl
  show W p l e ({ frames := 0, cells := 0, slots := 0, locals := 0 } : Room) s m args below meth c s.heap [] 0 0 (MQ below (QG D [] [] (some (.int z))) args s 0 0 (fr [])) (F0 m 0 ls [])
  generalize hQ0 : (MQ below (QG D [] [] (some (.int z))) args s 0 0 (fr [])) = Q0
  generalize hA0 : fr [] = A0 at hD hS
  unfold fX11_kindOf at h
  refine lv_iload_n hx hb dX11_kindOf_0 rfl (lv_at hl 0 rfl) ?_
  refine lv_bipush (v := 98) hx hb dX11_kindOf_1 (by decide) ?_
  refine lv_icmp_ne (tgt := 10) hx hb dX11_kindOf_3 (by decide) (fun c1 => ?_) (fun c1 => ?_)
  · skip
    have h := (if_neg c1).symm.trans h
    refine lv_iload_n hx hb dX11_kindOf_10 rfl (lv_at hl 0 rfl) ?_
    refine lv_bipush (v := 109) hx hb dX11_kindOf_11 (by decide) ?_
    refine lv_icmp_ne (tgt := 20) hx hb dX11_kindOf_13 (by decide) (fun c2 => ?_) (fun c2 => ?_)
    · skip
      have h := (if_neg c2).symm.trans h
      refine lv_iload_n hx hb dX11_kindOf_20 rfl (lv_at hl 0 rfl) ?_
      refine lv_bipush (v := 112) hx hb dX11_kindOf_21 (by decide) ?_
      refine lv_icmp_ne (tgt := 30) hx hb dX11_kindOf_23 (by decide) (fun c3 => ?_) (fun c3 => ?_)
      · skip
        have h := (if_neg c3).symm.trans h
        refine lv_iload_n hx hb dX11_kindOf_30 rfl (lv_at hl 0 rfl) ?_
        refine lv_bipush (v := 119) hx hb dX11_kindOf_31 (by decide) ?_
        refine lv_icmp_ne (tgt := 40) hx hb dX11_kindOf_33 (by decide) (fun c4 => ?_) (fun c4 => ?_)
        · skip
          have h := (if_neg c4).symm.trans h
          refine lv_iconst (v := (-1)) hx hb dX11_kindOf_40 (by decide) ?_
          subst h
          exact rt_i hA0 hQ0 hx hb hr hlocks hP hS dX11_kindOf_41
        · skip
          have h := (if_pos c4).symm.trans h
          refine lv_iconst (v := 4) hx hb dX11_kindOf_36 (by decide) ?_
          refine lv_goto (tgt := 41) hx hb dX11_kindOf_37 (by decide) ?_
          subst h
          exact rt_i hA0 hQ0 hx hb hr hlocks hP hS dX11_kindOf_41
      · skip
        have h := (if_pos c3).symm.trans h
        refine lv_iconst (v := 3) hx hb dX11_kindOf_26 (by decide) ?_
        refine lv_goto (tgt := 41) hx hb dX11_kindOf_27 (by decide) ?_
        subst h
        exact rt_i hA0 hQ0 hx hb hr hlocks hP hS dX11_kindOf_41
    · skip
      have h := (if_pos c2).symm.trans h
      refine lv_iconst (v := 2) hx hb dX11_kindOf_16 (by decide) ?_
      refine lv_goto (tgt := 41) hx hb dX11_kindOf_17 (by decide) ?_
      subst h
      exact rt_i hA0 hQ0 hx hb hr hlocks hP hS dX11_kindOf_41
  · skip
    have h := (if_pos c1).symm.trans h
    refine lv_iconst (v := 1) hx hb dX11_kindOf_6 (by decide) ?_
    refine lv_goto (tgt := 41) hx hb dX11_kindOf_7 (by decide) ?_
    subst h
    exact rt_i hA0 hQ0 hx hb hr hlocks hP hS dX11_kindOf_41
def fX11_go_J90 (v_t_readMany : Int32) (v_t_readKinds : Nat → Int32) (v_t_readLeaflets : Nat → Int32) (x1 : Int32) (a5 : Int32) : Option (Int32 × Int32 × Int32 × (Nat → Int32) × (Nat → Int32)) :=
  gd (inb v_t_readMany 10) (some (1, (v_t_readMany + 1), 0, (upd v_t_readKinds v_t_readMany.toNatClampNeg a5), (upd v_t_readLeaflets v_t_readMany.toNatClampNeg (x1 - 48))))
def fX11_go_J46 (v_t_readMany : Int32) (v_t_told : Int32) (v_t_readKinds : Nat → Int32) (v_t_readLeaflets : Nat → Int32) (x1 : Int32) (a2 : Unit) : Option (Int32 × Int32 × Int32 × (Nat → Int32) × (Nat → Int32)) :=
  if (fX11_in ((x1 : Int32).toInt64) 48 57) = 0 then (some (0, v_t_readMany, v_t_told, v_t_readKinds, v_t_readLeaflets)) else (if v_t_told = 0 then (fX11_go_J90 v_t_readMany v_t_readKinds v_t_readLeaflets x1 0) else (gd (inb v_t_readMany 10) (fX11_go_J90 v_t_readMany v_t_readKinds v_t_readLeaflets x1 (v_t_readKinds v_t_readMany.toNatClampNeg))))
def fX11_go (v_t_pageMany : Int32) (v_t_readMany : Int32) (v_t_told : Int32) (v_t_many : Int32) (v_t_lostByHands : Int32) (v_t_lostByMould : Int32) (v_t_ringMany : Int32) (v_t_seedNow : Int32) (v_t_keptMany : Int32) (v_t_keptByHands : Int32) (v_t_keptByMould : Int32) (v_t_hash : Int64) (v_t_readKinds : Nat → Int32) (v_t_readLeaflets : Nat → Int32) (x1 : Int32) : Option (Int32 × Int32 × Int32 × (Nat → Int32) × (Nat → Int32)) :=
  if v_t_readMany = 10 then (some (0, v_t_readMany, v_t_told, v_t_readKinds, v_t_readLeaflets)) else (if v_t_told = 0 then (if (fX11_kindOf x1) = (-1) then (fX11_go_J46 v_t_readMany v_t_told v_t_readKinds v_t_readLeaflets x1 ()) else (gd (inb v_t_readMany 10) (some (1, v_t_readMany, 1, (upd v_t_readKinds v_t_readMany.toNatClampNeg (fX11_kindOf x1)), v_t_readLeaflets)))) else (fX11_go_J46 v_t_readMany v_t_told v_t_readKinds v_t_readLeaflets x1 ()))
set_option maxHeartbeats 4000000 in
set_option maxRecDepth 100000 in
theorem c_X11_go (l : Launch) (D : va_G) (cI cJ : ClassId) (q_t q_t_page q_t_readKinds q_t_readLeaflets q_t_rows q_t_debts q_t_ring q_t_line q_t_groups q_t_likely q_t_likelyThen q_t_saved q_t_keptRows q_t_keptDebts : Nat) (v_t_pageMany : Int32) (v_t_readMany : Int32) (v_t_told : Int32) (v_t_many : Int32) (v_t_lostByHands : Int32) (v_t_lostByMould : Int32) (v_t_ringMany : Int32) (v_t_seedNow : Int32) (v_t_keptMany : Int32) (v_t_keptByHands : Int32) (v_t_keptByMould : Int32) (v_t_hash : Int64) (v_t_readKinds : Nat → Int32) (v_t_readLeaflets : Nat → Int32) (x1 : Int32) (z : Int32 × Int32 × Int32 × (Nat → Int32) × (Nat → Int32)) (h : fX11_go v_t_pageMany v_t_readMany v_t_told v_t_many v_t_lostByHands v_t_lostByMould v_t_ringMany v_t_seedNow v_t_keptMany v_t_keptByHands v_t_keptByMould v_t_hash v_t_readKinds v_t_readLeaflets x1 = some z) : Met l yX11_go wsX11_go ({ frames := 1, cells := 0, slots := 0, locals := 25 } : Room) (va_Pc [.ref q_t, .int x1] (preG D cI cJ [(q_t, .inr (10, [.ref q_t_page, .int v_t_pageMany, .ref q_t_readKinds, .ref q_t_readLeaflets, .int v_t_readMany, .int v_t_told, .int v_t_many, .int v_t_lostByHands, .int v_t_lostByMould, .ref q_t_rows, .ref q_t_debts, .int v_t_ringMany, .ref q_t_ring, .ref q_t_line, .ref q_t_groups, .ref q_t_likely, .ref q_t_likelyThen, .int v_t_seedNow, .ref q_t_saved, .int v_t_keptMany, .int v_t_keptByHands, .int v_t_keptByMould, .ref q_t_keptRows, .ref q_t_keptDebts, .long v_t_hash])), (q_t_readKinds, .inl (cI, 10, .inl v_t_readKinds)), (q_t_readLeaflets, .inl (cI, 10, .inl v_t_readLeaflets))])) (QG D [(q_t, .inr (10, [.ref q_t_page, .int v_t_pageMany, .ref q_t_readKinds, .ref q_t_readLeaflets, .int v_t_readMany, .int v_t_told, .int v_t_many, .int v_t_lostByHands, .int v_t_lostByMould, .ref q_t_rows, .ref q_t_debts, .int v_t_ringMany, .ref q_t_ring, .ref q_t_line, .ref q_t_groups, .ref q_t_likely, .ref q_t_likelyThen, .int v_t_seedNow, .ref q_t_saved, .int v_t_keptMany, .int v_t_keptByHands, .int v_t_keptByMould, .ref q_t_keptRows, .ref q_t_keptDebts, .long v_t_hash])), (q_t_readKinds, .inl (cI, 10, .inl v_t_readKinds)), (q_t_readLeaflets, .inl (cI, 10, .inl v_t_readLeaflets))] [(q_t, .inr (10, [.ref q_t_page, .int v_t_pageMany, .ref q_t_readKinds, .ref q_t_readLeaflets, .int z.2.1, .int z.2.2.1, .int v_t_many, .int v_t_lostByHands, .int v_t_lostByMould, .ref q_t_rows, .ref q_t_debts, .int v_t_ringMany, .ref q_t_ring, .ref q_t_line, .ref q_t_groups, .ref q_t_likely, .ref q_t_likelyThen, .int v_t_seedNow, .ref q_t_saved, .int v_t_keptMany, .int v_t_keptByHands, .int v_t_keptByMould, .ref q_t_keptRows, .ref q_t_keptDebts, .long v_t_hash])), (q_t_readKinds, .inl (cI, 10, .inl z.2.2.2.1)), (q_t_readLeaflets, .inl (cI, 10, .inl z.2.2.2.2))] (some (.int z.1))) 0 0 (fr [(q_t, .inr (10, [.ref q_t_page, .int v_t_pageMany, .ref q_t_readKinds, .ref q_t_readLeaflets, .int v_t_readMany, .int v_t_told, .int v_t_many, .int v_t_lostByHands, .int v_t_lostByMould, .ref q_t_rows, .ref q_t_debts, .int v_t_ringMany, .ref q_t_ring, .ref q_t_line, .ref q_t_groups, .ref q_t_likely, .ref q_t_likelyThen, .int v_t_seedNow, .ref q_t_saved, .int v_t_keptMany, .int v_t_keptByHands, .int v_t_keptByMould, .ref q_t_keptRows, .ref q_t_keptDebts, .long v_t_hash])), (q_t_readKinds, .inl (cI, 10, .inl v_t_readKinds)), (q_t_readLeaflets, .inl (cI, 10, .inl v_t_readLeaflets))]) := by
  refine Met.ofW (cc := cX11_go) (maxL := 2) (ret := (some .boolean)) (by decide) rfl ?_
  intro p e s m args below meth c s₁ B hml hv
  obtain ⟨hargs, hP, hK, hN, hD0⟩ := hv
  have hx := B.exec
  have hb := B.bytes
  have hr := B.returns
  have hts := atoms_spec (ws := wsX11_go) B.pre
  have hown : s.vm.findClass RX11 = some m.cls := findClass_of_methodNamed B.named
  have hlocks := B.notSynchronized
  have iX11 : ∀ w ∈ wsX110, w ∈ wsX11_go := by decide +kernel
  have k13 := hts (.fieldLink RX11 13 "PressedFernsModel" "readKinds" "[I") (by decide +kernel)
  have k16 := hts (.fieldLink RX11 16 "PressedFernsModel" "readLeaflets" "[I") (by decide +kernel)
  have k59 := hts (.fieldLink RX11 59 "PressedFernsModel" "readMany" "I") (by decide +kernel)
  have k62 := hts (.fieldLink RX11 62 "PressedFernsModel" "told" "Z") (by decide +kernel)
  have hD := fr_D hD0
  have hS : va_S (fr [(q_t, .inr (10, [.ref q_t_page, .int v_t_pageMany, .ref q_t_readKinds, .ref q_t_readLeaflets, .int v_t_readMany, .int v_t_told, .int v_t_many, .int v_t_lostByHands, .int v_t_lostByMould, .ref q_t_rows, .ref q_t_debts, .int v_t_ringMany, .ref q_t_ring, .ref q_t_line, .ref q_t_groups, .ref q_t_likely, .ref q_t_likelyThen, .int v_t_seedNow, .ref q_t_saved, .int v_t_keptMany, .int v_t_keptByHands, .int v_t_keptByMould, .ref q_t_keptRows, .ref q_t_keptDebts, .long v_t_hash])), (q_t_readKinds, .inl (cI, 10, .inl v_t_readKinds)), (q_t_readLeaflets, .inl (cI, 10, .inl v_t_readLeaflets))]) s.heap s.heap [] := va_S.rf
  have hl := lv_entry ([.ref q_t, .int x1]) (n := 2) (Nat.le_of_ble_eq_true rfl)
  refine W.eq (g2 := F0 m 0 ((lg_sl ([.ref q_t, .int x1]) ++ List.replicate (2 - (lg_sl ([.ref q_t, .int x1])).length) Slot.unset).toArray) []) (by rw [hargs, lg_entry_eq]) ?_
  generalize (lg_sl ([.ref q_t, .int x1]) ++ List.replicate (2 - (lg_sl ([.ref q_t, .int x1])).length) Slot.unset).toArray = ls at hl ⊢
  have hl : lv_has ls 2 [(0, .ref q_t), (1, .int x1)] := hl
  show W p l e ({ frames := 1, cells := 0, slots := 0, locals := 25 } : Room) s m args below meth c s.heap [] 0 0 (MQ below (QG D [(q_t, .inr (10, [.ref q_t_page, .int v_t_pageMany, .ref q_t_readKinds, .ref q_t_readLeaflets, .int v_t_readMany, .int v_t_told, .int v_t_many, .int v_t_lostByHands, .int v_t_lostByMould, .ref q_t_rows, .ref q_t_debts, .int v_t_ringMany, .ref q_t_ring, .ref q_t_line, .ref q_t_groups, .ref q_t_likely, .ref q_t_likelyThen, .int v_t_seedNow, .ref q_t_saved, .int v_t_keptMany, .int v_t_keptByHands, .int v_t_keptByMould, .ref q_t_keptRows, .ref q_t_keptDebts, .long v_t_hash])), (q_t_readKinds, .inl (cI, 10, .inl v_t_readKinds)), (q_t_readLeaflets, .inl (cI, 10, .inl v_t_readLeaflets))] [(q_t, .inr (10, [.ref q_t_page, .int v_t_pageMany, .ref q_t_readKinds, .ref q_t_readLeaflets, .int z.2.1, .int z.2.2.1, .int v_t_many, .int v_t_lostByHands, .int v_t_lostByMould, .ref q_t_rows, .ref q_t_debts, .int v_t_ringMany, .ref q_t_ring, .ref q_t_line, .ref q_t_groups, .ref q_t_likely, .ref q_t_likelyThen, .int v_t_seedNow, .ref q_t_saved, .int v_t_keptMany, .int v_t_keptByHands, .int v_t_keptByMould, .ref q_t_keptRows, .ref q_t_keptDebts, .long v_t_hash])), (q_t_readKinds, .inl (cI, 10, .inl z.2.2.2.1)), (q_t_readLeaflets, .inl (cI, 10, .inl z.2.2.2.2))] (some (.int z.1))) args s 0 0 (fr [(q_t, .inr (10, [.ref q_t_page, .int v_t_pageMany, .ref q_t_readKinds, .ref q_t_readLeaflets, .int v_t_readMany, .int v_t_told, .int v_t_many, .int v_t_lostByHands, .int v_t_lostByMould, .ref q_t_rows, .ref q_t_debts, .int v_t_ringMany, .ref q_t_ring, .ref q_t_line, .ref q_t_groups, .ref q_t_likely, .ref q_t_likelyThen, .int v_t_seedNow, .ref q_t_saved, .int v_t_keptMany, .int v_t_keptByHands, .int v_t_keptByMould, .ref q_t_keptRows, .ref q_t_keptDebts, .long v_t_hash])), (q_t_readKinds, .inl (cI, 10, .inl v_t_readKinds)), (q_t_readLeaflets, .inl (cI, 10, .inl v_t_readLeaflets))])) (F0 m 0 ls [])
  generalize hQ0 : (MQ below (QG D [(q_t, .inr (10, [.ref q_t_page, .int v_t_pageMany, .ref q_t_readKinds, .ref q_t_readLeaflets, .int v_t_readMany, .int v_t_told, .int v_t_many, .int v_t_lostByHands, .int v_t_lostByMould, .ref q_t_rows, .ref q_t_debts, .int v_t_ringMany, .ref q_t_ring, .ref q_t_line, .ref q_t_groups, .ref q_t_likely, .ref q_t_likelyThen, .int v_t_seedNow, .ref q_t_saved, .int v_t_keptMany, .int v_t_keptByHands, .int v_t_keptByMould, .ref q_t_keptRows, .ref q_t_keptDebts, .long v_t_hash])), (q_t_readKinds, .inl (cI, 10, .inl v_t_readKinds)), (q_t_readLeaflets, .inl (cI, 10, .inl v_t_readLeaflets))] [(q_t, .inr (10, [.ref q_t_page, .int v_t_pageMany, .ref q_t_readKinds, .ref q_t_readLeaflets, .int z.2.1, .int z.2.2.1, .int v_t_many, .int v_t_lostByHands, .int v_t_lostByMould, .ref q_t_rows, .ref q_t_debts, .int v_t_ringMany, .ref q_t_ring, .ref q_t_line, .ref q_t_groups, .ref q_t_likely, .ref q_t_likelyThen, .int v_t_seedNow, .ref q_t_saved, .int v_t_keptMany, .int v_t_keptByHands, .int v_t_keptByMould, .ref q_t_keptRows, .ref q_t_keptDebts, .long v_t_hash])), (q_t_readKinds, .inl (cI, 10, .inl z.2.2.2.1)), (q_t_readLeaflets, .inl (cI, 10, .inl z.2.2.2.2))] (some (.int z.1))) args s 0 0 (fr [(q_t, .inr (10, [.ref q_t_page, .int v_t_pageMany, .ref q_t_readKinds, .ref q_t_readLeaflets, .int v_t_readMany, .int v_t_told, .int v_t_many, .int v_t_lostByHands, .int v_t_lostByMould, .ref q_t_rows, .ref q_t_debts, .int v_t_ringMany, .ref q_t_ring, .ref q_t_line, .ref q_t_groups, .ref q_t_likely, .ref q_t_likelyThen, .int v_t_seedNow, .ref q_t_saved, .int v_t_keptMany, .int v_t_keptByHands, .int v_t_keptByMould, .ref q_t_keptRows, .ref q_t_keptDebts, .long v_t_hash])), (q_t_readKinds, .inl (cI, 10, .inl v_t_readKinds)), (q_t_readLeaflets, .inl (cI, 10, .inl v_t_readLeaflets))])) = Q0
  generalize hA0 : fr [(q_t, .inr (10, [.ref q_t_page, .int v_t_pageMany, .ref q_t_readKinds, .ref q_t_readLeaflets, .int v_t_readMany, .int v_t_told, .int v_t_many, .int v_t_lostByHands, .int v_t_lostByMould, .ref q_t_rows, .ref q_t_debts, .int v_t_ringMany, .ref q_t_ring, .ref q_t_line, .ref q_t_groups, .ref q_t_likely, .ref q_t_likelyThen, .int v_t_seedNow, .ref q_t_saved, .int v_t_keptMany, .int v_t_keptByHands, .int v_t_keptByMould, .ref q_t_keptRows, .ref q_t_keptDebts, .long v_t_hash])), (q_t_readKinds, .inl (cI, 10, .inl v_t_readKinds)), (q_t_readLeaflets, .inl (cI, 10, .inl v_t_readLeaflets))] = A0 at hD hS
  unfold fX11_go at h
  refine lv_aload_n hx hb dX11_go_0 rfl (lv_at hl 0 rfl) ?_
  refine va_get (own := RX11) (ci := 10) (v := .int v_t_readMany) (C := RX11) (T := TX11) (N := 25) hx hb hts iX11 hown hK hP 0 rfl rfl 4 (by decide) k59 (fun _ h9 => h9) rfl dX11_go_1 ?_
  refine lv_bipush (v := 10) hx hb dX11_go_4 (by decide) ?_
  refine lv_icmp_ne (tgt := 11) hx hb dX11_go_6 (by decide) (fun c1 => ?_) (fun c1 => ?_)
  · skip
    have h := (if_neg c1).symm.trans h
    refine lv_aload_n hx hb dX11_go_11 rfl (lv_at hl 0 rfl) ?_
    refine va_get (own := RX11) (ci := 10) (v := .int v_t_told) (C := RX11) (T := TX11) (N := 25) hx hb hts iX11 hown hK hP 0 rfl rfl 5 (by decide) k62 (fun _ h9 => h9) rfl dX11_go_12 ?_
    have J46_3 : ∀ (a2 : Unit) (H : Heap) (locs : List Loc) (ls : Array Slot), fX11_go_J46 v_t_readMany v_t_told v_t_readKinds v_t_readLeaflets x1 a2 = some z → va_P D vwCl [(q_t, .inr (10, [.ref q_t_page, .int v_t_pageMany, .ref q_t_readKinds, .ref q_t_readLeaflets, .int v_t_readMany, .int v_t_told, .int v_t_many, .int v_t_lostByHands, .int v_t_lostByMould, .ref q_t_rows, .ref q_t_debts, .int v_t_ringMany, .ref q_t_ring, .ref q_t_line, .ref q_t_groups, .ref q_t_likely, .ref q_t_likelyThen, .int v_t_seedNow, .ref q_t_saved, .int v_t_keptMany, .int v_t_keptByHands, .int v_t_keptByMould, .ref q_t_keptRows, .ref q_t_keptDebts, .long v_t_hash])), (q_t_readKinds, .inl (cI, 10, .inl v_t_readKinds)), (q_t_readLeaflets, .inl (cI, 10, .inl v_t_readLeaflets))] H → va_D A0 [(q_t, .inr (10, [.ref q_t_page, .int v_t_pageMany, .ref q_t_readKinds, .ref q_t_readLeaflets, .int v_t_readMany, .int v_t_told, .int v_t_many, .int v_t_lostByHands, .int v_t_lostByMould, .ref q_t_rows, .ref q_t_debts, .int v_t_ringMany, .ref q_t_ring, .ref q_t_line, .ref q_t_groups, .ref q_t_likely, .ref q_t_likelyThen, .int v_t_seedNow, .ref q_t_saved, .int v_t_keptMany, .int v_t_keptByHands, .int v_t_keptByMould, .ref q_t_keptRows, .ref q_t_keptDebts, .long v_t_hash])), (q_t_readKinds, .inl (cI, 10, .inl v_t_readKinds)), (q_t_readLeaflets, .inl (cI, 10, .inl v_t_readLeaflets))] → va_S A0 s.heap H locs → lv_has ls 2 [(0, .ref q_t), (1, .int x1)] → W p l e ({ frames := 1, cells := 0, slots := 0, locals := 25 } : Room) s m args below meth c H locs 0 0 Q0 (F0 m 46 ls []) := by
      intro a2 H locs ls h hP hD hS hl
      unfold fX11_go_J46 at h
      refine lv_iload_n hx hb dX11_go_46 rfl (lv_at hl 1 rfl) ?_
      refine lv_i2l hx hb dX11_go_47 rfl ?_
      refine lv_ldc2 (own := RX11) (v := 48) hx hb hown (hts (.constantLong RX11 70 (48)) (by decide +kernel)) dX11_go_48 ?_
      refine lv_ldc2 (own := RX11) (v := 57) hx hb hown (hts (.constantLong RX11 72 (57)) (by decide +kernel)) dX11_go_51 ?_
      refine cl_S [(q_t, .inr (10, [.ref q_t_page, .int v_t_pageMany, .ref q_t_readKinds, .ref q_t_readLeaflets, .int v_t_readMany, .int v_t_told, .int v_t_many, .int v_t_lostByHands, .int v_t_lostByMould, .ref q_t_rows, .ref q_t_debts, .int v_t_ringMany, .ref q_t_ring, .ref q_t_line, .ref q_t_groups, .ref q_t_likely, .ref q_t_likelyThen, .int v_t_seedNow, .ref q_t_saved, .int v_t_keptMany, .int v_t_keptByHands, .int v_t_keptByMould, .ref q_t_keptRows, .ref q_t_keptDebts, .long v_t_hash])), (q_t_readKinds, .inl (cI, 10, .inl v_t_readKinds)), (q_t_readLeaflets, .inl (cI, 10, .inl v_t_readLeaflets))] (As := [.long ((x1 : Int32).toInt64), .long 48, .long 57]) (rest := []) (rv := (some (.int (fX11_in ((x1 : Int32).toInt64) 48 57)))) (c_X11_in l D cI cJ ((x1 : Int32).toInt64) 48 57) ⟨hx, hb, hml, hown, hts⟩ (va_cwS 3 hts gX11_go_X11_in rfl rfl rfl (by decide +kernel) ⟨(Nat.le_of_ble_eq_true rfl), (Nat.le_of_ble_eq_true rfl)⟩) hK hN hP hD hS [] rfl (by decide) rfl rfl rfl rfl hl.1 rfl (Nat.le_of_ble_eq_true rfl) dX11_go_54 ⟨Nat.zero_le _, Nat.zero_le _⟩ (fun H locs hP hD hS => ?_)
      show W p l e ({ frames := 1, cells := 0, slots := 0, locals := 25 } : Room) s m args below meth c H locs 0 0 Q0 (F0 m 57 ls [.int (fX11_in ((x1 : Int32).toInt64) 48 57)])
      refine lv_if_ne (tgt := 62) hx hb dX11_go_57 (by decide) (fun c4 => ?_) (fun c4 => ?_)
      · skip
        have h := (if_neg c4).symm.trans h
        refine lv_aload_n hx hb dX11_go_62 rfl (lv_at hl 0 rfl) ?_
        refine va_get (own := RX11) (ci := 10) (v := .ref q_t_readKinds) (C := RX11) (T := TX11) (N := 25) hx hb hts iX11 hown hK hP 0 rfl rfl 2 (by decide) k13 (fun _ h9 => h9) rfl dX11_go_63 ?_
        refine lv_aload_n hx hb dX11_go_66 rfl (lv_at hl 0 rfl) ?_
        refine va_get (own := RX11) (ci := 10) (v := .int v_t_readMany) (C := RX11) (T := TX11) (N := 25) hx hb hts iX11 hown hK hP 0 rfl rfl 4 (by decide) k59 (fun _ h9 => h9) rfl dX11_go_67 ?_
        refine lv_aload_n hx hb dX11_go_70 rfl (lv_at hl 0 rfl) ?_
        refine va_get (own := RX11) (ci := 10) (v := .int v_t_told) (C := RX11) (T := TX11) (N := 25) hx hb hts iX11 hown hK hP 0 rfl rfl 5 (by decide) k62 (fun _ h9 => h9) rfl dX11_go_71 ?_
        have J90_6 : ∀ (a5 : Int32) (H : Heap) (locs : List Loc) (ls : Array Slot), fX11_go_J90 v_t_readMany v_t_readKinds v_t_readLeaflets x1 a5 = some z → va_P D vwCl [(q_t, .inr (10, [.ref q_t_page, .int v_t_pageMany, .ref q_t_readKinds, .ref q_t_readLeaflets, .int v_t_readMany, .int v_t_told, .int v_t_many, .int v_t_lostByHands, .int v_t_lostByMould, .ref q_t_rows, .ref q_t_debts, .int v_t_ringMany, .ref q_t_ring, .ref q_t_line, .ref q_t_groups, .ref q_t_likely, .ref q_t_likelyThen, .int v_t_seedNow, .ref q_t_saved, .int v_t_keptMany, .int v_t_keptByHands, .int v_t_keptByMould, .ref q_t_keptRows, .ref q_t_keptDebts, .long v_t_hash])), (q_t_readKinds, .inl (cI, 10, .inl v_t_readKinds)), (q_t_readLeaflets, .inl (cI, 10, .inl v_t_readLeaflets))] H → va_D A0 [(q_t, .inr (10, [.ref q_t_page, .int v_t_pageMany, .ref q_t_readKinds, .ref q_t_readLeaflets, .int v_t_readMany, .int v_t_told, .int v_t_many, .int v_t_lostByHands, .int v_t_lostByMould, .ref q_t_rows, .ref q_t_debts, .int v_t_ringMany, .ref q_t_ring, .ref q_t_line, .ref q_t_groups, .ref q_t_likely, .ref q_t_likelyThen, .int v_t_seedNow, .ref q_t_saved, .int v_t_keptMany, .int v_t_keptByHands, .int v_t_keptByMould, .ref q_t_keptRows, .ref q_t_keptDebts, .long v_t_hash])), (q_t_readKinds, .inl (cI, 10, .inl v_t_readKinds)), (q_t_readLeaflets, .inl (cI, 10, .inl v_t_readLeaflets))] → va_S A0 s.heap H locs → lv_has ls 2 [(0, .ref q_t), (1, .int x1)] → W p l e ({ frames := 1, cells := 0, slots := 0, locals := 25 } : Room) s m args below meth c H locs 0 0 Q0 (F0 m 90 ls [.int a5, .int v_t_readMany, .ref q_t_readKinds]) := by
          intro a5 H locs ls h hP hD hS hl
          unfold fX11_go_J90 at h
          obtain ⟨g7, h⟩ := gd_of h
          refine va_iast hx hb hK hP hD hS 1 0 rfl rfl (inb_of g7) dX11_go_90 (fun H locs hP hD hS => ?_)
          have hP : va_P D vwCl [(q_t, .inr (10, [.ref q_t_page, .int v_t_pageMany, .ref q_t_readKinds, .ref q_t_readLeaflets, .int v_t_readMany, .int v_t_told, .int v_t_many, .int v_t_lostByHands, .int v_t_lostByMould, .ref q_t_rows, .ref q_t_debts, .int v_t_ringMany, .ref q_t_ring, .ref q_t_line, .ref q_t_groups, .ref q_t_likely, .ref q_t_likelyThen, .int v_t_seedNow, .ref q_t_saved, .int v_t_keptMany, .int v_t_keptByHands, .int v_t_keptByMould, .ref q_t_keptRows, .ref q_t_keptDebts, .long v_t_hash])), (q_t_readKinds, .inl (cI, 10, .inl (upd v_t_readKinds v_t_readMany.toNatClampNeg a5))), (q_t_readLeaflets, .inl (cI, 10, .inl v_t_readLeaflets))] H := hP
          have hD : va_D A0 [(q_t, .inr (10, [.ref q_t_page, .int v_t_pageMany, .ref q_t_readKinds, .ref q_t_readLeaflets, .int v_t_readMany, .int v_t_told, .int v_t_many, .int v_t_lostByHands, .int v_t_lostByMould, .ref q_t_rows, .ref q_t_debts, .int v_t_ringMany, .ref q_t_ring, .ref q_t_line, .ref q_t_groups, .ref q_t_likely, .ref q_t_likelyThen, .int v_t_seedNow, .ref q_t_saved, .int v_t_keptMany, .int v_t_keptByHands, .int v_t_keptByMould, .ref q_t_keptRows, .ref q_t_keptDebts, .long v_t_hash])), (q_t_readKinds, .inl (cI, 10, .inl (upd v_t_readKinds v_t_readMany.toNatClampNeg a5))), (q_t_readLeaflets, .inl (cI, 10, .inl v_t_readLeaflets))] := hD
          refine lv_aload_n hx hb dX11_go_91 rfl (lv_at hl 0 rfl) ?_
          refine va_get (own := RX11) (ci := 10) (v := .ref q_t_readLeaflets) (C := RX11) (T := TX11) (N := 25) hx hb hts iX11 hown hK hP 0 rfl rfl 3 (by decide) k16 (fun _ h9 => h9) rfl dX11_go_92 ?_
          refine lv_aload_n hx hb dX11_go_95 rfl (lv_at hl 0 rfl) ?_
          refine va_get (own := RX11) (ci := 10) (v := .int v_t_readMany) (C := RX11) (T := TX11) (N := 25) hx hb hts iX11 hown hK hP 0 rfl rfl 4 (by decide) k59 (fun _ h9 => h9) rfl dX11_go_96 ?_
          refine lv_iload_n hx hb dX11_go_99 rfl (lv_at hl 1 rfl) ?_
          refine lv_bipush (v := 48) hx hb dX11_go_100 (by decide) ?_
          refine lv_isub hx hb dX11_go_102 ?_
          refine va_iast hx hb hK hP hD hS 2 0 rfl rfl (inb_of g7) dX11_go_103 (fun H locs hP hD hS => ?_)
          have hP : va_P D vwCl [(q_t, .inr (10, [.ref q_t_page, .int v_t_pageMany, .ref q_t_readKinds, .ref q_t_readLeaflets, .int v_t_readMany, .int v_t_told, .int v_t_many, .int v_t_lostByHands, .int v_t_lostByMould, .ref q_t_rows, .ref q_t_debts, .int v_t_ringMany, .ref q_t_ring, .ref q_t_line, .ref q_t_groups, .ref q_t_likely, .ref q_t_likelyThen, .int v_t_seedNow, .ref q_t_saved, .int v_t_keptMany, .int v_t_keptByHands, .int v_t_keptByMould, .ref q_t_keptRows, .ref q_t_keptDebts, .long v_t_hash])), (q_t_readKinds, .inl (cI, 10, .inl (upd v_t_readKinds v_t_readMany.toNatClampNeg a5))), (q_t_readLeaflets, .inl (cI, 10, .inl (upd v_t_readLeaflets v_t_readMany.toNatClampNeg (x1 - 48))))] H := hP
          have hD : va_D A0 [(q_t, .inr (10, [.ref q_t_page, .int v_t_pageMany, .ref q_t_readKinds, .ref q_t_readLeaflets, .int v_t_readMany, .int v_t_told, .int v_t_many, .int v_t_lostByHands, .int v_t_lostByMould, .ref q_t_rows, .ref q_t_debts, .int v_t_ringMany, .ref q_t_ring, .ref q_t_line, .ref q_t_groups, .ref q_t_likely, .ref q_t_likelyThen, .int v_t_seedNow, .ref q_t_saved, .int v_t_keptMany, .int v_t_keptByHands, .int v_t_keptByMould, .ref q_t_keptRows, .ref q_t_keptDebts, .long v_t_hash])), (q_t_readKinds, .inl (cI, 10, .inl (upd v_t_readKinds v_t_readMany.toNatClampNeg a5))), (q_t_readLeaflets, .inl (cI, 10, .inl (upd v_t_readLeaflets v_t_readMany.toNatClampNeg (x1 - 48))))] := hD
          refine lv_aload_n hx hb dX11_go_104 rfl (lv_at hl 0 rfl) ?_
          refine lv_dup hx hb dX11_go_105 rfl ?_
          refine va_get (own := RX11) (ci := 10) (v := .int v_t_readMany) (C := RX11) (T := TX11) (N := 25) hx hb hts iX11 hown hK hP 0 rfl rfl 4 (by decide) k59 (fun _ h9 => h9) rfl dX11_go_106 ?_
          refine lv_iconst (v := 1) hx hb dX11_go_109 (by decide) ?_
          refine lv_iadd hx hb dX11_go_110 ?_
          refine va_put (D := D) (own := RX11) (ci := 10) (v := .int (v_t_readMany + 1)) (ty := .int) (C := RX11) (T := TX11) (N := 25) hx hb hts iX11 tyX11 tyX11_ok nmX11 hown hK hP hD hS 0 rfl rfl 4 (by decide) k59 (fun _ h9 => h9) rfl (by decide +kernel) rfl rfl (Nat.le_of_ble_eq_true rfl) dX11_go_111 (fun H locs hP hD hS => ?_)
          have hP : va_P D vwCl [(q_t, .inr (10, [.ref q_t_page, .int v_t_pageMany, .ref q_t_readKinds, .ref q_t_readLeaflets, .int (v_t_readMany + 1), .int v_t_told, .int v_t_many, .int v_t_lostByHands, .int v_t_lostByMould, .ref q_t_rows, .ref q_t_debts, .int v_t_ringMany, .ref q_t_ring, .ref q_t_line, .ref q_t_groups, .ref q_t_likely, .ref q_t_likelyThen, .int v_t_seedNow, .ref q_t_saved, .int v_t_keptMany, .int v_t_keptByHands, .int v_t_keptByMould, .ref q_t_keptRows, .ref q_t_keptDebts, .long v_t_hash])), (q_t_readKinds, .inl (cI, 10, .inl (upd v_t_readKinds v_t_readMany.toNatClampNeg a5))), (q_t_readLeaflets, .inl (cI, 10, .inl (upd v_t_readLeaflets v_t_readMany.toNatClampNeg (x1 - 48))))] H := hP
          have hD : va_D A0 [(q_t, .inr (10, [.ref q_t_page, .int v_t_pageMany, .ref q_t_readKinds, .ref q_t_readLeaflets, .int (v_t_readMany + 1), .int v_t_told, .int v_t_many, .int v_t_lostByHands, .int v_t_lostByMould, .ref q_t_rows, .ref q_t_debts, .int v_t_ringMany, .ref q_t_ring, .ref q_t_line, .ref q_t_groups, .ref q_t_likely, .ref q_t_likelyThen, .int v_t_seedNow, .ref q_t_saved, .int v_t_keptMany, .int v_t_keptByHands, .int v_t_keptByMould, .ref q_t_keptRows, .ref q_t_keptDebts, .long v_t_hash])), (q_t_readKinds, .inl (cI, 10, .inl (upd v_t_readKinds v_t_readMany.toNatClampNeg a5))), (q_t_readLeaflets, .inl (cI, 10, .inl (upd v_t_readLeaflets v_t_readMany.toNatClampNeg (x1 - 48))))] := hD
          refine lv_aload_n hx hb dX11_go_114 rfl (lv_at hl 0 rfl) ?_
          refine lv_iconst (v := 0) hx hb dX11_go_115 (by decide) ?_
          refine va_put (D := D) (own := RX11) (ci := 10) (v := .int 0) (ty := .boolean) (C := RX11) (T := TX11) (N := 25) hx hb hts iX11 tyX11 tyX11_ok nmX11 hown hK hP hD hS 0 rfl rfl 5 (by decide) k62 (fun _ h9 => h9) rfl (by decide +kernel) rfl rfl (Nat.le_of_ble_eq_true rfl) dX11_go_116 (fun H locs hP hD hS => ?_)
          have hP : va_P D vwCl [(q_t, .inr (10, [.ref q_t_page, .int v_t_pageMany, .ref q_t_readKinds, .ref q_t_readLeaflets, .int (v_t_readMany + 1), .int 0, .int v_t_many, .int v_t_lostByHands, .int v_t_lostByMould, .ref q_t_rows, .ref q_t_debts, .int v_t_ringMany, .ref q_t_ring, .ref q_t_line, .ref q_t_groups, .ref q_t_likely, .ref q_t_likelyThen, .int v_t_seedNow, .ref q_t_saved, .int v_t_keptMany, .int v_t_keptByHands, .int v_t_keptByMould, .ref q_t_keptRows, .ref q_t_keptDebts, .long v_t_hash])), (q_t_readKinds, .inl (cI, 10, .inl (upd v_t_readKinds v_t_readMany.toNatClampNeg a5))), (q_t_readLeaflets, .inl (cI, 10, .inl (upd v_t_readLeaflets v_t_readMany.toNatClampNeg (x1 - 48))))] H := hP
          have hD : va_D A0 [(q_t, .inr (10, [.ref q_t_page, .int v_t_pageMany, .ref q_t_readKinds, .ref q_t_readLeaflets, .int (v_t_readMany + 1), .int 0, .int v_t_many, .int v_t_lostByHands, .int v_t_lostByMould, .ref q_t_rows, .ref q_t_debts, .int v_t_ringMany, .ref q_t_ring, .ref q_t_line, .ref q_t_groups, .ref q_t_likely, .ref q_t_likelyThen, .int v_t_seedNow, .ref q_t_saved, .int v_t_keptMany, .int v_t_keptByHands, .int v_t_keptByMould, .ref q_t_keptRows, .ref q_t_keptDebts, .long v_t_hash])), (q_t_readKinds, .inl (cI, 10, .inl (upd v_t_readKinds v_t_readMany.toNatClampNeg a5))), (q_t_readLeaflets, .inl (cI, 10, .inl (upd v_t_readLeaflets v_t_readMany.toNatClampNeg (x1 - 48))))] := hD
          refine lv_iconst (v := 1) hx hb dX11_go_119 (by decide) ?_
          obtain rfl := Option.some.inj h
          exact rt_z hA0 hQ0 hx hb hr hlocks rfl hP hS dX11_go_120
        refine lv_if_eq (tgt := 89) hx hb dX11_go_74 (by decide) (fun c8 => ?_) (fun c8 => ?_)
        · skip
          have h := (if_pos c8).symm.trans h
          refine lv_iconst (v := 0) hx hb dX11_go_89 (by decide) ?_
          exact J90_6 0 _ _ _ h hP hD hS (lv_sub hl [0, 1] rfl)
        · skip
          have h := (if_neg c8).symm.trans h
          refine lv_aload_n hx hb dX11_go_77 rfl (lv_at hl 0 rfl) ?_
          refine va_get (own := RX11) (ci := 10) (v := .ref q_t_readKinds) (C := RX11) (T := TX11) (N := 25) hx hb hts iX11 hown hK hP 0 rfl rfl 2 (by decide) k13 (fun _ h9 => h9) rfl dX11_go_78 ?_
          refine lv_aload_n hx hb dX11_go_81 rfl (lv_at hl 0 rfl) ?_
          refine va_get (own := RX11) (ci := 10) (v := .int v_t_readMany) (C := RX11) (T := TX11) (N := 25) hx hb hts iX11 hown hK hP 0 rfl rfl 4 (by decide) k59 (fun _ h9 => h9) rfl dX11_go_82 ?_
          obtain ⟨g9, h⟩ := gd_of h
          refine va_iald hx hb hK hP 1 0 rfl rfl (inb_of g9) dX11_go_85 ?_
          refine lv_goto (tgt := 90) hx hb dX11_go_86 (by decide) ?_
          exact J90_6 (v_t_readKinds v_t_readMany.toNatClampNeg) _ _ _ h hP hD hS (lv_sub hl [0, 1] rfl)
      · skip
        have h := (if_pos c4).symm.trans h
        refine lv_iconst (v := 0) hx hb dX11_go_60 (by decide) ?_
        obtain rfl := Option.some.inj h
        exact rt_z hA0 hQ0 hx hb hr hlocks rfl hP hS dX11_go_61
    refine lv_if_ne (tgt := 46) hx hb dX11_go_15 (by decide) (fun c10 => ?_) (fun c10 => ?_)
    · skip
      have h := (if_neg c10).symm.trans h
      exact J46_3 () _ _ _ h hP hD hS (lv_sub hl [0, 1] rfl)
    · skip
      have h := (if_pos c10).symm.trans h
      refine lv_iload_n hx hb dX11_go_18 rfl (lv_at hl 1 rfl) ?_
      refine cl_S [(q_t, .inr (10, [.ref q_t_page, .int v_t_pageMany, .ref q_t_readKinds, .ref q_t_readLeaflets, .int v_t_readMany, .int v_t_told, .int v_t_many, .int v_t_lostByHands, .int v_t_lostByMould, .ref q_t_rows, .ref q_t_debts, .int v_t_ringMany, .ref q_t_ring, .ref q_t_line, .ref q_t_groups, .ref q_t_likely, .ref q_t_likelyThen, .int v_t_seedNow, .ref q_t_saved, .int v_t_keptMany, .int v_t_keptByHands, .int v_t_keptByMould, .ref q_t_keptRows, .ref q_t_keptDebts, .long v_t_hash])), (q_t_readKinds, .inl (cI, 10, .inl v_t_readKinds)), (q_t_readLeaflets, .inl (cI, 10, .inl v_t_readLeaflets))] (As := [.int x1]) (rest := []) (rv := (some (.int (fX11_kindOf x1)))) (c_X11_kindOf l D cI cJ x1) ⟨hx, hb, hml, hown, hts⟩ (va_cwS 1 hts gX11_go_X11_kindOf rfl rfl rfl (by decide +kernel) ⟨(Nat.le_of_ble_eq_true rfl), (Nat.le_of_ble_eq_true rfl)⟩) hK hN hP hD hS [] rfl (by decide) rfl rfl rfl rfl hl.1 rfl (Nat.le_of_ble_eq_true rfl) dX11_go_19 ⟨Nat.zero_le _, Nat.zero_le _⟩ (fun H locs hP hD hS => ?_)
      show W p l e ({ frames := 1, cells := 0, slots := 0, locals := 25 } : Room) s m args below meth c H locs 0 0 Q0 (F0 m 22 ls [.int (fX11_kindOf x1)])
      refine lv_iconst (v := (-1)) hx hb dX11_go_22 (by decide) ?_
      refine lv_icmp_eq (tgt := 46) hx hb dX11_go_23 (by decide) (fun c11 => ?_) (fun c11 => ?_)
      · skip
        have h := (if_pos c11).symm.trans h
        exact J46_3 () _ _ _ h hP hD hS (lv_sub hl [0, 1] rfl)
      · skip
        have h := (if_neg c11).symm.trans h
        refine lv_aload_n hx hb dX11_go_26 rfl (lv_at hl 0 rfl) ?_
        refine va_get (own := RX11) (ci := 10) (v := .ref q_t_readKinds) (C := RX11) (T := TX11) (N := 25) hx hb hts iX11 hown hK hP 0 rfl rfl 2 (by decide) k13 (fun _ h9 => h9) rfl dX11_go_27 ?_
        refine lv_aload_n hx hb dX11_go_30 rfl (lv_at hl 0 rfl) ?_
        refine va_get (own := RX11) (ci := 10) (v := .int v_t_readMany) (C := RX11) (T := TX11) (N := 25) hx hb hts iX11 hown hK hP 0 rfl rfl 4 (by decide) k59 (fun _ h9 => h9) rfl dX11_go_31 ?_
        refine lv_iload_n hx hb dX11_go_34 rfl (lv_at hl 1 rfl) ?_
        refine cl_S [(q_t, .inr (10, [.ref q_t_page, .int v_t_pageMany, .ref q_t_readKinds, .ref q_t_readLeaflets, .int v_t_readMany, .int v_t_told, .int v_t_many, .int v_t_lostByHands, .int v_t_lostByMould, .ref q_t_rows, .ref q_t_debts, .int v_t_ringMany, .ref q_t_ring, .ref q_t_line, .ref q_t_groups, .ref q_t_likely, .ref q_t_likelyThen, .int v_t_seedNow, .ref q_t_saved, .int v_t_keptMany, .int v_t_keptByHands, .int v_t_keptByMould, .ref q_t_keptRows, .ref q_t_keptDebts, .long v_t_hash])), (q_t_readKinds, .inl (cI, 10, .inl v_t_readKinds)), (q_t_readLeaflets, .inl (cI, 10, .inl v_t_readLeaflets))] (As := [.int x1]) (rest := [.int v_t_readMany, .ref q_t_readKinds]) (rv := (some (.int (fX11_kindOf x1)))) (c_X11_kindOf l D cI cJ x1) ⟨hx, hb, hml, hown, hts⟩ (va_cwS 1 hts gX11_go_X11_kindOf rfl rfl rfl (by decide +kernel) ⟨(Nat.le_of_ble_eq_true rfl), (Nat.le_of_ble_eq_true rfl)⟩) hK hN hP hD hS [] rfl (by decide) rfl rfl rfl rfl hl.1 rfl (Nat.le_of_ble_eq_true rfl) dX11_go_35 ⟨Nat.zero_le _, Nat.zero_le _⟩ (fun H locs hP hD hS => ?_)
        show W p l e ({ frames := 1, cells := 0, slots := 0, locals := 25 } : Room) s m args below meth c H locs 0 0 Q0 (F0 m 38 ls [.int (fX11_kindOf x1), .int v_t_readMany, .ref q_t_readKinds])
        obtain ⟨g12, h⟩ := gd_of h
        refine va_iast hx hb hK hP hD hS 1 0 rfl rfl (inb_of g12) dX11_go_38 (fun H locs hP hD hS => ?_)
        have hP : va_P D vwCl [(q_t, .inr (10, [.ref q_t_page, .int v_t_pageMany, .ref q_t_readKinds, .ref q_t_readLeaflets, .int v_t_readMany, .int v_t_told, .int v_t_many, .int v_t_lostByHands, .int v_t_lostByMould, .ref q_t_rows, .ref q_t_debts, .int v_t_ringMany, .ref q_t_ring, .ref q_t_line, .ref q_t_groups, .ref q_t_likely, .ref q_t_likelyThen, .int v_t_seedNow, .ref q_t_saved, .int v_t_keptMany, .int v_t_keptByHands, .int v_t_keptByMould, .ref q_t_keptRows, .ref q_t_keptDebts, .long v_t_hash])), (q_t_readKinds, .inl (cI, 10, .inl (upd v_t_readKinds v_t_readMany.toNatClampNeg (fX11_kindOf x1)))), (q_t_readLeaflets, .inl (cI, 10, .inl v_t_readLeaflets))] H := hP
        have hD : va_D A0 [(q_t, .inr (10, [.ref q_t_page, .int v_t_pageMany, .ref q_t_readKinds, .ref q_t_readLeaflets, .int v_t_readMany, .int v_t_told, .int v_t_many, .int v_t_lostByHands, .int v_t_lostByMould, .ref q_t_rows, .ref q_t_debts, .int v_t_ringMany, .ref q_t_ring, .ref q_t_line, .ref q_t_groups, .ref q_t_likely, .ref q_t_likelyThen, .int v_t_seedNow, .ref q_t_saved, .int v_t_keptMany, .int v_t_keptByHands, .int v_t_keptByMould, .ref q_t_keptRows, .ref q_t_keptDebts, .long v_t_hash])), (q_t_readKinds, .inl (cI, 10, .inl (upd v_t_readKinds v_t_readMany.toNatClampNeg (fX11_kindOf x1)))), (q_t_readLeaflets, .inl (cI, 10, .inl v_t_readLeaflets))] := hD
        refine lv_aload_n hx hb dX11_go_39 rfl (lv_at hl 0 rfl) ?_
        refine lv_iconst (v := 1) hx hb dX11_go_40 (by decide) ?_
        refine va_put (D := D) (own := RX11) (ci := 10) (v := .int 1) (ty := .boolean) (C := RX11) (T := TX11) (N := 25) hx hb hts iX11 tyX11 tyX11_ok nmX11 hown hK hP hD hS 0 rfl rfl 5 (by decide) k62 (fun _ h9 => h9) rfl (by decide +kernel) rfl rfl (Nat.le_of_ble_eq_true rfl) dX11_go_41 (fun H locs hP hD hS => ?_)
        have hP : va_P D vwCl [(q_t, .inr (10, [.ref q_t_page, .int v_t_pageMany, .ref q_t_readKinds, .ref q_t_readLeaflets, .int v_t_readMany, .int 1, .int v_t_many, .int v_t_lostByHands, .int v_t_lostByMould, .ref q_t_rows, .ref q_t_debts, .int v_t_ringMany, .ref q_t_ring, .ref q_t_line, .ref q_t_groups, .ref q_t_likely, .ref q_t_likelyThen, .int v_t_seedNow, .ref q_t_saved, .int v_t_keptMany, .int v_t_keptByHands, .int v_t_keptByMould, .ref q_t_keptRows, .ref q_t_keptDebts, .long v_t_hash])), (q_t_readKinds, .inl (cI, 10, .inl (upd v_t_readKinds v_t_readMany.toNatClampNeg (fX11_kindOf x1)))), (q_t_readLeaflets, .inl (cI, 10, .inl v_t_readLeaflets))] H := hP
        have hD : va_D A0 [(q_t, .inr (10, [.ref q_t_page, .int v_t_pageMany, .ref q_t_readKinds, .ref q_t_readLeaflets, .int v_t_readMany, .int 1, .int v_t_many, .int v_t_lostByHands, .int v_t_lostByMould, .ref q_t_rows, .ref q_t_debts, .int v_t_ringMany, .ref q_t_ring, .ref q_t_line, .ref q_t_groups, .ref q_t_likely, .ref q_t_likelyThen, .int v_t_seedNow, .ref q_t_saved, .int v_t_keptMany, .int v_t_keptByHands, .int v_t_keptByMould, .ref q_t_keptRows, .ref q_t_keptDebts, .long v_t_hash])), (q_t_readKinds, .inl (cI, 10, .inl (upd v_t_readKinds v_t_readMany.toNatClampNeg (fX11_kindOf x1)))), (q_t_readLeaflets, .inl (cI, 10, .inl v_t_readLeaflets))] := hD
        refine lv_iconst (v := 1) hx hb dX11_go_44 (by decide) ?_
        obtain rfl := Option.some.inj h
        exact rt_z hA0 hQ0 hx hb hr hlocks rfl hP hS dX11_go_45
  · skip
    have h := (if_pos c1).symm.trans h
    refine lv_iconst (v := 0) hx hb dX11_go_9 (by decide) ?_
    obtain rfl := Option.some.inj h
    exact rt_z hA0 hQ0 hx hb hr hlocks rfl hP hS dX11_go_10
def fX11_faultOf_X12_39  (a3 : Int32 × Int32 × Int32 × (Nat → Int32) × (Nat → Int32)) : Option (Int32 × Int32 × Int32 × (Nat → Int32) × (Nat → Int32)) :=
  some (a3.1, a3.2.1, a3.2.2.1, a3.2.2.2.1, a3.2.2.2.2)
def fX11_faultOf_L12 (v_t_pageMany : Int32) (v_t_many : Int32) (v_t_lostByHands : Int32) (v_t_lostByMould : Int32) (v_t_ringMany : Int32) (v_t_seedNow : Int32) (v_t_keptMany : Int32) (v_t_keptByHands : Int32) (v_t_keptByMould : Int32) (v_t_hash : Int64) (v_t_page : Nat → Int32) (z1 : Int32 × Int32 × Int32 × (Nat → Int32) × (Nat → Int32)) : Option ((Int32 × Int32 × Int32 × (Nat → Int32) × (Nat → Int32)) ⊕ (Int32 × Int32 × Int32 × (Nat → Int32) × (Nat → Int32))) :=
  if v_t_pageMany ≤ z1.1 then (some (Sum.inr (z1.1, z1.2.1, z1.2.2.1, z1.2.2.2.1, z1.2.2.2.2))) else (gd (inb z1.1 22) ((fX11_go v_t_pageMany z1.2.1 z1.2.2.1 v_t_many v_t_lostByHands v_t_lostByMould v_t_ringMany v_t_seedNow v_t_keptMany v_t_keptByHands v_t_keptByMould v_t_hash z1.2.2.2.1 z1.2.2.2.2 (v_t_page z1.1.toNatClampNeg)).bind (fun u8 => if u8.1 = 0 then (some (Sum.inr (z1.1, u8.2.1, u8.2.2.1, u8.2.2.2.1, u8.2.2.2.2))) else (some (Sum.inl ((z1.1 + 1), u8.2.1, u8.2.2.1, u8.2.2.2.1, u8.2.2.2.2))))))
def fX11_faultOf (v_t_pageMany : Int32) (v_t_readMany : Int32) (v_t_told : Int32) (v_t_many : Int32) (v_t_lostByHands : Int32) (v_t_lostByMould : Int32) (v_t_ringMany : Int32) (v_t_seedNow : Int32) (v_t_keptMany : Int32) (v_t_keptByHands : Int32) (v_t_keptByMould : Int32) (v_t_hash : Int64) (v_t_page : Nat → Int32) (v_t_readKinds : Nat → Int32) (v_t_readLeaflets : Nat → Int32) : Option (Int32 × Int32 × Int32 × (Nat → Int32) × (Nat → Int32)) :=
  (iter (fX11_faultOf_L12 v_t_pageMany v_t_many v_t_lostByHands v_t_lostByMould v_t_ringMany v_t_seedNow v_t_keptMany v_t_keptByHands v_t_keptByMould v_t_hash v_t_page) FU (0, 0, 0, v_t_readKinds, v_t_readLeaflets)).bind (fX11_faultOf_X12_39)
set_option maxHeartbeats 4000000 in
set_option maxRecDepth 100000 in
theorem c_X11_faultOf (l : Launch) (D : va_G) (cI cJ : ClassId) (q_t q_t_page q_t_readKinds q_t_readLeaflets q_t_rows q_t_debts q_t_ring q_t_line q_t_groups q_t_likely q_t_likelyThen q_t_saved q_t_keptRows q_t_keptDebts : Nat) (v_t_pageMany : Int32) (v_t_readMany : Int32) (v_t_told : Int32) (v_t_many : Int32) (v_t_lostByHands : Int32) (v_t_lostByMould : Int32) (v_t_ringMany : Int32) (v_t_seedNow : Int32) (v_t_keptMany : Int32) (v_t_keptByHands : Int32) (v_t_keptByMould : Int32) (v_t_hash : Int64) (v_t_page : Nat → Int32) (v_t_readKinds : Nat → Int32) (v_t_readLeaflets : Nat → Int32) (z : Int32 × Int32 × Int32 × (Nat → Int32) × (Nat → Int32)) (h : fX11_faultOf v_t_pageMany v_t_readMany v_t_told v_t_many v_t_lostByHands v_t_lostByMould v_t_ringMany v_t_seedNow v_t_keptMany v_t_keptByHands v_t_keptByMould v_t_hash v_t_page v_t_readKinds v_t_readLeaflets = some z) : Met l yX11_faultOf wsX11_faultOf ({ frames := 2, cells := 0, slots := 0, locals := 46 } : Room) (va_Pc [.ref q_t] (preG D cI cJ [(q_t, .inr (10, [.ref q_t_page, .int v_t_pageMany, .ref q_t_readKinds, .ref q_t_readLeaflets, .int v_t_readMany, .int v_t_told, .int v_t_many, .int v_t_lostByHands, .int v_t_lostByMould, .ref q_t_rows, .ref q_t_debts, .int v_t_ringMany, .ref q_t_ring, .ref q_t_line, .ref q_t_groups, .ref q_t_likely, .ref q_t_likelyThen, .int v_t_seedNow, .ref q_t_saved, .int v_t_keptMany, .int v_t_keptByHands, .int v_t_keptByMould, .ref q_t_keptRows, .ref q_t_keptDebts, .long v_t_hash])), (q_t_page, .inl (cI, 22, .inl v_t_page)), (q_t_readKinds, .inl (cI, 10, .inl v_t_readKinds)), (q_t_readLeaflets, .inl (cI, 10, .inl v_t_readLeaflets))])) (QG D [(q_t, .inr (10, [.ref q_t_page, .int v_t_pageMany, .ref q_t_readKinds, .ref q_t_readLeaflets, .int v_t_readMany, .int v_t_told, .int v_t_many, .int v_t_lostByHands, .int v_t_lostByMould, .ref q_t_rows, .ref q_t_debts, .int v_t_ringMany, .ref q_t_ring, .ref q_t_line, .ref q_t_groups, .ref q_t_likely, .ref q_t_likelyThen, .int v_t_seedNow, .ref q_t_saved, .int v_t_keptMany, .int v_t_keptByHands, .int v_t_keptByMould, .ref q_t_keptRows, .ref q_t_keptDebts, .long v_t_hash])), (q_t_page, .inl (cI, 22, .inl v_t_page)), (q_t_readKinds, .inl (cI, 10, .inl v_t_readKinds)), (q_t_readLeaflets, .inl (cI, 10, .inl v_t_readLeaflets))] [(q_t, .inr (10, [.ref q_t_page, .int v_t_pageMany, .ref q_t_readKinds, .ref q_t_readLeaflets, .int z.2.1, .int z.2.2.1, .int v_t_many, .int v_t_lostByHands, .int v_t_lostByMould, .ref q_t_rows, .ref q_t_debts, .int v_t_ringMany, .ref q_t_ring, .ref q_t_line, .ref q_t_groups, .ref q_t_likely, .ref q_t_likelyThen, .int v_t_seedNow, .ref q_t_saved, .int v_t_keptMany, .int v_t_keptByHands, .int v_t_keptByMould, .ref q_t_keptRows, .ref q_t_keptDebts, .long v_t_hash])), (q_t_page, .inl (cI, 22, .inl v_t_page)), (q_t_readKinds, .inl (cI, 10, .inl z.2.2.2.1)), (q_t_readLeaflets, .inl (cI, 10, .inl z.2.2.2.2))] (some (.int z.1))) 0 0 (fr [(q_t, .inr (10, [.ref q_t_page, .int v_t_pageMany, .ref q_t_readKinds, .ref q_t_readLeaflets, .int v_t_readMany, .int v_t_told, .int v_t_many, .int v_t_lostByHands, .int v_t_lostByMould, .ref q_t_rows, .ref q_t_debts, .int v_t_ringMany, .ref q_t_ring, .ref q_t_line, .ref q_t_groups, .ref q_t_likely, .ref q_t_likelyThen, .int v_t_seedNow, .ref q_t_saved, .int v_t_keptMany, .int v_t_keptByHands, .int v_t_keptByMould, .ref q_t_keptRows, .ref q_t_keptDebts, .long v_t_hash])), (q_t_page, .inl (cI, 22, .inl v_t_page)), (q_t_readKinds, .inl (cI, 10, .inl v_t_readKinds)), (q_t_readLeaflets, .inl (cI, 10, .inl v_t_readLeaflets))]) := by
  refine Met.ofW (cc := cX11_faultOf) (maxL := 2) (ret := (some .int)) (by decide) rfl ?_
  intro p e s m args below meth c s₁ B hml hv
  obtain ⟨hargs, hP, hK, hN, hD0⟩ := hv
  have hx := B.exec
  have hb := B.bytes
  have hr := B.returns
  have hts := atoms_spec (ws := wsX11_faultOf) B.pre
  have hown : s.vm.findClass RX11 = some m.cls := findClass_of_methodNamed B.named
  have hlocks := B.notSynchronized
  have iX11 : ∀ w ∈ wsX110, w ∈ wsX11_faultOf := by decide +kernel
  have k7 := hts (.fieldLink RX11 7 "PressedFernsModel" "page" "[I") (by decide +kernel)
  have k56 := hts (.fieldLink RX11 56 "PressedFernsModel" "pageMany" "I") (by decide +kernel)
  have k59 := hts (.fieldLink RX11 59 "PressedFernsModel" "readMany" "I") (by decide +kernel)
  have k62 := hts (.fieldLink RX11 62 "PressedFernsModel" "told" "Z") (by decide +kernel)
  have hD := fr_D hD0
  have hS : va_S (fr [(q_t, .inr (10, [.ref q_t_page, .int v_t_pageMany, .ref q_t_readKinds, .ref q_t_readLeaflets, .int v_t_readMany, .int v_t_told, .int v_t_many, .int v_t_lostByHands, .int v_t_lostByMould, .ref q_t_rows, .ref q_t_debts, .int v_t_ringMany, .ref q_t_ring, .ref q_t_line, .ref q_t_groups, .ref q_t_likely, .ref q_t_likelyThen, .int v_t_seedNow, .ref q_t_saved, .int v_t_keptMany, .int v_t_keptByHands, .int v_t_keptByMould, .ref q_t_keptRows, .ref q_t_keptDebts, .long v_t_hash])), (q_t_page, .inl (cI, 22, .inl v_t_page)), (q_t_readKinds, .inl (cI, 10, .inl v_t_readKinds)), (q_t_readLeaflets, .inl (cI, 10, .inl v_t_readLeaflets))]) s.heap s.heap [] := va_S.rf
  have hl := lv_entry ([.ref q_t]) (n := 2) (Nat.le_of_ble_eq_true rfl)
  refine W.eq (g2 := F0 m 0 ((lg_sl ([.ref q_t]) ++ List.replicate (2 - (lg_sl ([.ref q_t])).length) Slot.unset).toArray) []) (by rw [hargs, lg_entry_eq]) ?_
  generalize (lg_sl ([.ref q_t]) ++ List.replicate (2 - (lg_sl ([.ref q_t])).length) Slot.unset).toArray = ls at hl ⊢
  have hl : lv_has ls 2 [(0, .ref q_t)] := hl
  show W p l e ({ frames := 2, cells := 0, slots := 0, locals := 46 } : Room) s m args below meth c s.heap [] 0 0 (MQ below (QG D [(q_t, .inr (10, [.ref q_t_page, .int v_t_pageMany, .ref q_t_readKinds, .ref q_t_readLeaflets, .int v_t_readMany, .int v_t_told, .int v_t_many, .int v_t_lostByHands, .int v_t_lostByMould, .ref q_t_rows, .ref q_t_debts, .int v_t_ringMany, .ref q_t_ring, .ref q_t_line, .ref q_t_groups, .ref q_t_likely, .ref q_t_likelyThen, .int v_t_seedNow, .ref q_t_saved, .int v_t_keptMany, .int v_t_keptByHands, .int v_t_keptByMould, .ref q_t_keptRows, .ref q_t_keptDebts, .long v_t_hash])), (q_t_page, .inl (cI, 22, .inl v_t_page)), (q_t_readKinds, .inl (cI, 10, .inl v_t_readKinds)), (q_t_readLeaflets, .inl (cI, 10, .inl v_t_readLeaflets))] [(q_t, .inr (10, [.ref q_t_page, .int v_t_pageMany, .ref q_t_readKinds, .ref q_t_readLeaflets, .int z.2.1, .int z.2.2.1, .int v_t_many, .int v_t_lostByHands, .int v_t_lostByMould, .ref q_t_rows, .ref q_t_debts, .int v_t_ringMany, .ref q_t_ring, .ref q_t_line, .ref q_t_groups, .ref q_t_likely, .ref q_t_likelyThen, .int v_t_seedNow, .ref q_t_saved, .int v_t_keptMany, .int v_t_keptByHands, .int v_t_keptByMould, .ref q_t_keptRows, .ref q_t_keptDebts, .long v_t_hash])), (q_t_page, .inl (cI, 22, .inl v_t_page)), (q_t_readKinds, .inl (cI, 10, .inl z.2.2.2.1)), (q_t_readLeaflets, .inl (cI, 10, .inl z.2.2.2.2))] (some (.int z.1))) args s 0 0 (fr [(q_t, .inr (10, [.ref q_t_page, .int v_t_pageMany, .ref q_t_readKinds, .ref q_t_readLeaflets, .int v_t_readMany, .int v_t_told, .int v_t_many, .int v_t_lostByHands, .int v_t_lostByMould, .ref q_t_rows, .ref q_t_debts, .int v_t_ringMany, .ref q_t_ring, .ref q_t_line, .ref q_t_groups, .ref q_t_likely, .ref q_t_likelyThen, .int v_t_seedNow, .ref q_t_saved, .int v_t_keptMany, .int v_t_keptByHands, .int v_t_keptByMould, .ref q_t_keptRows, .ref q_t_keptDebts, .long v_t_hash])), (q_t_page, .inl (cI, 22, .inl v_t_page)), (q_t_readKinds, .inl (cI, 10, .inl v_t_readKinds)), (q_t_readLeaflets, .inl (cI, 10, .inl v_t_readLeaflets))])) (F0 m 0 ls [])
  generalize hQ0 : (MQ below (QG D [(q_t, .inr (10, [.ref q_t_page, .int v_t_pageMany, .ref q_t_readKinds, .ref q_t_readLeaflets, .int v_t_readMany, .int v_t_told, .int v_t_many, .int v_t_lostByHands, .int v_t_lostByMould, .ref q_t_rows, .ref q_t_debts, .int v_t_ringMany, .ref q_t_ring, .ref q_t_line, .ref q_t_groups, .ref q_t_likely, .ref q_t_likelyThen, .int v_t_seedNow, .ref q_t_saved, .int v_t_keptMany, .int v_t_keptByHands, .int v_t_keptByMould, .ref q_t_keptRows, .ref q_t_keptDebts, .long v_t_hash])), (q_t_page, .inl (cI, 22, .inl v_t_page)), (q_t_readKinds, .inl (cI, 10, .inl v_t_readKinds)), (q_t_readLeaflets, .inl (cI, 10, .inl v_t_readLeaflets))] [(q_t, .inr (10, [.ref q_t_page, .int v_t_pageMany, .ref q_t_readKinds, .ref q_t_readLeaflets, .int z.2.1, .int z.2.2.1, .int v_t_many, .int v_t_lostByHands, .int v_t_lostByMould, .ref q_t_rows, .ref q_t_debts, .int v_t_ringMany, .ref q_t_ring, .ref q_t_line, .ref q_t_groups, .ref q_t_likely, .ref q_t_likelyThen, .int v_t_seedNow, .ref q_t_saved, .int v_t_keptMany, .int v_t_keptByHands, .int v_t_keptByMould, .ref q_t_keptRows, .ref q_t_keptDebts, .long v_t_hash])), (q_t_page, .inl (cI, 22, .inl v_t_page)), (q_t_readKinds, .inl (cI, 10, .inl z.2.2.2.1)), (q_t_readLeaflets, .inl (cI, 10, .inl z.2.2.2.2))] (some (.int z.1))) args s 0 0 (fr [(q_t, .inr (10, [.ref q_t_page, .int v_t_pageMany, .ref q_t_readKinds, .ref q_t_readLeaflets, .int v_t_readMany, .int v_t_told, .int v_t_many, .int v_t_lostByHands, .int v_t_lostByMould, .ref q_t_rows, .ref q_t_debts, .int v_t_ringMany, .ref q_t_ring, .ref q_t_line, .ref q_t_groups, .ref q_t_likely, .ref q_t_likelyThen, .int v_t_seedNow, .ref q_t_saved, .int v_t_keptMany, .int v_t_keptByHands, .int v_t_keptByMould, .ref q_t_keptRows, .ref q_t_keptDebts, .long v_t_hash])), (q_t_page, .inl (cI, 22, .inl v_t_page)), (q_t_readKinds, .inl (cI, 10, .inl v_t_readKinds)), (q_t_readLeaflets, .inl (cI, 10, .inl v_t_readLeaflets))])) = Q0
  generalize hA0 : fr [(q_t, .inr (10, [.ref q_t_page, .int v_t_pageMany, .ref q_t_readKinds, .ref q_t_readLeaflets, .int v_t_readMany, .int v_t_told, .int v_t_many, .int v_t_lostByHands, .int v_t_lostByMould, .ref q_t_rows, .ref q_t_debts, .int v_t_ringMany, .ref q_t_ring, .ref q_t_line, .ref q_t_groups, .ref q_t_likely, .ref q_t_likelyThen, .int v_t_seedNow, .ref q_t_saved, .int v_t_keptMany, .int v_t_keptByHands, .int v_t_keptByMould, .ref q_t_keptRows, .ref q_t_keptDebts, .long v_t_hash])), (q_t_page, .inl (cI, 22, .inl v_t_page)), (q_t_readKinds, .inl (cI, 10, .inl v_t_readKinds)), (q_t_readLeaflets, .inl (cI, 10, .inl v_t_readLeaflets))] = A0 at hD hS
  unfold fX11_faultOf at h
  refine lv_aload_n hx hb dX11_faultOf_0 rfl (lv_at hl 0 rfl) ?_
  refine lv_iconst (v := 0) hx hb dX11_faultOf_1 (by decide) ?_
  refine va_put (D := D) (own := RX11) (ci := 10) (v := .int 0) (ty := .int) (C := RX11) (T := TX11) (N := 25) hx hb hts iX11 tyX11 tyX11_ok nmX11 hown hK hP hD hS 0 rfl rfl 4 (by decide) k59 (fun _ h9 => h9) rfl (by decide +kernel) rfl rfl (Nat.le_of_ble_eq_true rfl) dX11_faultOf_2 (fun H locs hP hD hS => ?_)
  have hP : va_P D vwCl [(q_t, .inr (10, [.ref q_t_page, .int v_t_pageMany, .ref q_t_readKinds, .ref q_t_readLeaflets, .int 0, .int v_t_told, .int v_t_many, .int v_t_lostByHands, .int v_t_lostByMould, .ref q_t_rows, .ref q_t_debts, .int v_t_ringMany, .ref q_t_ring, .ref q_t_line, .ref q_t_groups, .ref q_t_likely, .ref q_t_likelyThen, .int v_t_seedNow, .ref q_t_saved, .int v_t_keptMany, .int v_t_keptByHands, .int v_t_keptByMould, .ref q_t_keptRows, .ref q_t_keptDebts, .long v_t_hash])), (q_t_page, .inl (cI, 22, .inl v_t_page)), (q_t_readKinds, .inl (cI, 10, .inl v_t_readKinds)), (q_t_readLeaflets, .inl (cI, 10, .inl v_t_readLeaflets))] H := hP
  have hD : va_D A0 [(q_t, .inr (10, [.ref q_t_page, .int v_t_pageMany, .ref q_t_readKinds, .ref q_t_readLeaflets, .int 0, .int v_t_told, .int v_t_many, .int v_t_lostByHands, .int v_t_lostByMould, .ref q_t_rows, .ref q_t_debts, .int v_t_ringMany, .ref q_t_ring, .ref q_t_line, .ref q_t_groups, .ref q_t_likely, .ref q_t_likelyThen, .int v_t_seedNow, .ref q_t_saved, .int v_t_keptMany, .int v_t_keptByHands, .int v_t_keptByMould, .ref q_t_keptRows, .ref q_t_keptDebts, .long v_t_hash])), (q_t_page, .inl (cI, 22, .inl v_t_page)), (q_t_readKinds, .inl (cI, 10, .inl v_t_readKinds)), (q_t_readLeaflets, .inl (cI, 10, .inl v_t_readLeaflets))] := hD
  refine lv_aload_n hx hb dX11_faultOf_5 rfl (lv_at hl 0 rfl) ?_
  refine lv_iconst (v := 0) hx hb dX11_faultOf_6 (by decide) ?_
  refine va_put (D := D) (own := RX11) (ci := 10) (v := .int 0) (ty := .boolean) (C := RX11) (T := TX11) (N := 25) hx hb hts iX11 tyX11 tyX11_ok nmX11 hown hK hP hD hS 0 rfl rfl 5 (by decide) k62 (fun _ h9 => h9) rfl (by decide +kernel) rfl rfl (Nat.le_of_ble_eq_true rfl) dX11_faultOf_7 (fun H locs hP hD hS => ?_)
  have hP : va_P D vwCl [(q_t, .inr (10, [.ref q_t_page, .int v_t_pageMany, .ref q_t_readKinds, .ref q_t_readLeaflets, .int 0, .int 0, .int v_t_many, .int v_t_lostByHands, .int v_t_lostByMould, .ref q_t_rows, .ref q_t_debts, .int v_t_ringMany, .ref q_t_ring, .ref q_t_line, .ref q_t_groups, .ref q_t_likely, .ref q_t_likelyThen, .int v_t_seedNow, .ref q_t_saved, .int v_t_keptMany, .int v_t_keptByHands, .int v_t_keptByMould, .ref q_t_keptRows, .ref q_t_keptDebts, .long v_t_hash])), (q_t_page, .inl (cI, 22, .inl v_t_page)), (q_t_readKinds, .inl (cI, 10, .inl v_t_readKinds)), (q_t_readLeaflets, .inl (cI, 10, .inl v_t_readLeaflets))] H := hP
  have hD : va_D A0 [(q_t, .inr (10, [.ref q_t_page, .int v_t_pageMany, .ref q_t_readKinds, .ref q_t_readLeaflets, .int 0, .int 0, .int v_t_many, .int v_t_lostByHands, .int v_t_lostByMould, .ref q_t_rows, .ref q_t_debts, .int v_t_ringMany, .ref q_t_ring, .ref q_t_line, .ref q_t_groups, .ref q_t_likely, .ref q_t_likelyThen, .int v_t_seedNow, .ref q_t_saved, .int v_t_keptMany, .int v_t_keptByHands, .int v_t_keptByMould, .ref q_t_keptRows, .ref q_t_keptDebts, .long v_t_hash])), (q_t_page, .inl (cI, 22, .inl v_t_page)), (q_t_readKinds, .inl (cI, 10, .inl v_t_readKinds)), (q_t_readLeaflets, .inl (cI, 10, .inl v_t_readLeaflets))] := hD
  refine lv_iconst (v := 0) hx hb dX11_faultOf_10 (by decide) ?_
  refine lv_istore_n (lv' := [(1, .int 0), (0, .ref q_t)]) hx hb dX11_faultOf_11 rfl hl (by decide) rfl (fun ls hl => ?_)
  obtain ⟨e2, he_e2, hc_e2⟩ := bd_of h
  have X39_4 : ∀ (a3 : Int32 × Int32 × Int32 × (Nat → Int32) × (Nat → Int32)) (H : Heap) (locs : List Loc) (ls : Array Slot), fX11_faultOf_X12_39 a3 = some z → va_P D vwCl [(q_t, .inr (10, [.ref q_t_page, .int v_t_pageMany, .ref q_t_readKinds, .ref q_t_readLeaflets, .int a3.2.1, .int a3.2.2.1, .int v_t_many, .int v_t_lostByHands, .int v_t_lostByMould, .ref q_t_rows, .ref q_t_debts, .int v_t_ringMany, .ref q_t_ring, .ref q_t_line, .ref q_t_groups, .ref q_t_likely, .ref q_t_likelyThen, .int v_t_seedNow, .ref q_t_saved, .int v_t_keptMany, .int v_t_keptByHands, .int v_t_keptByMould, .ref q_t_keptRows, .ref q_t_keptDebts, .long v_t_hash])), (q_t_page, .inl (cI, 22, .inl v_t_page)), (q_t_readKinds, .inl (cI, 10, .inl a3.2.2.2.1)), (q_t_readLeaflets, .inl (cI, 10, .inl a3.2.2.2.2))] H → va_D A0 [(q_t, .inr (10, [.ref q_t_page, .int v_t_pageMany, .ref q_t_readKinds, .ref q_t_readLeaflets, .int a3.2.1, .int a3.2.2.1, .int v_t_many, .int v_t_lostByHands, .int v_t_lostByMould, .ref q_t_rows, .ref q_t_debts, .int v_t_ringMany, .ref q_t_ring, .ref q_t_line, .ref q_t_groups, .ref q_t_likely, .ref q_t_likelyThen, .int v_t_seedNow, .ref q_t_saved, .int v_t_keptMany, .int v_t_keptByHands, .int v_t_keptByMould, .ref q_t_keptRows, .ref q_t_keptDebts, .long v_t_hash])), (q_t_page, .inl (cI, 22, .inl v_t_page)), (q_t_readKinds, .inl (cI, 10, .inl a3.2.2.2.1)), (q_t_readLeaflets, .inl (cI, 10, .inl a3.2.2.2.2))] → va_S A0 s.heap H locs → lv_has ls 2 [(1, .int a3.1)] → W p l e ({ frames := 2, cells := 0, slots := 0, locals := 46 } : Room) s m args below meth c H locs 0 0 Q0 (F0 m 39 ls []) := by
    intro a3 H locs ls h hP hD hS hl
    unfold fX11_faultOf_X12_39 at h
    refine lv_iload_n hx hb dX11_faultOf_39 rfl (lv_at hl 0 rfl) ?_
    obtain rfl := Option.some.inj h
    exact rt_i hA0 hQ0 hx hb hr hlocks hP hS dX11_faultOf_40
  have L12_5 : ∀ (n : Nat) (z1 : Int32 × Int32 × Int32 × (Nat → Int32) × (Nat → Int32)) (H : Heap) (locs : List Loc) (ls : Array Slot), iter (fX11_faultOf_L12 v_t_pageMany v_t_many v_t_lostByHands v_t_lostByMould v_t_ringMany v_t_seedNow v_t_keptMany v_t_keptByHands v_t_keptByMould v_t_hash v_t_page) n z1 = some e2 → va_P D vwCl [(q_t, .inr (10, [.ref q_t_page, .int v_t_pageMany, .ref q_t_readKinds, .ref q_t_readLeaflets, .int z1.2.1, .int z1.2.2.1, .int v_t_many, .int v_t_lostByHands, .int v_t_lostByMould, .ref q_t_rows, .ref q_t_debts, .int v_t_ringMany, .ref q_t_ring, .ref q_t_line, .ref q_t_groups, .ref q_t_likely, .ref q_t_likelyThen, .int v_t_seedNow, .ref q_t_saved, .int v_t_keptMany, .int v_t_keptByHands, .int v_t_keptByMould, .ref q_t_keptRows, .ref q_t_keptDebts, .long v_t_hash])), (q_t_page, .inl (cI, 22, .inl v_t_page)), (q_t_readKinds, .inl (cI, 10, .inl z1.2.2.2.1)), (q_t_readLeaflets, .inl (cI, 10, .inl z1.2.2.2.2))] H → va_D A0 [(q_t, .inr (10, [.ref q_t_page, .int v_t_pageMany, .ref q_t_readKinds, .ref q_t_readLeaflets, .int z1.2.1, .int z1.2.2.1, .int v_t_many, .int v_t_lostByHands, .int v_t_lostByMould, .ref q_t_rows, .ref q_t_debts, .int v_t_ringMany, .ref q_t_ring, .ref q_t_line, .ref q_t_groups, .ref q_t_likely, .ref q_t_likelyThen, .int v_t_seedNow, .ref q_t_saved, .int v_t_keptMany, .int v_t_keptByHands, .int v_t_keptByMould, .ref q_t_keptRows, .ref q_t_keptDebts, .long v_t_hash])), (q_t_page, .inl (cI, 22, .inl v_t_page)), (q_t_readKinds, .inl (cI, 10, .inl z1.2.2.2.1)), (q_t_readLeaflets, .inl (cI, 10, .inl z1.2.2.2.2))] → va_S A0 s.heap H locs → lv_has ls 2 [(0, .ref q_t), (1, .int z1.1)] → W p l e ({ frames := 2, cells := 0, slots := 0, locals := 46 } : Room) s m args below meth c H locs 0 0 Q0 (F0 m 12 ls []) := by
    intro n
    induction n with
    | zero => exact fun _ _ _ _ h => (iter_z h).elim
    | succ n ih =>
      intro z1 H locs ls h hP hD hS hl
      obtain ⟨r_e2, h, hn_e2⟩ := iter_s h
      unfold fX11_faultOf_L12 at h
      refine lv_iload_n hx hb dX11_faultOf_12 rfl (lv_at hl 1 rfl) ?_
      refine lv_aload_n hx hb dX11_faultOf_13 rfl (lv_at hl 0 rfl) ?_
      refine va_get (own := RX11) (ci := 10) (v := .int v_t_pageMany) (C := RX11) (T := TX11) (N := 25) hx hb hts iX11 hown hK hP 0 rfl rfl 1 (by decide) k56 (fun _ h9 => h9) rfl dX11_faultOf_14 ?_
      refine lv_icmp_ge (tgt := 39) hx hb dX11_faultOf_17 (by decide) (fun c6 => ?_) (fun c6 => ?_)
      · skip
        have h := (if_pos c6).symm.trans h
        obtain rfl := Option.some.inj h
        obtain rfl := Option.some.inj hn_e2
        exact X39_4 (z1.1, z1.2.1, z1.2.2.1, z1.2.2.2.1, z1.2.2.2.2) _ _ _ hc_e2 hP hD hS (lv_sub hl [1] rfl)
      · skip
        have h := (if_neg c6).symm.trans h
        refine lv_aload_n hx hb dX11_faultOf_20 rfl (lv_at hl 0 rfl) ?_
        refine lv_aload_n hx hb dX11_faultOf_21 rfl (lv_at hl 0 rfl) ?_
        refine va_get (own := RX11) (ci := 10) (v := .ref q_t_page) (C := RX11) (T := TX11) (N := 25) hx hb hts iX11 hown hK hP 0 rfl rfl 0 (by decide) k7 (fun _ h9 => h9) rfl dX11_faultOf_22 ?_
        refine lv_iload_n hx hb dX11_faultOf_25 rfl (lv_at hl 1 rfl) ?_
        obtain ⟨g7, h⟩ := gd_of h
        refine va_iald hx hb hK hP 1 0 rfl rfl (inb_of g7) dX11_faultOf_26 ?_
        obtain ⟨u8, g9, h⟩ := bd_of h
        refine cl_V [(q_t, .inr (10, [.ref q_t_page, .int v_t_pageMany, .ref q_t_readKinds, .ref q_t_readLeaflets, .int u8.2.1, .int u8.2.2.1, .int v_t_many, .int v_t_lostByHands, .int v_t_lostByMould, .ref q_t_rows, .ref q_t_debts, .int v_t_ringMany, .ref q_t_ring, .ref q_t_line, .ref q_t_groups, .ref q_t_likely, .ref q_t_likelyThen, .int v_t_seedNow, .ref q_t_saved, .int v_t_keptMany, .int v_t_keptByHands, .int v_t_keptByMould, .ref q_t_keptRows, .ref q_t_keptDebts, .long v_t_hash])), (q_t_page, .inl (cI, 22, .inl v_t_page)), (q_t_readKinds, .inl (cI, 10, .inl u8.2.2.2.1)), (q_t_readLeaflets, .inl (cI, 10, .inl u8.2.2.2.2))] (As := [.int (v_t_page z1.1.toNatClampNeg)]) (rest := []) (rv := (some (.int u8.1))) (c_X11_go l D cI cJ q_t q_t_page q_t_readKinds q_t_readLeaflets q_t_rows q_t_debts q_t_ring q_t_line q_t_groups q_t_likely q_t_likelyThen q_t_saved q_t_keptRows q_t_keptDebts v_t_pageMany z1.2.1 z1.2.2.1 v_t_many v_t_lostByHands v_t_lostByMould v_t_ringMany v_t_seedNow v_t_keptMany v_t_keptByHands v_t_keptByMould v_t_hash z1.2.2.2.1 z1.2.2.2.2 (v_t_page z1.1.toNatClampNeg) u8 g9) ⟨hx, hb, hml, hown, hts⟩ (cwV 1 hts gX11_faultOf_X11_go rfl rfl rfl (by decide +kernel) ⟨(Nat.le_of_ble_eq_true rfl), (Nat.le_of_ble_eq_true rfl)⟩) hK hN hP hD hS [0, 2, 3] rfl (by decide) rfl rfl rfl (q0 := 0) (ci := 10) rfl rfl rfl rfl hl.1 rfl (Nat.le_of_ble_eq_true rfl) dX11_faultOf_27 ⟨Nat.zero_le _, Nat.zero_le _⟩ (fun H locs hP hD hS => ?_)
        show W p l e ({ frames := 2, cells := 0, slots := 0, locals := 46 } : Room) s m args below meth c H locs 0 0 Q0 (F0 m 30 ls [.int u8.1])
        refine lv_if_eq (tgt := 39) hx hb dX11_faultOf_30 (by decide) (fun c10 => ?_) (fun c10 => ?_)
        · skip
          have h := (if_pos c10).symm.trans h
          obtain rfl := Option.some.inj h
          obtain rfl := Option.some.inj hn_e2
          exact X39_4 (z1.1, u8.2.1, u8.2.2.1, u8.2.2.2.1, u8.2.2.2.2) _ _ _ hc_e2 hP hD hS (lv_sub hl [1] rfl)
        · skip
          have h := (if_neg c10).symm.trans h
          refine lv_iinc (v := (z1.1 + 1)) (lv' := [(1, .int (z1.1 + 1)), (0, .ref q_t)]) hx hb dX11_faultOf_33 hl (k := 1) rfl rfl (by decide) rfl (fun ls hl => ?_)
          refine lv_goto (tgt := 12) hx hb dX11_faultOf_36 (by decide) ?_
          obtain rfl := Option.some.inj h
          exact ih ((z1.1 + 1), u8.2.1, u8.2.2.1, u8.2.2.2.1, u8.2.2.2.2) _ _ _ hn_e2 hP hD hS (lv_sub hl [1, 0] rfl)
  exact L12_5 FU (0, 0, 0, v_t_readKinds, v_t_readLeaflets) _ _ _ he_e2 hP hD hS (lv_sub hl [1, 0] rfl)
def fX11_fault (v_t_pageMany : Int32) (v_t_readMany : Int32) (v_t_told : Int32) (v_t_many : Int32) (v_t_lostByHands : Int32) (v_t_lostByMould : Int32) (v_t_ringMany : Int32) (v_t_seedNow : Int32) (v_t_keptMany : Int32) (v_t_keptByHands : Int32) (v_t_keptByMould : Int32) (v_t_hash : Int64) (v_t_page : Nat → Int32) (v_t_readKinds : Nat → Int32) (v_t_readLeaflets : Nat → Int32) : Option (Int32 × Int32 × Int32 × (Nat → Int32) × (Nat → Int32)) :=
  (fX11_faultOf v_t_pageMany v_t_readMany v_t_told v_t_many v_t_lostByHands v_t_lostByMould v_t_ringMany v_t_seedNow v_t_keptMany v_t_keptByHands v_t_keptByMould v_t_hash v_t_page v_t_readKinds v_t_readLeaflets).bind (fun u1 => some (u1.1, u1.2.1, u1.2.2.1, u1.2.2.2.1, u1.2.2.2.2))
set_option maxHeartbeats 4000000 in
set_option maxRecDepth 100000 in
theorem c_X11_fault (l : Launch) (D : va_G) (cI cJ : ClassId) (q_t q_t_page q_t_readKinds q_t_readLeaflets q_t_rows q_t_debts q_t_ring q_t_line q_t_groups q_t_likely q_t_likelyThen q_t_saved q_t_keptRows q_t_keptDebts : Nat) (v_t_pageMany : Int32) (v_t_readMany : Int32) (v_t_told : Int32) (v_t_many : Int32) (v_t_lostByHands : Int32) (v_t_lostByMould : Int32) (v_t_ringMany : Int32) (v_t_seedNow : Int32) (v_t_keptMany : Int32) (v_t_keptByHands : Int32) (v_t_keptByMould : Int32) (v_t_hash : Int64) (v_t_page : Nat → Int32) (v_t_readKinds : Nat → Int32) (v_t_readLeaflets : Nat → Int32) (z : Int32 × Int32 × Int32 × (Nat → Int32) × (Nat → Int32)) (h : fX11_fault v_t_pageMany v_t_readMany v_t_told v_t_many v_t_lostByHands v_t_lostByMould v_t_ringMany v_t_seedNow v_t_keptMany v_t_keptByHands v_t_keptByMould v_t_hash v_t_page v_t_readKinds v_t_readLeaflets = some z) : Met l yX11_fault wsX11_fault ({ frames := 3, cells := 0, slots := 0, locals := 67 } : Room) (va_Pc [.ref q_t] (preG D cI cJ [(q_t, .inr (10, [.ref q_t_page, .int v_t_pageMany, .ref q_t_readKinds, .ref q_t_readLeaflets, .int v_t_readMany, .int v_t_told, .int v_t_many, .int v_t_lostByHands, .int v_t_lostByMould, .ref q_t_rows, .ref q_t_debts, .int v_t_ringMany, .ref q_t_ring, .ref q_t_line, .ref q_t_groups, .ref q_t_likely, .ref q_t_likelyThen, .int v_t_seedNow, .ref q_t_saved, .int v_t_keptMany, .int v_t_keptByHands, .int v_t_keptByMould, .ref q_t_keptRows, .ref q_t_keptDebts, .long v_t_hash])), (q_t_page, .inl (cI, 22, .inl v_t_page)), (q_t_readKinds, .inl (cI, 10, .inl v_t_readKinds)), (q_t_readLeaflets, .inl (cI, 10, .inl v_t_readLeaflets))])) (QG D [(q_t, .inr (10, [.ref q_t_page, .int v_t_pageMany, .ref q_t_readKinds, .ref q_t_readLeaflets, .int v_t_readMany, .int v_t_told, .int v_t_many, .int v_t_lostByHands, .int v_t_lostByMould, .ref q_t_rows, .ref q_t_debts, .int v_t_ringMany, .ref q_t_ring, .ref q_t_line, .ref q_t_groups, .ref q_t_likely, .ref q_t_likelyThen, .int v_t_seedNow, .ref q_t_saved, .int v_t_keptMany, .int v_t_keptByHands, .int v_t_keptByMould, .ref q_t_keptRows, .ref q_t_keptDebts, .long v_t_hash])), (q_t_page, .inl (cI, 22, .inl v_t_page)), (q_t_readKinds, .inl (cI, 10, .inl v_t_readKinds)), (q_t_readLeaflets, .inl (cI, 10, .inl v_t_readLeaflets))] [(q_t, .inr (10, [.ref q_t_page, .int v_t_pageMany, .ref q_t_readKinds, .ref q_t_readLeaflets, .int z.2.1, .int z.2.2.1, .int v_t_many, .int v_t_lostByHands, .int v_t_lostByMould, .ref q_t_rows, .ref q_t_debts, .int v_t_ringMany, .ref q_t_ring, .ref q_t_line, .ref q_t_groups, .ref q_t_likely, .ref q_t_likelyThen, .int v_t_seedNow, .ref q_t_saved, .int v_t_keptMany, .int v_t_keptByHands, .int v_t_keptByMould, .ref q_t_keptRows, .ref q_t_keptDebts, .long v_t_hash])), (q_t_page, .inl (cI, 22, .inl v_t_page)), (q_t_readKinds, .inl (cI, 10, .inl z.2.2.2.1)), (q_t_readLeaflets, .inl (cI, 10, .inl z.2.2.2.2))] (some (.int z.1))) 0 0 (fr [(q_t, .inr (10, [.ref q_t_page, .int v_t_pageMany, .ref q_t_readKinds, .ref q_t_readLeaflets, .int v_t_readMany, .int v_t_told, .int v_t_many, .int v_t_lostByHands, .int v_t_lostByMould, .ref q_t_rows, .ref q_t_debts, .int v_t_ringMany, .ref q_t_ring, .ref q_t_line, .ref q_t_groups, .ref q_t_likely, .ref q_t_likelyThen, .int v_t_seedNow, .ref q_t_saved, .int v_t_keptMany, .int v_t_keptByHands, .int v_t_keptByMould, .ref q_t_keptRows, .ref q_t_keptDebts, .long v_t_hash])), (q_t_page, .inl (cI, 22, .inl v_t_page)), (q_t_readKinds, .inl (cI, 10, .inl v_t_readKinds)), (q_t_readLeaflets, .inl (cI, 10, .inl v_t_readLeaflets))]) := by
  refine Met.ofW (cc := cX11_fault) (maxL := 1) (ret := (some .int)) (by decide) rfl ?_
  intro p e s m args below meth c s₁ B hml hv
  obtain ⟨hargs, hP, hK, hN, hD0⟩ := hv
  have hx := B.exec
  have hb := B.bytes
  have hr := B.returns
  have hts := atoms_spec (ws := wsX11_fault) B.pre
  have hown : s.vm.findClass RX11 = some m.cls := findClass_of_methodNamed B.named
  have hlocks := B.notSynchronized
  have hD := fr_D hD0
  have hS : va_S (fr [(q_t, .inr (10, [.ref q_t_page, .int v_t_pageMany, .ref q_t_readKinds, .ref q_t_readLeaflets, .int v_t_readMany, .int v_t_told, .int v_t_many, .int v_t_lostByHands, .int v_t_lostByMould, .ref q_t_rows, .ref q_t_debts, .int v_t_ringMany, .ref q_t_ring, .ref q_t_line, .ref q_t_groups, .ref q_t_likely, .ref q_t_likelyThen, .int v_t_seedNow, .ref q_t_saved, .int v_t_keptMany, .int v_t_keptByHands, .int v_t_keptByMould, .ref q_t_keptRows, .ref q_t_keptDebts, .long v_t_hash])), (q_t_page, .inl (cI, 22, .inl v_t_page)), (q_t_readKinds, .inl (cI, 10, .inl v_t_readKinds)), (q_t_readLeaflets, .inl (cI, 10, .inl v_t_readLeaflets))]) s.heap s.heap [] := va_S.rf
  have hl := lv_entry ([.ref q_t]) (n := 1) (Nat.le_of_ble_eq_true rfl)
  refine W.eq (g2 := F0 m 0 ((lg_sl ([.ref q_t]) ++ List.replicate (1 - (lg_sl ([.ref q_t])).length) Slot.unset).toArray) []) (by rw [hargs, lg_entry_eq]) ?_
  generalize (lg_sl ([.ref q_t]) ++ List.replicate (1 - (lg_sl ([.ref q_t])).length) Slot.unset).toArray = ls at hl ⊢
  have hl : lv_has ls 1 [(0, .ref q_t)] := hl
  show W p l e ({ frames := 3, cells := 0, slots := 0, locals := 67 } : Room) s m args below meth c s.heap [] 0 0 (MQ below (QG D [(q_t, .inr (10, [.ref q_t_page, .int v_t_pageMany, .ref q_t_readKinds, .ref q_t_readLeaflets, .int v_t_readMany, .int v_t_told, .int v_t_many, .int v_t_lostByHands, .int v_t_lostByMould, .ref q_t_rows, .ref q_t_debts, .int v_t_ringMany, .ref q_t_ring, .ref q_t_line, .ref q_t_groups, .ref q_t_likely, .ref q_t_likelyThen, .int v_t_seedNow, .ref q_t_saved, .int v_t_keptMany, .int v_t_keptByHands, .int v_t_keptByMould, .ref q_t_keptRows, .ref q_t_keptDebts, .long v_t_hash])), (q_t_page, .inl (cI, 22, .inl v_t_page)), (q_t_readKinds, .inl (cI, 10, .inl v_t_readKinds)), (q_t_readLeaflets, .inl (cI, 10, .inl v_t_readLeaflets))] [(q_t, .inr (10, [.ref q_t_page, .int v_t_pageMany, .ref q_t_readKinds, .ref q_t_readLeaflets, .int z.2.1, .int z.2.2.1, .int v_t_many, .int v_t_lostByHands, .int v_t_lostByMould, .ref q_t_rows, .ref q_t_debts, .int v_t_ringMany, .ref q_t_ring, .ref q_t_line, .ref q_t_groups, .ref q_t_likely, .ref q_t_likelyThen, .int v_t_seedNow, .ref q_t_saved, .int v_t_keptMany, .int v_t_keptByHands, .int v_t_keptByMould, .ref q_t_keptRows, .ref q_t_keptDebts, .long v_t_hash])), (q_t_page, .inl (cI, 22, .inl v_t_page)), (q_t_readKinds, .inl (cI, 10, .inl z.2.2.2.1)), (q_t_readLeaflets, .inl (cI, 10, .inl z.2.2.2.2))] (some (.int z.1))) args s 0 0 (fr [(q_t, .inr (10, [.ref q_t_page, .int v_t_pageMany, .ref q_t_readKinds, .ref q_t_readLeaflets, .int v_t_readMany, .int v_t_told, .int v_t_many, .int v_t_lostByHands, .int v_t_lostByMould, .ref q_t_rows, .ref q_t_debts, .int v_t_ringMany, .ref q_t_ring, .ref q_t_line, .ref q_t_groups, .ref q_t_likely, .ref q_t_likelyThen, .int v_t_seedNow, .ref q_t_saved, .int v_t_keptMany, .int v_t_keptByHands, .int v_t_keptByMould, .ref q_t_keptRows, .ref q_t_keptDebts, .long v_t_hash])), (q_t_page, .inl (cI, 22, .inl v_t_page)), (q_t_readKinds, .inl (cI, 10, .inl v_t_readKinds)), (q_t_readLeaflets, .inl (cI, 10, .inl v_t_readLeaflets))])) (F0 m 0 ls [])
  generalize hQ0 : (MQ below (QG D [(q_t, .inr (10, [.ref q_t_page, .int v_t_pageMany, .ref q_t_readKinds, .ref q_t_readLeaflets, .int v_t_readMany, .int v_t_told, .int v_t_many, .int v_t_lostByHands, .int v_t_lostByMould, .ref q_t_rows, .ref q_t_debts, .int v_t_ringMany, .ref q_t_ring, .ref q_t_line, .ref q_t_groups, .ref q_t_likely, .ref q_t_likelyThen, .int v_t_seedNow, .ref q_t_saved, .int v_t_keptMany, .int v_t_keptByHands, .int v_t_keptByMould, .ref q_t_keptRows, .ref q_t_keptDebts, .long v_t_hash])), (q_t_page, .inl (cI, 22, .inl v_t_page)), (q_t_readKinds, .inl (cI, 10, .inl v_t_readKinds)), (q_t_readLeaflets, .inl (cI, 10, .inl v_t_readLeaflets))] [(q_t, .inr (10, [.ref q_t_page, .int v_t_pageMany, .ref q_t_readKinds, .ref q_t_readLeaflets, .int z.2.1, .int z.2.2.1, .int v_t_many, .int v_t_lostByHands, .int v_t_lostByMould, .ref q_t_rows, .ref q_t_debts, .int v_t_ringMany, .ref q_t_ring, .ref q_t_line, .ref q_t_groups, .ref q_t_likely, .ref q_t_likelyThen, .int v_t_seedNow, .ref q_t_saved, .int v_t_keptMany, .int v_t_keptByHands, .int v_t_keptByMould, .ref q_t_keptRows, .ref q_t_keptDebts, .long v_t_hash])), (q_t_page, .inl (cI, 22, .inl v_t_page)), (q_t_readKinds, .inl (cI, 10, .inl z.2.2.2.1)), (q_t_readLeaflets, .inl (cI, 10, .inl z.2.2.2.2))] (some (.int z.1))) args s 0 0 (fr [(q_t, .inr (10, [.ref q_t_page, .int v_t_pageMany, .ref q_t_readKinds, .ref q_t_readLeaflets, .int v_t_readMany, .int v_t_told, .int v_t_many, .int v_t_lostByHands, .int v_t_lostByMould, .ref q_t_rows, .ref q_t_debts, .int v_t_ringMany, .ref q_t_ring, .ref q_t_line, .ref q_t_groups, .ref q_t_likely, .ref q_t_likelyThen, .int v_t_seedNow, .ref q_t_saved, .int v_t_keptMany, .int v_t_keptByHands, .int v_t_keptByMould, .ref q_t_keptRows, .ref q_t_keptDebts, .long v_t_hash])), (q_t_page, .inl (cI, 22, .inl v_t_page)), (q_t_readKinds, .inl (cI, 10, .inl v_t_readKinds)), (q_t_readLeaflets, .inl (cI, 10, .inl v_t_readLeaflets))])) = Q0
  generalize hA0 : fr [(q_t, .inr (10, [.ref q_t_page, .int v_t_pageMany, .ref q_t_readKinds, .ref q_t_readLeaflets, .int v_t_readMany, .int v_t_told, .int v_t_many, .int v_t_lostByHands, .int v_t_lostByMould, .ref q_t_rows, .ref q_t_debts, .int v_t_ringMany, .ref q_t_ring, .ref q_t_line, .ref q_t_groups, .ref q_t_likely, .ref q_t_likelyThen, .int v_t_seedNow, .ref q_t_saved, .int v_t_keptMany, .int v_t_keptByHands, .int v_t_keptByMould, .ref q_t_keptRows, .ref q_t_keptDebts, .long v_t_hash])), (q_t_page, .inl (cI, 22, .inl v_t_page)), (q_t_readKinds, .inl (cI, 10, .inl v_t_readKinds)), (q_t_readLeaflets, .inl (cI, 10, .inl v_t_readLeaflets))] = A0 at hD hS
  unfold fX11_fault at h
  refine lv_aload_n hx hb dX11_fault_0 rfl (lv_at hl 0 rfl) ?_
  obtain ⟨u1, g2, h⟩ := bd_of h
  refine cl_V [(q_t, .inr (10, [.ref q_t_page, .int v_t_pageMany, .ref q_t_readKinds, .ref q_t_readLeaflets, .int u1.2.1, .int u1.2.2.1, .int v_t_many, .int v_t_lostByHands, .int v_t_lostByMould, .ref q_t_rows, .ref q_t_debts, .int v_t_ringMany, .ref q_t_ring, .ref q_t_line, .ref q_t_groups, .ref q_t_likely, .ref q_t_likelyThen, .int v_t_seedNow, .ref q_t_saved, .int v_t_keptMany, .int v_t_keptByHands, .int v_t_keptByMould, .ref q_t_keptRows, .ref q_t_keptDebts, .long v_t_hash])), (q_t_page, .inl (cI, 22, .inl v_t_page)), (q_t_readKinds, .inl (cI, 10, .inl u1.2.2.2.1)), (q_t_readLeaflets, .inl (cI, 10, .inl u1.2.2.2.2))] (As := []) (rest := []) (rv := (some (.int u1.1))) (c_X11_faultOf l D cI cJ q_t q_t_page q_t_readKinds q_t_readLeaflets q_t_rows q_t_debts q_t_ring q_t_line q_t_groups q_t_likely q_t_likelyThen q_t_saved q_t_keptRows q_t_keptDebts v_t_pageMany v_t_readMany v_t_told v_t_many v_t_lostByHands v_t_lostByMould v_t_ringMany v_t_seedNow v_t_keptMany v_t_keptByHands v_t_keptByMould v_t_hash v_t_page v_t_readKinds v_t_readLeaflets u1 g2) ⟨hx, hb, hml, hown, hts⟩ (cwV 0 hts gX11_fault_X11_faultOf rfl rfl rfl (by decide +kernel) ⟨(Nat.le_of_ble_eq_true rfl), (Nat.le_of_ble_eq_true rfl)⟩) hK hN hP hD hS [0, 1, 2, 3] rfl (by decide) rfl rfl rfl (q0 := 0) (ci := 10) rfl rfl rfl rfl hl.1 rfl (Nat.le_of_ble_eq_true rfl) dX11_fault_1 ⟨Nat.zero_le _, Nat.zero_le _⟩ (fun H locs hP hD hS => ?_)
  show W p l e ({ frames := 3, cells := 0, slots := 0, locals := 67 } : Room) s m args below meth c H locs 0 0 Q0 (F0 m 4 ls [.int u1.1])
  obtain rfl := Option.some.inj h
  exact rt_i hA0 hQ0 hx hb hr hlocks hP hS dX11_fault_4
def fX11_isPerson (x0 : Int32) : Int32 :=
  (fX11_in ((x0 : Int32).toInt64) 0 5)
set_option maxHeartbeats 4000000 in
set_option maxRecDepth 100000 in
theorem c_X11_isPerson (l : Launch) (D : va_G) (cI cJ : ClassId) (x0 : Int32) : Met l yX11_isPerson wsX11_isPerson ({ frames := 1, cells := 0, slots := 0, locals := 25 } : Room) (va_Pc [.int x0] (preG D cI cJ [])) (QG D [] [] (some (.int (fX11_isPerson x0)))) 0 0 (fr []) := by
  generalize h : fX11_isPerson x0 = z
  refine Met.ofW (cc := cX11_isPerson) (maxL := 1) (ret := (some .boolean)) (by decide) rfl ?_
  intro p e s m args below meth c s₁ B hml hv
  obtain ⟨hargs, hP, hK, hN, hD0⟩ := hv
  have hx := B.exec
  have hb := B.bytes
  have hr := B.returns
  have hts := atoms_spec (ws := wsX11_isPerson) B.pre
  have hown : s.vm.findClass RX11 = some m.cls := findClass_of_methodNamed B.named
  have hlocks := B.notSynchronized
  have hD := fr_D hD0
  have hS : va_S (fr []) s.heap s.heap [] := va_S.rf
  have hl := lv_entry ([.int x0]) (n := 1) (Nat.le_of_ble_eq_true rfl)
  refine W.eq (g2 := F0 m 0 ((lg_sl ([.int x0]) ++ List.replicate (1 - (lg_sl ([.int x0])).length) Slot.unset).toArray) []) (by rw [hargs, lg_entry_eq]) ?_
  generalize (lg_sl ([.int x0]) ++ List.replicate (1 - (lg_sl ([.int x0])).length) Slot.unset).toArray = ls at hl ⊢
  have hl : lv_has ls 1 [(0, .int x0)] := hl
  show W p l e ({ frames := 1, cells := 0, slots := 0, locals := 25 } : Room) s m args below meth c s.heap [] 0 0 (MQ below (QG D [] [] (some (.int z))) args s 0 0 (fr [])) (F0 m 0 ls [])
  generalize hQ0 : (MQ below (QG D [] [] (some (.int z))) args s 0 0 (fr [])) = Q0
  generalize hA0 : fr [] = A0 at hD hS
  unfold fX11_isPerson at h
  refine lv_iload_n hx hb dX11_isPerson_0 rfl (lv_at hl 0 rfl) ?_
  refine lv_i2l hx hb dX11_isPerson_1 rfl ?_
  refine lv_lconst (v := 0) hx hb dX11_isPerson_2 (by decide) ?_
  refine lv_ldc2 (own := RX11) (v := 5) hx hb hown (hts (.constantLong RX11 86 (5)) (by decide +kernel)) dX11_isPerson_3 ?_
  refine cl_S [] (As := [.long ((x0 : Int32).toInt64), .long 0, .long 5]) (rest := []) (rv := (some (.int (fX11_in ((x0 : Int32).toInt64) 0 5)))) (c_X11_in l D cI cJ ((x0 : Int32).toInt64) 0 5) ⟨hx, hb, hml, hown, hts⟩ (va_cwS 3 hts gX11_isPerson_X11_in rfl rfl rfl (by decide +kernel) ⟨(Nat.le_of_ble_eq_true rfl), (Nat.le_of_ble_eq_true rfl)⟩) hK hN hP hD hS [] rfl (by decide) rfl rfl rfl rfl hl.1 rfl (Nat.le_of_ble_eq_true rfl) dX11_isPerson_6 ⟨Nat.zero_le _, Nat.zero_le _⟩ (fun H locs hP hD hS => ?_)
  show W p l e ({ frames := 1, cells := 0, slots := 0, locals := 25 } : Room) s m args below meth c H locs 0 0 Q0 (F0 m 9 ls [.int (fX11_in ((x0 : Int32).toInt64) 0 5)])
  subst h
  exact rt_z hA0 hQ0 hx hb hr hlocks (zb_X11_in _ _ _) hP hS dX11_isPerson_9
theorem zb_X11_isPerson (x0 : Int32) : narrow .boolean (.int (fX11_isPerson x0)) = .int (fX11_isPerson x0) := by
  unfold fX11_isPerson
  exact zb_X11_in _ _ _
def fX11_isFrond (v_t_pageMany : Int32) (v_t_readMany : Int32) (v_t_told : Int32) (v_t_many : Int32) (v_t_lostByHands : Int32) (v_t_lostByMould : Int32) (v_t_ringMany : Int32) (v_t_seedNow : Int32) (v_t_keptMany : Int32) (v_t_keptByHands : Int32) (v_t_keptByMould : Int32) (v_t_hash : Int64) (x1 : Int32) : Int32 :=
  (fX11_in ((x1 : Int32).toInt64) 0 (((v_t_many - 1) : Int32).toInt64))
set_option maxHeartbeats 4000000 in
set_option maxRecDepth 100000 in
theorem c_X11_isFrond (l : Launch) (D : va_G) (cI cJ : ClassId) (q_t q_t_page q_t_readKinds q_t_readLeaflets q_t_rows q_t_debts q_t_ring q_t_line q_t_groups q_t_likely q_t_likelyThen q_t_saved q_t_keptRows q_t_keptDebts : Nat) (v_t_pageMany : Int32) (v_t_readMany : Int32) (v_t_told : Int32) (v_t_many : Int32) (v_t_lostByHands : Int32) (v_t_lostByMould : Int32) (v_t_ringMany : Int32) (v_t_seedNow : Int32) (v_t_keptMany : Int32) (v_t_keptByHands : Int32) (v_t_keptByMould : Int32) (v_t_hash : Int64) (x1 : Int32) : Met l yX11_isFrond wsX11_isFrond ({ frames := 1, cells := 0, slots := 0, locals := 25 } : Room) (va_Pc [.ref q_t, .int x1] (preG D cI cJ [(q_t, .inr (10, [.ref q_t_page, .int v_t_pageMany, .ref q_t_readKinds, .ref q_t_readLeaflets, .int v_t_readMany, .int v_t_told, .int v_t_many, .int v_t_lostByHands, .int v_t_lostByMould, .ref q_t_rows, .ref q_t_debts, .int v_t_ringMany, .ref q_t_ring, .ref q_t_line, .ref q_t_groups, .ref q_t_likely, .ref q_t_likelyThen, .int v_t_seedNow, .ref q_t_saved, .int v_t_keptMany, .int v_t_keptByHands, .int v_t_keptByMould, .ref q_t_keptRows, .ref q_t_keptDebts, .long v_t_hash]))])) (QG D [(q_t, .inr (10, [.ref q_t_page, .int v_t_pageMany, .ref q_t_readKinds, .ref q_t_readLeaflets, .int v_t_readMany, .int v_t_told, .int v_t_many, .int v_t_lostByHands, .int v_t_lostByMould, .ref q_t_rows, .ref q_t_debts, .int v_t_ringMany, .ref q_t_ring, .ref q_t_line, .ref q_t_groups, .ref q_t_likely, .ref q_t_likelyThen, .int v_t_seedNow, .ref q_t_saved, .int v_t_keptMany, .int v_t_keptByHands, .int v_t_keptByMould, .ref q_t_keptRows, .ref q_t_keptDebts, .long v_t_hash]))] [(q_t, .inr (10, [.ref q_t_page, .int v_t_pageMany, .ref q_t_readKinds, .ref q_t_readLeaflets, .int v_t_readMany, .int v_t_told, .int v_t_many, .int v_t_lostByHands, .int v_t_lostByMould, .ref q_t_rows, .ref q_t_debts, .int v_t_ringMany, .ref q_t_ring, .ref q_t_line, .ref q_t_groups, .ref q_t_likely, .ref q_t_likelyThen, .int v_t_seedNow, .ref q_t_saved, .int v_t_keptMany, .int v_t_keptByHands, .int v_t_keptByMould, .ref q_t_keptRows, .ref q_t_keptDebts, .long v_t_hash]))] (some (.int (fX11_isFrond v_t_pageMany v_t_readMany v_t_told v_t_many v_t_lostByHands v_t_lostByMould v_t_ringMany v_t_seedNow v_t_keptMany v_t_keptByHands v_t_keptByMould v_t_hash x1)))) 0 0 (fr [(q_t, .inr (10, [.ref q_t_page, .int v_t_pageMany, .ref q_t_readKinds, .ref q_t_readLeaflets, .int v_t_readMany, .int v_t_told, .int v_t_many, .int v_t_lostByHands, .int v_t_lostByMould, .ref q_t_rows, .ref q_t_debts, .int v_t_ringMany, .ref q_t_ring, .ref q_t_line, .ref q_t_groups, .ref q_t_likely, .ref q_t_likelyThen, .int v_t_seedNow, .ref q_t_saved, .int v_t_keptMany, .int v_t_keptByHands, .int v_t_keptByMould, .ref q_t_keptRows, .ref q_t_keptDebts, .long v_t_hash]))]) := by
  generalize h : fX11_isFrond v_t_pageMany v_t_readMany v_t_told v_t_many v_t_lostByHands v_t_lostByMould v_t_ringMany v_t_seedNow v_t_keptMany v_t_keptByHands v_t_keptByMould v_t_hash x1 = z
  refine Met.ofW (cc := cX11_isFrond) (maxL := 2) (ret := (some .boolean)) (by decide) rfl ?_
  intro p e s m args below meth c s₁ B hml hv
  obtain ⟨hargs, hP, hK, hN, hD0⟩ := hv
  have hx := B.exec
  have hb := B.bytes
  have hr := B.returns
  have hts := atoms_spec (ws := wsX11_isFrond) B.pre
  have hown : s.vm.findClass RX11 = some m.cls := findClass_of_methodNamed B.named
  have hlocks := B.notSynchronized
  have iX11 : ∀ w ∈ wsX110, w ∈ wsX11_isFrond := by decide +kernel
  have k88 := hts (.fieldLink RX11 88 "PressedFernsModel" "many" "I") (by decide +kernel)
  have hD := fr_D hD0
  have hS : va_S (fr [(q_t, .inr (10, [.ref q_t_page, .int v_t_pageMany, .ref q_t_readKinds, .ref q_t_readLeaflets, .int v_t_readMany, .int v_t_told, .int v_t_many, .int v_t_lostByHands, .int v_t_lostByMould, .ref q_t_rows, .ref q_t_debts, .int v_t_ringMany, .ref q_t_ring, .ref q_t_line, .ref q_t_groups, .ref q_t_likely, .ref q_t_likelyThen, .int v_t_seedNow, .ref q_t_saved, .int v_t_keptMany, .int v_t_keptByHands, .int v_t_keptByMould, .ref q_t_keptRows, .ref q_t_keptDebts, .long v_t_hash]))]) s.heap s.heap [] := va_S.rf
  have hl := lv_entry ([.ref q_t, .int x1]) (n := 2) (Nat.le_of_ble_eq_true rfl)
  refine W.eq (g2 := F0 m 0 ((lg_sl ([.ref q_t, .int x1]) ++ List.replicate (2 - (lg_sl ([.ref q_t, .int x1])).length) Slot.unset).toArray) []) (by rw [hargs, lg_entry_eq]) ?_
  generalize (lg_sl ([.ref q_t, .int x1]) ++ List.replicate (2 - (lg_sl ([.ref q_t, .int x1])).length) Slot.unset).toArray = ls at hl ⊢
  have hl : lv_has ls 2 [(0, .ref q_t), (1, .int x1)] := hl
  show W p l e ({ frames := 1, cells := 0, slots := 0, locals := 25 } : Room) s m args below meth c s.heap [] 0 0 (MQ below (QG D [(q_t, .inr (10, [.ref q_t_page, .int v_t_pageMany, .ref q_t_readKinds, .ref q_t_readLeaflets, .int v_t_readMany, .int v_t_told, .int v_t_many, .int v_t_lostByHands, .int v_t_lostByMould, .ref q_t_rows, .ref q_t_debts, .int v_t_ringMany, .ref q_t_ring, .ref q_t_line, .ref q_t_groups, .ref q_t_likely, .ref q_t_likelyThen, .int v_t_seedNow, .ref q_t_saved, .int v_t_keptMany, .int v_t_keptByHands, .int v_t_keptByMould, .ref q_t_keptRows, .ref q_t_keptDebts, .long v_t_hash]))] [(q_t, .inr (10, [.ref q_t_page, .int v_t_pageMany, .ref q_t_readKinds, .ref q_t_readLeaflets, .int v_t_readMany, .int v_t_told, .int v_t_many, .int v_t_lostByHands, .int v_t_lostByMould, .ref q_t_rows, .ref q_t_debts, .int v_t_ringMany, .ref q_t_ring, .ref q_t_line, .ref q_t_groups, .ref q_t_likely, .ref q_t_likelyThen, .int v_t_seedNow, .ref q_t_saved, .int v_t_keptMany, .int v_t_keptByHands, .int v_t_keptByMould, .ref q_t_keptRows, .ref q_t_keptDebts, .long v_t_hash]))] (some (.int z))) args s 0 0 (fr [(q_t, .inr (10, [.ref q_t_page, .int v_t_pageMany, .ref q_t_readKinds, .ref q_t_readLeaflets, .int v_t_readMany, .int v_t_told, .int v_t_many, .int v_t_lostByHands, .int v_t_lostByMould, .ref q_t_rows, .ref q_t_debts, .int v_t_ringMany, .ref q_t_ring, .ref q_t_line, .ref q_t_groups, .ref q_t_likely, .ref q_t_likelyThen, .int v_t_seedNow, .ref q_t_saved, .int v_t_keptMany, .int v_t_keptByHands, .int v_t_keptByMould, .ref q_t_keptRows, .ref q_t_keptDebts, .long v_t_hash]))])) (F0 m 0 ls [])
  generalize hQ0 : (MQ below (QG D [(q_t, .inr (10, [.ref q_t_page, .int v_t_pageMany, .ref q_t_readKinds, .ref q_t_readLeaflets, .int v_t_readMany, .int v_t_told, .int v_t_many, .int v_t_lostByHands, .int v_t_lostByMould, .ref q_t_rows, .ref q_t_debts, .int v_t_ringMany, .ref q_t_ring, .ref q_t_line, .ref q_t_groups, .ref q_t_likely, .ref q_t_likelyThen, .int v_t_seedNow, .ref q_t_saved, .int v_t_keptMany, .int v_t_keptByHands, .int v_t_keptByMould, .ref q_t_keptRows, .ref q_t_keptDebts, .long v_t_hash]))] [(q_t, .inr (10, [.ref q_t_page, .int v_t_pageMany, .ref q_t_readKinds, .ref q_t_readLeaflets, .int v_t_readMany, .int v_t_told, .int v_t_many, .int v_t_lostByHands, .int v_t_lostByMould, .ref q_t_rows, .ref q_t_debts, .int v_t_ringMany, .ref q_t_ring, .ref q_t_line, .ref q_t_groups, .ref q_t_likely, .ref q_t_likelyThen, .int v_t_seedNow, .ref q_t_saved, .int v_t_keptMany, .int v_t_keptByHands, .int v_t_keptByMould, .ref q_t_keptRows, .ref q_t_keptDebts, .long v_t_hash]))] (some (.int z))) args s 0 0 (fr [(q_t, .inr (10, [.ref q_t_page, .int v_t_pageMany, .ref q_t_readKinds, .ref q_t_readLeaflets, .int v_t_readMany, .int v_t_told, .int v_t_many, .int v_t_lostByHands, .int v_t_lostByMould, .ref q_t_rows, .ref q_t_debts, .int v_t_ringMany, .ref q_t_ring, .ref q_t_line, .ref q_t_groups, .ref q_t_likely, .ref q_t_likelyThen, .int v_t_seedNow, .ref q_t_saved, .int v_t_keptMany, .int v_t_keptByHands, .int v_t_keptByMould, .ref q_t_keptRows, .ref q_t_keptDebts, .long v_t_hash]))])) = Q0
  generalize hA0 : fr [(q_t, .inr (10, [.ref q_t_page, .int v_t_pageMany, .ref q_t_readKinds, .ref q_t_readLeaflets, .int v_t_readMany, .int v_t_told, .int v_t_many, .int v_t_lostByHands, .int v_t_lostByMould, .ref q_t_rows, .ref q_t_debts, .int v_t_ringMany, .ref q_t_ring, .ref q_t_line, .ref q_t_groups, .ref q_t_likely, .ref q_t_likelyThen, .int v_t_seedNow, .ref q_t_saved, .int v_t_keptMany, .int v_t_keptByHands, .int v_t_keptByMould, .ref q_t_keptRows, .ref q_t_keptDebts, .long v_t_hash]))] = A0 at hD hS
  unfold fX11_isFrond at h
  refine lv_iload_n hx hb dX11_isFrond_0 rfl (lv_at hl 1 rfl) ?_
  refine lv_i2l hx hb dX11_isFrond_1 rfl ?_
  refine lv_lconst (v := 0) hx hb dX11_isFrond_2 (by decide) ?_
  refine lv_aload_n hx hb dX11_isFrond_3 rfl (lv_at hl 0 rfl) ?_
  refine va_get (own := RX11) (ci := 10) (v := .int v_t_many) (C := RX11) (T := TX11) (N := 25) hx hb hts iX11 hown hK hP 0 rfl rfl 6 (by decide) k88 (fun _ h9 => h9) rfl dX11_isFrond_4 ?_
  refine lv_iconst (v := 1) hx hb dX11_isFrond_7 (by decide) ?_
  refine lv_isub hx hb dX11_isFrond_8 ?_
  refine lv_i2l hx hb dX11_isFrond_9 rfl ?_
  refine cl_S [(q_t, .inr (10, [.ref q_t_page, .int v_t_pageMany, .ref q_t_readKinds, .ref q_t_readLeaflets, .int v_t_readMany, .int v_t_told, .int v_t_many, .int v_t_lostByHands, .int v_t_lostByMould, .ref q_t_rows, .ref q_t_debts, .int v_t_ringMany, .ref q_t_ring, .ref q_t_line, .ref q_t_groups, .ref q_t_likely, .ref q_t_likelyThen, .int v_t_seedNow, .ref q_t_saved, .int v_t_keptMany, .int v_t_keptByHands, .int v_t_keptByMould, .ref q_t_keptRows, .ref q_t_keptDebts, .long v_t_hash]))] (As := [.long ((x1 : Int32).toInt64), .long 0, .long (((v_t_many - 1) : Int32).toInt64)]) (rest := []) (rv := (some (.int (fX11_in ((x1 : Int32).toInt64) 0 (((v_t_many - 1) : Int32).toInt64))))) (c_X11_in l D cI cJ ((x1 : Int32).toInt64) 0 (((v_t_many - 1) : Int32).toInt64)) ⟨hx, hb, hml, hown, hts⟩ (va_cwS 3 hts gX11_isFrond_X11_in rfl rfl rfl (by decide +kernel) ⟨(Nat.le_of_ble_eq_true rfl), (Nat.le_of_ble_eq_true rfl)⟩) hK hN hP hD hS [] rfl (by decide) rfl rfl rfl rfl hl.1 rfl (Nat.le_of_ble_eq_true rfl) dX11_isFrond_10 ⟨Nat.zero_le _, Nat.zero_le _⟩ (fun H locs hP hD hS => ?_)
  show W p l e ({ frames := 1, cells := 0, slots := 0, locals := 25 } : Room) s m args below meth c H locs 0 0 Q0 (F0 m 13 ls [.int (fX11_in ((x1 : Int32).toInt64) 0 (((v_t_many - 1) : Int32).toInt64))])
  subst h
  exact rt_z hA0 hQ0 hx hb hr hlocks (zb_X11_in _ _ _) hP hS dX11_isFrond_13
theorem zb_X11_isFrond (v_t_pageMany : Int32) (v_t_readMany : Int32) (v_t_told : Int32) (v_t_many : Int32) (v_t_lostByHands : Int32) (v_t_lostByMould : Int32) (v_t_ringMany : Int32) (v_t_seedNow : Int32) (v_t_keptMany : Int32) (v_t_keptByHands : Int32) (v_t_keptByMould : Int32) (v_t_hash : Int64) (x1 : Int32) : narrow .boolean (.int (fX11_isFrond v_t_pageMany v_t_readMany v_t_told v_t_many v_t_lostByHands v_t_lostByMould v_t_ringMany v_t_seedNow v_t_keptMany v_t_keptByHands v_t_keptByMould v_t_hash x1)) = .int (fX11_isFrond v_t_pageMany v_t_readMany v_t_told v_t_many v_t_lostByHands v_t_lostByMould v_t_ringMany v_t_seedNow v_t_keptMany v_t_keptByHands v_t_keptByMould v_t_hash x1) := by
  unfold fX11_isFrond
  exact zb_X11_in _ _ _
def fX11_begin_X40_64 (v_t_many : Int32) (a6 : (Nat → Int32)) : Option (Int32 × Int32 × (Nat → Int32)) :=
  some (((v_t_many + 1) - 1), (v_t_many + 1), a6)
def fX11_begin_L40 (v_t_many : Int32) (z4 : Int32 × (Nat → Int32)) : Option ((Int32 × (Nat → Int32)) ⊕ ((Nat → Int32))) :=
  if 8 ≤ z4.1 then (some (Sum.inr z4.2)) else (gd (inb ((8 * v_t_many) + z4.1) 80) (some (Sum.inl ((z4.1 + 1), (upd z4.2 ((8 * v_t_many) + z4.1).toNatClampNeg (-1))))))
def fX11_begin (v_t_pageMany : Int32) (v_t_readMany : Int32) (v_t_told : Int32) (v_t_many : Int32) (v_t_lostByHands : Int32) (v_t_lostByMould : Int32) (v_t_ringMany : Int32) (v_t_seedNow : Int32) (v_t_keptMany : Int32) (v_t_keptByHands : Int32) (v_t_keptByMould : Int32) (v_t_hash : Int64) (v_t_rows : Nat → Int32) (x1 : Int32) (x2 : Int32) (x3 : Int32) : Option (Int32 × Int32 × (Nat → Int32)) :=
  gd (inb (8 * v_t_many) 80) (gd (inb ((8 * v_t_many) + 1) 80) (gd (inb ((8 * v_t_many) + 2) 80) ((iter (fX11_begin_L40 v_t_many) FU (4, (upd (upd (upd v_t_rows (8 * v_t_many).toNatClampNeg x1) ((8 * v_t_many) + 1).toNatClampNeg x2) ((8 * v_t_many) + 2).toNatClampNeg x3))).bind (fX11_begin_X40_64 v_t_many))))
set_option maxHeartbeats 4000000 in
set_option maxRecDepth 100000 in
theorem c_X11_begin (l : Launch) (D : va_G) (cI cJ : ClassId) (q_t q_t_page q_t_readKinds q_t_readLeaflets q_t_rows q_t_debts q_t_ring q_t_line q_t_groups q_t_likely q_t_likelyThen q_t_saved q_t_keptRows q_t_keptDebts : Nat) (v_t_pageMany : Int32) (v_t_readMany : Int32) (v_t_told : Int32) (v_t_many : Int32) (v_t_lostByHands : Int32) (v_t_lostByMould : Int32) (v_t_ringMany : Int32) (v_t_seedNow : Int32) (v_t_keptMany : Int32) (v_t_keptByHands : Int32) (v_t_keptByMould : Int32) (v_t_hash : Int64) (v_t_rows : Nat → Int32) (x1 : Int32) (x2 : Int32) (x3 : Int32) (z : Int32 × Int32 × (Nat → Int32)) (h : fX11_begin v_t_pageMany v_t_readMany v_t_told v_t_many v_t_lostByHands v_t_lostByMould v_t_ringMany v_t_seedNow v_t_keptMany v_t_keptByHands v_t_keptByMould v_t_hash v_t_rows x1 x2 x3 = some z) : Met l yX11_begin wsX11_begin ({ frames := 0, cells := 0, slots := 0, locals := 0 } : Room) (va_Pc [.ref q_t, .int x1, .int x2, .int x3] (preG D cI cJ [(q_t, .inr (10, [.ref q_t_page, .int v_t_pageMany, .ref q_t_readKinds, .ref q_t_readLeaflets, .int v_t_readMany, .int v_t_told, .int v_t_many, .int v_t_lostByHands, .int v_t_lostByMould, .ref q_t_rows, .ref q_t_debts, .int v_t_ringMany, .ref q_t_ring, .ref q_t_line, .ref q_t_groups, .ref q_t_likely, .ref q_t_likelyThen, .int v_t_seedNow, .ref q_t_saved, .int v_t_keptMany, .int v_t_keptByHands, .int v_t_keptByMould, .ref q_t_keptRows, .ref q_t_keptDebts, .long v_t_hash])), (q_t_rows, .inl (cI, 80, .inl v_t_rows))])) (QG D [(q_t, .inr (10, [.ref q_t_page, .int v_t_pageMany, .ref q_t_readKinds, .ref q_t_readLeaflets, .int v_t_readMany, .int v_t_told, .int v_t_many, .int v_t_lostByHands, .int v_t_lostByMould, .ref q_t_rows, .ref q_t_debts, .int v_t_ringMany, .ref q_t_ring, .ref q_t_line, .ref q_t_groups, .ref q_t_likely, .ref q_t_likelyThen, .int v_t_seedNow, .ref q_t_saved, .int v_t_keptMany, .int v_t_keptByHands, .int v_t_keptByMould, .ref q_t_keptRows, .ref q_t_keptDebts, .long v_t_hash])), (q_t_rows, .inl (cI, 80, .inl v_t_rows))] [(q_t, .inr (10, [.ref q_t_page, .int v_t_pageMany, .ref q_t_readKinds, .ref q_t_readLeaflets, .int v_t_readMany, .int v_t_told, .int z.2.1, .int v_t_lostByHands, .int v_t_lostByMould, .ref q_t_rows, .ref q_t_debts, .int v_t_ringMany, .ref q_t_ring, .ref q_t_line, .ref q_t_groups, .ref q_t_likely, .ref q_t_likelyThen, .int v_t_seedNow, .ref q_t_saved, .int v_t_keptMany, .int v_t_keptByHands, .int v_t_keptByMould, .ref q_t_keptRows, .ref q_t_keptDebts, .long v_t_hash])), (q_t_rows, .inl (cI, 80, .inl z.2.2))] (some (.int z.1))) 0 0 (fr [(q_t, .inr (10, [.ref q_t_page, .int v_t_pageMany, .ref q_t_readKinds, .ref q_t_readLeaflets, .int v_t_readMany, .int v_t_told, .int v_t_many, .int v_t_lostByHands, .int v_t_lostByMould, .ref q_t_rows, .ref q_t_debts, .int v_t_ringMany, .ref q_t_ring, .ref q_t_line, .ref q_t_groups, .ref q_t_likely, .ref q_t_likelyThen, .int v_t_seedNow, .ref q_t_saved, .int v_t_keptMany, .int v_t_keptByHands, .int v_t_keptByMould, .ref q_t_keptRows, .ref q_t_keptDebts, .long v_t_hash])), (q_t_rows, .inl (cI, 80, .inl v_t_rows))]) := by
  refine Met.ofW (cc := cX11_begin) (maxL := 6) (ret := (some .int)) (by decide) rfl ?_
  intro p e s m args below meth c s₁ B hml hv
  obtain ⟨hargs, hP, hK, hN, hD0⟩ := hv
  have hx := B.exec
  have hb := B.bytes
  have hr := B.returns
  have hts := atoms_spec (ws := wsX11_begin) B.pre
  have hown : s.vm.findClass RX11 = some m.cls := findClass_of_methodNamed B.named
  have hlocks := B.notSynchronized
  have iX11 : ∀ w ∈ wsX110, w ∈ wsX11_begin := by decide +kernel
  have k19 := hts (.fieldLink RX11 19 "PressedFernsModel" "rows" "[I") (by decide +kernel)
  have k88 := hts (.fieldLink RX11 88 "PressedFernsModel" "many" "I") (by decide +kernel)
  have hD := fr_D hD0
  have hS : va_S (fr [(q_t, .inr (10, [.ref q_t_page, .int v_t_pageMany, .ref q_t_readKinds, .ref q_t_readLeaflets, .int v_t_readMany, .int v_t_told, .int v_t_many, .int v_t_lostByHands, .int v_t_lostByMould, .ref q_t_rows, .ref q_t_debts, .int v_t_ringMany, .ref q_t_ring, .ref q_t_line, .ref q_t_groups, .ref q_t_likely, .ref q_t_likelyThen, .int v_t_seedNow, .ref q_t_saved, .int v_t_keptMany, .int v_t_keptByHands, .int v_t_keptByMould, .ref q_t_keptRows, .ref q_t_keptDebts, .long v_t_hash])), (q_t_rows, .inl (cI, 80, .inl v_t_rows))]) s.heap s.heap [] := va_S.rf
  have hl := lv_entry ([.ref q_t, .int x1, .int x2, .int x3]) (n := 6) (Nat.le_of_ble_eq_true rfl)
  refine W.eq (g2 := F0 m 0 ((lg_sl ([.ref q_t, .int x1, .int x2, .int x3]) ++ List.replicate (6 - (lg_sl ([.ref q_t, .int x1, .int x2, .int x3])).length) Slot.unset).toArray) []) (by rw [hargs, lg_entry_eq]) ?_
  generalize (lg_sl ([.ref q_t, .int x1, .int x2, .int x3]) ++ List.replicate (6 - (lg_sl ([.ref q_t, .int x1, .int x2, .int x3])).length) Slot.unset).toArray = ls at hl ⊢
  have hl : lv_has ls 6 [(0, .ref q_t), (1, .int x1), (2, .int x2), (3, .int x3)] := hl
  show W p l e ({ frames := 0, cells := 0, slots := 0, locals := 0 } : Room) s m args below meth c s.heap [] 0 0 (MQ below (QG D [(q_t, .inr (10, [.ref q_t_page, .int v_t_pageMany, .ref q_t_readKinds, .ref q_t_readLeaflets, .int v_t_readMany, .int v_t_told, .int v_t_many, .int v_t_lostByHands, .int v_t_lostByMould, .ref q_t_rows, .ref q_t_debts, .int v_t_ringMany, .ref q_t_ring, .ref q_t_line, .ref q_t_groups, .ref q_t_likely, .ref q_t_likelyThen, .int v_t_seedNow, .ref q_t_saved, .int v_t_keptMany, .int v_t_keptByHands, .int v_t_keptByMould, .ref q_t_keptRows, .ref q_t_keptDebts, .long v_t_hash])), (q_t_rows, .inl (cI, 80, .inl v_t_rows))] [(q_t, .inr (10, [.ref q_t_page, .int v_t_pageMany, .ref q_t_readKinds, .ref q_t_readLeaflets, .int v_t_readMany, .int v_t_told, .int z.2.1, .int v_t_lostByHands, .int v_t_lostByMould, .ref q_t_rows, .ref q_t_debts, .int v_t_ringMany, .ref q_t_ring, .ref q_t_line, .ref q_t_groups, .ref q_t_likely, .ref q_t_likelyThen, .int v_t_seedNow, .ref q_t_saved, .int v_t_keptMany, .int v_t_keptByHands, .int v_t_keptByMould, .ref q_t_keptRows, .ref q_t_keptDebts, .long v_t_hash])), (q_t_rows, .inl (cI, 80, .inl z.2.2))] (some (.int z.1))) args s 0 0 (fr [(q_t, .inr (10, [.ref q_t_page, .int v_t_pageMany, .ref q_t_readKinds, .ref q_t_readLeaflets, .int v_t_readMany, .int v_t_told, .int v_t_many, .int v_t_lostByHands, .int v_t_lostByMould, .ref q_t_rows, .ref q_t_debts, .int v_t_ringMany, .ref q_t_ring, .ref q_t_line, .ref q_t_groups, .ref q_t_likely, .ref q_t_likelyThen, .int v_t_seedNow, .ref q_t_saved, .int v_t_keptMany, .int v_t_keptByHands, .int v_t_keptByMould, .ref q_t_keptRows, .ref q_t_keptDebts, .long v_t_hash])), (q_t_rows, .inl (cI, 80, .inl v_t_rows))])) (F0 m 0 ls [])
  generalize hQ0 : (MQ below (QG D [(q_t, .inr (10, [.ref q_t_page, .int v_t_pageMany, .ref q_t_readKinds, .ref q_t_readLeaflets, .int v_t_readMany, .int v_t_told, .int v_t_many, .int v_t_lostByHands, .int v_t_lostByMould, .ref q_t_rows, .ref q_t_debts, .int v_t_ringMany, .ref q_t_ring, .ref q_t_line, .ref q_t_groups, .ref q_t_likely, .ref q_t_likelyThen, .int v_t_seedNow, .ref q_t_saved, .int v_t_keptMany, .int v_t_keptByHands, .int v_t_keptByMould, .ref q_t_keptRows, .ref q_t_keptDebts, .long v_t_hash])), (q_t_rows, .inl (cI, 80, .inl v_t_rows))] [(q_t, .inr (10, [.ref q_t_page, .int v_t_pageMany, .ref q_t_readKinds, .ref q_t_readLeaflets, .int v_t_readMany, .int v_t_told, .int z.2.1, .int v_t_lostByHands, .int v_t_lostByMould, .ref q_t_rows, .ref q_t_debts, .int v_t_ringMany, .ref q_t_ring, .ref q_t_line, .ref q_t_groups, .ref q_t_likely, .ref q_t_likelyThen, .int v_t_seedNow, .ref q_t_saved, .int v_t_keptMany, .int v_t_keptByHands, .int v_t_keptByMould, .ref q_t_keptRows, .ref q_t_keptDebts, .long v_t_hash])), (q_t_rows, .inl (cI, 80, .inl z.2.2))] (some (.int z.1))) args s 0 0 (fr [(q_t, .inr (10, [.ref q_t_page, .int v_t_pageMany, .ref q_t_readKinds, .ref q_t_readLeaflets, .int v_t_readMany, .int v_t_told, .int v_t_many, .int v_t_lostByHands, .int v_t_lostByMould, .ref q_t_rows, .ref q_t_debts, .int v_t_ringMany, .ref q_t_ring, .ref q_t_line, .ref q_t_groups, .ref q_t_likely, .ref q_t_likelyThen, .int v_t_seedNow, .ref q_t_saved, .int v_t_keptMany, .int v_t_keptByHands, .int v_t_keptByMould, .ref q_t_keptRows, .ref q_t_keptDebts, .long v_t_hash])), (q_t_rows, .inl (cI, 80, .inl v_t_rows))])) = Q0
  generalize hA0 : fr [(q_t, .inr (10, [.ref q_t_page, .int v_t_pageMany, .ref q_t_readKinds, .ref q_t_readLeaflets, .int v_t_readMany, .int v_t_told, .int v_t_many, .int v_t_lostByHands, .int v_t_lostByMould, .ref q_t_rows, .ref q_t_debts, .int v_t_ringMany, .ref q_t_ring, .ref q_t_line, .ref q_t_groups, .ref q_t_likely, .ref q_t_likelyThen, .int v_t_seedNow, .ref q_t_saved, .int v_t_keptMany, .int v_t_keptByHands, .int v_t_keptByMould, .ref q_t_keptRows, .ref q_t_keptDebts, .long v_t_hash])), (q_t_rows, .inl (cI, 80, .inl v_t_rows))] = A0 at hD hS
  unfold fX11_begin at h
  refine lv_bipush (v := 8) hx hb dX11_begin_0 (by decide) ?_
  refine lv_aload_n hx hb dX11_begin_2 rfl (lv_at hl 0 rfl) ?_
  refine va_get (own := RX11) (ci := 10) (v := .int v_t_many) (C := RX11) (T := TX11) (N := 25) hx hb hts iX11 hown hK hP 0 rfl rfl 6 (by decide) k88 (fun _ h9 => h9) rfl dX11_begin_3 ?_
  refine lv_imul hx hb dX11_begin_6 ?_
  refine lv_istore (lv' := [(4, .int (8 * v_t_many)), (0, .ref q_t), (1, .int x1), (2, .int x2), (3, .int x3)]) hx hb dX11_begin_7 hl (by decide) rfl (fun ls hl => ?_)
  refine lv_aload_n hx hb dX11_begin_9 rfl (lv_at hl 1 rfl) ?_
  refine va_get (own := RX11) (ci := 10) (v := .ref q_t_rows) (C := RX11) (T := TX11) (N := 25) hx hb hts iX11 hown hK hP 0 rfl rfl 9 (by decide) k19 (fun _ h9 => h9) rfl dX11_begin_10 ?_
  refine lv_iload hx hb dX11_begin_13 (lv_at hl 0 rfl) ?_
  refine lv_iload_n hx hb dX11_begin_15 rfl (lv_at hl 2 rfl) ?_
  obtain ⟨g1, h⟩ := gd_of h
  refine va_iast hx hb hK hP hD hS 1 0 rfl rfl (inb_of g1) dX11_begin_16 (fun H locs hP hD hS => ?_)
  have hP : va_P D vwCl [(q_t, .inr (10, [.ref q_t_page, .int v_t_pageMany, .ref q_t_readKinds, .ref q_t_readLeaflets, .int v_t_readMany, .int v_t_told, .int v_t_many, .int v_t_lostByHands, .int v_t_lostByMould, .ref q_t_rows, .ref q_t_debts, .int v_t_ringMany, .ref q_t_ring, .ref q_t_line, .ref q_t_groups, .ref q_t_likely, .ref q_t_likelyThen, .int v_t_seedNow, .ref q_t_saved, .int v_t_keptMany, .int v_t_keptByHands, .int v_t_keptByMould, .ref q_t_keptRows, .ref q_t_keptDebts, .long v_t_hash])), (q_t_rows, .inl (cI, 80, .inl (upd v_t_rows (8 * v_t_many).toNatClampNeg x1)))] H := hP
  have hD : va_D A0 [(q_t, .inr (10, [.ref q_t_page, .int v_t_pageMany, .ref q_t_readKinds, .ref q_t_readLeaflets, .int v_t_readMany, .int v_t_told, .int v_t_many, .int v_t_lostByHands, .int v_t_lostByMould, .ref q_t_rows, .ref q_t_debts, .int v_t_ringMany, .ref q_t_ring, .ref q_t_line, .ref q_t_groups, .ref q_t_likely, .ref q_t_likelyThen, .int v_t_seedNow, .ref q_t_saved, .int v_t_keptMany, .int v_t_keptByHands, .int v_t_keptByMould, .ref q_t_keptRows, .ref q_t_keptDebts, .long v_t_hash])), (q_t_rows, .inl (cI, 80, .inl (upd v_t_rows (8 * v_t_many).toNatClampNeg x1)))] := hD
  refine lv_aload_n hx hb dX11_begin_17 rfl (lv_at hl 1 rfl) ?_
  refine va_get (own := RX11) (ci := 10) (v := .ref q_t_rows) (C := RX11) (T := TX11) (N := 25) hx hb hts iX11 hown hK hP 0 rfl rfl 9 (by decide) k19 (fun _ h9 => h9) rfl dX11_begin_18 ?_
  refine lv_iload hx hb dX11_begin_21 (lv_at hl 0 rfl) ?_
  refine lv_iconst (v := 1) hx hb dX11_begin_23 (by decide) ?_
  refine lv_iadd hx hb dX11_begin_24 ?_
  refine lv_iload_n hx hb dX11_begin_25 rfl (lv_at hl 3 rfl) ?_
  obtain ⟨g2, h⟩ := gd_of h
  refine va_iast hx hb hK hP hD hS 1 0 rfl rfl (inb_of g2) dX11_begin_26 (fun H locs hP hD hS => ?_)
  have hP : va_P D vwCl [(q_t, .inr (10, [.ref q_t_page, .int v_t_pageMany, .ref q_t_readKinds, .ref q_t_readLeaflets, .int v_t_readMany, .int v_t_told, .int v_t_many, .int v_t_lostByHands, .int v_t_lostByMould, .ref q_t_rows, .ref q_t_debts, .int v_t_ringMany, .ref q_t_ring, .ref q_t_line, .ref q_t_groups, .ref q_t_likely, .ref q_t_likelyThen, .int v_t_seedNow, .ref q_t_saved, .int v_t_keptMany, .int v_t_keptByHands, .int v_t_keptByMould, .ref q_t_keptRows, .ref q_t_keptDebts, .long v_t_hash])), (q_t_rows, .inl (cI, 80, .inl (upd (upd v_t_rows (8 * v_t_many).toNatClampNeg x1) ((8 * v_t_many) + 1).toNatClampNeg x2)))] H := hP
  have hD : va_D A0 [(q_t, .inr (10, [.ref q_t_page, .int v_t_pageMany, .ref q_t_readKinds, .ref q_t_readLeaflets, .int v_t_readMany, .int v_t_told, .int v_t_many, .int v_t_lostByHands, .int v_t_lostByMould, .ref q_t_rows, .ref q_t_debts, .int v_t_ringMany, .ref q_t_ring, .ref q_t_line, .ref q_t_groups, .ref q_t_likely, .ref q_t_likelyThen, .int v_t_seedNow, .ref q_t_saved, .int v_t_keptMany, .int v_t_keptByHands, .int v_t_keptByMould, .ref q_t_keptRows, .ref q_t_keptDebts, .long v_t_hash])), (q_t_rows, .inl (cI, 80, .inl (upd (upd v_t_rows (8 * v_t_many).toNatClampNeg x1) ((8 * v_t_many) + 1).toNatClampNeg x2)))] := hD
  refine lv_aload_n hx hb dX11_begin_27 rfl (lv_at hl 1 rfl) ?_
  refine va_get (own := RX11) (ci := 10) (v := .ref q_t_rows) (C := RX11) (T := TX11) (N := 25) hx hb hts iX11 hown hK hP 0 rfl rfl 9 (by decide) k19 (fun _ h9 => h9) rfl dX11_begin_28 ?_
  refine lv_iload hx hb dX11_begin_31 (lv_at hl 0 rfl) ?_
  refine lv_iconst (v := 2) hx hb dX11_begin_33 (by decide) ?_
  refine lv_iadd hx hb dX11_begin_34 ?_
  refine lv_iload_n hx hb dX11_begin_35 rfl (lv_at hl 4 rfl) ?_
  obtain ⟨g3, h⟩ := gd_of h
  refine va_iast hx hb hK hP hD hS 1 0 rfl rfl (inb_of g3) dX11_begin_36 (fun H locs hP hD hS => ?_)
  have hP : va_P D vwCl [(q_t, .inr (10, [.ref q_t_page, .int v_t_pageMany, .ref q_t_readKinds, .ref q_t_readLeaflets, .int v_t_readMany, .int v_t_told, .int v_t_many, .int v_t_lostByHands, .int v_t_lostByMould, .ref q_t_rows, .ref q_t_debts, .int v_t_ringMany, .ref q_t_ring, .ref q_t_line, .ref q_t_groups, .ref q_t_likely, .ref q_t_likelyThen, .int v_t_seedNow, .ref q_t_saved, .int v_t_keptMany, .int v_t_keptByHands, .int v_t_keptByMould, .ref q_t_keptRows, .ref q_t_keptDebts, .long v_t_hash])), (q_t_rows, .inl (cI, 80, .inl (upd (upd (upd v_t_rows (8 * v_t_many).toNatClampNeg x1) ((8 * v_t_many) + 1).toNatClampNeg x2) ((8 * v_t_many) + 2).toNatClampNeg x3)))] H := hP
  have hD : va_D A0 [(q_t, .inr (10, [.ref q_t_page, .int v_t_pageMany, .ref q_t_readKinds, .ref q_t_readLeaflets, .int v_t_readMany, .int v_t_told, .int v_t_many, .int v_t_lostByHands, .int v_t_lostByMould, .ref q_t_rows, .ref q_t_debts, .int v_t_ringMany, .ref q_t_ring, .ref q_t_line, .ref q_t_groups, .ref q_t_likely, .ref q_t_likelyThen, .int v_t_seedNow, .ref q_t_saved, .int v_t_keptMany, .int v_t_keptByHands, .int v_t_keptByMould, .ref q_t_keptRows, .ref q_t_keptDebts, .long v_t_hash])), (q_t_rows, .inl (cI, 80, .inl (upd (upd (upd v_t_rows (8 * v_t_many).toNatClampNeg x1) ((8 * v_t_many) + 1).toNatClampNeg x2) ((8 * v_t_many) + 2).toNatClampNeg x3)))] := hD
  refine lv_iconst (v := 4) hx hb dX11_begin_37 (by decide) ?_
  refine lv_istore (lv' := [(5, .int 4), (4, .int (8 * v_t_many)), (0, .ref q_t), (1, .int x1), (2, .int x2), (3, .int x3)]) hx hb dX11_begin_38 hl (by decide) rfl (fun ls hl => ?_)
  obtain ⟨e5, he_e5, hc_e5⟩ := bd_of h
  have X64_7 : ∀ (a6 : (Nat → Int32)) (H : Heap) (locs : List Loc) (ls : Array Slot), fX11_begin_X40_64 v_t_many a6 = some z → va_P D vwCl [(q_t, .inr (10, [.ref q_t_page, .int v_t_pageMany, .ref q_t_readKinds, .ref q_t_readLeaflets, .int v_t_readMany, .int v_t_told, .int v_t_many, .int v_t_lostByHands, .int v_t_lostByMould, .ref q_t_rows, .ref q_t_debts, .int v_t_ringMany, .ref q_t_ring, .ref q_t_line, .ref q_t_groups, .ref q_t_likely, .ref q_t_likelyThen, .int v_t_seedNow, .ref q_t_saved, .int v_t_keptMany, .int v_t_keptByHands, .int v_t_keptByMould, .ref q_t_keptRows, .ref q_t_keptDebts, .long v_t_hash])), (q_t_rows, .inl (cI, 80, .inl a6))] H → va_D A0 [(q_t, .inr (10, [.ref q_t_page, .int v_t_pageMany, .ref q_t_readKinds, .ref q_t_readLeaflets, .int v_t_readMany, .int v_t_told, .int v_t_many, .int v_t_lostByHands, .int v_t_lostByMould, .ref q_t_rows, .ref q_t_debts, .int v_t_ringMany, .ref q_t_ring, .ref q_t_line, .ref q_t_groups, .ref q_t_likely, .ref q_t_likelyThen, .int v_t_seedNow, .ref q_t_saved, .int v_t_keptMany, .int v_t_keptByHands, .int v_t_keptByMould, .ref q_t_keptRows, .ref q_t_keptDebts, .long v_t_hash])), (q_t_rows, .inl (cI, 80, .inl a6))] → va_S A0 s.heap H locs → lv_has ls 6 [(0, .ref q_t)] → W p l e ({ frames := 0, cells := 0, slots := 0, locals := 0 } : Room) s m args below meth c H locs 0 0 Q0 (F0 m 64 ls []) := by
    intro a6 H locs ls h hP hD hS hl
    unfold fX11_begin_X40_64 at h
    refine lv_aload_n hx hb dX11_begin_64 rfl (lv_at hl 0 rfl) ?_
    refine lv_dup hx hb dX11_begin_65 rfl ?_
    refine va_get (own := RX11) (ci := 10) (v := .int v_t_many) (C := RX11) (T := TX11) (N := 25) hx hb hts iX11 hown hK hP 0 rfl rfl 6 (by decide) k88 (fun _ h9 => h9) rfl dX11_begin_66 ?_
    refine lv_iconst (v := 1) hx hb dX11_begin_69 (by decide) ?_
    refine lv_iadd hx hb dX11_begin_70 ?_
    refine va_put (D := D) (own := RX11) (ci := 10) (v := .int (v_t_many + 1)) (ty := .int) (C := RX11) (T := TX11) (N := 25) hx hb hts iX11 tyX11 tyX11_ok nmX11 hown hK hP hD hS 0 rfl rfl 6 (by decide) k88 (fun _ h9 => h9) rfl (by decide +kernel) rfl rfl (Nat.le_of_ble_eq_true rfl) dX11_begin_71 (fun H locs hP hD hS => ?_)
    have hP : va_P D vwCl [(q_t, .inr (10, [.ref q_t_page, .int v_t_pageMany, .ref q_t_readKinds, .ref q_t_readLeaflets, .int v_t_readMany, .int v_t_told, .int (v_t_many + 1), .int v_t_lostByHands, .int v_t_lostByMould, .ref q_t_rows, .ref q_t_debts, .int v_t_ringMany, .ref q_t_ring, .ref q_t_line, .ref q_t_groups, .ref q_t_likely, .ref q_t_likelyThen, .int v_t_seedNow, .ref q_t_saved, .int v_t_keptMany, .int v_t_keptByHands, .int v_t_keptByMould, .ref q_t_keptRows, .ref q_t_keptDebts, .long v_t_hash])), (q_t_rows, .inl (cI, 80, .inl a6))] H := hP
    have hD : va_D A0 [(q_t, .inr (10, [.ref q_t_page, .int v_t_pageMany, .ref q_t_readKinds, .ref q_t_readLeaflets, .int v_t_readMany, .int v_t_told, .int (v_t_many + 1), .int v_t_lostByHands, .int v_t_lostByMould, .ref q_t_rows, .ref q_t_debts, .int v_t_ringMany, .ref q_t_ring, .ref q_t_line, .ref q_t_groups, .ref q_t_likely, .ref q_t_likelyThen, .int v_t_seedNow, .ref q_t_saved, .int v_t_keptMany, .int v_t_keptByHands, .int v_t_keptByMould, .ref q_t_keptRows, .ref q_t_keptDebts, .long v_t_hash])), (q_t_rows, .inl (cI, 80, .inl a6))] := hD
    refine lv_aload_n hx hb dX11_begin_74 rfl (lv_at hl 0 rfl) ?_
    refine va_get (own := RX11) (ci := 10) (v := .int (v_t_many + 1)) (C := RX11) (T := TX11) (N := 25) hx hb hts iX11 hown hK hP 0 rfl rfl 6 (by decide) k88 (fun _ h9 => h9) rfl dX11_begin_75 ?_
    refine lv_iconst (v := 1) hx hb dX11_begin_78 (by decide) ?_
    refine lv_isub hx hb dX11_begin_79 ?_
    obtain rfl := Option.some.inj h
    exact rt_i hA0 hQ0 hx hb hr hlocks hP hS dX11_begin_80
  have L40_8 : ∀ (n : Nat) (z4 : Int32 × (Nat → Int32)) (H : Heap) (locs : List Loc) (ls : Array Slot), iter (fX11_begin_L40 v_t_many) n z4 = some e5 → va_P D vwCl [(q_t, .inr (10, [.ref q_t_page, .int v_t_pageMany, .ref q_t_readKinds, .ref q_t_readLeaflets, .int v_t_readMany, .int v_t_told, .int v_t_many, .int v_t_lostByHands, .int v_t_lostByMould, .ref q_t_rows, .ref q_t_debts, .int v_t_ringMany, .ref q_t_ring, .ref q_t_line, .ref q_t_groups, .ref q_t_likely, .ref q_t_likelyThen, .int v_t_seedNow, .ref q_t_saved, .int v_t_keptMany, .int v_t_keptByHands, .int v_t_keptByMould, .ref q_t_keptRows, .ref q_t_keptDebts, .long v_t_hash])), (q_t_rows, .inl (cI, 80, .inl z4.2))] H → va_D A0 [(q_t, .inr (10, [.ref q_t_page, .int v_t_pageMany, .ref q_t_readKinds, .ref q_t_readLeaflets, .int v_t_readMany, .int v_t_told, .int v_t_many, .int v_t_lostByHands, .int v_t_lostByMould, .ref q_t_rows, .ref q_t_debts, .int v_t_ringMany, .ref q_t_ring, .ref q_t_line, .ref q_t_groups, .ref q_t_likely, .ref q_t_likelyThen, .int v_t_seedNow, .ref q_t_saved, .int v_t_keptMany, .int v_t_keptByHands, .int v_t_keptByMould, .ref q_t_keptRows, .ref q_t_keptDebts, .long v_t_hash])), (q_t_rows, .inl (cI, 80, .inl z4.2))] → va_S A0 s.heap H locs → lv_has ls 6 [(0, .ref q_t), (4, .int (8 * v_t_many)), (5, .int z4.1)] → W p l e ({ frames := 0, cells := 0, slots := 0, locals := 0 } : Room) s m args below meth c H locs 0 0 Q0 (F0 m 40 ls []) := by
    intro n
    induction n with
    | zero => exact fun _ _ _ _ h => (iter_z h).elim
    | succ n ih =>
      intro z4 H locs ls h hP hD hS hl
      obtain ⟨r_e5, h, hn_e5⟩ := iter_s h
      unfold fX11_begin_L40 at h
      refine lv_iload hx hb dX11_begin_40 (lv_at hl 2 rfl) ?_
      refine lv_bipush (v := 8) hx hb dX11_begin_42 (by decide) ?_
      refine lv_icmp_ge (tgt := 64) hx hb dX11_begin_44 (by decide) (fun c9 => ?_) (fun c9 => ?_)
      · skip
        have h := (if_pos c9).symm.trans h
        obtain rfl := Option.some.inj h
        obtain rfl := Option.some.inj hn_e5
        exact X64_7 z4.2 _ _ _ hc_e5 hP hD hS (lv_sub hl [0] rfl)
      · skip
        have h := (if_neg c9).symm.trans h
        refine lv_aload_n hx hb dX11_begin_47 rfl (lv_at hl 0 rfl) ?_
        refine va_get (own := RX11) (ci := 10) (v := .ref q_t_rows) (C := RX11) (T := TX11) (N := 25) hx hb hts iX11 hown hK hP 0 rfl rfl 9 (by decide) k19 (fun _ h9 => h9) rfl dX11_begin_48 ?_
        refine lv_iload hx hb dX11_begin_51 (lv_at hl 1 rfl) ?_
        refine lv_iload hx hb dX11_begin_53 (lv_at hl 2 rfl) ?_
        refine lv_iadd hx hb dX11_begin_55 ?_
        refine lv_iconst (v := (-1)) hx hb dX11_begin_56 (by decide) ?_
        obtain ⟨g10, h⟩ := gd_of h
        refine va_iast hx hb hK hP hD hS 1 0 rfl rfl (inb_of g10) dX11_begin_57 (fun H locs hP hD hS => ?_)
        have hP : va_P D vwCl [(q_t, .inr (10, [.ref q_t_page, .int v_t_pageMany, .ref q_t_readKinds, .ref q_t_readLeaflets, .int v_t_readMany, .int v_t_told, .int v_t_many, .int v_t_lostByHands, .int v_t_lostByMould, .ref q_t_rows, .ref q_t_debts, .int v_t_ringMany, .ref q_t_ring, .ref q_t_line, .ref q_t_groups, .ref q_t_likely, .ref q_t_likelyThen, .int v_t_seedNow, .ref q_t_saved, .int v_t_keptMany, .int v_t_keptByHands, .int v_t_keptByMould, .ref q_t_keptRows, .ref q_t_keptDebts, .long v_t_hash])), (q_t_rows, .inl (cI, 80, .inl (upd z4.2 ((8 * v_t_many) + z4.1).toNatClampNeg (-1))))] H := hP
        have hD : va_D A0 [(q_t, .inr (10, [.ref q_t_page, .int v_t_pageMany, .ref q_t_readKinds, .ref q_t_readLeaflets, .int v_t_readMany, .int v_t_told, .int v_t_many, .int v_t_lostByHands, .int v_t_lostByMould, .ref q_t_rows, .ref q_t_debts, .int v_t_ringMany, .ref q_t_ring, .ref q_t_line, .ref q_t_groups, .ref q_t_likely, .ref q_t_likelyThen, .int v_t_seedNow, .ref q_t_saved, .int v_t_keptMany, .int v_t_keptByHands, .int v_t_keptByMould, .ref q_t_keptRows, .ref q_t_keptDebts, .long v_t_hash])), (q_t_rows, .inl (cI, 80, .inl (upd z4.2 ((8 * v_t_many) + z4.1).toNatClampNeg (-1))))] := hD
        refine lv_iinc (v := (z4.1 + 1)) (lv' := [(5, .int (z4.1 + 1)), (0, .ref q_t), (4, .int (8 * v_t_many))]) hx hb dX11_begin_58 hl (k := 2) rfl rfl (by decide) rfl (fun ls hl => ?_)
        refine lv_goto (tgt := 40) hx hb dX11_begin_61 (by decide) ?_
        obtain rfl := Option.some.inj h
        exact ih ((z4.1 + 1), (upd z4.2 ((8 * v_t_many) + z4.1).toNatClampNeg (-1))) _ _ _ hn_e5 hP hD hS (lv_sub hl [1, 2, 0] rfl)
  exact L40_8 FU (4, (upd (upd (upd v_t_rows (8 * v_t_many).toNatClampNeg x1) ((8 * v_t_many) + 1).toNatClampNeg x2) ((8 * v_t_many) + 2).toNatClampNeg x3)) _ _ _ he_e5 hP hD hS (lv_sub hl [2, 1, 0] rfl)
def fX11_book_X57_89 (u2 : Int32 × Int32 × Int32 × (Nat → Int32) × (Nat → Int32)) (a10 : Int32 × (Nat → Int32)) : Option (Int32 × Int32 × Int32 × Int32 × Int32 × (Nat → Int32) × (Nat → Int32) × (Nat → Int32)) :=
  some (u2.2.1, 0, u2.2.1, u2.2.2.1, a10.1, u2.2.2.2.1, u2.2.2.2.2, a10.2)
def fX11_book_L57 (v_t_pageMany : Int32) (v_t_lostByHands : Int32) (v_t_lostByMould : Int32) (v_t_ringMany : Int32) (v_t_seedNow : Int32) (v_t_keptMany : Int32) (v_t_keptByHands : Int32) (v_t_keptByMould : Int32) (v_t_hash : Int64) (x1 : Int32) (u2 : Int32 × Int32 × Int32 × (Nat → Int32) × (Nat → Int32)) (z8 : Int32 × Int32 × (Nat → Int32)) : Option ((Int32 × Int32 × (Nat → Int32)) ⊕ (Int32 × (Nat → Int32))) :=
  if u2.2.1 ≤ z8.1 then (some (Sum.inr (z8.2.1, z8.2.2))) else (gd (inb z8.1 10) ((fX11_begin v_t_pageMany u2.2.1 u2.2.2.1 z8.2.1 v_t_lostByHands v_t_lostByMould v_t_ringMany v_t_seedNow v_t_keptMany v_t_keptByHands v_t_keptByMould v_t_hash z8.2.2 (u2.2.2.2.1 z8.1.toNatClampNeg) (u2.2.2.2.2 z8.1.toNatClampNeg) x1).bind (fun u15 => some (Sum.inl ((z8.1 + 1), u15.2.1, u15.2.2)))))
def fX11_book (v_t_pageMany : Int32) (v_t_readMany : Int32) (v_t_told : Int32) (v_t_many : Int32) (v_t_lostByHands : Int32) (v_t_lostByMould : Int32) (v_t_ringMany : Int32) (v_t_seedNow : Int32) (v_t_keptMany : Int32) (v_t_keptByHands : Int32) (v_t_keptByMould : Int32) (v_t_hash : Int64) (v_t_page : Nat → Int32) (v_t_readKinds : Nat → Int32) (v_t_readLeaflets : Nat → Int32) (v_t_rows : Nat → Int32) (x1 : Int32) : Option (Int32 × Int32 × Int32 × Int32 × Int32 × (Nat → Int32) × (Nat → Int32) × (Nat → Int32)) :=
  if (fX11_isPerson x1) = 0 then (some ((-101), v_t_pageMany, v_t_readMany, v_t_told, v_t_many, v_t_readKinds, v_t_readLeaflets, v_t_rows)) else ((fX11_faultOf v_t_pageMany v_t_readMany v_t_told v_t_many v_t_lostByHands v_t_lostByMould v_t_ringMany v_t_seedNow v_t_keptMany v_t_keptByHands v_t_keptByMould v_t_hash v_t_page v_t_readKinds v_t_readLeaflets).bind (fun u2 => if u2.1 < v_t_pageMany then (some ((-103), v_t_pageMany, u2.2.1, u2.2.2.1, v_t_many, u2.2.2.2.1, u2.2.2.2.2, v_t_rows)) else (if u2.2.2.1 = 0 then (if u2.2.1 = 0 then (some ((-103), v_t_pageMany, u2.2.1, u2.2.2.1, v_t_many, u2.2.2.2.1, u2.2.2.2.2, v_t_rows)) else (if (v_t_many + u2.2.1) ≤ 10 then ((iter (fX11_book_L57 v_t_pageMany v_t_lostByHands v_t_lostByMould v_t_ringMany v_t_seedNow v_t_keptMany v_t_keptByHands v_t_keptByMould v_t_hash x1 u2) FU (0, v_t_many, v_t_rows)).bind (fX11_book_X57_89 u2)) else (some ((-104), v_t_pageMany, u2.2.1, u2.2.2.1, v_t_many, u2.2.2.2.1, u2.2.2.2.2, v_t_rows)))) else (some ((-103), v_t_pageMany, u2.2.1, u2.2.2.1, v_t_many, u2.2.2.2.1, u2.2.2.2.2, v_t_rows)))))
set_option maxHeartbeats 4000000 in
set_option maxRecDepth 100000 in
theorem c_X11_book (l : Launch) (D : va_G) (cI cJ : ClassId) (q_t q_t_page q_t_readKinds q_t_readLeaflets q_t_rows q_t_debts q_t_ring q_t_line q_t_groups q_t_likely q_t_likelyThen q_t_saved q_t_keptRows q_t_keptDebts : Nat) (v_t_pageMany : Int32) (v_t_readMany : Int32) (v_t_told : Int32) (v_t_many : Int32) (v_t_lostByHands : Int32) (v_t_lostByMould : Int32) (v_t_ringMany : Int32) (v_t_seedNow : Int32) (v_t_keptMany : Int32) (v_t_keptByHands : Int32) (v_t_keptByMould : Int32) (v_t_hash : Int64) (v_t_page : Nat → Int32) (v_t_readKinds : Nat → Int32) (v_t_readLeaflets : Nat → Int32) (v_t_rows : Nat → Int32) (x1 : Int32) (z : Int32 × Int32 × Int32 × Int32 × Int32 × (Nat → Int32) × (Nat → Int32) × (Nat → Int32)) (h : fX11_book v_t_pageMany v_t_readMany v_t_told v_t_many v_t_lostByHands v_t_lostByMould v_t_ringMany v_t_seedNow v_t_keptMany v_t_keptByHands v_t_keptByMould v_t_hash v_t_page v_t_readKinds v_t_readLeaflets v_t_rows x1 = some z) : Met l yX11_book wsX11_book ({ frames := 3, cells := 0, slots := 0, locals := 67 } : Room) (va_Pc [.ref q_t, .int x1] (preG D cI cJ [(q_t, .inr (10, [.ref q_t_page, .int v_t_pageMany, .ref q_t_readKinds, .ref q_t_readLeaflets, .int v_t_readMany, .int v_t_told, .int v_t_many, .int v_t_lostByHands, .int v_t_lostByMould, .ref q_t_rows, .ref q_t_debts, .int v_t_ringMany, .ref q_t_ring, .ref q_t_line, .ref q_t_groups, .ref q_t_likely, .ref q_t_likelyThen, .int v_t_seedNow, .ref q_t_saved, .int v_t_keptMany, .int v_t_keptByHands, .int v_t_keptByMould, .ref q_t_keptRows, .ref q_t_keptDebts, .long v_t_hash])), (q_t_page, .inl (cI, 22, .inl v_t_page)), (q_t_readKinds, .inl (cI, 10, .inl v_t_readKinds)), (q_t_readLeaflets, .inl (cI, 10, .inl v_t_readLeaflets)), (q_t_rows, .inl (cI, 80, .inl v_t_rows))])) (QG D [(q_t, .inr (10, [.ref q_t_page, .int v_t_pageMany, .ref q_t_readKinds, .ref q_t_readLeaflets, .int v_t_readMany, .int v_t_told, .int v_t_many, .int v_t_lostByHands, .int v_t_lostByMould, .ref q_t_rows, .ref q_t_debts, .int v_t_ringMany, .ref q_t_ring, .ref q_t_line, .ref q_t_groups, .ref q_t_likely, .ref q_t_likelyThen, .int v_t_seedNow, .ref q_t_saved, .int v_t_keptMany, .int v_t_keptByHands, .int v_t_keptByMould, .ref q_t_keptRows, .ref q_t_keptDebts, .long v_t_hash])), (q_t_page, .inl (cI, 22, .inl v_t_page)), (q_t_readKinds, .inl (cI, 10, .inl v_t_readKinds)), (q_t_readLeaflets, .inl (cI, 10, .inl v_t_readLeaflets)), (q_t_rows, .inl (cI, 80, .inl v_t_rows))] [(q_t, .inr (10, [.ref q_t_page, .int z.2.1, .ref q_t_readKinds, .ref q_t_readLeaflets, .int z.2.2.1, .int z.2.2.2.1, .int z.2.2.2.2.1, .int v_t_lostByHands, .int v_t_lostByMould, .ref q_t_rows, .ref q_t_debts, .int v_t_ringMany, .ref q_t_ring, .ref q_t_line, .ref q_t_groups, .ref q_t_likely, .ref q_t_likelyThen, .int v_t_seedNow, .ref q_t_saved, .int v_t_keptMany, .int v_t_keptByHands, .int v_t_keptByMould, .ref q_t_keptRows, .ref q_t_keptDebts, .long v_t_hash])), (q_t_page, .inl (cI, 22, .inl v_t_page)), (q_t_readKinds, .inl (cI, 10, .inl z.2.2.2.2.2.1)), (q_t_readLeaflets, .inl (cI, 10, .inl z.2.2.2.2.2.2.1)), (q_t_rows, .inl (cI, 80, .inl z.2.2.2.2.2.2.2))] (some (.int z.1))) 0 0 (fr [(q_t, .inr (10, [.ref q_t_page, .int v_t_pageMany, .ref q_t_readKinds, .ref q_t_readLeaflets, .int v_t_readMany, .int v_t_told, .int v_t_many, .int v_t_lostByHands, .int v_t_lostByMould, .ref q_t_rows, .ref q_t_debts, .int v_t_ringMany, .ref q_t_ring, .ref q_t_line, .ref q_t_groups, .ref q_t_likely, .ref q_t_likelyThen, .int v_t_seedNow, .ref q_t_saved, .int v_t_keptMany, .int v_t_keptByHands, .int v_t_keptByMould, .ref q_t_keptRows, .ref q_t_keptDebts, .long v_t_hash])), (q_t_page, .inl (cI, 22, .inl v_t_page)), (q_t_readKinds, .inl (cI, 10, .inl v_t_readKinds)), (q_t_readLeaflets, .inl (cI, 10, .inl v_t_readLeaflets)), (q_t_rows, .inl (cI, 80, .inl v_t_rows))]) := by
  refine Met.ofW (cc := cX11_book) (maxL := 4) (ret := (some .int)) (by decide) rfl ?_
  intro p e s m args below meth c s₁ B hml hv
  obtain ⟨hargs, hP, hK, hN, hD0⟩ := hv
  have hx := B.exec
  have hb := B.bytes
  have hr := B.returns
  have hts := atoms_spec (ws := wsX11_book) B.pre
  have hown : s.vm.findClass RX11 = some m.cls := findClass_of_methodNamed B.named
  have hlocks := B.notSynchronized
  have iX11 : ∀ w ∈ wsX110, w ∈ wsX11_book := by decide +kernel
  have k13 := hts (.fieldLink RX11 13 "PressedFernsModel" "readKinds" "[I") (by decide +kernel)
  have k16 := hts (.fieldLink RX11 16 "PressedFernsModel" "readLeaflets" "[I") (by decide +kernel)
  have k56 := hts (.fieldLink RX11 56 "PressedFernsModel" "pageMany" "I") (by decide +kernel)
  have k59 := hts (.fieldLink RX11 59 "PressedFernsModel" "readMany" "I") (by decide +kernel)
  have k62 := hts (.fieldLink RX11 62 "PressedFernsModel" "told" "Z") (by decide +kernel)
  have k88 := hts (.fieldLink RX11 88 "PressedFernsModel" "many" "I") (by decide +kernel)
  have hD := fr_D hD0
  have hS : va_S (fr [(q_t, .inr (10, [.ref q_t_page, .int v_t_pageMany, .ref q_t_readKinds, .ref q_t_readLeaflets, .int v_t_readMany, .int v_t_told, .int v_t_many, .int v_t_lostByHands, .int v_t_lostByMould, .ref q_t_rows, .ref q_t_debts, .int v_t_ringMany, .ref q_t_ring, .ref q_t_line, .ref q_t_groups, .ref q_t_likely, .ref q_t_likelyThen, .int v_t_seedNow, .ref q_t_saved, .int v_t_keptMany, .int v_t_keptByHands, .int v_t_keptByMould, .ref q_t_keptRows, .ref q_t_keptDebts, .long v_t_hash])), (q_t_page, .inl (cI, 22, .inl v_t_page)), (q_t_readKinds, .inl (cI, 10, .inl v_t_readKinds)), (q_t_readLeaflets, .inl (cI, 10, .inl v_t_readLeaflets)), (q_t_rows, .inl (cI, 80, .inl v_t_rows))]) s.heap s.heap [] := va_S.rf
  have hl := lv_entry ([.ref q_t, .int x1]) (n := 4) (Nat.le_of_ble_eq_true rfl)
  refine W.eq (g2 := F0 m 0 ((lg_sl ([.ref q_t, .int x1]) ++ List.replicate (4 - (lg_sl ([.ref q_t, .int x1])).length) Slot.unset).toArray) []) (by rw [hargs, lg_entry_eq]) ?_
  generalize (lg_sl ([.ref q_t, .int x1]) ++ List.replicate (4 - (lg_sl ([.ref q_t, .int x1])).length) Slot.unset).toArray = ls at hl ⊢
  have hl : lv_has ls 4 [(0, .ref q_t), (1, .int x1)] := hl
  show W p l e ({ frames := 3, cells := 0, slots := 0, locals := 67 } : Room) s m args below meth c s.heap [] 0 0 (MQ below (QG D [(q_t, .inr (10, [.ref q_t_page, .int v_t_pageMany, .ref q_t_readKinds, .ref q_t_readLeaflets, .int v_t_readMany, .int v_t_told, .int v_t_many, .int v_t_lostByHands, .int v_t_lostByMould, .ref q_t_rows, .ref q_t_debts, .int v_t_ringMany, .ref q_t_ring, .ref q_t_line, .ref q_t_groups, .ref q_t_likely, .ref q_t_likelyThen, .int v_t_seedNow, .ref q_t_saved, .int v_t_keptMany, .int v_t_keptByHands, .int v_t_keptByMould, .ref q_t_keptRows, .ref q_t_keptDebts, .long v_t_hash])), (q_t_page, .inl (cI, 22, .inl v_t_page)), (q_t_readKinds, .inl (cI, 10, .inl v_t_readKinds)), (q_t_readLeaflets, .inl (cI, 10, .inl v_t_readLeaflets)), (q_t_rows, .inl (cI, 80, .inl v_t_rows))] [(q_t, .inr (10, [.ref q_t_page, .int z.2.1, .ref q_t_readKinds, .ref q_t_readLeaflets, .int z.2.2.1, .int z.2.2.2.1, .int z.2.2.2.2.1, .int v_t_lostByHands, .int v_t_lostByMould, .ref q_t_rows, .ref q_t_debts, .int v_t_ringMany, .ref q_t_ring, .ref q_t_line, .ref q_t_groups, .ref q_t_likely, .ref q_t_likelyThen, .int v_t_seedNow, .ref q_t_saved, .int v_t_keptMany, .int v_t_keptByHands, .int v_t_keptByMould, .ref q_t_keptRows, .ref q_t_keptDebts, .long v_t_hash])), (q_t_page, .inl (cI, 22, .inl v_t_page)), (q_t_readKinds, .inl (cI, 10, .inl z.2.2.2.2.2.1)), (q_t_readLeaflets, .inl (cI, 10, .inl z.2.2.2.2.2.2.1)), (q_t_rows, .inl (cI, 80, .inl z.2.2.2.2.2.2.2))] (some (.int z.1))) args s 0 0 (fr [(q_t, .inr (10, [.ref q_t_page, .int v_t_pageMany, .ref q_t_readKinds, .ref q_t_readLeaflets, .int v_t_readMany, .int v_t_told, .int v_t_many, .int v_t_lostByHands, .int v_t_lostByMould, .ref q_t_rows, .ref q_t_debts, .int v_t_ringMany, .ref q_t_ring, .ref q_t_line, .ref q_t_groups, .ref q_t_likely, .ref q_t_likelyThen, .int v_t_seedNow, .ref q_t_saved, .int v_t_keptMany, .int v_t_keptByHands, .int v_t_keptByMould, .ref q_t_keptRows, .ref q_t_keptDebts, .long v_t_hash])), (q_t_page, .inl (cI, 22, .inl v_t_page)), (q_t_readKinds, .inl (cI, 10, .inl v_t_readKinds)), (q_t_readLeaflets, .inl (cI, 10, .inl v_t_readLeaflets)), (q_t_rows, .inl (cI, 80, .inl v_t_rows))])) (F0 m 0 ls [])
  generalize hQ0 : (MQ below (QG D [(q_t, .inr (10, [.ref q_t_page, .int v_t_pageMany, .ref q_t_readKinds, .ref q_t_readLeaflets, .int v_t_readMany, .int v_t_told, .int v_t_many, .int v_t_lostByHands, .int v_t_lostByMould, .ref q_t_rows, .ref q_t_debts, .int v_t_ringMany, .ref q_t_ring, .ref q_t_line, .ref q_t_groups, .ref q_t_likely, .ref q_t_likelyThen, .int v_t_seedNow, .ref q_t_saved, .int v_t_keptMany, .int v_t_keptByHands, .int v_t_keptByMould, .ref q_t_keptRows, .ref q_t_keptDebts, .long v_t_hash])), (q_t_page, .inl (cI, 22, .inl v_t_page)), (q_t_readKinds, .inl (cI, 10, .inl v_t_readKinds)), (q_t_readLeaflets, .inl (cI, 10, .inl v_t_readLeaflets)), (q_t_rows, .inl (cI, 80, .inl v_t_rows))] [(q_t, .inr (10, [.ref q_t_page, .int z.2.1, .ref q_t_readKinds, .ref q_t_readLeaflets, .int z.2.2.1, .int z.2.2.2.1, .int z.2.2.2.2.1, .int v_t_lostByHands, .int v_t_lostByMould, .ref q_t_rows, .ref q_t_debts, .int v_t_ringMany, .ref q_t_ring, .ref q_t_line, .ref q_t_groups, .ref q_t_likely, .ref q_t_likelyThen, .int v_t_seedNow, .ref q_t_saved, .int v_t_keptMany, .int v_t_keptByHands, .int v_t_keptByMould, .ref q_t_keptRows, .ref q_t_keptDebts, .long v_t_hash])), (q_t_page, .inl (cI, 22, .inl v_t_page)), (q_t_readKinds, .inl (cI, 10, .inl z.2.2.2.2.2.1)), (q_t_readLeaflets, .inl (cI, 10, .inl z.2.2.2.2.2.2.1)), (q_t_rows, .inl (cI, 80, .inl z.2.2.2.2.2.2.2))] (some (.int z.1))) args s 0 0 (fr [(q_t, .inr (10, [.ref q_t_page, .int v_t_pageMany, .ref q_t_readKinds, .ref q_t_readLeaflets, .int v_t_readMany, .int v_t_told, .int v_t_many, .int v_t_lostByHands, .int v_t_lostByMould, .ref q_t_rows, .ref q_t_debts, .int v_t_ringMany, .ref q_t_ring, .ref q_t_line, .ref q_t_groups, .ref q_t_likely, .ref q_t_likelyThen, .int v_t_seedNow, .ref q_t_saved, .int v_t_keptMany, .int v_t_keptByHands, .int v_t_keptByMould, .ref q_t_keptRows, .ref q_t_keptDebts, .long v_t_hash])), (q_t_page, .inl (cI, 22, .inl v_t_page)), (q_t_readKinds, .inl (cI, 10, .inl v_t_readKinds)), (q_t_readLeaflets, .inl (cI, 10, .inl v_t_readLeaflets)), (q_t_rows, .inl (cI, 80, .inl v_t_rows))])) = Q0
  generalize hA0 : fr [(q_t, .inr (10, [.ref q_t_page, .int v_t_pageMany, .ref q_t_readKinds, .ref q_t_readLeaflets, .int v_t_readMany, .int v_t_told, .int v_t_many, .int v_t_lostByHands, .int v_t_lostByMould, .ref q_t_rows, .ref q_t_debts, .int v_t_ringMany, .ref q_t_ring, .ref q_t_line, .ref q_t_groups, .ref q_t_likely, .ref q_t_likelyThen, .int v_t_seedNow, .ref q_t_saved, .int v_t_keptMany, .int v_t_keptByHands, .int v_t_keptByMould, .ref q_t_keptRows, .ref q_t_keptDebts, .long v_t_hash])), (q_t_page, .inl (cI, 22, .inl v_t_page)), (q_t_readKinds, .inl (cI, 10, .inl v_t_readKinds)), (q_t_readLeaflets, .inl (cI, 10, .inl v_t_readLeaflets)), (q_t_rows, .inl (cI, 80, .inl v_t_rows))] = A0 at hD hS
  unfold fX11_book at h
  refine lv_iload_n hx hb dX11_book_0 rfl (lv_at hl 1 rfl) ?_
  refine cl_S [(q_t, .inr (10, [.ref q_t_page, .int v_t_pageMany, .ref q_t_readKinds, .ref q_t_readLeaflets, .int v_t_readMany, .int v_t_told, .int v_t_many, .int v_t_lostByHands, .int v_t_lostByMould, .ref q_t_rows, .ref q_t_debts, .int v_t_ringMany, .ref q_t_ring, .ref q_t_line, .ref q_t_groups, .ref q_t_likely, .ref q_t_likelyThen, .int v_t_seedNow, .ref q_t_saved, .int v_t_keptMany, .int v_t_keptByHands, .int v_t_keptByMould, .ref q_t_keptRows, .ref q_t_keptDebts, .long v_t_hash])), (q_t_page, .inl (cI, 22, .inl v_t_page)), (q_t_readKinds, .inl (cI, 10, .inl v_t_readKinds)), (q_t_readLeaflets, .inl (cI, 10, .inl v_t_readLeaflets)), (q_t_rows, .inl (cI, 80, .inl v_t_rows))] (As := [.int x1]) (rest := []) (rv := (some (.int (fX11_isPerson x1)))) (c_X11_isPerson l D cI cJ x1) ⟨hx, hb, hml, hown, hts⟩ (va_cwS 1 hts gX11_book_X11_isPerson rfl rfl rfl (by decide +kernel) ⟨(Nat.le_of_ble_eq_true rfl), (Nat.le_of_ble_eq_true rfl)⟩) hK hN hP hD hS [] rfl (by decide) rfl rfl rfl rfl hl.1 rfl (Nat.le_of_ble_eq_true rfl) dX11_book_1 ⟨Nat.zero_le _, Nat.zero_le _⟩ (fun H locs hP hD hS => ?_)
  show W p l e ({ frames := 3, cells := 0, slots := 0, locals := 67 } : Room) s m args below meth c H locs 0 0 Q0 (F0 m 4 ls [.int (fX11_isPerson x1)])
  refine lv_if_ne (tgt := 10) hx hb dX11_book_4 (by decide) (fun c1 => ?_) (fun c1 => ?_)
  · skip
    have h := (if_neg c1).symm.trans h
    refine lv_aload_n hx hb dX11_book_10 rfl (lv_at hl 0 rfl) ?_
    obtain ⟨u2, g3, h⟩ := bd_of h
    refine cl_V [(q_t, .inr (10, [.ref q_t_page, .int v_t_pageMany, .ref q_t_readKinds, .ref q_t_readLeaflets, .int u2.2.1, .int u2.2.2.1, .int v_t_many, .int v_t_lostByHands, .int v_t_lostByMould, .ref q_t_rows, .ref q_t_debts, .int v_t_ringMany, .ref q_t_ring, .ref q_t_line, .ref q_t_groups, .ref q_t_likely, .ref q_t_likelyThen, .int v_t_seedNow, .ref q_t_saved, .int v_t_keptMany, .int v_t_keptByHands, .int v_t_keptByMould, .ref q_t_keptRows, .ref q_t_keptDebts, .long v_t_hash])), (q_t_page, .inl (cI, 22, .inl v_t_page)), (q_t_readKinds, .inl (cI, 10, .inl u2.2.2.2.1)), (q_t_readLeaflets, .inl (cI, 10, .inl u2.2.2.2.2)), (q_t_rows, .inl (cI, 80, .inl v_t_rows))] (As := []) (rest := []) (rv := (some (.int u2.1))) (c_X11_faultOf l D cI cJ q_t q_t_page q_t_readKinds q_t_readLeaflets q_t_rows q_t_debts q_t_ring q_t_line q_t_groups q_t_likely q_t_likelyThen q_t_saved q_t_keptRows q_t_keptDebts v_t_pageMany v_t_readMany v_t_told v_t_many v_t_lostByHands v_t_lostByMould v_t_ringMany v_t_seedNow v_t_keptMany v_t_keptByHands v_t_keptByMould v_t_hash v_t_page v_t_readKinds v_t_readLeaflets u2 g3) ⟨hx, hb, hml, hown, hts⟩ (cwV 0 hts gX11_book_X11_faultOf rfl rfl rfl (by decide +kernel) ⟨(Nat.le_of_ble_eq_true rfl), (Nat.le_of_ble_eq_true rfl)⟩) hK hN hP hD hS [0, 1, 2, 3] rfl (by decide) rfl rfl rfl (q0 := 0) (ci := 10) rfl rfl rfl rfl hl.1 rfl (Nat.le_of_ble_eq_true rfl) dX11_book_11 ⟨Nat.zero_le _, Nat.zero_le _⟩ (fun H locs hP hD hS => ?_)
    show W p l e ({ frames := 3, cells := 0, slots := 0, locals := 67 } : Room) s m args below meth c H locs 0 0 Q0 (F0 m 14 ls [.int u2.1])
    refine lv_aload_n hx hb dX11_book_14 rfl (lv_at hl 0 rfl) ?_
    refine va_get (own := RX11) (ci := 10) (v := .int v_t_pageMany) (C := RX11) (T := TX11) (N := 25) hx hb hts iX11 hown hK hP 0 rfl rfl 1 (by decide) k56 (fun _ h9 => h9) rfl dX11_book_15 ?_
    refine lv_icmp_lt (tgt := 35) hx hb dX11_book_18 (by decide) (fun c4 => ?_) (fun c4 => ?_)
    · skip
      have h := (if_pos c4).symm.trans h
      refine lv_bipush (v := (-103)) hx hb dX11_book_35 (by decide) ?_
      obtain rfl := Option.some.inj h
      exact rt_i hA0 hQ0 hx hb hr hlocks hP hS dX11_book_37
    · skip
      have h := (if_neg c4).symm.trans h
      refine lv_aload_n hx hb dX11_book_21 rfl (lv_at hl 0 rfl) ?_
      refine va_get (own := RX11) (ci := 10) (v := .int u2.2.2.1) (C := RX11) (T := TX11) (N := 25) hx hb hts iX11 hown hK hP 0 rfl rfl 5 (by decide) k62 (fun _ h9 => h9) rfl dX11_book_22 ?_
      refine lv_if_ne (tgt := 35) hx hb dX11_book_25 (by decide) (fun c5 => ?_) (fun c5 => ?_)
      · skip
        have h := (if_neg c5).symm.trans h
        refine lv_bipush (v := (-103)) hx hb dX11_book_35 (by decide) ?_
        obtain rfl := Option.some.inj h
        exact rt_i hA0 hQ0 hx hb hr hlocks hP hS dX11_book_37
      · skip
        have h := (if_pos c5).symm.trans h
        refine lv_aload_n hx hb dX11_book_28 rfl (lv_at hl 0 rfl) ?_
        refine va_get (own := RX11) (ci := 10) (v := .int u2.2.1) (C := RX11) (T := TX11) (N := 25) hx hb hts iX11 hown hK hP 0 rfl rfl 4 (by decide) k59 (fun _ h9 => h9) rfl dX11_book_29 ?_
        refine lv_if_ne (tgt := 38) hx hb dX11_book_32 (by decide) (fun c6 => ?_) (fun c6 => ?_)
        · skip
          have h := (if_neg c6).symm.trans h
          refine lv_aload_n hx hb dX11_book_38 rfl (lv_at hl 0 rfl) ?_
          refine va_get (own := RX11) (ci := 10) (v := .int v_t_many) (C := RX11) (T := TX11) (N := 25) hx hb hts iX11 hown hK hP 0 rfl rfl 6 (by decide) k88 (fun _ h9 => h9) rfl dX11_book_39 ?_
          refine lv_aload_n hx hb dX11_book_42 rfl (lv_at hl 0 rfl) ?_
          refine va_get (own := RX11) (ci := 10) (v := .int u2.2.1) (C := RX11) (T := TX11) (N := 25) hx hb hts iX11 hown hK hP 0 rfl rfl 4 (by decide) k59 (fun _ h9 => h9) rfl dX11_book_43 ?_
          refine lv_iadd hx hb dX11_book_46 ?_
          refine lv_bipush (v := 10) hx hb dX11_book_47 (by decide) ?_
          refine lv_icmp_le (tgt := 55) hx hb dX11_book_49 (by decide) (fun c7 => ?_) (fun c7 => ?_)
          · skip
            have h := (if_pos c7).symm.trans h
            refine lv_iconst (v := 0) hx hb dX11_book_55 (by decide) ?_
            refine lv_istore_n (lv' := [(2, .int 0), (0, .ref q_t), (1, .int x1)]) hx hb dX11_book_56 rfl hl (by decide) rfl (fun ls hl => ?_)
            obtain ⟨e9, he_e9, hc_e9⟩ := bd_of h
            have X89_11 : ∀ (a10 : Int32 × (Nat → Int32)) (H : Heap) (locs : List Loc) (ls : Array Slot), fX11_book_X57_89 u2 a10 = some z → va_P D vwCl [(q_t, .inr (10, [.ref q_t_page, .int v_t_pageMany, .ref q_t_readKinds, .ref q_t_readLeaflets, .int u2.2.1, .int u2.2.2.1, .int a10.1, .int v_t_lostByHands, .int v_t_lostByMould, .ref q_t_rows, .ref q_t_debts, .int v_t_ringMany, .ref q_t_ring, .ref q_t_line, .ref q_t_groups, .ref q_t_likely, .ref q_t_likelyThen, .int v_t_seedNow, .ref q_t_saved, .int v_t_keptMany, .int v_t_keptByHands, .int v_t_keptByMould, .ref q_t_keptRows, .ref q_t_keptDebts, .long v_t_hash])), (q_t_page, .inl (cI, 22, .inl v_t_page)), (q_t_readKinds, .inl (cI, 10, .inl u2.2.2.2.1)), (q_t_readLeaflets, .inl (cI, 10, .inl u2.2.2.2.2)), (q_t_rows, .inl (cI, 80, .inl a10.2))] H → va_D A0 [(q_t, .inr (10, [.ref q_t_page, .int v_t_pageMany, .ref q_t_readKinds, .ref q_t_readLeaflets, .int u2.2.1, .int u2.2.2.1, .int a10.1, .int v_t_lostByHands, .int v_t_lostByMould, .ref q_t_rows, .ref q_t_debts, .int v_t_ringMany, .ref q_t_ring, .ref q_t_line, .ref q_t_groups, .ref q_t_likely, .ref q_t_likelyThen, .int v_t_seedNow, .ref q_t_saved, .int v_t_keptMany, .int v_t_keptByHands, .int v_t_keptByMould, .ref q_t_keptRows, .ref q_t_keptDebts, .long v_t_hash])), (q_t_page, .inl (cI, 22, .inl v_t_page)), (q_t_readKinds, .inl (cI, 10, .inl u2.2.2.2.1)), (q_t_readLeaflets, .inl (cI, 10, .inl u2.2.2.2.2)), (q_t_rows, .inl (cI, 80, .inl a10.2))] → va_S A0 s.heap H locs → lv_has ls 4 [(0, .ref q_t)] → W p l e ({ frames := 3, cells := 0, slots := 0, locals := 67 } : Room) s m args below meth c H locs 0 0 Q0 (F0 m 89 ls []) := by
              intro a10 H locs ls h hP hD hS hl
              unfold fX11_book_X57_89 at h
              refine lv_aload_n hx hb dX11_book_89 rfl (lv_at hl 0 rfl) ?_
              refine lv_iconst (v := 0) hx hb dX11_book_90 (by decide) ?_
              refine va_put (D := D) (own := RX11) (ci := 10) (v := .int 0) (ty := .int) (C := RX11) (T := TX11) (N := 25) hx hb hts iX11 tyX11 tyX11_ok nmX11 hown hK hP hD hS 0 rfl rfl 1 (by decide) k56 (fun _ h9 => h9) rfl (by decide +kernel) rfl rfl (Nat.le_of_ble_eq_true rfl) dX11_book_91 (fun H locs hP hD hS => ?_)
              have hP : va_P D vwCl [(q_t, .inr (10, [.ref q_t_page, .int 0, .ref q_t_readKinds, .ref q_t_readLeaflets, .int u2.2.1, .int u2.2.2.1, .int a10.1, .int v_t_lostByHands, .int v_t_lostByMould, .ref q_t_rows, .ref q_t_debts, .int v_t_ringMany, .ref q_t_ring, .ref q_t_line, .ref q_t_groups, .ref q_t_likely, .ref q_t_likelyThen, .int v_t_seedNow, .ref q_t_saved, .int v_t_keptMany, .int v_t_keptByHands, .int v_t_keptByMould, .ref q_t_keptRows, .ref q_t_keptDebts, .long v_t_hash])), (q_t_page, .inl (cI, 22, .inl v_t_page)), (q_t_readKinds, .inl (cI, 10, .inl u2.2.2.2.1)), (q_t_readLeaflets, .inl (cI, 10, .inl u2.2.2.2.2)), (q_t_rows, .inl (cI, 80, .inl a10.2))] H := hP
              have hD : va_D A0 [(q_t, .inr (10, [.ref q_t_page, .int 0, .ref q_t_readKinds, .ref q_t_readLeaflets, .int u2.2.1, .int u2.2.2.1, .int a10.1, .int v_t_lostByHands, .int v_t_lostByMould, .ref q_t_rows, .ref q_t_debts, .int v_t_ringMany, .ref q_t_ring, .ref q_t_line, .ref q_t_groups, .ref q_t_likely, .ref q_t_likelyThen, .int v_t_seedNow, .ref q_t_saved, .int v_t_keptMany, .int v_t_keptByHands, .int v_t_keptByMould, .ref q_t_keptRows, .ref q_t_keptDebts, .long v_t_hash])), (q_t_page, .inl (cI, 22, .inl v_t_page)), (q_t_readKinds, .inl (cI, 10, .inl u2.2.2.2.1)), (q_t_readLeaflets, .inl (cI, 10, .inl u2.2.2.2.2)), (q_t_rows, .inl (cI, 80, .inl a10.2))] := hD
              refine lv_aload_n hx hb dX11_book_94 rfl (lv_at hl 0 rfl) ?_
              refine va_get (own := RX11) (ci := 10) (v := .int u2.2.1) (C := RX11) (T := TX11) (N := 25) hx hb hts iX11 hown hK hP 0 rfl rfl 4 (by decide) k59 (fun _ h9 => h9) rfl dX11_book_95 ?_
              obtain rfl := Option.some.inj h
              exact rt_i hA0 hQ0 hx hb hr hlocks hP hS dX11_book_98
            have L57_12 : ∀ (n : Nat) (z8 : Int32 × Int32 × (Nat → Int32)) (H : Heap) (locs : List Loc) (ls : Array Slot), iter (fX11_book_L57 v_t_pageMany v_t_lostByHands v_t_lostByMould v_t_ringMany v_t_seedNow v_t_keptMany v_t_keptByHands v_t_keptByMould v_t_hash x1 u2) n z8 = some e9 → va_P D vwCl [(q_t, .inr (10, [.ref q_t_page, .int v_t_pageMany, .ref q_t_readKinds, .ref q_t_readLeaflets, .int u2.2.1, .int u2.2.2.1, .int z8.2.1, .int v_t_lostByHands, .int v_t_lostByMould, .ref q_t_rows, .ref q_t_debts, .int v_t_ringMany, .ref q_t_ring, .ref q_t_line, .ref q_t_groups, .ref q_t_likely, .ref q_t_likelyThen, .int v_t_seedNow, .ref q_t_saved, .int v_t_keptMany, .int v_t_keptByHands, .int v_t_keptByMould, .ref q_t_keptRows, .ref q_t_keptDebts, .long v_t_hash])), (q_t_page, .inl (cI, 22, .inl v_t_page)), (q_t_readKinds, .inl (cI, 10, .inl u2.2.2.2.1)), (q_t_readLeaflets, .inl (cI, 10, .inl u2.2.2.2.2)), (q_t_rows, .inl (cI, 80, .inl z8.2.2))] H → va_D A0 [(q_t, .inr (10, [.ref q_t_page, .int v_t_pageMany, .ref q_t_readKinds, .ref q_t_readLeaflets, .int u2.2.1, .int u2.2.2.1, .int z8.2.1, .int v_t_lostByHands, .int v_t_lostByMould, .ref q_t_rows, .ref q_t_debts, .int v_t_ringMany, .ref q_t_ring, .ref q_t_line, .ref q_t_groups, .ref q_t_likely, .ref q_t_likelyThen, .int v_t_seedNow, .ref q_t_saved, .int v_t_keptMany, .int v_t_keptByHands, .int v_t_keptByMould, .ref q_t_keptRows, .ref q_t_keptDebts, .long v_t_hash])), (q_t_page, .inl (cI, 22, .inl v_t_page)), (q_t_readKinds, .inl (cI, 10, .inl u2.2.2.2.1)), (q_t_readLeaflets, .inl (cI, 10, .inl u2.2.2.2.2)), (q_t_rows, .inl (cI, 80, .inl z8.2.2))] → va_S A0 s.heap H locs → lv_has ls 4 [(0, .ref q_t), (1, .int x1), (2, .int z8.1)] → W p l e ({ frames := 3, cells := 0, slots := 0, locals := 67 } : Room) s m args below meth c H locs 0 0 Q0 (F0 m 57 ls []) := by
              intro n
              induction n with
              | zero => exact fun _ _ _ _ h => (iter_z h).elim
              | succ n ih =>
                intro z8 H locs ls h hP hD hS hl
                obtain ⟨r_e9, h, hn_e9⟩ := iter_s h
                unfold fX11_book_L57 at h
                refine lv_iload_n hx hb dX11_book_57 rfl (lv_at hl 2 rfl) ?_
                refine lv_aload_n hx hb dX11_book_58 rfl (lv_at hl 0 rfl) ?_
                refine va_get (own := RX11) (ci := 10) (v := .int u2.2.1) (C := RX11) (T := TX11) (N := 25) hx hb hts iX11 hown hK hP 0 rfl rfl 4 (by decide) k59 (fun _ h9 => h9) rfl dX11_book_59 ?_
                refine lv_icmp_ge (tgt := 89) hx hb dX11_book_62 (by decide) (fun c13 => ?_) (fun c13 => ?_)
                · skip
                  have h := (if_pos c13).symm.trans h
                  obtain rfl := Option.some.inj h
                  obtain rfl := Option.some.inj hn_e9
                  exact X89_11 (z8.2.1, z8.2.2) _ _ _ hc_e9 hP hD hS (lv_sub hl [0] rfl)
                · skip
                  have h := (if_neg c13).symm.trans h
                  refine lv_aload_n hx hb dX11_book_65 rfl (lv_at hl 0 rfl) ?_
                  refine lv_aload_n hx hb dX11_book_66 rfl (lv_at hl 0 rfl) ?_
                  refine va_get (own := RX11) (ci := 10) (v := .ref q_t_readKinds) (C := RX11) (T := TX11) (N := 25) hx hb hts iX11 hown hK hP 0 rfl rfl 2 (by decide) k13 (fun _ h9 => h9) rfl dX11_book_67 ?_
                  refine lv_iload_n hx hb dX11_book_70 rfl (lv_at hl 2 rfl) ?_
                  obtain ⟨g14, h⟩ := gd_of h
                  refine va_iald hx hb hK hP 2 0 rfl rfl (inb_of g14) dX11_book_71 ?_
                  refine lv_aload_n hx hb dX11_book_72 rfl (lv_at hl 0 rfl) ?_
                  refine va_get (own := RX11) (ci := 10) (v := .ref q_t_readLeaflets) (C := RX11) (T := TX11) (N := 25) hx hb hts iX11 hown hK hP 0 rfl rfl 3 (by decide) k16 (fun _ h9 => h9) rfl dX11_book_73 ?_
                  refine lv_iload_n hx hb dX11_book_76 rfl (lv_at hl 2 rfl) ?_
                  refine va_iald hx hb hK hP 3 0 rfl rfl (inb_of g14) dX11_book_77 ?_
                  refine lv_iload_n hx hb dX11_book_78 rfl (lv_at hl 1 rfl) ?_
                  obtain ⟨u15, g16, h⟩ := bd_of h
                  refine cl_V [(q_t, .inr (10, [.ref q_t_page, .int v_t_pageMany, .ref q_t_readKinds, .ref q_t_readLeaflets, .int u2.2.1, .int u2.2.2.1, .int u15.2.1, .int v_t_lostByHands, .int v_t_lostByMould, .ref q_t_rows, .ref q_t_debts, .int v_t_ringMany, .ref q_t_ring, .ref q_t_line, .ref q_t_groups, .ref q_t_likely, .ref q_t_likelyThen, .int v_t_seedNow, .ref q_t_saved, .int v_t_keptMany, .int v_t_keptByHands, .int v_t_keptByMould, .ref q_t_keptRows, .ref q_t_keptDebts, .long v_t_hash])), (q_t_page, .inl (cI, 22, .inl v_t_page)), (q_t_readKinds, .inl (cI, 10, .inl u2.2.2.2.1)), (q_t_readLeaflets, .inl (cI, 10, .inl u2.2.2.2.2)), (q_t_rows, .inl (cI, 80, .inl u15.2.2))] (As := [.int (u2.2.2.2.1 z8.1.toNatClampNeg), .int (u2.2.2.2.2 z8.1.toNatClampNeg), .int x1]) (rest := []) (rv := (some (.int u15.1))) (c_X11_begin l D cI cJ q_t q_t_page q_t_readKinds q_t_readLeaflets q_t_rows q_t_debts q_t_ring q_t_line q_t_groups q_t_likely q_t_likelyThen q_t_saved q_t_keptRows q_t_keptDebts v_t_pageMany u2.2.1 u2.2.2.1 z8.2.1 v_t_lostByHands v_t_lostByMould v_t_ringMany v_t_seedNow v_t_keptMany v_t_keptByHands v_t_keptByMould v_t_hash z8.2.2 (u2.2.2.2.1 z8.1.toNatClampNeg) (u2.2.2.2.2 z8.1.toNatClampNeg) x1 u15 g16) ⟨hx, hb, hml, hown, hts⟩ (cwV 3 hts gX11_book_X11_begin rfl rfl rfl (by decide +kernel) ⟨(Nat.le_of_ble_eq_true rfl), (Nat.le_of_ble_eq_true rfl)⟩) hK hN hP hD hS [0, 4] rfl (by decide) rfl rfl rfl (q0 := 0) (ci := 10) rfl rfl rfl rfl hl.1 rfl (Nat.le_of_ble_eq_true rfl) dX11_book_79 ⟨Nat.zero_le _, Nat.zero_le _⟩ (fun H locs hP hD hS => ?_)
                  show W p l e ({ frames := 3, cells := 0, slots := 0, locals := 67 } : Room) s m args below meth c H locs 0 0 Q0 (F0 m 82 ls [.int u15.1])
                  refine lv_istore_n (lv' := [(3, .int u15.1), (0, .ref q_t), (1, .int x1), (2, .int z8.1)]) hx hb dX11_book_82 rfl hl (by decide) rfl (fun ls hl => ?_)
                  refine lv_iinc (v := (z8.1 + 1)) (lv' := [(2, .int (z8.1 + 1)), (3, .int u15.1), (0, .ref q_t), (1, .int x1)]) hx hb dX11_book_83 hl (k := 3) rfl rfl (by decide) rfl (fun ls hl => ?_)
                  refine lv_goto (tgt := 57) hx hb dX11_book_86 (by decide) ?_
                  obtain rfl := Option.some.inj h
                  exact ih ((z8.1 + 1), u15.2.1, u15.2.2) _ _ _ hn_e9 hP hD hS (lv_sub hl [2, 3, 0] rfl)
            exact L57_12 FU (0, v_t_many, v_t_rows) _ _ _ he_e9 hP hD hS (lv_sub hl [1, 2, 0] rfl)
          · skip
            have h := (if_neg c7).symm.trans h
            refine lv_bipush (v := (-104)) hx hb dX11_book_52 (by decide) ?_
            obtain rfl := Option.some.inj h
            exact rt_i hA0 hQ0 hx hb hr hlocks hP hS dX11_book_54
        · skip
          have h := (if_pos c6).symm.trans h
          refine lv_bipush (v := (-103)) hx hb dX11_book_35 (by decide) ?_
          obtain rfl := Option.some.inj h
          exact rt_i hA0 hQ0 hx hb hr hlocks hP hS dX11_book_37
  · skip
    have h := (if_pos c1).symm.trans h
    refine lv_bipush (v := (-101)) hx hb dX11_book_7 (by decide) ?_
    obtain rfl := Option.some.inj h
    exact rt_i hA0 hQ0 hx hb hr hlocks hP hS dX11_book_9
def fX11_byHand (x0 : Int32) (x1 : Int32) : Int32 :=
  if x1 ≤ (if x0 = 1 then 2 else (if x0 = 4 then 3 else (if x0 = 2 then (if 5 < x1 then 0 else (if x0 = 3 then (if x1 = 9 then 0 else 1 : Int32) else 1 : Int32) : Int32) else (if x0 = 3 then (if x1 = 9 then 0 else 1 : Int32) else 1 : Int32) : Int32) : Int32) : Int32) then (0) else ((x1 - (if x0 = 1 then 2 else (if x0 = 4 then 3 else (if x0 = 2 then (if 5 < x1 then 0 else (if x0 = 3 then (if x1 = 9 then 0 else 1 : Int32) else 1 : Int32) : Int32) else (if x0 = 3 then (if x1 = 9 then 0 else 1 : Int32) else 1 : Int32) : Int32) : Int32) : Int32)))
set_option maxHeartbeats 4000000 in
set_option maxRecDepth 100000 in
theorem c_X11_byHand (l : Launch) (D : va_G) (cI cJ : ClassId) (x0 : Int32) (x1 : Int32) : Met l yX11_byHand wsX11_byHand ({ frames := 0, cells := 0, slots := 0, locals := 0 } : Room) (va_Pc [.int x0, .int x1] (preG D cI cJ [])) (QG D [] [] (some (.int (fX11_byHand x0 x1)))) 0 0 (fr []) := by
  generalize h : fX11_byHand x0 x1 = z
  refine Met.ofW (cc := cX11_byHand) (maxL := 3) (ret := (some .int)) (by decide) rfl ?_
  intro p e s m args below meth c s₁ B hml hv
  obtain ⟨hargs, hP, hK, hN, hD0⟩ := hv
  have hx := B.exec
  have hb := B.bytes
  have hr := B.returns
  have hts := atoms_spec (ws := wsX11_byHand) B.pre
  have hown : s.vm.findClass RX11 = some m.cls := findClass_of_methodNamed B.named
  have hlocks := B.notSynchronized
  have hD := fr_D hD0
  have hS : va_S (fr []) s.heap s.heap [] := va_S.rf
  have hl := lv_entry ([.int x0, .int x1]) (n := 3) (Nat.le_of_ble_eq_true rfl)
  refine W.eq (g2 := F0 m 0 ((lg_sl ([.int x0, .int x1]) ++ List.replicate (3 - (lg_sl ([.int x0, .int x1])).length) Slot.unset).toArray) []) (by rw [hargs, lg_entry_eq]) ?_
  generalize (lg_sl ([.int x0, .int x1]) ++ List.replicate (3 - (lg_sl ([.int x0, .int x1])).length) Slot.unset).toArray = ls at hl ⊢
  have hl : lv_has ls 3 [(0, .int x0), (1, .int x1)] := hl
  show W p l e ({ frames := 0, cells := 0, slots := 0, locals := 0 } : Room) s m args below meth c s.heap [] 0 0 (MQ below (QG D [] [] (some (.int z))) args s 0 0 (fr [])) (F0 m 0 ls [])
  generalize hQ0 : (MQ below (QG D [] [] (some (.int z))) args s 0 0 (fr [])) = Q0
  generalize hA0 : fr [] = A0 at hD hS
  unfold fX11_byHand at h
  refine lv_iload_n hx hb dX11_byHand_0 rfl (lv_at hl 0 rfl) ?_
  refine lv_iconst (v := 1) hx hb dX11_byHand_1 (by decide) ?_
  have K44_1 : ∀ (w2 : Int32) (H : Heap) (locs : List Loc) (ls : Array Slot), w2 = (if x0 = 1 then 2 else (if x0 = 4 then 3 else (if x0 = 2 then (if 5 < x1 then 0 else (if x0 = 3 then (if x1 = 9 then 0 else 1 : Int32) else 1 : Int32) : Int32) else (if x0 = 3 then (if x1 = 9 then 0 else 1 : Int32) else 1 : Int32) : Int32) : Int32) : Int32) → va_P D vwCl [] H → va_D A0 [] → va_S A0 s.heap H locs → lv_has ls 3 [(1, .int x1)] → W p l e ({ frames := 0, cells := 0, slots := 0, locals := 0 } : Room) s m args below meth c H locs 0 0 Q0 (F0 m 44 ls [.int w2]) := by
    intro w2 H locs ls e_w2 hP hD hS hl
    subst e_w2
    refine lv_istore_n (lv' := [(2, .int (if x0 = 1 then 2 else (if x0 = 4 then 3 else (if x0 = 2 then (if 5 < x1 then 0 else (if x0 = 3 then (if x1 = 9 then 0 else 1 : Int32) else 1 : Int32) : Int32) else (if x0 = 3 then (if x1 = 9 then 0 else 1 : Int32) else 1 : Int32) : Int32) : Int32) : Int32)), (1, .int x1)]) hx hb dX11_byHand_44 rfl hl (by decide) rfl (fun ls hl => ?_)
    refine lv_iload_n hx hb dX11_byHand_45 rfl (lv_at hl 1 rfl) ?_
    refine lv_iload_n hx hb dX11_byHand_46 rfl (lv_at hl 0 rfl) ?_
    refine lv_icmp_le (tgt := 56) hx hb dX11_byHand_47 (by decide) (fun c3 => ?_) (fun c3 => ?_)
    · skip
      have h := (if_pos c3).symm.trans h
      refine lv_iconst (v := 0) hx hb dX11_byHand_56 (by decide) ?_
      subst h
      exact rt_i hA0 hQ0 hx hb hr hlocks hP hS dX11_byHand_57
    · skip
      have h := (if_neg c3).symm.trans h
      refine lv_iload_n hx hb dX11_byHand_50 rfl (lv_at hl 1 rfl) ?_
      refine lv_iload_n hx hb dX11_byHand_51 rfl (lv_at hl 0 rfl) ?_
      refine lv_isub hx hb dX11_byHand_52 ?_
      refine lv_goto (tgt := 57) hx hb dX11_byHand_53 (by decide) ?_
      subst h
      exact rt_i hA0 hQ0 hx hb hr hlocks hP hS dX11_byHand_57
  refine lv_icmp_ne (tgt := 9) hx hb dX11_byHand_2 (by decide) (fun c4 => ?_) (fun c4 => ?_)
  · skip
    refine lv_iload_n hx hb dX11_byHand_9 rfl (lv_at hl 0 rfl) ?_
    refine lv_iconst (v := 4) hx hb dX11_byHand_10 (by decide) ?_
    refine lv_icmp_ne (tgt := 18) hx hb dX11_byHand_11 (by decide) (fun c5 => ?_) (fun c5 => ?_)
    · skip
      refine lv_iload_n hx hb dX11_byHand_18 rfl (lv_at hl 0 rfl) ?_
      refine lv_iconst (v := 2) hx hb dX11_byHand_19 (by decide) ?_
      refine lv_icmp_ne (tgt := 28) hx hb dX11_byHand_20 (by decide) (fun c6 => ?_) (fun c6 => ?_)
      · skip
        refine lv_iload_n hx hb dX11_byHand_28 rfl (lv_at hl 0 rfl) ?_
        refine lv_iconst (v := 3) hx hb dX11_byHand_29 (by decide) ?_
        refine lv_icmp_ne (tgt := 43) hx hb dX11_byHand_30 (by decide) (fun c7 => ?_) (fun c7 => ?_)
        · skip
          refine lv_iconst (v := 1) hx hb dX11_byHand_43 (by decide) ?_
          exact K44_1 1 _ _ _ (by rw [if_neg c4, if_neg c5, if_neg c6, if_neg c7]) hP hD hS (lv_sub hl [1] rfl)
        · skip
          refine lv_iload_n hx hb dX11_byHand_33 rfl (lv_at hl 1 rfl) ?_
          refine lv_bipush (v := 9) hx hb dX11_byHand_34 (by decide) ?_
          refine lv_icmp_ne (tgt := 43) hx hb dX11_byHand_36 (by decide) (fun c8 => ?_) (fun c8 => ?_)
          · skip
            refine lv_iconst (v := 1) hx hb dX11_byHand_43 (by decide) ?_
            exact K44_1 1 _ _ _ (by rw [if_neg c4, if_neg c5, if_neg c6, if_pos c7, if_neg c8]) hP hD hS (lv_sub hl [1] rfl)
          · skip
            refine lv_iconst (v := 0) hx hb dX11_byHand_39 (by decide) ?_
            refine lv_goto (tgt := 44) hx hb dX11_byHand_40 (by decide) ?_
            exact K44_1 0 _ _ _ (by rw [if_neg c4, if_neg c5, if_neg c6, if_pos c7, if_pos c8]) hP hD hS (lv_sub hl [1] rfl)
      · skip
        refine lv_iload_n hx hb dX11_byHand_23 rfl (lv_at hl 1 rfl) ?_
        refine lv_iconst (v := 5) hx hb dX11_byHand_24 (by decide) ?_
        refine lv_icmp_gt (tgt := 39) hx hb dX11_byHand_25 (by decide) (fun c9 => ?_) (fun c9 => ?_)
        · skip
          refine lv_iconst (v := 0) hx hb dX11_byHand_39 (by decide) ?_
          refine lv_goto (tgt := 44) hx hb dX11_byHand_40 (by decide) ?_
          exact K44_1 0 _ _ _ (by rw [if_neg c4, if_neg c5, if_pos c6, if_pos c9]) hP hD hS (lv_sub hl [1] rfl)
        · skip
          refine lv_iload_n hx hb dX11_byHand_28 rfl (lv_at hl 0 rfl) ?_
          refine lv_iconst (v := 3) hx hb dX11_byHand_29 (by decide) ?_
          refine lv_icmp_ne (tgt := 43) hx hb dX11_byHand_30 (by decide) (fun c10 => ?_) (fun c10 => ?_)
          · skip
            refine lv_iconst (v := 1) hx hb dX11_byHand_43 (by decide) ?_
            exact K44_1 1 _ _ _ (by rw [if_neg c4, if_neg c5, if_pos c6, if_neg c9, if_neg c10]) hP hD hS (lv_sub hl [1] rfl)
          · skip
            refine lv_iload_n hx hb dX11_byHand_33 rfl (lv_at hl 1 rfl) ?_
            refine lv_bipush (v := 9) hx hb dX11_byHand_34 (by decide) ?_
            refine lv_icmp_ne (tgt := 43) hx hb dX11_byHand_36 (by decide) (fun c11 => ?_) (fun c11 => ?_)
            · skip
              refine lv_iconst (v := 1) hx hb dX11_byHand_43 (by decide) ?_
              exact K44_1 1 _ _ _ (by rw [if_neg c4, if_neg c5, if_pos c6, if_neg c9, if_pos c10, if_neg c11]) hP hD hS (lv_sub hl [1] rfl)
            · skip
              refine lv_iconst (v := 0) hx hb dX11_byHand_39 (by decide) ?_
              refine lv_goto (tgt := 44) hx hb dX11_byHand_40 (by decide) ?_
              exact K44_1 0 _ _ _ (by rw [if_neg c4, if_neg c5, if_pos c6, if_neg c9, if_pos c10, if_pos c11]) hP hD hS (lv_sub hl [1] rfl)
    · skip
      refine lv_iconst (v := 3) hx hb dX11_byHand_14 (by decide) ?_
      refine lv_goto (tgt := 44) hx hb dX11_byHand_15 (by decide) ?_
      exact K44_1 3 _ _ _ (by rw [if_neg c4, if_pos c5]) hP hD hS (lv_sub hl [1] rfl)
  · skip
    refine lv_iconst (v := 2) hx hb dX11_byHand_5 (by decide) ?_
    refine lv_goto (tgt := 44) hx hb dX11_byHand_6 (by decide) ?_
    exact K44_1 2 _ _ _ (by rw [if_pos c4]) hP hD hS (lv_sub hl [1] rfl)
def fX11_byMould (x0 : Int32) (x1 : Int32) : Int32 :=
  if x1 ≤ (if x0 = 3 then 0 else (if x0 = 4 then 2 else 1 : Int32) : Int32) then (0) else ((x1 - (if x0 = 3 then 0 else (if x0 = 4 then 2 else 1 : Int32) : Int32)))
set_option maxHeartbeats 4000000 in
set_option maxRecDepth 100000 in
theorem c_X11_byMould (l : Launch) (D : va_G) (cI cJ : ClassId) (x0 : Int32) (x1 : Int32) : Met l yX11_byMould wsX11_byMould ({ frames := 0, cells := 0, slots := 0, locals := 0 } : Room) (va_Pc [.int x0, .int x1] (preG D cI cJ [])) (QG D [] [] (some (.int (fX11_byMould x0 x1)))) 0 0 (fr []) := by
  generalize h : fX11_byMould x0 x1 = z
  refine Met.ofW (cc := cX11_byMould) (maxL := 3) (ret := (some .int)) (by decide) rfl ?_
  intro p e s m args below meth c s₁ B hml hv
  obtain ⟨hargs, hP, hK, hN, hD0⟩ := hv
  have hx := B.exec
  have hb := B.bytes
  have hr := B.returns
  have hts := atoms_spec (ws := wsX11_byMould) B.pre
  have hown : s.vm.findClass RX11 = some m.cls := findClass_of_methodNamed B.named
  have hlocks := B.notSynchronized
  have hD := fr_D hD0
  have hS : va_S (fr []) s.heap s.heap [] := va_S.rf
  have hl := lv_entry ([.int x0, .int x1]) (n := 3) (Nat.le_of_ble_eq_true rfl)
  refine W.eq (g2 := F0 m 0 ((lg_sl ([.int x0, .int x1]) ++ List.replicate (3 - (lg_sl ([.int x0, .int x1])).length) Slot.unset).toArray) []) (by rw [hargs, lg_entry_eq]) ?_
  generalize (lg_sl ([.int x0, .int x1]) ++ List.replicate (3 - (lg_sl ([.int x0, .int x1])).length) Slot.unset).toArray = ls at hl ⊢
  have hl : lv_has ls 3 [(0, .int x0), (1, .int x1)] := hl
  show W p l e ({ frames := 0, cells := 0, slots := 0, locals := 0 } : Room) s m args below meth c s.heap [] 0 0 (MQ below (QG D [] [] (some (.int z))) args s 0 0 (fr [])) (F0 m 0 ls [])
  generalize hQ0 : (MQ below (QG D [] [] (some (.int z))) args s 0 0 (fr [])) = Q0
  generalize hA0 : fr [] = A0 at hD hS
  unfold fX11_byMould at h
  refine lv_iload_n hx hb dX11_byMould_0 rfl (lv_at hl 0 rfl) ?_
  refine lv_iconst (v := 3) hx hb dX11_byMould_1 (by decide) ?_
  have K19_1 : ∀ (w2 : Int32) (H : Heap) (locs : List Loc) (ls : Array Slot), w2 = (if x0 = 3 then 0 else (if x0 = 4 then 2 else 1 : Int32) : Int32) → va_P D vwCl [] H → va_D A0 [] → va_S A0 s.heap H locs → lv_has ls 3 [(1, .int x1)] → W p l e ({ frames := 0, cells := 0, slots := 0, locals := 0 } : Room) s m args below meth c H locs 0 0 Q0 (F0 m 19 ls [.int w2]) := by
    intro w2 H locs ls e_w2 hP hD hS hl
    subst e_w2
    refine lv_istore_n (lv' := [(2, .int (if x0 = 3 then 0 else (if x0 = 4 then 2 else 1 : Int32) : Int32)), (1, .int x1)]) hx hb dX11_byMould_19 rfl hl (by decide) rfl (fun ls hl => ?_)
    refine lv_iload_n hx hb dX11_byMould_20 rfl (lv_at hl 1 rfl) ?_
    refine lv_iload_n hx hb dX11_byMould_21 rfl (lv_at hl 0 rfl) ?_
    refine lv_icmp_le (tgt := 31) hx hb dX11_byMould_22 (by decide) (fun c3 => ?_) (fun c3 => ?_)
    · skip
      have h := (if_pos c3).symm.trans h
      refine lv_iconst (v := 0) hx hb dX11_byMould_31 (by decide) ?_
      subst h
      exact rt_i hA0 hQ0 hx hb hr hlocks hP hS dX11_byMould_32
    · skip
      have h := (if_neg c3).symm.trans h
      refine lv_iload_n hx hb dX11_byMould_25 rfl (lv_at hl 1 rfl) ?_
      refine lv_iload_n hx hb dX11_byMould_26 rfl (lv_at hl 0 rfl) ?_
      refine lv_isub hx hb dX11_byMould_27 ?_
      refine lv_goto (tgt := 32) hx hb dX11_byMould_28 (by decide) ?_
      subst h
      exact rt_i hA0 hQ0 hx hb hr hlocks hP hS dX11_byMould_32
  refine lv_icmp_ne (tgt := 9) hx hb dX11_byMould_2 (by decide) (fun c4 => ?_) (fun c4 => ?_)
  · skip
    refine lv_iload_n hx hb dX11_byMould_9 rfl (lv_at hl 0 rfl) ?_
    refine lv_iconst (v := 4) hx hb dX11_byMould_10 (by decide) ?_
    refine lv_icmp_ne (tgt := 18) hx hb dX11_byMould_11 (by decide) (fun c5 => ?_) (fun c5 => ?_)
    · skip
      refine lv_iconst (v := 1) hx hb dX11_byMould_18 (by decide) ?_
      exact K19_1 1 _ _ _ (by rw [if_neg c4, if_neg c5]) hP hD hS (lv_sub hl [1] rfl)
    · skip
      refine lv_iconst (v := 2) hx hb dX11_byMould_14 (by decide) ?_
      refine lv_goto (tgt := 19) hx hb dX11_byMould_15 (by decide) ?_
      exact K19_1 2 _ _ _ (by rw [if_neg c4, if_pos c5]) hP hD hS (lv_sub hl [1] rfl)
  · skip
    refine lv_iconst (v := 0) hx hb dX11_byMould_5 (by decide) ?_
    refine lv_goto (tgt := 19) hx hb dX11_byMould_6 (by decide) ?_
    exact K19_1 0 _ _ _ (by rw [if_pos c4]) hP hD hS (lv_sub hl [1] rfl)
def fX11_worth (v_t_pageMany : Int32) (v_t_readMany : Int32) (v_t_told : Int32) (v_t_many : Int32) (v_t_lostByHands : Int32) (v_t_lostByMould : Int32) (v_t_ringMany : Int32) (v_t_seedNow : Int32) (v_t_keptMany : Int32) (v_t_keptByHands : Int32) (v_t_keptByMould : Int32) (v_t_hash : Int64) (v_t_rows : Nat → Int32) (x1 : Int32) : Option (Int32) :=
  gd (inb (8 * x1) 80) (gd (inb ((8 * x1) + 1) 80) (some (fX11_byHand (v_t_rows (8 * x1).toNatClampNeg) (v_t_rows ((8 * x1) + 1).toNatClampNeg))))
set_option maxHeartbeats 4000000 in
set_option maxRecDepth 100000 in
theorem c_X11_worth (l : Launch) (D : va_G) (cI cJ : ClassId) (q_t q_t_page q_t_readKinds q_t_readLeaflets q_t_rows q_t_debts q_t_ring q_t_line q_t_groups q_t_likely q_t_likelyThen q_t_saved q_t_keptRows q_t_keptDebts : Nat) (v_t_pageMany : Int32) (v_t_readMany : Int32) (v_t_told : Int32) (v_t_many : Int32) (v_t_lostByHands : Int32) (v_t_lostByMould : Int32) (v_t_ringMany : Int32) (v_t_seedNow : Int32) (v_t_keptMany : Int32) (v_t_keptByHands : Int32) (v_t_keptByMould : Int32) (v_t_hash : Int64) (v_t_rows : Nat → Int32) (x1 : Int32) (z : Int32) (h : fX11_worth v_t_pageMany v_t_readMany v_t_told v_t_many v_t_lostByHands v_t_lostByMould v_t_ringMany v_t_seedNow v_t_keptMany v_t_keptByHands v_t_keptByMould v_t_hash v_t_rows x1 = some z) : Met l yX11_worth wsX11_worth ({ frames := 1, cells := 0, slots := 0, locals := 22 } : Room) (va_Pc [.ref q_t, .int x1] (preG D cI cJ [(q_t, .inr (10, [.ref q_t_page, .int v_t_pageMany, .ref q_t_readKinds, .ref q_t_readLeaflets, .int v_t_readMany, .int v_t_told, .int v_t_many, .int v_t_lostByHands, .int v_t_lostByMould, .ref q_t_rows, .ref q_t_debts, .int v_t_ringMany, .ref q_t_ring, .ref q_t_line, .ref q_t_groups, .ref q_t_likely, .ref q_t_likelyThen, .int v_t_seedNow, .ref q_t_saved, .int v_t_keptMany, .int v_t_keptByHands, .int v_t_keptByMould, .ref q_t_keptRows, .ref q_t_keptDebts, .long v_t_hash])), (q_t_rows, .inl (cI, 80, .inl v_t_rows))])) (QG D [(q_t, .inr (10, [.ref q_t_page, .int v_t_pageMany, .ref q_t_readKinds, .ref q_t_readLeaflets, .int v_t_readMany, .int v_t_told, .int v_t_many, .int v_t_lostByHands, .int v_t_lostByMould, .ref q_t_rows, .ref q_t_debts, .int v_t_ringMany, .ref q_t_ring, .ref q_t_line, .ref q_t_groups, .ref q_t_likely, .ref q_t_likelyThen, .int v_t_seedNow, .ref q_t_saved, .int v_t_keptMany, .int v_t_keptByHands, .int v_t_keptByMould, .ref q_t_keptRows, .ref q_t_keptDebts, .long v_t_hash])), (q_t_rows, .inl (cI, 80, .inl v_t_rows))] [(q_t, .inr (10, [.ref q_t_page, .int v_t_pageMany, .ref q_t_readKinds, .ref q_t_readLeaflets, .int v_t_readMany, .int v_t_told, .int v_t_many, .int v_t_lostByHands, .int v_t_lostByMould, .ref q_t_rows, .ref q_t_debts, .int v_t_ringMany, .ref q_t_ring, .ref q_t_line, .ref q_t_groups, .ref q_t_likely, .ref q_t_likelyThen, .int v_t_seedNow, .ref q_t_saved, .int v_t_keptMany, .int v_t_keptByHands, .int v_t_keptByMould, .ref q_t_keptRows, .ref q_t_keptDebts, .long v_t_hash])), (q_t_rows, .inl (cI, 80, .inl v_t_rows))] (some (.int z))) 0 0 (fr [(q_t, .inr (10, [.ref q_t_page, .int v_t_pageMany, .ref q_t_readKinds, .ref q_t_readLeaflets, .int v_t_readMany, .int v_t_told, .int v_t_many, .int v_t_lostByHands, .int v_t_lostByMould, .ref q_t_rows, .ref q_t_debts, .int v_t_ringMany, .ref q_t_ring, .ref q_t_line, .ref q_t_groups, .ref q_t_likely, .ref q_t_likelyThen, .int v_t_seedNow, .ref q_t_saved, .int v_t_keptMany, .int v_t_keptByHands, .int v_t_keptByMould, .ref q_t_keptRows, .ref q_t_keptDebts, .long v_t_hash])), (q_t_rows, .inl (cI, 80, .inl v_t_rows))]) := by
  refine Met.ofW (cc := cX11_worth) (maxL := 2) (ret := (some .int)) (by decide) rfl ?_
  intro p e s m args below meth c s₁ B hml hv
  obtain ⟨hargs, hP, hK, hN, hD0⟩ := hv
  have hx := B.exec
  have hb := B.bytes
  have hr := B.returns
  have hts := atoms_spec (ws := wsX11_worth) B.pre
  have hown : s.vm.findClass RX11 = some m.cls := findClass_of_methodNamed B.named
  have hlocks := B.notSynchronized
  have iX11 : ∀ w ∈ wsX110, w ∈ wsX11_worth := by decide +kernel
  have k19 := hts (.fieldLink RX11 19 "PressedFernsModel" "rows" "[I") (by decide +kernel)
  have hD := fr_D hD0
  have hS : va_S (fr [(q_t, .inr (10, [.ref q_t_page, .int v_t_pageMany, .ref q_t_readKinds, .ref q_t_readLeaflets, .int v_t_readMany, .int v_t_told, .int v_t_many, .int v_t_lostByHands, .int v_t_lostByMould, .ref q_t_rows, .ref q_t_debts, .int v_t_ringMany, .ref q_t_ring, .ref q_t_line, .ref q_t_groups, .ref q_t_likely, .ref q_t_likelyThen, .int v_t_seedNow, .ref q_t_saved, .int v_t_keptMany, .int v_t_keptByHands, .int v_t_keptByMould, .ref q_t_keptRows, .ref q_t_keptDebts, .long v_t_hash])), (q_t_rows, .inl (cI, 80, .inl v_t_rows))]) s.heap s.heap [] := va_S.rf
  have hl := lv_entry ([.ref q_t, .int x1]) (n := 2) (Nat.le_of_ble_eq_true rfl)
  refine W.eq (g2 := F0 m 0 ((lg_sl ([.ref q_t, .int x1]) ++ List.replicate (2 - (lg_sl ([.ref q_t, .int x1])).length) Slot.unset).toArray) []) (by rw [hargs, lg_entry_eq]) ?_
  generalize (lg_sl ([.ref q_t, .int x1]) ++ List.replicate (2 - (lg_sl ([.ref q_t, .int x1])).length) Slot.unset).toArray = ls at hl ⊢
  have hl : lv_has ls 2 [(0, .ref q_t), (1, .int x1)] := hl
  show W p l e ({ frames := 1, cells := 0, slots := 0, locals := 22 } : Room) s m args below meth c s.heap [] 0 0 (MQ below (QG D [(q_t, .inr (10, [.ref q_t_page, .int v_t_pageMany, .ref q_t_readKinds, .ref q_t_readLeaflets, .int v_t_readMany, .int v_t_told, .int v_t_many, .int v_t_lostByHands, .int v_t_lostByMould, .ref q_t_rows, .ref q_t_debts, .int v_t_ringMany, .ref q_t_ring, .ref q_t_line, .ref q_t_groups, .ref q_t_likely, .ref q_t_likelyThen, .int v_t_seedNow, .ref q_t_saved, .int v_t_keptMany, .int v_t_keptByHands, .int v_t_keptByMould, .ref q_t_keptRows, .ref q_t_keptDebts, .long v_t_hash])), (q_t_rows, .inl (cI, 80, .inl v_t_rows))] [(q_t, .inr (10, [.ref q_t_page, .int v_t_pageMany, .ref q_t_readKinds, .ref q_t_readLeaflets, .int v_t_readMany, .int v_t_told, .int v_t_many, .int v_t_lostByHands, .int v_t_lostByMould, .ref q_t_rows, .ref q_t_debts, .int v_t_ringMany, .ref q_t_ring, .ref q_t_line, .ref q_t_groups, .ref q_t_likely, .ref q_t_likelyThen, .int v_t_seedNow, .ref q_t_saved, .int v_t_keptMany, .int v_t_keptByHands, .int v_t_keptByMould, .ref q_t_keptRows, .ref q_t_keptDebts, .long v_t_hash])), (q_t_rows, .inl (cI, 80, .inl v_t_rows))] (some (.int z))) args s 0 0 (fr [(q_t, .inr (10, [.ref q_t_page, .int v_t_pageMany, .ref q_t_readKinds, .ref q_t_readLeaflets, .int v_t_readMany, .int v_t_told, .int v_t_many, .int v_t_lostByHands, .int v_t_lostByMould, .ref q_t_rows, .ref q_t_debts, .int v_t_ringMany, .ref q_t_ring, .ref q_t_line, .ref q_t_groups, .ref q_t_likely, .ref q_t_likelyThen, .int v_t_seedNow, .ref q_t_saved, .int v_t_keptMany, .int v_t_keptByHands, .int v_t_keptByMould, .ref q_t_keptRows, .ref q_t_keptDebts, .long v_t_hash])), (q_t_rows, .inl (cI, 80, .inl v_t_rows))])) (F0 m 0 ls [])
  generalize hQ0 : (MQ below (QG D [(q_t, .inr (10, [.ref q_t_page, .int v_t_pageMany, .ref q_t_readKinds, .ref q_t_readLeaflets, .int v_t_readMany, .int v_t_told, .int v_t_many, .int v_t_lostByHands, .int v_t_lostByMould, .ref q_t_rows, .ref q_t_debts, .int v_t_ringMany, .ref q_t_ring, .ref q_t_line, .ref q_t_groups, .ref q_t_likely, .ref q_t_likelyThen, .int v_t_seedNow, .ref q_t_saved, .int v_t_keptMany, .int v_t_keptByHands, .int v_t_keptByMould, .ref q_t_keptRows, .ref q_t_keptDebts, .long v_t_hash])), (q_t_rows, .inl (cI, 80, .inl v_t_rows))] [(q_t, .inr (10, [.ref q_t_page, .int v_t_pageMany, .ref q_t_readKinds, .ref q_t_readLeaflets, .int v_t_readMany, .int v_t_told, .int v_t_many, .int v_t_lostByHands, .int v_t_lostByMould, .ref q_t_rows, .ref q_t_debts, .int v_t_ringMany, .ref q_t_ring, .ref q_t_line, .ref q_t_groups, .ref q_t_likely, .ref q_t_likelyThen, .int v_t_seedNow, .ref q_t_saved, .int v_t_keptMany, .int v_t_keptByHands, .int v_t_keptByMould, .ref q_t_keptRows, .ref q_t_keptDebts, .long v_t_hash])), (q_t_rows, .inl (cI, 80, .inl v_t_rows))] (some (.int z))) args s 0 0 (fr [(q_t, .inr (10, [.ref q_t_page, .int v_t_pageMany, .ref q_t_readKinds, .ref q_t_readLeaflets, .int v_t_readMany, .int v_t_told, .int v_t_many, .int v_t_lostByHands, .int v_t_lostByMould, .ref q_t_rows, .ref q_t_debts, .int v_t_ringMany, .ref q_t_ring, .ref q_t_line, .ref q_t_groups, .ref q_t_likely, .ref q_t_likelyThen, .int v_t_seedNow, .ref q_t_saved, .int v_t_keptMany, .int v_t_keptByHands, .int v_t_keptByMould, .ref q_t_keptRows, .ref q_t_keptDebts, .long v_t_hash])), (q_t_rows, .inl (cI, 80, .inl v_t_rows))])) = Q0
  generalize hA0 : fr [(q_t, .inr (10, [.ref q_t_page, .int v_t_pageMany, .ref q_t_readKinds, .ref q_t_readLeaflets, .int v_t_readMany, .int v_t_told, .int v_t_many, .int v_t_lostByHands, .int v_t_lostByMould, .ref q_t_rows, .ref q_t_debts, .int v_t_ringMany, .ref q_t_ring, .ref q_t_line, .ref q_t_groups, .ref q_t_likely, .ref q_t_likelyThen, .int v_t_seedNow, .ref q_t_saved, .int v_t_keptMany, .int v_t_keptByHands, .int v_t_keptByMould, .ref q_t_keptRows, .ref q_t_keptDebts, .long v_t_hash])), (q_t_rows, .inl (cI, 80, .inl v_t_rows))] = A0 at hD hS
  unfold fX11_worth at h
  refine lv_aload_n hx hb dX11_worth_0 rfl (lv_at hl 0 rfl) ?_
  refine va_get (own := RX11) (ci := 10) (v := .ref q_t_rows) (C := RX11) (T := TX11) (N := 25) hx hb hts iX11 hown hK hP 0 rfl rfl 9 (by decide) k19 (fun _ h9 => h9) rfl dX11_worth_1 ?_
  refine lv_bipush (v := 8) hx hb dX11_worth_4 (by decide) ?_
  refine lv_iload_n hx hb dX11_worth_6 rfl (lv_at hl 1 rfl) ?_
  refine lv_imul hx hb dX11_worth_7 ?_
  obtain ⟨g1, h⟩ := gd_of h
  refine va_iald hx hb hK hP 1 0 rfl rfl (inb_of g1) dX11_worth_8 ?_
  refine lv_aload_n hx hb dX11_worth_9 rfl (lv_at hl 0 rfl) ?_
  refine va_get (own := RX11) (ci := 10) (v := .ref q_t_rows) (C := RX11) (T := TX11) (N := 25) hx hb hts iX11 hown hK hP 0 rfl rfl 9 (by decide) k19 (fun _ h9 => h9) rfl dX11_worth_10 ?_
  refine lv_bipush (v := 8) hx hb dX11_worth_13 (by decide) ?_
  refine lv_iload_n hx hb dX11_worth_15 rfl (lv_at hl 1 rfl) ?_
  refine lv_imul hx hb dX11_worth_16 ?_
  refine lv_iconst (v := 1) hx hb dX11_worth_17 (by decide) ?_
  refine lv_iadd hx hb dX11_worth_18 ?_
  obtain ⟨g2, h⟩ := gd_of h
  refine va_iald hx hb hK hP 1 0 rfl rfl (inb_of g2) dX11_worth_19 ?_
  refine cl_S [(q_t, .inr (10, [.ref q_t_page, .int v_t_pageMany, .ref q_t_readKinds, .ref q_t_readLeaflets, .int v_t_readMany, .int v_t_told, .int v_t_many, .int v_t_lostByHands, .int v_t_lostByMould, .ref q_t_rows, .ref q_t_debts, .int v_t_ringMany, .ref q_t_ring, .ref q_t_line, .ref q_t_groups, .ref q_t_likely, .ref q_t_likelyThen, .int v_t_seedNow, .ref q_t_saved, .int v_t_keptMany, .int v_t_keptByHands, .int v_t_keptByMould, .ref q_t_keptRows, .ref q_t_keptDebts, .long v_t_hash])), (q_t_rows, .inl (cI, 80, .inl v_t_rows))] (As := [.int (v_t_rows (8 * x1).toNatClampNeg), .int (v_t_rows ((8 * x1) + 1).toNatClampNeg)]) (rest := []) (rv := (some (.int (fX11_byHand (v_t_rows (8 * x1).toNatClampNeg) (v_t_rows ((8 * x1) + 1).toNatClampNeg))))) (c_X11_byHand l D cI cJ (v_t_rows (8 * x1).toNatClampNeg) (v_t_rows ((8 * x1) + 1).toNatClampNeg)) ⟨hx, hb, hml, hown, hts⟩ (va_cwS 2 hts gX11_worth_X11_byHand rfl rfl rfl (by decide +kernel) ⟨(Nat.le_of_ble_eq_true rfl), (Nat.le_of_ble_eq_true rfl)⟩) hK hN hP hD hS [] rfl (by decide) rfl rfl rfl rfl hl.1 rfl (Nat.le_of_ble_eq_true rfl) dX11_worth_20 ⟨Nat.zero_le _, Nat.zero_le _⟩ (fun H locs hP hD hS => ?_)
  show W p l e ({ frames := 1, cells := 0, slots := 0, locals := 22 } : Room) s m args below meth c H locs 0 0 Q0 (F0 m 23 ls [.int (fX11_byHand (v_t_rows (8 * x1).toNatClampNeg) (v_t_rows ((8 * x1) + 1).toNatClampNeg))])
  obtain rfl := Option.some.inj h
  exact rt_i hA0 hQ0 hx hb hr hlocks hP hS dX11_worth_23
def fX11_tell (v_t_pageMany : Int32) (v_t_readMany : Int32) (v_t_told : Int32) (v_t_many : Int32) (v_t_lostByHands : Int32) (v_t_lostByMould : Int32) (v_t_ringMany : Int32) (v_t_seedNow : Int32) (v_t_keptMany : Int32) (v_t_keptByHands : Int32) (v_t_keptByMould : Int32) (v_t_hash : Int64) (v_t_rows : Nat → Int32) (x1 : Int32) (x2 : Int32) : Option (Int32) :=
  if x2 = 3 then ((fX11_worth v_t_pageMany v_t_readMany v_t_told v_t_many v_t_lostByHands v_t_lostByMould v_t_ringMany v_t_seedNow v_t_keptMany v_t_keptByHands v_t_keptByMould v_t_hash v_t_rows x1).bind (fun u4 => some u4)) else (if (fX11_in ((x2 : Int32).toInt64) 0 7) = 0 then (some (-102)) else (gd (inb ((8 * x1) + x2) 80) (some (v_t_rows ((8 * x1) + x2).toNatClampNeg))))
set_option maxHeartbeats 4000000 in
set_option maxRecDepth 100000 in
theorem c_X11_tell (l : Launch) (D : va_G) (cI cJ : ClassId) (q_t q_t_page q_t_readKinds q_t_readLeaflets q_t_rows q_t_debts q_t_ring q_t_line q_t_groups q_t_likely q_t_likelyThen q_t_saved q_t_keptRows q_t_keptDebts : Nat) (v_t_pageMany : Int32) (v_t_readMany : Int32) (v_t_told : Int32) (v_t_many : Int32) (v_t_lostByHands : Int32) (v_t_lostByMould : Int32) (v_t_ringMany : Int32) (v_t_seedNow : Int32) (v_t_keptMany : Int32) (v_t_keptByHands : Int32) (v_t_keptByMould : Int32) (v_t_hash : Int64) (v_t_rows : Nat → Int32) (x1 : Int32) (x2 : Int32) (z : Int32) (h : fX11_tell v_t_pageMany v_t_readMany v_t_told v_t_many v_t_lostByHands v_t_lostByMould v_t_ringMany v_t_seedNow v_t_keptMany v_t_keptByHands v_t_keptByMould v_t_hash v_t_rows x1 x2 = some z) : Met l yX11_tell wsX11_tell ({ frames := 2, cells := 0, slots := 0, locals := 43 } : Room) (va_Pc [.ref q_t, .int x1, .int x2] (preG D cI cJ [(q_t, .inr (10, [.ref q_t_page, .int v_t_pageMany, .ref q_t_readKinds, .ref q_t_readLeaflets, .int v_t_readMany, .int v_t_told, .int v_t_many, .int v_t_lostByHands, .int v_t_lostByMould, .ref q_t_rows, .ref q_t_debts, .int v_t_ringMany, .ref q_t_ring, .ref q_t_line, .ref q_t_groups, .ref q_t_likely, .ref q_t_likelyThen, .int v_t_seedNow, .ref q_t_saved, .int v_t_keptMany, .int v_t_keptByHands, .int v_t_keptByMould, .ref q_t_keptRows, .ref q_t_keptDebts, .long v_t_hash])), (q_t_rows, .inl (cI, 80, .inl v_t_rows))])) (QG D [(q_t, .inr (10, [.ref q_t_page, .int v_t_pageMany, .ref q_t_readKinds, .ref q_t_readLeaflets, .int v_t_readMany, .int v_t_told, .int v_t_many, .int v_t_lostByHands, .int v_t_lostByMould, .ref q_t_rows, .ref q_t_debts, .int v_t_ringMany, .ref q_t_ring, .ref q_t_line, .ref q_t_groups, .ref q_t_likely, .ref q_t_likelyThen, .int v_t_seedNow, .ref q_t_saved, .int v_t_keptMany, .int v_t_keptByHands, .int v_t_keptByMould, .ref q_t_keptRows, .ref q_t_keptDebts, .long v_t_hash])), (q_t_rows, .inl (cI, 80, .inl v_t_rows))] [(q_t, .inr (10, [.ref q_t_page, .int v_t_pageMany, .ref q_t_readKinds, .ref q_t_readLeaflets, .int v_t_readMany, .int v_t_told, .int v_t_many, .int v_t_lostByHands, .int v_t_lostByMould, .ref q_t_rows, .ref q_t_debts, .int v_t_ringMany, .ref q_t_ring, .ref q_t_line, .ref q_t_groups, .ref q_t_likely, .ref q_t_likelyThen, .int v_t_seedNow, .ref q_t_saved, .int v_t_keptMany, .int v_t_keptByHands, .int v_t_keptByMould, .ref q_t_keptRows, .ref q_t_keptDebts, .long v_t_hash])), (q_t_rows, .inl (cI, 80, .inl v_t_rows))] (some (.int z))) 0 0 (fr [(q_t, .inr (10, [.ref q_t_page, .int v_t_pageMany, .ref q_t_readKinds, .ref q_t_readLeaflets, .int v_t_readMany, .int v_t_told, .int v_t_many, .int v_t_lostByHands, .int v_t_lostByMould, .ref q_t_rows, .ref q_t_debts, .int v_t_ringMany, .ref q_t_ring, .ref q_t_line, .ref q_t_groups, .ref q_t_likely, .ref q_t_likelyThen, .int v_t_seedNow, .ref q_t_saved, .int v_t_keptMany, .int v_t_keptByHands, .int v_t_keptByMould, .ref q_t_keptRows, .ref q_t_keptDebts, .long v_t_hash])), (q_t_rows, .inl (cI, 80, .inl v_t_rows))]) := by
  refine Met.ofW (cc := cX11_tell) (maxL := 3) (ret := (some .int)) (by decide) rfl ?_
  intro p e s m args below meth c s₁ B hml hv
  obtain ⟨hargs, hP, hK, hN, hD0⟩ := hv
  have hx := B.exec
  have hb := B.bytes
  have hr := B.returns
  have hts := atoms_spec (ws := wsX11_tell) B.pre
  have hown : s.vm.findClass RX11 = some m.cls := findClass_of_methodNamed B.named
  have hlocks := B.notSynchronized
  have iX11 : ∀ w ∈ wsX110, w ∈ wsX11_tell := by decide +kernel
  have k19 := hts (.fieldLink RX11 19 "PressedFernsModel" "rows" "[I") (by decide +kernel)
  have hD := fr_D hD0
  have hS : va_S (fr [(q_t, .inr (10, [.ref q_t_page, .int v_t_pageMany, .ref q_t_readKinds, .ref q_t_readLeaflets, .int v_t_readMany, .int v_t_told, .int v_t_many, .int v_t_lostByHands, .int v_t_lostByMould, .ref q_t_rows, .ref q_t_debts, .int v_t_ringMany, .ref q_t_ring, .ref q_t_line, .ref q_t_groups, .ref q_t_likely, .ref q_t_likelyThen, .int v_t_seedNow, .ref q_t_saved, .int v_t_keptMany, .int v_t_keptByHands, .int v_t_keptByMould, .ref q_t_keptRows, .ref q_t_keptDebts, .long v_t_hash])), (q_t_rows, .inl (cI, 80, .inl v_t_rows))]) s.heap s.heap [] := va_S.rf
  have hl := lv_entry ([.ref q_t, .int x1, .int x2]) (n := 3) (Nat.le_of_ble_eq_true rfl)
  refine W.eq (g2 := F0 m 0 ((lg_sl ([.ref q_t, .int x1, .int x2]) ++ List.replicate (3 - (lg_sl ([.ref q_t, .int x1, .int x2])).length) Slot.unset).toArray) []) (by rw [hargs, lg_entry_eq]) ?_
  generalize (lg_sl ([.ref q_t, .int x1, .int x2]) ++ List.replicate (3 - (lg_sl ([.ref q_t, .int x1, .int x2])).length) Slot.unset).toArray = ls at hl ⊢
  have hl : lv_has ls 3 [(0, .ref q_t), (1, .int x1), (2, .int x2)] := hl
  show W p l e ({ frames := 2, cells := 0, slots := 0, locals := 43 } : Room) s m args below meth c s.heap [] 0 0 (MQ below (QG D [(q_t, .inr (10, [.ref q_t_page, .int v_t_pageMany, .ref q_t_readKinds, .ref q_t_readLeaflets, .int v_t_readMany, .int v_t_told, .int v_t_many, .int v_t_lostByHands, .int v_t_lostByMould, .ref q_t_rows, .ref q_t_debts, .int v_t_ringMany, .ref q_t_ring, .ref q_t_line, .ref q_t_groups, .ref q_t_likely, .ref q_t_likelyThen, .int v_t_seedNow, .ref q_t_saved, .int v_t_keptMany, .int v_t_keptByHands, .int v_t_keptByMould, .ref q_t_keptRows, .ref q_t_keptDebts, .long v_t_hash])), (q_t_rows, .inl (cI, 80, .inl v_t_rows))] [(q_t, .inr (10, [.ref q_t_page, .int v_t_pageMany, .ref q_t_readKinds, .ref q_t_readLeaflets, .int v_t_readMany, .int v_t_told, .int v_t_many, .int v_t_lostByHands, .int v_t_lostByMould, .ref q_t_rows, .ref q_t_debts, .int v_t_ringMany, .ref q_t_ring, .ref q_t_line, .ref q_t_groups, .ref q_t_likely, .ref q_t_likelyThen, .int v_t_seedNow, .ref q_t_saved, .int v_t_keptMany, .int v_t_keptByHands, .int v_t_keptByMould, .ref q_t_keptRows, .ref q_t_keptDebts, .long v_t_hash])), (q_t_rows, .inl (cI, 80, .inl v_t_rows))] (some (.int z))) args s 0 0 (fr [(q_t, .inr (10, [.ref q_t_page, .int v_t_pageMany, .ref q_t_readKinds, .ref q_t_readLeaflets, .int v_t_readMany, .int v_t_told, .int v_t_many, .int v_t_lostByHands, .int v_t_lostByMould, .ref q_t_rows, .ref q_t_debts, .int v_t_ringMany, .ref q_t_ring, .ref q_t_line, .ref q_t_groups, .ref q_t_likely, .ref q_t_likelyThen, .int v_t_seedNow, .ref q_t_saved, .int v_t_keptMany, .int v_t_keptByHands, .int v_t_keptByMould, .ref q_t_keptRows, .ref q_t_keptDebts, .long v_t_hash])), (q_t_rows, .inl (cI, 80, .inl v_t_rows))])) (F0 m 0 ls [])
  generalize hQ0 : (MQ below (QG D [(q_t, .inr (10, [.ref q_t_page, .int v_t_pageMany, .ref q_t_readKinds, .ref q_t_readLeaflets, .int v_t_readMany, .int v_t_told, .int v_t_many, .int v_t_lostByHands, .int v_t_lostByMould, .ref q_t_rows, .ref q_t_debts, .int v_t_ringMany, .ref q_t_ring, .ref q_t_line, .ref q_t_groups, .ref q_t_likely, .ref q_t_likelyThen, .int v_t_seedNow, .ref q_t_saved, .int v_t_keptMany, .int v_t_keptByHands, .int v_t_keptByMould, .ref q_t_keptRows, .ref q_t_keptDebts, .long v_t_hash])), (q_t_rows, .inl (cI, 80, .inl v_t_rows))] [(q_t, .inr (10, [.ref q_t_page, .int v_t_pageMany, .ref q_t_readKinds, .ref q_t_readLeaflets, .int v_t_readMany, .int v_t_told, .int v_t_many, .int v_t_lostByHands, .int v_t_lostByMould, .ref q_t_rows, .ref q_t_debts, .int v_t_ringMany, .ref q_t_ring, .ref q_t_line, .ref q_t_groups, .ref q_t_likely, .ref q_t_likelyThen, .int v_t_seedNow, .ref q_t_saved, .int v_t_keptMany, .int v_t_keptByHands, .int v_t_keptByMould, .ref q_t_keptRows, .ref q_t_keptDebts, .long v_t_hash])), (q_t_rows, .inl (cI, 80, .inl v_t_rows))] (some (.int z))) args s 0 0 (fr [(q_t, .inr (10, [.ref q_t_page, .int v_t_pageMany, .ref q_t_readKinds, .ref q_t_readLeaflets, .int v_t_readMany, .int v_t_told, .int v_t_many, .int v_t_lostByHands, .int v_t_lostByMould, .ref q_t_rows, .ref q_t_debts, .int v_t_ringMany, .ref q_t_ring, .ref q_t_line, .ref q_t_groups, .ref q_t_likely, .ref q_t_likelyThen, .int v_t_seedNow, .ref q_t_saved, .int v_t_keptMany, .int v_t_keptByHands, .int v_t_keptByMould, .ref q_t_keptRows, .ref q_t_keptDebts, .long v_t_hash])), (q_t_rows, .inl (cI, 80, .inl v_t_rows))])) = Q0
  generalize hA0 : fr [(q_t, .inr (10, [.ref q_t_page, .int v_t_pageMany, .ref q_t_readKinds, .ref q_t_readLeaflets, .int v_t_readMany, .int v_t_told, .int v_t_many, .int v_t_lostByHands, .int v_t_lostByMould, .ref q_t_rows, .ref q_t_debts, .int v_t_ringMany, .ref q_t_ring, .ref q_t_line, .ref q_t_groups, .ref q_t_likely, .ref q_t_likelyThen, .int v_t_seedNow, .ref q_t_saved, .int v_t_keptMany, .int v_t_keptByHands, .int v_t_keptByMould, .ref q_t_keptRows, .ref q_t_keptDebts, .long v_t_hash])), (q_t_rows, .inl (cI, 80, .inl v_t_rows))] = A0 at hD hS
  unfold fX11_tell at h
  refine lv_iload_n hx hb dX11_tell_0 rfl (lv_at hl 2 rfl) ?_
  refine lv_iconst (v := 3) hx hb dX11_tell_1 (by decide) ?_
  refine lv_icmp_ne (tgt := 13) hx hb dX11_tell_2 (by decide) (fun c1 => ?_) (fun c1 => ?_)
  · skip
    have h := (if_neg c1).symm.trans h
    refine lv_iload_n hx hb dX11_tell_13 rfl (lv_at hl 2 rfl) ?_
    refine lv_i2l hx hb dX11_tell_14 rfl ?_
    refine lv_lconst (v := 0) hx hb dX11_tell_15 (by decide) ?_
    refine lv_ldc2 (own := RX11) (v := 7) hx hb hown (hts (.constantLong RX11 105 (7)) (by decide +kernel)) dX11_tell_16 ?_
    refine cl_S [(q_t, .inr (10, [.ref q_t_page, .int v_t_pageMany, .ref q_t_readKinds, .ref q_t_readLeaflets, .int v_t_readMany, .int v_t_told, .int v_t_many, .int v_t_lostByHands, .int v_t_lostByMould, .ref q_t_rows, .ref q_t_debts, .int v_t_ringMany, .ref q_t_ring, .ref q_t_line, .ref q_t_groups, .ref q_t_likely, .ref q_t_likelyThen, .int v_t_seedNow, .ref q_t_saved, .int v_t_keptMany, .int v_t_keptByHands, .int v_t_keptByMould, .ref q_t_keptRows, .ref q_t_keptDebts, .long v_t_hash])), (q_t_rows, .inl (cI, 80, .inl v_t_rows))] (As := [.long ((x2 : Int32).toInt64), .long 0, .long 7]) (rest := []) (rv := (some (.int (fX11_in ((x2 : Int32).toInt64) 0 7)))) (c_X11_in l D cI cJ ((x2 : Int32).toInt64) 0 7) ⟨hx, hb, hml, hown, hts⟩ (va_cwS 3 hts gX11_tell_X11_in rfl rfl rfl (by decide +kernel) ⟨(Nat.le_of_ble_eq_true rfl), (Nat.le_of_ble_eq_true rfl)⟩) hK hN hP hD hS [] rfl (by decide) rfl rfl rfl rfl hl.1 rfl (Nat.le_of_ble_eq_true rfl) dX11_tell_19 ⟨Nat.zero_le _, Nat.zero_le _⟩ (fun H locs hP hD hS => ?_)
    show W p l e ({ frames := 2, cells := 0, slots := 0, locals := 43 } : Room) s m args below meth c H locs 0 0 Q0 (F0 m 22 ls [.int (fX11_in ((x2 : Int32).toInt64) 0 7)])
    refine lv_if_eq (tgt := 39) hx hb dX11_tell_22 (by decide) (fun c2 => ?_) (fun c2 => ?_)
    · skip
      have h := (if_pos c2).symm.trans h
      refine lv_bipush (v := (-102)) hx hb dX11_tell_39 (by decide) ?_
      obtain rfl := Option.some.inj h
      exact rt_i hA0 hQ0 hx hb hr hlocks hP hS dX11_tell_41
    · skip
      have h := (if_neg c2).symm.trans h
      refine lv_aload_n hx hb dX11_tell_25 rfl (lv_at hl 0 rfl) ?_
      refine va_get (own := RX11) (ci := 10) (v := .ref q_t_rows) (C := RX11) (T := TX11) (N := 25) hx hb hts iX11 hown hK hP 0 rfl rfl 9 (by decide) k19 (fun _ h9 => h9) rfl dX11_tell_26 ?_
      refine lv_bipush (v := 8) hx hb dX11_tell_29 (by decide) ?_
      refine lv_iload_n hx hb dX11_tell_31 rfl (lv_at hl 1 rfl) ?_
      refine lv_imul hx hb dX11_tell_32 ?_
      refine lv_iload_n hx hb dX11_tell_33 rfl (lv_at hl 2 rfl) ?_
      refine lv_iadd hx hb dX11_tell_34 ?_
      obtain ⟨g3, h⟩ := gd_of h
      refine va_iald hx hb hK hP 1 0 rfl rfl (inb_of g3) dX11_tell_35 ?_
      refine lv_goto (tgt := 41) hx hb dX11_tell_36 (by decide) ?_
      obtain rfl := Option.some.inj h
      exact rt_i hA0 hQ0 hx hb hr hlocks hP hS dX11_tell_41
  · skip
    have h := (if_pos c1).symm.trans h
    refine lv_aload_n hx hb dX11_tell_5 rfl (lv_at hl 0 rfl) ?_
    refine lv_iload_n hx hb dX11_tell_6 rfl (lv_at hl 1 rfl) ?_
    obtain ⟨u4, g5, h⟩ := bd_of h
    refine cl_V [(q_t, .inr (10, [.ref q_t_page, .int v_t_pageMany, .ref q_t_readKinds, .ref q_t_readLeaflets, .int v_t_readMany, .int v_t_told, .int v_t_many, .int v_t_lostByHands, .int v_t_lostByMould, .ref q_t_rows, .ref q_t_debts, .int v_t_ringMany, .ref q_t_ring, .ref q_t_line, .ref q_t_groups, .ref q_t_likely, .ref q_t_likelyThen, .int v_t_seedNow, .ref q_t_saved, .int v_t_keptMany, .int v_t_keptByHands, .int v_t_keptByMould, .ref q_t_keptRows, .ref q_t_keptDebts, .long v_t_hash])), (q_t_rows, .inl (cI, 80, .inl v_t_rows))] (As := [.int x1]) (rest := []) (rv := (some (.int u4))) (c_X11_worth l D cI cJ q_t q_t_page q_t_readKinds q_t_readLeaflets q_t_rows q_t_debts q_t_ring q_t_line q_t_groups q_t_likely q_t_likelyThen q_t_saved q_t_keptRows q_t_keptDebts v_t_pageMany v_t_readMany v_t_told v_t_many v_t_lostByHands v_t_lostByMould v_t_ringMany v_t_seedNow v_t_keptMany v_t_keptByHands v_t_keptByMould v_t_hash v_t_rows x1 u4 g5) ⟨hx, hb, hml, hown, hts⟩ (cwV 1 hts gX11_tell_X11_worth rfl rfl rfl (by decide +kernel) ⟨(Nat.le_of_ble_eq_true rfl), (Nat.le_of_ble_eq_true rfl)⟩) hK hN hP hD hS [0, 1] rfl (by decide) rfl rfl rfl (q0 := 0) (ci := 10) rfl rfl rfl rfl hl.1 rfl (Nat.le_of_ble_eq_true rfl) dX11_tell_7 ⟨Nat.zero_le _, Nat.zero_le _⟩ (fun H locs hP hD hS => ?_)
    show W p l e ({ frames := 2, cells := 0, slots := 0, locals := 43 } : Room) s m args below meth c H locs 0 0 Q0 (F0 m 10 ls [.int u4])
    refine lv_goto (tgt := 41) hx hb dX11_tell_10 (by decide) ?_
    obtain rfl := Option.some.inj h
    exact rt_i hA0 hQ0 hx hb hr hlocks hP hS dX11_tell_41
def fX11_about (v_t_pageMany : Int32) (v_t_readMany : Int32) (v_t_told : Int32) (v_t_many : Int32) (v_t_lostByHands : Int32) (v_t_lostByMould : Int32) (v_t_ringMany : Int32) (v_t_seedNow : Int32) (v_t_keptMany : Int32) (v_t_keptByHands : Int32) (v_t_keptByMould : Int32) (v_t_hash : Int64) (v_t_rows : Nat → Int32) (x1 : Int32) (x2 : Int32) : Option (Int32) :=
  if (fX11_isFrond v_t_pageMany v_t_readMany v_t_told v_t_many v_t_lostByHands v_t_lostByMould v_t_ringMany v_t_seedNow v_t_keptMany v_t_keptByHands v_t_keptByMould v_t_hash x1) = 0 then (some (-101)) else ((fX11_tell v_t_pageMany v_t_readMany v_t_told v_t_many v_t_lostByHands v_t_lostByMould v_t_ringMany v_t_seedNow v_t_keptMany v_t_keptByHands v_t_keptByMould v_t_hash v_t_rows x1 x2).bind (fun u2 => some u2))
set_option maxHeartbeats 4000000 in
set_option maxRecDepth 100000 in
theorem c_X11_about (l : Launch) (D : va_G) (cI cJ : ClassId) (q_t q_t_page q_t_readKinds q_t_readLeaflets q_t_rows q_t_debts q_t_ring q_t_line q_t_groups q_t_likely q_t_likelyThen q_t_saved q_t_keptRows q_t_keptDebts : Nat) (v_t_pageMany : Int32) (v_t_readMany : Int32) (v_t_told : Int32) (v_t_many : Int32) (v_t_lostByHands : Int32) (v_t_lostByMould : Int32) (v_t_ringMany : Int32) (v_t_seedNow : Int32) (v_t_keptMany : Int32) (v_t_keptByHands : Int32) (v_t_keptByMould : Int32) (v_t_hash : Int64) (v_t_rows : Nat → Int32) (x1 : Int32) (x2 : Int32) (z : Int32) (h : fX11_about v_t_pageMany v_t_readMany v_t_told v_t_many v_t_lostByHands v_t_lostByMould v_t_ringMany v_t_seedNow v_t_keptMany v_t_keptByHands v_t_keptByMould v_t_hash v_t_rows x1 x2 = some z) : Met l yX11_about wsX11_about ({ frames := 3, cells := 0, slots := 0, locals := 65 } : Room) (va_Pc [.ref q_t, .int x1, .int x2] (preG D cI cJ [(q_t, .inr (10, [.ref q_t_page, .int v_t_pageMany, .ref q_t_readKinds, .ref q_t_readLeaflets, .int v_t_readMany, .int v_t_told, .int v_t_many, .int v_t_lostByHands, .int v_t_lostByMould, .ref q_t_rows, .ref q_t_debts, .int v_t_ringMany, .ref q_t_ring, .ref q_t_line, .ref q_t_groups, .ref q_t_likely, .ref q_t_likelyThen, .int v_t_seedNow, .ref q_t_saved, .int v_t_keptMany, .int v_t_keptByHands, .int v_t_keptByMould, .ref q_t_keptRows, .ref q_t_keptDebts, .long v_t_hash])), (q_t_rows, .inl (cI, 80, .inl v_t_rows))])) (QG D [(q_t, .inr (10, [.ref q_t_page, .int v_t_pageMany, .ref q_t_readKinds, .ref q_t_readLeaflets, .int v_t_readMany, .int v_t_told, .int v_t_many, .int v_t_lostByHands, .int v_t_lostByMould, .ref q_t_rows, .ref q_t_debts, .int v_t_ringMany, .ref q_t_ring, .ref q_t_line, .ref q_t_groups, .ref q_t_likely, .ref q_t_likelyThen, .int v_t_seedNow, .ref q_t_saved, .int v_t_keptMany, .int v_t_keptByHands, .int v_t_keptByMould, .ref q_t_keptRows, .ref q_t_keptDebts, .long v_t_hash])), (q_t_rows, .inl (cI, 80, .inl v_t_rows))] [(q_t, .inr (10, [.ref q_t_page, .int v_t_pageMany, .ref q_t_readKinds, .ref q_t_readLeaflets, .int v_t_readMany, .int v_t_told, .int v_t_many, .int v_t_lostByHands, .int v_t_lostByMould, .ref q_t_rows, .ref q_t_debts, .int v_t_ringMany, .ref q_t_ring, .ref q_t_line, .ref q_t_groups, .ref q_t_likely, .ref q_t_likelyThen, .int v_t_seedNow, .ref q_t_saved, .int v_t_keptMany, .int v_t_keptByHands, .int v_t_keptByMould, .ref q_t_keptRows, .ref q_t_keptDebts, .long v_t_hash])), (q_t_rows, .inl (cI, 80, .inl v_t_rows))] (some (.int z))) 0 0 (fr [(q_t, .inr (10, [.ref q_t_page, .int v_t_pageMany, .ref q_t_readKinds, .ref q_t_readLeaflets, .int v_t_readMany, .int v_t_told, .int v_t_many, .int v_t_lostByHands, .int v_t_lostByMould, .ref q_t_rows, .ref q_t_debts, .int v_t_ringMany, .ref q_t_ring, .ref q_t_line, .ref q_t_groups, .ref q_t_likely, .ref q_t_likelyThen, .int v_t_seedNow, .ref q_t_saved, .int v_t_keptMany, .int v_t_keptByHands, .int v_t_keptByMould, .ref q_t_keptRows, .ref q_t_keptDebts, .long v_t_hash])), (q_t_rows, .inl (cI, 80, .inl v_t_rows))]) := by
  refine Met.ofW (cc := cX11_about) (maxL := 3) (ret := (some .int)) (by decide) rfl ?_
  intro p e s m args below meth c s₁ B hml hv
  obtain ⟨hargs, hP, hK, hN, hD0⟩ := hv
  have hx := B.exec
  have hb := B.bytes
  have hr := B.returns
  have hts := atoms_spec (ws := wsX11_about) B.pre
  have hown : s.vm.findClass RX11 = some m.cls := findClass_of_methodNamed B.named
  have hlocks := B.notSynchronized
  have hD := fr_D hD0
  have hS : va_S (fr [(q_t, .inr (10, [.ref q_t_page, .int v_t_pageMany, .ref q_t_readKinds, .ref q_t_readLeaflets, .int v_t_readMany, .int v_t_told, .int v_t_many, .int v_t_lostByHands, .int v_t_lostByMould, .ref q_t_rows, .ref q_t_debts, .int v_t_ringMany, .ref q_t_ring, .ref q_t_line, .ref q_t_groups, .ref q_t_likely, .ref q_t_likelyThen, .int v_t_seedNow, .ref q_t_saved, .int v_t_keptMany, .int v_t_keptByHands, .int v_t_keptByMould, .ref q_t_keptRows, .ref q_t_keptDebts, .long v_t_hash])), (q_t_rows, .inl (cI, 80, .inl v_t_rows))]) s.heap s.heap [] := va_S.rf
  have hl := lv_entry ([.ref q_t, .int x1, .int x2]) (n := 3) (Nat.le_of_ble_eq_true rfl)
  refine W.eq (g2 := F0 m 0 ((lg_sl ([.ref q_t, .int x1, .int x2]) ++ List.replicate (3 - (lg_sl ([.ref q_t, .int x1, .int x2])).length) Slot.unset).toArray) []) (by rw [hargs, lg_entry_eq]) ?_
  generalize (lg_sl ([.ref q_t, .int x1, .int x2]) ++ List.replicate (3 - (lg_sl ([.ref q_t, .int x1, .int x2])).length) Slot.unset).toArray = ls at hl ⊢
  have hl : lv_has ls 3 [(0, .ref q_t), (1, .int x1), (2, .int x2)] := hl
  show W p l e ({ frames := 3, cells := 0, slots := 0, locals := 65 } : Room) s m args below meth c s.heap [] 0 0 (MQ below (QG D [(q_t, .inr (10, [.ref q_t_page, .int v_t_pageMany, .ref q_t_readKinds, .ref q_t_readLeaflets, .int v_t_readMany, .int v_t_told, .int v_t_many, .int v_t_lostByHands, .int v_t_lostByMould, .ref q_t_rows, .ref q_t_debts, .int v_t_ringMany, .ref q_t_ring, .ref q_t_line, .ref q_t_groups, .ref q_t_likely, .ref q_t_likelyThen, .int v_t_seedNow, .ref q_t_saved, .int v_t_keptMany, .int v_t_keptByHands, .int v_t_keptByMould, .ref q_t_keptRows, .ref q_t_keptDebts, .long v_t_hash])), (q_t_rows, .inl (cI, 80, .inl v_t_rows))] [(q_t, .inr (10, [.ref q_t_page, .int v_t_pageMany, .ref q_t_readKinds, .ref q_t_readLeaflets, .int v_t_readMany, .int v_t_told, .int v_t_many, .int v_t_lostByHands, .int v_t_lostByMould, .ref q_t_rows, .ref q_t_debts, .int v_t_ringMany, .ref q_t_ring, .ref q_t_line, .ref q_t_groups, .ref q_t_likely, .ref q_t_likelyThen, .int v_t_seedNow, .ref q_t_saved, .int v_t_keptMany, .int v_t_keptByHands, .int v_t_keptByMould, .ref q_t_keptRows, .ref q_t_keptDebts, .long v_t_hash])), (q_t_rows, .inl (cI, 80, .inl v_t_rows))] (some (.int z))) args s 0 0 (fr [(q_t, .inr (10, [.ref q_t_page, .int v_t_pageMany, .ref q_t_readKinds, .ref q_t_readLeaflets, .int v_t_readMany, .int v_t_told, .int v_t_many, .int v_t_lostByHands, .int v_t_lostByMould, .ref q_t_rows, .ref q_t_debts, .int v_t_ringMany, .ref q_t_ring, .ref q_t_line, .ref q_t_groups, .ref q_t_likely, .ref q_t_likelyThen, .int v_t_seedNow, .ref q_t_saved, .int v_t_keptMany, .int v_t_keptByHands, .int v_t_keptByMould, .ref q_t_keptRows, .ref q_t_keptDebts, .long v_t_hash])), (q_t_rows, .inl (cI, 80, .inl v_t_rows))])) (F0 m 0 ls [])
  generalize hQ0 : (MQ below (QG D [(q_t, .inr (10, [.ref q_t_page, .int v_t_pageMany, .ref q_t_readKinds, .ref q_t_readLeaflets, .int v_t_readMany, .int v_t_told, .int v_t_many, .int v_t_lostByHands, .int v_t_lostByMould, .ref q_t_rows, .ref q_t_debts, .int v_t_ringMany, .ref q_t_ring, .ref q_t_line, .ref q_t_groups, .ref q_t_likely, .ref q_t_likelyThen, .int v_t_seedNow, .ref q_t_saved, .int v_t_keptMany, .int v_t_keptByHands, .int v_t_keptByMould, .ref q_t_keptRows, .ref q_t_keptDebts, .long v_t_hash])), (q_t_rows, .inl (cI, 80, .inl v_t_rows))] [(q_t, .inr (10, [.ref q_t_page, .int v_t_pageMany, .ref q_t_readKinds, .ref q_t_readLeaflets, .int v_t_readMany, .int v_t_told, .int v_t_many, .int v_t_lostByHands, .int v_t_lostByMould, .ref q_t_rows, .ref q_t_debts, .int v_t_ringMany, .ref q_t_ring, .ref q_t_line, .ref q_t_groups, .ref q_t_likely, .ref q_t_likelyThen, .int v_t_seedNow, .ref q_t_saved, .int v_t_keptMany, .int v_t_keptByHands, .int v_t_keptByMould, .ref q_t_keptRows, .ref q_t_keptDebts, .long v_t_hash])), (q_t_rows, .inl (cI, 80, .inl v_t_rows))] (some (.int z))) args s 0 0 (fr [(q_t, .inr (10, [.ref q_t_page, .int v_t_pageMany, .ref q_t_readKinds, .ref q_t_readLeaflets, .int v_t_readMany, .int v_t_told, .int v_t_many, .int v_t_lostByHands, .int v_t_lostByMould, .ref q_t_rows, .ref q_t_debts, .int v_t_ringMany, .ref q_t_ring, .ref q_t_line, .ref q_t_groups, .ref q_t_likely, .ref q_t_likelyThen, .int v_t_seedNow, .ref q_t_saved, .int v_t_keptMany, .int v_t_keptByHands, .int v_t_keptByMould, .ref q_t_keptRows, .ref q_t_keptDebts, .long v_t_hash])), (q_t_rows, .inl (cI, 80, .inl v_t_rows))])) = Q0
  generalize hA0 : fr [(q_t, .inr (10, [.ref q_t_page, .int v_t_pageMany, .ref q_t_readKinds, .ref q_t_readLeaflets, .int v_t_readMany, .int v_t_told, .int v_t_many, .int v_t_lostByHands, .int v_t_lostByMould, .ref q_t_rows, .ref q_t_debts, .int v_t_ringMany, .ref q_t_ring, .ref q_t_line, .ref q_t_groups, .ref q_t_likely, .ref q_t_likelyThen, .int v_t_seedNow, .ref q_t_saved, .int v_t_keptMany, .int v_t_keptByHands, .int v_t_keptByMould, .ref q_t_keptRows, .ref q_t_keptDebts, .long v_t_hash])), (q_t_rows, .inl (cI, 80, .inl v_t_rows))] = A0 at hD hS
  unfold fX11_about at h
  refine lv_aload_n hx hb dX11_about_0 rfl (lv_at hl 0 rfl) ?_
  refine lv_iload_n hx hb dX11_about_1 rfl (lv_at hl 1 rfl) ?_
  refine cl_V [(q_t, .inr (10, [.ref q_t_page, .int v_t_pageMany, .ref q_t_readKinds, .ref q_t_readLeaflets, .int v_t_readMany, .int v_t_told, .int v_t_many, .int v_t_lostByHands, .int v_t_lostByMould, .ref q_t_rows, .ref q_t_debts, .int v_t_ringMany, .ref q_t_ring, .ref q_t_line, .ref q_t_groups, .ref q_t_likely, .ref q_t_likelyThen, .int v_t_seedNow, .ref q_t_saved, .int v_t_keptMany, .int v_t_keptByHands, .int v_t_keptByMould, .ref q_t_keptRows, .ref q_t_keptDebts, .long v_t_hash])), (q_t_rows, .inl (cI, 80, .inl v_t_rows))] (As := [.int x1]) (rest := []) (rv := (some (.int (fX11_isFrond v_t_pageMany v_t_readMany v_t_told v_t_many v_t_lostByHands v_t_lostByMould v_t_ringMany v_t_seedNow v_t_keptMany v_t_keptByHands v_t_keptByMould v_t_hash x1)))) (c_X11_isFrond l D cI cJ q_t q_t_page q_t_readKinds q_t_readLeaflets q_t_rows q_t_debts q_t_ring q_t_line q_t_groups q_t_likely q_t_likelyThen q_t_saved q_t_keptRows q_t_keptDebts v_t_pageMany v_t_readMany v_t_told v_t_many v_t_lostByHands v_t_lostByMould v_t_ringMany v_t_seedNow v_t_keptMany v_t_keptByHands v_t_keptByMould v_t_hash x1) ⟨hx, hb, hml, hown, hts⟩ (cwV 1 hts gX11_about_X11_isFrond rfl rfl rfl (by decide +kernel) ⟨(Nat.le_of_ble_eq_true rfl), (Nat.le_of_ble_eq_true rfl)⟩) hK hN hP hD hS [0] rfl (by decide) rfl rfl rfl (q0 := 0) (ci := 10) rfl rfl rfl rfl hl.1 rfl (Nat.le_of_ble_eq_true rfl) dX11_about_2 ⟨Nat.zero_le _, Nat.zero_le _⟩ (fun H locs hP hD hS => ?_)
  show W p l e ({ frames := 3, cells := 0, slots := 0, locals := 65 } : Room) s m args below meth c H locs 0 0 Q0 (F0 m 5 ls [.int (fX11_isFrond v_t_pageMany v_t_readMany v_t_told v_t_many v_t_lostByHands v_t_lostByMould v_t_ringMany v_t_seedNow v_t_keptMany v_t_keptByHands v_t_keptByMould v_t_hash x1)])
  refine lv_if_eq (tgt := 17) hx hb dX11_about_5 (by decide) (fun c1 => ?_) (fun c1 => ?_)
  · skip
    have h := (if_pos c1).symm.trans h
    refine lv_bipush (v := (-101)) hx hb dX11_about_17 (by decide) ?_
    obtain rfl := Option.some.inj h
    exact rt_i hA0 hQ0 hx hb hr hlocks hP hS dX11_about_19
  · skip
    have h := (if_neg c1).symm.trans h
    refine lv_aload_n hx hb dX11_about_8 rfl (lv_at hl 0 rfl) ?_
    refine lv_iload_n hx hb dX11_about_9 rfl (lv_at hl 1 rfl) ?_
    refine lv_iload_n hx hb dX11_about_10 rfl (lv_at hl 2 rfl) ?_
    obtain ⟨u2, g3, h⟩ := bd_of h
    refine cl_V [(q_t, .inr (10, [.ref q_t_page, .int v_t_pageMany, .ref q_t_readKinds, .ref q_t_readLeaflets, .int v_t_readMany, .int v_t_told, .int v_t_many, .int v_t_lostByHands, .int v_t_lostByMould, .ref q_t_rows, .ref q_t_debts, .int v_t_ringMany, .ref q_t_ring, .ref q_t_line, .ref q_t_groups, .ref q_t_likely, .ref q_t_likelyThen, .int v_t_seedNow, .ref q_t_saved, .int v_t_keptMany, .int v_t_keptByHands, .int v_t_keptByMould, .ref q_t_keptRows, .ref q_t_keptDebts, .long v_t_hash])), (q_t_rows, .inl (cI, 80, .inl v_t_rows))] (As := [.int x1, .int x2]) (rest := []) (rv := (some (.int u2))) (c_X11_tell l D cI cJ q_t q_t_page q_t_readKinds q_t_readLeaflets q_t_rows q_t_debts q_t_ring q_t_line q_t_groups q_t_likely q_t_likelyThen q_t_saved q_t_keptRows q_t_keptDebts v_t_pageMany v_t_readMany v_t_told v_t_many v_t_lostByHands v_t_lostByMould v_t_ringMany v_t_seedNow v_t_keptMany v_t_keptByHands v_t_keptByMould v_t_hash v_t_rows x1 x2 u2 g3) ⟨hx, hb, hml, hown, hts⟩ (cwV 2 hts gX11_about_X11_tell rfl rfl rfl (by decide +kernel) ⟨(Nat.le_of_ble_eq_true rfl), (Nat.le_of_ble_eq_true rfl)⟩) hK hN hP hD hS [0, 1] rfl (by decide) rfl rfl rfl (q0 := 0) (ci := 10) rfl rfl rfl rfl hl.1 rfl (Nat.le_of_ble_eq_true rfl) dX11_about_11 ⟨Nat.zero_le _, Nat.zero_le _⟩ (fun H locs hP hD hS => ?_)
    show W p l e ({ frames := 3, cells := 0, slots := 0, locals := 65 } : Room) s m args below meth c H locs 0 0 Q0 (F0 m 14 ls [.int u2])
    refine lv_goto (tgt := 19) hx hb dX11_about_14 (by decide) ?_
    obtain rfl := Option.some.inj h
    exact rt_i hA0 hQ0 hx hb hr hlocks hP hS dX11_about_19
