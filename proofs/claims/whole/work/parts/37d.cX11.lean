def fX11_balance_X4_66  (a3 : Int32) : Option (Int32) :=
  some a3
def fX11_balance_J58 (z1 : Int32 × Int32) (a7 : Int32) (a9 : Int32) : Option ((Int32 × Int32) ⊕ (Int32)) :=
  some (Sum.inl (((z1.1 + a7) - a9), (z1.2 + 1)))
def fX11_balance_J33 (v_t_debts : Nat → Int32) (x1 : Int32) (z1 : Int32 × Int32) (a7 : Int32) : Option ((Int32 × Int32) ⊕ (Int32)) :=
  if ((x1 >>> ((z1.2 - z1.2 / 6 * 6) &&& 31)) &&& 1) = 1 then (gd (inb z1.2 36) (fX11_balance_J58 z1 a7 (v_t_debts z1.2.toNatClampNeg))) else (fX11_balance_J58 z1 a7 0)
def fX11_balance_L4 (v_t_debts : Nat → Int32) (x1 : Int32) (z1 : Int32 × Int32) : Option ((Int32 × Int32) ⊕ (Int32)) :=
  if 36 ≤ z1.2 then (some (Sum.inr z1.1)) else (if ((x1 >>> ((z1.2 / 6) &&& 31)) &&& 1) = 1 then (gd (inb z1.2 36) (fX11_balance_J33 v_t_debts x1 z1 (v_t_debts z1.2.toNatClampNeg))) else (fX11_balance_J33 v_t_debts x1 z1 0))
def fX11_balance (v_t_pageMany : Int32) (v_t_readMany : Int32) (v_t_told : Int32) (v_t_many : Int32) (v_t_lostByHands : Int32) (v_t_lostByMould : Int32) (v_t_ringMany : Int32) (v_t_seedNow : Int32) (v_t_keptMany : Int32) (v_t_keptByHands : Int32) (v_t_keptByMould : Int32) (v_t_hash : Int64) (v_t_debts : Nat → Int32) (x1 : Int32) : Option (Int32) :=
  (iter (fX11_balance_L4 v_t_debts x1) FU (0, 0)).bind (fX11_balance_X4_66)
set_option maxHeartbeats 4000000 in
set_option maxRecDepth 100000 in
theorem c_X11_balance (l : Launch) (D : va_G) (cI cJ : ClassId) (q_t q_t_page q_t_readKinds q_t_readLeaflets q_t_rows q_t_debts q_t_ring q_t_line q_t_groups q_t_likely q_t_likelyThen q_t_saved q_t_keptRows q_t_keptDebts : Nat) (v_t_pageMany : Int32) (v_t_readMany : Int32) (v_t_told : Int32) (v_t_many : Int32) (v_t_lostByHands : Int32) (v_t_lostByMould : Int32) (v_t_ringMany : Int32) (v_t_seedNow : Int32) (v_t_keptMany : Int32) (v_t_keptByHands : Int32) (v_t_keptByMould : Int32) (v_t_hash : Int64) (v_t_debts : Nat → Int32) (x1 : Int32) (z : Int32) (h : fX11_balance v_t_pageMany v_t_readMany v_t_told v_t_many v_t_lostByHands v_t_lostByMould v_t_ringMany v_t_seedNow v_t_keptMany v_t_keptByHands v_t_keptByMould v_t_hash v_t_debts x1 = some z) : Met l yX11_balance wsX11_balance ({ frames := 0, cells := 0, slots := 0, locals := 0 } : Room) (va_Pc [.ref q_t, .int x1] (preG D cI cJ [(q_t, .inr (10, [.ref q_t_page, .int v_t_pageMany, .ref q_t_readKinds, .ref q_t_readLeaflets, .int v_t_readMany, .int v_t_told, .int v_t_many, .int v_t_lostByHands, .int v_t_lostByMould, .ref q_t_rows, .ref q_t_debts, .int v_t_ringMany, .ref q_t_ring, .ref q_t_line, .ref q_t_groups, .ref q_t_likely, .ref q_t_likelyThen, .int v_t_seedNow, .ref q_t_saved, .int v_t_keptMany, .int v_t_keptByHands, .int v_t_keptByMould, .ref q_t_keptRows, .ref q_t_keptDebts, .long v_t_hash])), (q_t_debts, .inl (cI, 36, .inl v_t_debts))])) (QG D [(q_t, .inr (10, [.ref q_t_page, .int v_t_pageMany, .ref q_t_readKinds, .ref q_t_readLeaflets, .int v_t_readMany, .int v_t_told, .int v_t_many, .int v_t_lostByHands, .int v_t_lostByMould, .ref q_t_rows, .ref q_t_debts, .int v_t_ringMany, .ref q_t_ring, .ref q_t_line, .ref q_t_groups, .ref q_t_likely, .ref q_t_likelyThen, .int v_t_seedNow, .ref q_t_saved, .int v_t_keptMany, .int v_t_keptByHands, .int v_t_keptByMould, .ref q_t_keptRows, .ref q_t_keptDebts, .long v_t_hash])), (q_t_debts, .inl (cI, 36, .inl v_t_debts))] [(q_t, .inr (10, [.ref q_t_page, .int v_t_pageMany, .ref q_t_readKinds, .ref q_t_readLeaflets, .int v_t_readMany, .int v_t_told, .int v_t_many, .int v_t_lostByHands, .int v_t_lostByMould, .ref q_t_rows, .ref q_t_debts, .int v_t_ringMany, .ref q_t_ring, .ref q_t_line, .ref q_t_groups, .ref q_t_likely, .ref q_t_likelyThen, .int v_t_seedNow, .ref q_t_saved, .int v_t_keptMany, .int v_t_keptByHands, .int v_t_keptByMould, .ref q_t_keptRows, .ref q_t_keptDebts, .long v_t_hash])), (q_t_debts, .inl (cI, 36, .inl v_t_debts))] (some (.int z))) 0 0 (fr [(q_t, .inr (10, [.ref q_t_page, .int v_t_pageMany, .ref q_t_readKinds, .ref q_t_readLeaflets, .int v_t_readMany, .int v_t_told, .int v_t_many, .int v_t_lostByHands, .int v_t_lostByMould, .ref q_t_rows, .ref q_t_debts, .int v_t_ringMany, .ref q_t_ring, .ref q_t_line, .ref q_t_groups, .ref q_t_likely, .ref q_t_likelyThen, .int v_t_seedNow, .ref q_t_saved, .int v_t_keptMany, .int v_t_keptByHands, .int v_t_keptByMould, .ref q_t_keptRows, .ref q_t_keptDebts, .long v_t_hash])), (q_t_debts, .inl (cI, 36, .inl v_t_debts))]) := by
  refine Met.ofW (cc := cX11_balance) (maxL := 4) (ret := (some .int)) (by decide) rfl ?_
  intro p e s m args below meth c s₁ B hml hv
  obtain ⟨hargs, hP, hK, hN, hD0⟩ := hv
  have hx := B.exec
  have hb := B.bytes
  have hr := B.returns
  have hts := atoms_spec (ws := wsX11_balance) B.pre
  have hown : s.vm.findClass RX11 = some m.cls := findClass_of_methodNamed B.named
  have hlocks := B.notSynchronized
  have iX11 : ∀ w ∈ wsX110, w ∈ wsX11_balance := by decide +kernel
  have k22 := hts (.fieldLink RX11 22 "PressedFernsModel" "debts" "[I") (by decide +kernel)
  have hD := fr_D hD0
  have hS : va_S (fr [(q_t, .inr (10, [.ref q_t_page, .int v_t_pageMany, .ref q_t_readKinds, .ref q_t_readLeaflets, .int v_t_readMany, .int v_t_told, .int v_t_many, .int v_t_lostByHands, .int v_t_lostByMould, .ref q_t_rows, .ref q_t_debts, .int v_t_ringMany, .ref q_t_ring, .ref q_t_line, .ref q_t_groups, .ref q_t_likely, .ref q_t_likelyThen, .int v_t_seedNow, .ref q_t_saved, .int v_t_keptMany, .int v_t_keptByHands, .int v_t_keptByMould, .ref q_t_keptRows, .ref q_t_keptDebts, .long v_t_hash])), (q_t_debts, .inl (cI, 36, .inl v_t_debts))]) s.heap s.heap [] := va_S.rf
  have hl := lv_entry ([.ref q_t, .int x1]) (n := 4) (Nat.le_of_ble_eq_true rfl)
  refine W.eq (g2 := F0 m 0 ((lg_sl ([.ref q_t, .int x1]) ++ List.replicate (4 - (lg_sl ([.ref q_t, .int x1])).length) Slot.unset).toArray) []) (by rw [hargs, lg_entry_eq]) ?_
  generalize (lg_sl ([.ref q_t, .int x1]) ++ List.replicate (4 - (lg_sl ([.ref q_t, .int x1])).length) Slot.unset).toArray = ls at hl ⊢
  have hl : lv_has ls 4 [(0, .ref q_t), (1, .int x1)] := hl
  show W p l e ({ frames := 0, cells := 0, slots := 0, locals := 0 } : Room) s m args below meth c s.heap [] 0 0 (MQ below (QG D [(q_t, .inr (10, [.ref q_t_page, .int v_t_pageMany, .ref q_t_readKinds, .ref q_t_readLeaflets, .int v_t_readMany, .int v_t_told, .int v_t_many, .int v_t_lostByHands, .int v_t_lostByMould, .ref q_t_rows, .ref q_t_debts, .int v_t_ringMany, .ref q_t_ring, .ref q_t_line, .ref q_t_groups, .ref q_t_likely, .ref q_t_likelyThen, .int v_t_seedNow, .ref q_t_saved, .int v_t_keptMany, .int v_t_keptByHands, .int v_t_keptByMould, .ref q_t_keptRows, .ref q_t_keptDebts, .long v_t_hash])), (q_t_debts, .inl (cI, 36, .inl v_t_debts))] [(q_t, .inr (10, [.ref q_t_page, .int v_t_pageMany, .ref q_t_readKinds, .ref q_t_readLeaflets, .int v_t_readMany, .int v_t_told, .int v_t_many, .int v_t_lostByHands, .int v_t_lostByMould, .ref q_t_rows, .ref q_t_debts, .int v_t_ringMany, .ref q_t_ring, .ref q_t_line, .ref q_t_groups, .ref q_t_likely, .ref q_t_likelyThen, .int v_t_seedNow, .ref q_t_saved, .int v_t_keptMany, .int v_t_keptByHands, .int v_t_keptByMould, .ref q_t_keptRows, .ref q_t_keptDebts, .long v_t_hash])), (q_t_debts, .inl (cI, 36, .inl v_t_debts))] (some (.int z))) args s 0 0 (fr [(q_t, .inr (10, [.ref q_t_page, .int v_t_pageMany, .ref q_t_readKinds, .ref q_t_readLeaflets, .int v_t_readMany, .int v_t_told, .int v_t_many, .int v_t_lostByHands, .int v_t_lostByMould, .ref q_t_rows, .ref q_t_debts, .int v_t_ringMany, .ref q_t_ring, .ref q_t_line, .ref q_t_groups, .ref q_t_likely, .ref q_t_likelyThen, .int v_t_seedNow, .ref q_t_saved, .int v_t_keptMany, .int v_t_keptByHands, .int v_t_keptByMould, .ref q_t_keptRows, .ref q_t_keptDebts, .long v_t_hash])), (q_t_debts, .inl (cI, 36, .inl v_t_debts))])) (F0 m 0 ls [])
  generalize hQ0 : (MQ below (QG D [(q_t, .inr (10, [.ref q_t_page, .int v_t_pageMany, .ref q_t_readKinds, .ref q_t_readLeaflets, .int v_t_readMany, .int v_t_told, .int v_t_many, .int v_t_lostByHands, .int v_t_lostByMould, .ref q_t_rows, .ref q_t_debts, .int v_t_ringMany, .ref q_t_ring, .ref q_t_line, .ref q_t_groups, .ref q_t_likely, .ref q_t_likelyThen, .int v_t_seedNow, .ref q_t_saved, .int v_t_keptMany, .int v_t_keptByHands, .int v_t_keptByMould, .ref q_t_keptRows, .ref q_t_keptDebts, .long v_t_hash])), (q_t_debts, .inl (cI, 36, .inl v_t_debts))] [(q_t, .inr (10, [.ref q_t_page, .int v_t_pageMany, .ref q_t_readKinds, .ref q_t_readLeaflets, .int v_t_readMany, .int v_t_told, .int v_t_many, .int v_t_lostByHands, .int v_t_lostByMould, .ref q_t_rows, .ref q_t_debts, .int v_t_ringMany, .ref q_t_ring, .ref q_t_line, .ref q_t_groups, .ref q_t_likely, .ref q_t_likelyThen, .int v_t_seedNow, .ref q_t_saved, .int v_t_keptMany, .int v_t_keptByHands, .int v_t_keptByMould, .ref q_t_keptRows, .ref q_t_keptDebts, .long v_t_hash])), (q_t_debts, .inl (cI, 36, .inl v_t_debts))] (some (.int z))) args s 0 0 (fr [(q_t, .inr (10, [.ref q_t_page, .int v_t_pageMany, .ref q_t_readKinds, .ref q_t_readLeaflets, .int v_t_readMany, .int v_t_told, .int v_t_many, .int v_t_lostByHands, .int v_t_lostByMould, .ref q_t_rows, .ref q_t_debts, .int v_t_ringMany, .ref q_t_ring, .ref q_t_line, .ref q_t_groups, .ref q_t_likely, .ref q_t_likelyThen, .int v_t_seedNow, .ref q_t_saved, .int v_t_keptMany, .int v_t_keptByHands, .int v_t_keptByMould, .ref q_t_keptRows, .ref q_t_keptDebts, .long v_t_hash])), (q_t_debts, .inl (cI, 36, .inl v_t_debts))])) = Q0
  generalize hA0 : fr [(q_t, .inr (10, [.ref q_t_page, .int v_t_pageMany, .ref q_t_readKinds, .ref q_t_readLeaflets, .int v_t_readMany, .int v_t_told, .int v_t_many, .int v_t_lostByHands, .int v_t_lostByMould, .ref q_t_rows, .ref q_t_debts, .int v_t_ringMany, .ref q_t_ring, .ref q_t_line, .ref q_t_groups, .ref q_t_likely, .ref q_t_likelyThen, .int v_t_seedNow, .ref q_t_saved, .int v_t_keptMany, .int v_t_keptByHands, .int v_t_keptByMould, .ref q_t_keptRows, .ref q_t_keptDebts, .long v_t_hash])), (q_t_debts, .inl (cI, 36, .inl v_t_debts))] = A0 at hD hS
  unfold fX11_balance at h
  refine lv_iconst (v := 0) hx hb dX11_balance_0 (by decide) ?_
  refine lv_istore_n (lv' := [(2, .int 0), (0, .ref q_t), (1, .int x1)]) hx hb dX11_balance_1 rfl hl (by decide) rfl (fun ls hl => ?_)
  refine lv_iconst (v := 0) hx hb dX11_balance_2 (by decide) ?_
  refine lv_istore_n (lv' := [(3, .int 0), (2, .int 0), (0, .ref q_t), (1, .int x1)]) hx hb dX11_balance_3 rfl hl (by decide) rfl (fun ls hl => ?_)
  obtain ⟨e2, he_e2, hc_e2⟩ := bd_of h
  have X66_4 : ∀ (a3 : Int32) (H : Heap) (locs : List Loc) (ls : Array Slot), fX11_balance_X4_66 a3 = some z → va_P D vwCl [(q_t, .inr (10, [.ref q_t_page, .int v_t_pageMany, .ref q_t_readKinds, .ref q_t_readLeaflets, .int v_t_readMany, .int v_t_told, .int v_t_many, .int v_t_lostByHands, .int v_t_lostByMould, .ref q_t_rows, .ref q_t_debts, .int v_t_ringMany, .ref q_t_ring, .ref q_t_line, .ref q_t_groups, .ref q_t_likely, .ref q_t_likelyThen, .int v_t_seedNow, .ref q_t_saved, .int v_t_keptMany, .int v_t_keptByHands, .int v_t_keptByMould, .ref q_t_keptRows, .ref q_t_keptDebts, .long v_t_hash])), (q_t_debts, .inl (cI, 36, .inl v_t_debts))] H → va_D A0 [(q_t, .inr (10, [.ref q_t_page, .int v_t_pageMany, .ref q_t_readKinds, .ref q_t_readLeaflets, .int v_t_readMany, .int v_t_told, .int v_t_many, .int v_t_lostByHands, .int v_t_lostByMould, .ref q_t_rows, .ref q_t_debts, .int v_t_ringMany, .ref q_t_ring, .ref q_t_line, .ref q_t_groups, .ref q_t_likely, .ref q_t_likelyThen, .int v_t_seedNow, .ref q_t_saved, .int v_t_keptMany, .int v_t_keptByHands, .int v_t_keptByMould, .ref q_t_keptRows, .ref q_t_keptDebts, .long v_t_hash])), (q_t_debts, .inl (cI, 36, .inl v_t_debts))] → va_S A0 s.heap H locs → lv_has ls 4 [(2, .int a3)] → W p l e ({ frames := 0, cells := 0, slots := 0, locals := 0 } : Room) s m args below meth c H locs 0 0 Q0 (F0 m 66 ls []) := by
    intro a3 H locs ls h hP hD hS hl
    unfold fX11_balance_X4_66 at h
    refine lv_iload_n hx hb dX11_balance_66 rfl (lv_at hl 0 rfl) ?_
    obtain rfl := Option.some.inj h
    exact rt_i hA0 hQ0 hx hb hr hlocks hP hS dX11_balance_67
  have L4_5 : ∀ (n : Nat) (z1 : Int32 × Int32) (H : Heap) (locs : List Loc) (ls : Array Slot), iter (fX11_balance_L4 v_t_debts x1) n z1 = some e2 → va_P D vwCl [(q_t, .inr (10, [.ref q_t_page, .int v_t_pageMany, .ref q_t_readKinds, .ref q_t_readLeaflets, .int v_t_readMany, .int v_t_told, .int v_t_many, .int v_t_lostByHands, .int v_t_lostByMould, .ref q_t_rows, .ref q_t_debts, .int v_t_ringMany, .ref q_t_ring, .ref q_t_line, .ref q_t_groups, .ref q_t_likely, .ref q_t_likelyThen, .int v_t_seedNow, .ref q_t_saved, .int v_t_keptMany, .int v_t_keptByHands, .int v_t_keptByMould, .ref q_t_keptRows, .ref q_t_keptDebts, .long v_t_hash])), (q_t_debts, .inl (cI, 36, .inl v_t_debts))] H → va_D A0 [(q_t, .inr (10, [.ref q_t_page, .int v_t_pageMany, .ref q_t_readKinds, .ref q_t_readLeaflets, .int v_t_readMany, .int v_t_told, .int v_t_many, .int v_t_lostByHands, .int v_t_lostByMould, .ref q_t_rows, .ref q_t_debts, .int v_t_ringMany, .ref q_t_ring, .ref q_t_line, .ref q_t_groups, .ref q_t_likely, .ref q_t_likelyThen, .int v_t_seedNow, .ref q_t_saved, .int v_t_keptMany, .int v_t_keptByHands, .int v_t_keptByMould, .ref q_t_keptRows, .ref q_t_keptDebts, .long v_t_hash])), (q_t_debts, .inl (cI, 36, .inl v_t_debts))] → va_S A0 s.heap H locs → lv_has ls 4 [(0, .ref q_t), (1, .int x1), (2, .int z1.1), (3, .int z1.2)] → W p l e ({ frames := 0, cells := 0, slots := 0, locals := 0 } : Room) s m args below meth c H locs 0 0 Q0 (F0 m 4 ls []) := by
    intro n
    induction n with
    | zero => exact fun _ _ _ _ h => (iter_z h).elim
    | succ n ih =>
      intro z1 H locs ls h hP hD hS hl
      obtain ⟨r_e2, h, hn_e2⟩ := iter_s h
      unfold fX11_balance_L4 at h
      refine lv_iload_n hx hb dX11_balance_4 rfl (lv_at hl 3 rfl) ?_
      refine lv_bipush (v := 36) hx hb dX11_balance_5 (by decide) ?_
      refine lv_icmp_ge (tgt := 66) hx hb dX11_balance_7 (by decide) (fun c6 => ?_) (fun c6 => ?_)
      · skip
        have h := (if_pos c6).symm.trans h
        obtain rfl := Option.some.inj h
        obtain rfl := Option.some.inj hn_e2
        exact X66_4 z1.1 _ _ _ hc_e2 hP hD hS (lv_sub hl [2] rfl)
      · skip
        have h := (if_neg c6).symm.trans h
        refine lv_iload_n hx hb dX11_balance_10 rfl (lv_at hl 2 rfl) ?_
        refine lv_iload_n hx hb dX11_balance_11 rfl (lv_at hl 1 rfl) ?_
        refine lv_iload_n hx hb dX11_balance_12 rfl (lv_at hl 3 rfl) ?_
        refine lv_bipush (v := 6) hx hb dX11_balance_13 (by decide) ?_
        refine lv_idiv hx hb dX11_balance_15 (by decide) ?_
        refine lv_ishr hx hb dX11_balance_16 ?_
        refine lv_iconst (v := 1) hx hb dX11_balance_17 (by decide) ?_
        refine lv_iand hx hb dX11_balance_18 ?_
        refine lv_iconst (v := 1) hx hb dX11_balance_19 (by decide) ?_
        have J33_8 : ∀ (a7 : Int32) (H : Heap) (locs : List Loc) (ls : Array Slot), fX11_balance_J33 v_t_debts x1 z1 a7 = some r_e2 → va_P D vwCl [(q_t, .inr (10, [.ref q_t_page, .int v_t_pageMany, .ref q_t_readKinds, .ref q_t_readLeaflets, .int v_t_readMany, .int v_t_told, .int v_t_many, .int v_t_lostByHands, .int v_t_lostByMould, .ref q_t_rows, .ref q_t_debts, .int v_t_ringMany, .ref q_t_ring, .ref q_t_line, .ref q_t_groups, .ref q_t_likely, .ref q_t_likelyThen, .int v_t_seedNow, .ref q_t_saved, .int v_t_keptMany, .int v_t_keptByHands, .int v_t_keptByMould, .ref q_t_keptRows, .ref q_t_keptDebts, .long v_t_hash])), (q_t_debts, .inl (cI, 36, .inl v_t_debts))] H → va_D A0 [(q_t, .inr (10, [.ref q_t_page, .int v_t_pageMany, .ref q_t_readKinds, .ref q_t_readLeaflets, .int v_t_readMany, .int v_t_told, .int v_t_many, .int v_t_lostByHands, .int v_t_lostByMould, .ref q_t_rows, .ref q_t_debts, .int v_t_ringMany, .ref q_t_ring, .ref q_t_line, .ref q_t_groups, .ref q_t_likely, .ref q_t_likelyThen, .int v_t_seedNow, .ref q_t_saved, .int v_t_keptMany, .int v_t_keptByHands, .int v_t_keptByMould, .ref q_t_keptRows, .ref q_t_keptDebts, .long v_t_hash])), (q_t_debts, .inl (cI, 36, .inl v_t_debts))] → va_S A0 s.heap H locs → lv_has ls 4 [(0, .ref q_t), (1, .int x1), (3, .int z1.2)] → W p l e ({ frames := 0, cells := 0, slots := 0, locals := 0 } : Room) s m args below meth c H locs 0 0 Q0 (F0 m 33 ls [.int a7, .int z1.1]) := by
          intro a7 H locs ls h hP hD hS hl
          unfold fX11_balance_J33 at h
          refine lv_iadd hx hb dX11_balance_33 ?_
          refine lv_istore_n (lv' := [(2, .int (z1.1 + a7)), (0, .ref q_t), (1, .int x1), (3, .int z1.2)]) hx hb dX11_balance_34 rfl hl (by decide) rfl (fun ls hl => ?_)
          refine lv_iload_n hx hb dX11_balance_35 rfl (lv_at hl 0 rfl) ?_
          refine lv_iload_n hx hb dX11_balance_36 rfl (lv_at hl 2 rfl) ?_
          refine lv_iload_n hx hb dX11_balance_37 rfl (lv_at hl 3 rfl) ?_
          refine lv_bipush (v := 6) hx hb dX11_balance_38 (by decide) ?_
          refine lv_irem hx hb dX11_balance_40 (by decide) ?_
          refine lv_ishr hx hb dX11_balance_41 ?_
          refine lv_iconst (v := 1) hx hb dX11_balance_42 (by decide) ?_
          refine lv_iand hx hb dX11_balance_43 ?_
          refine lv_iconst (v := 1) hx hb dX11_balance_44 (by decide) ?_
          have J58_10 : ∀ (a9 : Int32) (H : Heap) (locs : List Loc) (ls : Array Slot), fX11_balance_J58 z1 a7 a9 = some r_e2 → va_P D vwCl [(q_t, .inr (10, [.ref q_t_page, .int v_t_pageMany, .ref q_t_readKinds, .ref q_t_readLeaflets, .int v_t_readMany, .int v_t_told, .int v_t_many, .int v_t_lostByHands, .int v_t_lostByMould, .ref q_t_rows, .ref q_t_debts, .int v_t_ringMany, .ref q_t_ring, .ref q_t_line, .ref q_t_groups, .ref q_t_likely, .ref q_t_likelyThen, .int v_t_seedNow, .ref q_t_saved, .int v_t_keptMany, .int v_t_keptByHands, .int v_t_keptByMould, .ref q_t_keptRows, .ref q_t_keptDebts, .long v_t_hash])), (q_t_debts, .inl (cI, 36, .inl v_t_debts))] H → va_D A0 [(q_t, .inr (10, [.ref q_t_page, .int v_t_pageMany, .ref q_t_readKinds, .ref q_t_readLeaflets, .int v_t_readMany, .int v_t_told, .int v_t_many, .int v_t_lostByHands, .int v_t_lostByMould, .ref q_t_rows, .ref q_t_debts, .int v_t_ringMany, .ref q_t_ring, .ref q_t_line, .ref q_t_groups, .ref q_t_likely, .ref q_t_likelyThen, .int v_t_seedNow, .ref q_t_saved, .int v_t_keptMany, .int v_t_keptByHands, .int v_t_keptByMould, .ref q_t_keptRows, .ref q_t_keptDebts, .long v_t_hash])), (q_t_debts, .inl (cI, 36, .inl v_t_debts))] → va_S A0 s.heap H locs → lv_has ls 4 [(0, .ref q_t), (1, .int x1), (3, .int z1.2)] → W p l e ({ frames := 0, cells := 0, slots := 0, locals := 0 } : Room) s m args below meth c H locs 0 0 Q0 (F0 m 58 ls [.int a9, .int (z1.1 + a7)]) := by
            intro a9 H locs ls h hP hD hS hl
            unfold fX11_balance_J58 at h
            refine lv_isub hx hb dX11_balance_58 ?_
            refine lv_istore_n (lv' := [(2, .int ((z1.1 + a7) - a9)), (0, .ref q_t), (1, .int x1), (3, .int z1.2)]) hx hb dX11_balance_59 rfl hl (by decide) rfl (fun ls hl => ?_)
            refine lv_iinc (v := (z1.2 + 1)) (lv' := [(3, .int (z1.2 + 1)), (2, .int ((z1.1 + a7) - a9)), (0, .ref q_t), (1, .int x1)]) hx hb dX11_balance_60 hl (k := 3) rfl rfl (by decide) rfl (fun ls hl => ?_)
            refine lv_goto (tgt := 4) hx hb dX11_balance_63 (by decide) ?_
            obtain rfl := Option.some.inj h
            exact ih (((z1.1 + a7) - a9), (z1.2 + 1)) _ _ _ hn_e2 hP hD hS (lv_sub hl [2, 3, 1, 0] rfl)
          refine lv_icmp_ne (tgt := 57) hx hb dX11_balance_45 (by decide) (fun c11 => ?_) (fun c11 => ?_)
          · skip
            have h := (if_neg c11).symm.trans h
            refine lv_iconst (v := 0) hx hb dX11_balance_57 (by decide) ?_
            exact J58_10 0 _ _ _ h hP hD hS (lv_sub hl [1, 2, 3] rfl)
          · skip
            have h := (if_pos c11).symm.trans h
            refine lv_aload_n hx hb dX11_balance_48 rfl (lv_at hl 1 rfl) ?_
            refine va_get (own := RX11) (ci := 10) (v := .ref q_t_debts) (C := RX11) (T := TX11) (N := 25) hx hb hts iX11 hown hK hP 0 rfl rfl 10 (by decide) k22 (fun _ h9 => h9) rfl dX11_balance_49 ?_
            refine lv_iload_n hx hb dX11_balance_52 rfl (lv_at hl 3 rfl) ?_
            obtain ⟨g12, h⟩ := gd_of h
            refine va_iald hx hb hK hP 1 0 rfl rfl (inb_of g12) dX11_balance_53 ?_
            refine lv_goto (tgt := 58) hx hb dX11_balance_54 (by decide) ?_
            exact J58_10 (v_t_debts z1.2.toNatClampNeg) _ _ _ h hP hD hS (lv_sub hl [1, 2, 3] rfl)
        refine lv_icmp_ne (tgt := 32) hx hb dX11_balance_20 (by decide) (fun c13 => ?_) (fun c13 => ?_)
        · skip
          have h := (if_neg c13).symm.trans h
          refine lv_iconst (v := 0) hx hb dX11_balance_32 (by decide) ?_
          exact J33_8 0 _ _ _ h hP hD hS (lv_sub hl [0, 1, 3] rfl)
        · skip
          have h := (if_pos c13).symm.trans h
          refine lv_aload_n hx hb dX11_balance_23 rfl (lv_at hl 0 rfl) ?_
          refine va_get (own := RX11) (ci := 10) (v := .ref q_t_debts) (C := RX11) (T := TX11) (N := 25) hx hb hts iX11 hown hK hP 0 rfl rfl 10 (by decide) k22 (fun _ h9 => h9) rfl dX11_balance_24 ?_
          refine lv_iload_n hx hb dX11_balance_27 rfl (lv_at hl 3 rfl) ?_
          obtain ⟨g14, h⟩ := gd_of h
          refine va_iald hx hb hK hP 1 0 rfl rfl (inb_of g14) dX11_balance_28 ?_
          refine lv_goto (tgt := 33) hx hb dX11_balance_29 (by decide) ?_
          exact J33_8 (v_t_debts z1.2.toNatClampNeg) _ _ _ h hP hD hS (lv_sub hl [0, 1, 3] rfl)
  exact L4_5 FU (0, 0) _ _ _ he_e2 hP hD hS (lv_sub hl [2, 3, 1, 0] rfl)
def fX11_fewestOf_X9_88  (a3 : (Nat → Int32)) : Option (Int32 × (Nat → Int32)) :=
  some ((6 - (a3 (63 : Int32).toNatClampNeg)), a3)
def fX11_fewestOf_X24_82 (z1 : Int32 × (Nat → Int32)) (a10 : (Nat → Int32)) : Option ((Int32 × (Nat → Int32)) ⊕ ((Nat → Int32))) :=
  some (Sum.inl ((z1.1 + 1), a10))
def fX11_fewestOf_J73 (z1 : Int32 × (Nat → Int32)) (z8 : Int32 × (Nat → Int32)) (a15 : (Nat → Int32)) : Option ((Int32 × (Nat → Int32)) ⊕ ((Nat → Int32))) :=
  some (Sum.inl (((z8.1 - 1) &&& z1.1), a15))
def fX11_fewestOf_L24 (v_t_pageMany : Int32) (v_t_readMany : Int32) (v_t_told : Int32) (v_t_many : Int32) (v_t_lostByHands : Int32) (v_t_lostByMould : Int32) (v_t_ringMany : Int32) (v_t_seedNow : Int32) (v_t_keptMany : Int32) (v_t_keptByHands : Int32) (v_t_keptByMould : Int32) (v_t_hash : Int64) (v_t_debts : Nat → Int32) (z1 : Int32 × (Nat → Int32)) (z8 : Int32 × (Nat → Int32)) : Option ((Int32 × (Nat → Int32)) ⊕ ((Nat → Int32))) :=
  if z8.1 ≤ 0 then (some (Sum.inr z8.2)) else (gd (inb (z1.1 &&& (z8.1 ^^^ (-1))) 64) (if (z8.2 (z1.1 &&& (z8.1 ^^^ (-1))).toNatClampNeg) = (-1) then (fX11_fewestOf_J73 z1 z8 z8.2) else ((fX11_balance v_t_pageMany v_t_readMany v_t_told v_t_many v_t_lostByHands v_t_lostByMould v_t_ringMany v_t_seedNow v_t_keptMany v_t_keptByHands v_t_keptByMould v_t_hash v_t_debts z8.1).bind (fun u18 => if u18 = 0 then (if ((z8.2 (z1.1 &&& (z8.1 ^^^ (-1))).toNatClampNeg) + 1) ≤ (z8.2 z1.1.toNatClampNeg) then (fX11_fewestOf_J73 z1 z8 z8.2) else (fX11_fewestOf_J73 z1 z8 (upd z8.2 z1.1.toNatClampNeg ((z8.2 (z1.1 &&& (z8.1 ^^^ (-1))).toNatClampNeg) + 1)))) else (fX11_fewestOf_J73 z1 z8 z8.2)))))
def fX11_fewestOf_L9 (v_t_pageMany : Int32) (v_t_readMany : Int32) (v_t_told : Int32) (v_t_many : Int32) (v_t_lostByHands : Int32) (v_t_lostByMould : Int32) (v_t_ringMany : Int32) (v_t_seedNow : Int32) (v_t_keptMany : Int32) (v_t_keptByHands : Int32) (v_t_keptByMould : Int32) (v_t_hash : Int64) (v_t_debts : Nat → Int32) (z1 : Int32 × (Nat → Int32)) : Option ((Int32 × (Nat → Int32)) ⊕ ((Nat → Int32))) :=
  if 64 ≤ z1.1 then (some (Sum.inr z1.2)) else (gd (inb z1.1 64) ((iter (fX11_fewestOf_L24 v_t_pageMany v_t_readMany v_t_told v_t_many v_t_lostByHands v_t_lostByMould v_t_ringMany v_t_seedNow v_t_keptMany v_t_keptByHands v_t_keptByMould v_t_hash v_t_debts z1) FU (z1.1, (upd z1.2 z1.1.toNatClampNeg (-1)))).bind (fX11_fewestOf_X24_82 z1)))
def fX11_fewestOf (v_t_pageMany : Int32) (v_t_readMany : Int32) (v_t_told : Int32) (v_t_many : Int32) (v_t_lostByHands : Int32) (v_t_lostByMould : Int32) (v_t_ringMany : Int32) (v_t_seedNow : Int32) (v_t_keptMany : Int32) (v_t_keptByHands : Int32) (v_t_keptByMould : Int32) (v_t_hash : Int64) (v_t_debts : Nat → Int32) (v_t_groups : Nat → Int32) : Option (Int32 × (Nat → Int32)) :=
  (iter (fX11_fewestOf_L9 v_t_pageMany v_t_readMany v_t_told v_t_many v_t_lostByHands v_t_lostByMould v_t_ringMany v_t_seedNow v_t_keptMany v_t_keptByHands v_t_keptByMould v_t_hash v_t_debts) FU (1, (upd v_t_groups (0 : Int32).toNatClampNeg 0))).bind (fX11_fewestOf_X9_88)
set_option maxHeartbeats 4000000 in
set_option maxRecDepth 100000 in
theorem c_X11_fewestOf (l : Launch) (D : va_G) (cI cJ : ClassId) (q_t q_t_page q_t_readKinds q_t_readLeaflets q_t_rows q_t_debts q_t_ring q_t_line q_t_groups q_t_likely q_t_likelyThen q_t_saved q_t_keptRows q_t_keptDebts : Nat) (v_t_pageMany : Int32) (v_t_readMany : Int32) (v_t_told : Int32) (v_t_many : Int32) (v_t_lostByHands : Int32) (v_t_lostByMould : Int32) (v_t_ringMany : Int32) (v_t_seedNow : Int32) (v_t_keptMany : Int32) (v_t_keptByHands : Int32) (v_t_keptByMould : Int32) (v_t_hash : Int64) (v_t_debts : Nat → Int32) (v_t_groups : Nat → Int32) (z : Int32 × (Nat → Int32)) (h : fX11_fewestOf v_t_pageMany v_t_readMany v_t_told v_t_many v_t_lostByHands v_t_lostByMould v_t_ringMany v_t_seedNow v_t_keptMany v_t_keptByHands v_t_keptByMould v_t_hash v_t_debts v_t_groups = some z) : Met l yX11_fewestOf wsX11_fewestOf ({ frames := 1, cells := 0, slots := 0, locals := 23 } : Room) (va_Pc [.ref q_t] (preG D cI cJ [(q_t, .inr (10, [.ref q_t_page, .int v_t_pageMany, .ref q_t_readKinds, .ref q_t_readLeaflets, .int v_t_readMany, .int v_t_told, .int v_t_many, .int v_t_lostByHands, .int v_t_lostByMould, .ref q_t_rows, .ref q_t_debts, .int v_t_ringMany, .ref q_t_ring, .ref q_t_line, .ref q_t_groups, .ref q_t_likely, .ref q_t_likelyThen, .int v_t_seedNow, .ref q_t_saved, .int v_t_keptMany, .int v_t_keptByHands, .int v_t_keptByMould, .ref q_t_keptRows, .ref q_t_keptDebts, .long v_t_hash])), (q_t_debts, .inl (cI, 36, .inl v_t_debts)), (q_t_groups, .inl (cI, 64, .inl v_t_groups))])) (QG D [(q_t, .inr (10, [.ref q_t_page, .int v_t_pageMany, .ref q_t_readKinds, .ref q_t_readLeaflets, .int v_t_readMany, .int v_t_told, .int v_t_many, .int v_t_lostByHands, .int v_t_lostByMould, .ref q_t_rows, .ref q_t_debts, .int v_t_ringMany, .ref q_t_ring, .ref q_t_line, .ref q_t_groups, .ref q_t_likely, .ref q_t_likelyThen, .int v_t_seedNow, .ref q_t_saved, .int v_t_keptMany, .int v_t_keptByHands, .int v_t_keptByMould, .ref q_t_keptRows, .ref q_t_keptDebts, .long v_t_hash])), (q_t_debts, .inl (cI, 36, .inl v_t_debts)), (q_t_groups, .inl (cI, 64, .inl v_t_groups))] [(q_t, .inr (10, [.ref q_t_page, .int v_t_pageMany, .ref q_t_readKinds, .ref q_t_readLeaflets, .int v_t_readMany, .int v_t_told, .int v_t_many, .int v_t_lostByHands, .int v_t_lostByMould, .ref q_t_rows, .ref q_t_debts, .int v_t_ringMany, .ref q_t_ring, .ref q_t_line, .ref q_t_groups, .ref q_t_likely, .ref q_t_likelyThen, .int v_t_seedNow, .ref q_t_saved, .int v_t_keptMany, .int v_t_keptByHands, .int v_t_keptByMould, .ref q_t_keptRows, .ref q_t_keptDebts, .long v_t_hash])), (q_t_debts, .inl (cI, 36, .inl v_t_debts)), (q_t_groups, .inl (cI, 64, .inl z.2))] (some (.int z.1))) 0 0 (fr [(q_t, .inr (10, [.ref q_t_page, .int v_t_pageMany, .ref q_t_readKinds, .ref q_t_readLeaflets, .int v_t_readMany, .int v_t_told, .int v_t_many, .int v_t_lostByHands, .int v_t_lostByMould, .ref q_t_rows, .ref q_t_debts, .int v_t_ringMany, .ref q_t_ring, .ref q_t_line, .ref q_t_groups, .ref q_t_likely, .ref q_t_likelyThen, .int v_t_seedNow, .ref q_t_saved, .int v_t_keptMany, .int v_t_keptByHands, .int v_t_keptByMould, .ref q_t_keptRows, .ref q_t_keptDebts, .long v_t_hash])), (q_t_debts, .inl (cI, 36, .inl v_t_debts)), (q_t_groups, .inl (cI, 64, .inl v_t_groups))]) := by
  refine Met.ofW (cc := cX11_fewestOf) (maxL := 4) (ret := (some .int)) (by decide) rfl ?_
  intro p e s m args below meth c s₁ B hml hv
  obtain ⟨hargs, hP, hK, hN, hD0⟩ := hv
  have hx := B.exec
  have hb := B.bytes
  have hr := B.returns
  have hts := atoms_spec (ws := wsX11_fewestOf) B.pre
  have hown : s.vm.findClass RX11 = some m.cls := findClass_of_methodNamed B.named
  have hlocks := B.notSynchronized
  have iX11 : ∀ w ∈ wsX110, w ∈ wsX11_fewestOf := by decide +kernel
  have k31 := hts (.fieldLink RX11 31 "PressedFernsModel" "groups" "[I") (by decide +kernel)
  have hD := fr_D hD0
  have hS : va_S (fr [(q_t, .inr (10, [.ref q_t_page, .int v_t_pageMany, .ref q_t_readKinds, .ref q_t_readLeaflets, .int v_t_readMany, .int v_t_told, .int v_t_many, .int v_t_lostByHands, .int v_t_lostByMould, .ref q_t_rows, .ref q_t_debts, .int v_t_ringMany, .ref q_t_ring, .ref q_t_line, .ref q_t_groups, .ref q_t_likely, .ref q_t_likelyThen, .int v_t_seedNow, .ref q_t_saved, .int v_t_keptMany, .int v_t_keptByHands, .int v_t_keptByMould, .ref q_t_keptRows, .ref q_t_keptDebts, .long v_t_hash])), (q_t_debts, .inl (cI, 36, .inl v_t_debts)), (q_t_groups, .inl (cI, 64, .inl v_t_groups))]) s.heap s.heap [] := va_S.rf
  have hl := lv_entry ([.ref q_t]) (n := 4) (Nat.le_of_ble_eq_true rfl)
  refine W.eq (g2 := F0 m 0 ((lg_sl ([.ref q_t]) ++ List.replicate (4 - (lg_sl ([.ref q_t])).length) Slot.unset).toArray) []) (by rw [hargs, lg_entry_eq]) ?_
  generalize (lg_sl ([.ref q_t]) ++ List.replicate (4 - (lg_sl ([.ref q_t])).length) Slot.unset).toArray = ls at hl ⊢
  have hl : lv_has ls 4 [(0, .ref q_t)] := hl
  show W p l e ({ frames := 1, cells := 0, slots := 0, locals := 23 } : Room) s m args below meth c s.heap [] 0 0 (MQ below (QG D [(q_t, .inr (10, [.ref q_t_page, .int v_t_pageMany, .ref q_t_readKinds, .ref q_t_readLeaflets, .int v_t_readMany, .int v_t_told, .int v_t_many, .int v_t_lostByHands, .int v_t_lostByMould, .ref q_t_rows, .ref q_t_debts, .int v_t_ringMany, .ref q_t_ring, .ref q_t_line, .ref q_t_groups, .ref q_t_likely, .ref q_t_likelyThen, .int v_t_seedNow, .ref q_t_saved, .int v_t_keptMany, .int v_t_keptByHands, .int v_t_keptByMould, .ref q_t_keptRows, .ref q_t_keptDebts, .long v_t_hash])), (q_t_debts, .inl (cI, 36, .inl v_t_debts)), (q_t_groups, .inl (cI, 64, .inl v_t_groups))] [(q_t, .inr (10, [.ref q_t_page, .int v_t_pageMany, .ref q_t_readKinds, .ref q_t_readLeaflets, .int v_t_readMany, .int v_t_told, .int v_t_many, .int v_t_lostByHands, .int v_t_lostByMould, .ref q_t_rows, .ref q_t_debts, .int v_t_ringMany, .ref q_t_ring, .ref q_t_line, .ref q_t_groups, .ref q_t_likely, .ref q_t_likelyThen, .int v_t_seedNow, .ref q_t_saved, .int v_t_keptMany, .int v_t_keptByHands, .int v_t_keptByMould, .ref q_t_keptRows, .ref q_t_keptDebts, .long v_t_hash])), (q_t_debts, .inl (cI, 36, .inl v_t_debts)), (q_t_groups, .inl (cI, 64, .inl z.2))] (some (.int z.1))) args s 0 0 (fr [(q_t, .inr (10, [.ref q_t_page, .int v_t_pageMany, .ref q_t_readKinds, .ref q_t_readLeaflets, .int v_t_readMany, .int v_t_told, .int v_t_many, .int v_t_lostByHands, .int v_t_lostByMould, .ref q_t_rows, .ref q_t_debts, .int v_t_ringMany, .ref q_t_ring, .ref q_t_line, .ref q_t_groups, .ref q_t_likely, .ref q_t_likelyThen, .int v_t_seedNow, .ref q_t_saved, .int v_t_keptMany, .int v_t_keptByHands, .int v_t_keptByMould, .ref q_t_keptRows, .ref q_t_keptDebts, .long v_t_hash])), (q_t_debts, .inl (cI, 36, .inl v_t_debts)), (q_t_groups, .inl (cI, 64, .inl v_t_groups))])) (F0 m 0 ls [])
  generalize hQ0 : (MQ below (QG D [(q_t, .inr (10, [.ref q_t_page, .int v_t_pageMany, .ref q_t_readKinds, .ref q_t_readLeaflets, .int v_t_readMany, .int v_t_told, .int v_t_many, .int v_t_lostByHands, .int v_t_lostByMould, .ref q_t_rows, .ref q_t_debts, .int v_t_ringMany, .ref q_t_ring, .ref q_t_line, .ref q_t_groups, .ref q_t_likely, .ref q_t_likelyThen, .int v_t_seedNow, .ref q_t_saved, .int v_t_keptMany, .int v_t_keptByHands, .int v_t_keptByMould, .ref q_t_keptRows, .ref q_t_keptDebts, .long v_t_hash])), (q_t_debts, .inl (cI, 36, .inl v_t_debts)), (q_t_groups, .inl (cI, 64, .inl v_t_groups))] [(q_t, .inr (10, [.ref q_t_page, .int v_t_pageMany, .ref q_t_readKinds, .ref q_t_readLeaflets, .int v_t_readMany, .int v_t_told, .int v_t_many, .int v_t_lostByHands, .int v_t_lostByMould, .ref q_t_rows, .ref q_t_debts, .int v_t_ringMany, .ref q_t_ring, .ref q_t_line, .ref q_t_groups, .ref q_t_likely, .ref q_t_likelyThen, .int v_t_seedNow, .ref q_t_saved, .int v_t_keptMany, .int v_t_keptByHands, .int v_t_keptByMould, .ref q_t_keptRows, .ref q_t_keptDebts, .long v_t_hash])), (q_t_debts, .inl (cI, 36, .inl v_t_debts)), (q_t_groups, .inl (cI, 64, .inl z.2))] (some (.int z.1))) args s 0 0 (fr [(q_t, .inr (10, [.ref q_t_page, .int v_t_pageMany, .ref q_t_readKinds, .ref q_t_readLeaflets, .int v_t_readMany, .int v_t_told, .int v_t_many, .int v_t_lostByHands, .int v_t_lostByMould, .ref q_t_rows, .ref q_t_debts, .int v_t_ringMany, .ref q_t_ring, .ref q_t_line, .ref q_t_groups, .ref q_t_likely, .ref q_t_likelyThen, .int v_t_seedNow, .ref q_t_saved, .int v_t_keptMany, .int v_t_keptByHands, .int v_t_keptByMould, .ref q_t_keptRows, .ref q_t_keptDebts, .long v_t_hash])), (q_t_debts, .inl (cI, 36, .inl v_t_debts)), (q_t_groups, .inl (cI, 64, .inl v_t_groups))])) = Q0
  generalize hA0 : fr [(q_t, .inr (10, [.ref q_t_page, .int v_t_pageMany, .ref q_t_readKinds, .ref q_t_readLeaflets, .int v_t_readMany, .int v_t_told, .int v_t_many, .int v_t_lostByHands, .int v_t_lostByMould, .ref q_t_rows, .ref q_t_debts, .int v_t_ringMany, .ref q_t_ring, .ref q_t_line, .ref q_t_groups, .ref q_t_likely, .ref q_t_likelyThen, .int v_t_seedNow, .ref q_t_saved, .int v_t_keptMany, .int v_t_keptByHands, .int v_t_keptByMould, .ref q_t_keptRows, .ref q_t_keptDebts, .long v_t_hash])), (q_t_debts, .inl (cI, 36, .inl v_t_debts)), (q_t_groups, .inl (cI, 64, .inl v_t_groups))] = A0 at hD hS
  unfold fX11_fewestOf at h
  refine lv_aload_n hx hb dX11_fewestOf_0 rfl (lv_at hl 0 rfl) ?_
  refine va_get (own := RX11) (ci := 10) (v := .ref q_t_groups) (C := RX11) (T := TX11) (N := 25) hx hb hts iX11 hown hK hP 0 rfl rfl 14 (by decide) k31 (fun _ h9 => h9) rfl dX11_fewestOf_1 ?_
  refine lv_iconst (v := 0) hx hb dX11_fewestOf_4 (by decide) ?_
  refine lv_iconst (v := 0) hx hb dX11_fewestOf_5 (by decide) ?_
  refine va_iast hx hb hK hP hD hS 2 0 rfl rfl (inb_of (by decide)) dX11_fewestOf_6 (fun H locs hP hD hS => ?_)
  have hP : va_P D vwCl [(q_t, .inr (10, [.ref q_t_page, .int v_t_pageMany, .ref q_t_readKinds, .ref q_t_readLeaflets, .int v_t_readMany, .int v_t_told, .int v_t_many, .int v_t_lostByHands, .int v_t_lostByMould, .ref q_t_rows, .ref q_t_debts, .int v_t_ringMany, .ref q_t_ring, .ref q_t_line, .ref q_t_groups, .ref q_t_likely, .ref q_t_likelyThen, .int v_t_seedNow, .ref q_t_saved, .int v_t_keptMany, .int v_t_keptByHands, .int v_t_keptByMould, .ref q_t_keptRows, .ref q_t_keptDebts, .long v_t_hash])), (q_t_debts, .inl (cI, 36, .inl v_t_debts)), (q_t_groups, .inl (cI, 64, .inl (upd v_t_groups (0 : Int32).toNatClampNeg 0)))] H := hP
  have hD : va_D A0 [(q_t, .inr (10, [.ref q_t_page, .int v_t_pageMany, .ref q_t_readKinds, .ref q_t_readLeaflets, .int v_t_readMany, .int v_t_told, .int v_t_many, .int v_t_lostByHands, .int v_t_lostByMould, .ref q_t_rows, .ref q_t_debts, .int v_t_ringMany, .ref q_t_ring, .ref q_t_line, .ref q_t_groups, .ref q_t_likely, .ref q_t_likelyThen, .int v_t_seedNow, .ref q_t_saved, .int v_t_keptMany, .int v_t_keptByHands, .int v_t_keptByMould, .ref q_t_keptRows, .ref q_t_keptDebts, .long v_t_hash])), (q_t_debts, .inl (cI, 36, .inl v_t_debts)), (q_t_groups, .inl (cI, 64, .inl (upd v_t_groups (0 : Int32).toNatClampNeg 0)))] := hD
  refine lv_iconst (v := 1) hx hb dX11_fewestOf_7 (by decide) ?_
  refine lv_istore_n (lv' := [(1, .int 1), (0, .ref q_t)]) hx hb dX11_fewestOf_8 rfl hl (by decide) rfl (fun ls hl => ?_)
  obtain ⟨e2, he_e2, hc_e2⟩ := bd_of h
  have X88_4 : ∀ (a3 : (Nat → Int32)) (H : Heap) (locs : List Loc) (ls : Array Slot), fX11_fewestOf_X9_88 a3 = some z → va_P D vwCl [(q_t, .inr (10, [.ref q_t_page, .int v_t_pageMany, .ref q_t_readKinds, .ref q_t_readLeaflets, .int v_t_readMany, .int v_t_told, .int v_t_many, .int v_t_lostByHands, .int v_t_lostByMould, .ref q_t_rows, .ref q_t_debts, .int v_t_ringMany, .ref q_t_ring, .ref q_t_line, .ref q_t_groups, .ref q_t_likely, .ref q_t_likelyThen, .int v_t_seedNow, .ref q_t_saved, .int v_t_keptMany, .int v_t_keptByHands, .int v_t_keptByMould, .ref q_t_keptRows, .ref q_t_keptDebts, .long v_t_hash])), (q_t_debts, .inl (cI, 36, .inl v_t_debts)), (q_t_groups, .inl (cI, 64, .inl a3))] H → va_D A0 [(q_t, .inr (10, [.ref q_t_page, .int v_t_pageMany, .ref q_t_readKinds, .ref q_t_readLeaflets, .int v_t_readMany, .int v_t_told, .int v_t_many, .int v_t_lostByHands, .int v_t_lostByMould, .ref q_t_rows, .ref q_t_debts, .int v_t_ringMany, .ref q_t_ring, .ref q_t_line, .ref q_t_groups, .ref q_t_likely, .ref q_t_likelyThen, .int v_t_seedNow, .ref q_t_saved, .int v_t_keptMany, .int v_t_keptByHands, .int v_t_keptByMould, .ref q_t_keptRows, .ref q_t_keptDebts, .long v_t_hash])), (q_t_debts, .inl (cI, 36, .inl v_t_debts)), (q_t_groups, .inl (cI, 64, .inl a3))] → va_S A0 s.heap H locs → lv_has ls 4 [(0, .ref q_t)] → W p l e ({ frames := 1, cells := 0, slots := 0, locals := 23 } : Room) s m args below meth c H locs 0 0 Q0 (F0 m 88 ls []) := by
    intro a3 H locs ls h hP hD hS hl
    unfold fX11_fewestOf_X9_88 at h
    refine lv_bipush (v := 6) hx hb dX11_fewestOf_88 (by decide) ?_
    refine lv_aload_n hx hb dX11_fewestOf_90 rfl (lv_at hl 0 rfl) ?_
    refine va_get (own := RX11) (ci := 10) (v := .ref q_t_groups) (C := RX11) (T := TX11) (N := 25) hx hb hts iX11 hown hK hP 0 rfl rfl 14 (by decide) k31 (fun _ h9 => h9) rfl dX11_fewestOf_91 ?_
    refine lv_bipush (v := 63) hx hb dX11_fewestOf_94 (by decide) ?_
    refine va_iald hx hb hK hP 2 0 rfl rfl (inb_of (by decide)) dX11_fewestOf_96 ?_
    refine lv_isub hx hb dX11_fewestOf_97 ?_
    obtain rfl := Option.some.inj h
    exact rt_i hA0 hQ0 hx hb hr hlocks hP hS dX11_fewestOf_98
  have L9_5 : ∀ (n : Nat) (z1 : Int32 × (Nat → Int32)) (H : Heap) (locs : List Loc) (ls : Array Slot), iter (fX11_fewestOf_L9 v_t_pageMany v_t_readMany v_t_told v_t_many v_t_lostByHands v_t_lostByMould v_t_ringMany v_t_seedNow v_t_keptMany v_t_keptByHands v_t_keptByMould v_t_hash v_t_debts) n z1 = some e2 → va_P D vwCl [(q_t, .inr (10, [.ref q_t_page, .int v_t_pageMany, .ref q_t_readKinds, .ref q_t_readLeaflets, .int v_t_readMany, .int v_t_told, .int v_t_many, .int v_t_lostByHands, .int v_t_lostByMould, .ref q_t_rows, .ref q_t_debts, .int v_t_ringMany, .ref q_t_ring, .ref q_t_line, .ref q_t_groups, .ref q_t_likely, .ref q_t_likelyThen, .int v_t_seedNow, .ref q_t_saved, .int v_t_keptMany, .int v_t_keptByHands, .int v_t_keptByMould, .ref q_t_keptRows, .ref q_t_keptDebts, .long v_t_hash])), (q_t_debts, .inl (cI, 36, .inl v_t_debts)), (q_t_groups, .inl (cI, 64, .inl z1.2))] H → va_D A0 [(q_t, .inr (10, [.ref q_t_page, .int v_t_pageMany, .ref q_t_readKinds, .ref q_t_readLeaflets, .int v_t_readMany, .int v_t_told, .int v_t_many, .int v_t_lostByHands, .int v_t_lostByMould, .ref q_t_rows, .ref q_t_debts, .int v_t_ringMany, .ref q_t_ring, .ref q_t_line, .ref q_t_groups, .ref q_t_likely, .ref q_t_likelyThen, .int v_t_seedNow, .ref q_t_saved, .int v_t_keptMany, .int v_t_keptByHands, .int v_t_keptByMould, .ref q_t_keptRows, .ref q_t_keptDebts, .long v_t_hash])), (q_t_debts, .inl (cI, 36, .inl v_t_debts)), (q_t_groups, .inl (cI, 64, .inl z1.2))] → va_S A0 s.heap H locs → lv_has ls 4 [(0, .ref q_t), (1, .int z1.1)] → W p l e ({ frames := 1, cells := 0, slots := 0, locals := 23 } : Room) s m args below meth c H locs 0 0 Q0 (F0 m 9 ls []) := by
    intro n
    induction n with
    | zero => exact fun _ _ _ _ h => (iter_z h).elim
    | succ n ih =>
      intro z1 H locs ls h hP hD hS hl
      obtain ⟨r_e2, h, hn_e2⟩ := iter_s h
      unfold fX11_fewestOf_L9 at h
      refine lv_iload_n hx hb dX11_fewestOf_9 rfl (lv_at hl 1 rfl) ?_
      refine lv_bipush (v := 64) hx hb dX11_fewestOf_10 (by decide) ?_
      refine lv_icmp_ge (tgt := 88) hx hb dX11_fewestOf_12 (by decide) (fun c6 => ?_) (fun c6 => ?_)
      · skip
        have h := (if_pos c6).symm.trans h
        obtain rfl := Option.some.inj h
        obtain rfl := Option.some.inj hn_e2
        exact X88_4 z1.2 _ _ _ hc_e2 hP hD hS (lv_sub hl [0] rfl)
      · skip
        have h := (if_neg c6).symm.trans h
        refine lv_aload_n hx hb dX11_fewestOf_15 rfl (lv_at hl 0 rfl) ?_
        refine va_get (own := RX11) (ci := 10) (v := .ref q_t_groups) (C := RX11) (T := TX11) (N := 25) hx hb hts iX11 hown hK hP 0 rfl rfl 14 (by decide) k31 (fun _ h9 => h9) rfl dX11_fewestOf_16 ?_
        refine lv_iload_n hx hb dX11_fewestOf_19 rfl (lv_at hl 1 rfl) ?_
        refine lv_iconst (v := (-1)) hx hb dX11_fewestOf_20 (by decide) ?_
        obtain ⟨g7, h⟩ := gd_of h
        refine va_iast hx hb hK hP hD hS 2 0 rfl rfl (inb_of g7) dX11_fewestOf_21 (fun H locs hP hD hS => ?_)
        have hP : va_P D vwCl [(q_t, .inr (10, [.ref q_t_page, .int v_t_pageMany, .ref q_t_readKinds, .ref q_t_readLeaflets, .int v_t_readMany, .int v_t_told, .int v_t_many, .int v_t_lostByHands, .int v_t_lostByMould, .ref q_t_rows, .ref q_t_debts, .int v_t_ringMany, .ref q_t_ring, .ref q_t_line, .ref q_t_groups, .ref q_t_likely, .ref q_t_likelyThen, .int v_t_seedNow, .ref q_t_saved, .int v_t_keptMany, .int v_t_keptByHands, .int v_t_keptByMould, .ref q_t_keptRows, .ref q_t_keptDebts, .long v_t_hash])), (q_t_debts, .inl (cI, 36, .inl v_t_debts)), (q_t_groups, .inl (cI, 64, .inl (upd z1.2 z1.1.toNatClampNeg (-1))))] H := hP
        have hD : va_D A0 [(q_t, .inr (10, [.ref q_t_page, .int v_t_pageMany, .ref q_t_readKinds, .ref q_t_readLeaflets, .int v_t_readMany, .int v_t_told, .int v_t_many, .int v_t_lostByHands, .int v_t_lostByMould, .ref q_t_rows, .ref q_t_debts, .int v_t_ringMany, .ref q_t_ring, .ref q_t_line, .ref q_t_groups, .ref q_t_likely, .ref q_t_likelyThen, .int v_t_seedNow, .ref q_t_saved, .int v_t_keptMany, .int v_t_keptByHands, .int v_t_keptByMould, .ref q_t_keptRows, .ref q_t_keptDebts, .long v_t_hash])), (q_t_debts, .inl (cI, 36, .inl v_t_debts)), (q_t_groups, .inl (cI, 64, .inl (upd z1.2 z1.1.toNatClampNeg (-1))))] := hD
        refine lv_iload_n hx hb dX11_fewestOf_22 rfl (lv_at hl 1 rfl) ?_
        refine lv_istore_n (lv' := [(2, .int z1.1), (0, .ref q_t), (1, .int z1.1)]) hx hb dX11_fewestOf_23 rfl hl (by decide) rfl (fun ls hl => ?_)
        obtain ⟨e9, he_e9, hc_e9⟩ := bd_of h
        have X82_11 : ∀ (a10 : (Nat → Int32)) (H : Heap) (locs : List Loc) (ls : Array Slot), fX11_fewestOf_X24_82 z1 a10 = some r_e2 → va_P D vwCl [(q_t, .inr (10, [.ref q_t_page, .int v_t_pageMany, .ref q_t_readKinds, .ref q_t_readLeaflets, .int v_t_readMany, .int v_t_told, .int v_t_many, .int v_t_lostByHands, .int v_t_lostByMould, .ref q_t_rows, .ref q_t_debts, .int v_t_ringMany, .ref q_t_ring, .ref q_t_line, .ref q_t_groups, .ref q_t_likely, .ref q_t_likelyThen, .int v_t_seedNow, .ref q_t_saved, .int v_t_keptMany, .int v_t_keptByHands, .int v_t_keptByMould, .ref q_t_keptRows, .ref q_t_keptDebts, .long v_t_hash])), (q_t_debts, .inl (cI, 36, .inl v_t_debts)), (q_t_groups, .inl (cI, 64, .inl a10))] H → va_D A0 [(q_t, .inr (10, [.ref q_t_page, .int v_t_pageMany, .ref q_t_readKinds, .ref q_t_readLeaflets, .int v_t_readMany, .int v_t_told, .int v_t_many, .int v_t_lostByHands, .int v_t_lostByMould, .ref q_t_rows, .ref q_t_debts, .int v_t_ringMany, .ref q_t_ring, .ref q_t_line, .ref q_t_groups, .ref q_t_likely, .ref q_t_likelyThen, .int v_t_seedNow, .ref q_t_saved, .int v_t_keptMany, .int v_t_keptByHands, .int v_t_keptByMould, .ref q_t_keptRows, .ref q_t_keptDebts, .long v_t_hash])), (q_t_debts, .inl (cI, 36, .inl v_t_debts)), (q_t_groups, .inl (cI, 64, .inl a10))] → va_S A0 s.heap H locs → lv_has ls 4 [(0, .ref q_t), (1, .int z1.1)] → W p l e ({ frames := 1, cells := 0, slots := 0, locals := 23 } : Room) s m args below meth c H locs 0 0 Q0 (F0 m 82 ls []) := by
          intro a10 H locs ls h hP hD hS hl
          unfold fX11_fewestOf_X24_82 at h
          refine lv_iinc (v := (z1.1 + 1)) (lv' := [(1, .int (z1.1 + 1)), (0, .ref q_t)]) hx hb dX11_fewestOf_82 hl (k := 1) rfl rfl (by decide) rfl (fun ls hl => ?_)
          refine lv_goto (tgt := 9) hx hb dX11_fewestOf_85 (by decide) ?_
          obtain rfl := Option.some.inj h
          exact ih ((z1.1 + 1), a10) _ _ _ hn_e2 hP hD hS (lv_sub hl [1, 0] rfl)
        have L24_12 : ∀ (n : Nat) (z8 : Int32 × (Nat → Int32)) (H : Heap) (locs : List Loc) (ls : Array Slot), iter (fX11_fewestOf_L24 v_t_pageMany v_t_readMany v_t_told v_t_many v_t_lostByHands v_t_lostByMould v_t_ringMany v_t_seedNow v_t_keptMany v_t_keptByHands v_t_keptByMould v_t_hash v_t_debts z1) n z8 = some e9 → va_P D vwCl [(q_t, .inr (10, [.ref q_t_page, .int v_t_pageMany, .ref q_t_readKinds, .ref q_t_readLeaflets, .int v_t_readMany, .int v_t_told, .int v_t_many, .int v_t_lostByHands, .int v_t_lostByMould, .ref q_t_rows, .ref q_t_debts, .int v_t_ringMany, .ref q_t_ring, .ref q_t_line, .ref q_t_groups, .ref q_t_likely, .ref q_t_likelyThen, .int v_t_seedNow, .ref q_t_saved, .int v_t_keptMany, .int v_t_keptByHands, .int v_t_keptByMould, .ref q_t_keptRows, .ref q_t_keptDebts, .long v_t_hash])), (q_t_debts, .inl (cI, 36, .inl v_t_debts)), (q_t_groups, .inl (cI, 64, .inl z8.2))] H → va_D A0 [(q_t, .inr (10, [.ref q_t_page, .int v_t_pageMany, .ref q_t_readKinds, .ref q_t_readLeaflets, .int v_t_readMany, .int v_t_told, .int v_t_many, .int v_t_lostByHands, .int v_t_lostByMould, .ref q_t_rows, .ref q_t_debts, .int v_t_ringMany, .ref q_t_ring, .ref q_t_line, .ref q_t_groups, .ref q_t_likely, .ref q_t_likelyThen, .int v_t_seedNow, .ref q_t_saved, .int v_t_keptMany, .int v_t_keptByHands, .int v_t_keptByMould, .ref q_t_keptRows, .ref q_t_keptDebts, .long v_t_hash])), (q_t_debts, .inl (cI, 36, .inl v_t_debts)), (q_t_groups, .inl (cI, 64, .inl z8.2))] → va_S A0 s.heap H locs → lv_has ls 4 [(0, .ref q_t), (1, .int z1.1), (2, .int z8.1)] → W p l e ({ frames := 1, cells := 0, slots := 0, locals := 23 } : Room) s m args below meth c H locs 0 0 Q0 (F0 m 24 ls []) := by
          intro n
          induction n with
          | zero => exact fun _ _ _ _ h => (iter_z h).elim
          | succ n ih =>
            intro z8 H locs ls h hP hD hS hl
            obtain ⟨r_e9, h, hn_e9⟩ := iter_s h
            unfold fX11_fewestOf_L24 at h
            refine lv_iload_n hx hb dX11_fewestOf_24 rfl (lv_at hl 2 rfl) ?_
            refine lv_if_le (tgt := 82) hx hb dX11_fewestOf_25 (by decide) (fun c13 => ?_) (fun c13 => ?_)
            · skip
              have h := (if_pos c13).symm.trans h
              obtain rfl := Option.some.inj h
              obtain rfl := Option.some.inj hn_e9
              exact X82_11 z8.2 _ _ _ hc_e9 hP hD hS (lv_sub hl [0, 1] rfl)
            · skip
              have h := (if_neg c13).symm.trans h
              refine lv_aload_n hx hb dX11_fewestOf_28 rfl (lv_at hl 0 rfl) ?_
              refine va_get (own := RX11) (ci := 10) (v := .ref q_t_groups) (C := RX11) (T := TX11) (N := 25) hx hb hts iX11 hown hK hP 0 rfl rfl 14 (by decide) k31 (fun _ h9 => h9) rfl dX11_fewestOf_29 ?_
              refine lv_iload_n hx hb dX11_fewestOf_32 rfl (lv_at hl 1 rfl) ?_
              refine lv_iload_n hx hb dX11_fewestOf_33 rfl (lv_at hl 2 rfl) ?_
              refine lv_iconst (v := (-1)) hx hb dX11_fewestOf_34 (by decide) ?_
              refine lv_ixor hx hb dX11_fewestOf_35 ?_
              refine lv_iand hx hb dX11_fewestOf_36 ?_
              obtain ⟨g14, h⟩ := gd_of h
              refine va_iald hx hb hK hP 2 0 rfl rfl (inb_of g14) dX11_fewestOf_37 ?_
              refine lv_istore_n (lv' := [(3, .int (z8.2 (z1.1 &&& (z8.1 ^^^ (-1))).toNatClampNeg)), (0, .ref q_t), (1, .int z1.1), (2, .int z8.1)]) hx hb dX11_fewestOf_38 rfl hl (by decide) rfl (fun ls hl => ?_)
              refine lv_iload_n hx hb dX11_fewestOf_39 rfl (lv_at hl 0 rfl) ?_
              refine lv_iconst (v := (-1)) hx hb dX11_fewestOf_40 (by decide) ?_
              have J73_16 : ∀ (a15 : (Nat → Int32)) (H : Heap) (locs : List Loc) (ls : Array Slot), fX11_fewestOf_J73 z1 z8 a15 = some r_e9 → va_P D vwCl [(q_t, .inr (10, [.ref q_t_page, .int v_t_pageMany, .ref q_t_readKinds, .ref q_t_readLeaflets, .int v_t_readMany, .int v_t_told, .int v_t_many, .int v_t_lostByHands, .int v_t_lostByMould, .ref q_t_rows, .ref q_t_debts, .int v_t_ringMany, .ref q_t_ring, .ref q_t_line, .ref q_t_groups, .ref q_t_likely, .ref q_t_likelyThen, .int v_t_seedNow, .ref q_t_saved, .int v_t_keptMany, .int v_t_keptByHands, .int v_t_keptByMould, .ref q_t_keptRows, .ref q_t_keptDebts, .long v_t_hash])), (q_t_debts, .inl (cI, 36, .inl v_t_debts)), (q_t_groups, .inl (cI, 64, .inl a15))] H → va_D A0 [(q_t, .inr (10, [.ref q_t_page, .int v_t_pageMany, .ref q_t_readKinds, .ref q_t_readLeaflets, .int v_t_readMany, .int v_t_told, .int v_t_many, .int v_t_lostByHands, .int v_t_lostByMould, .ref q_t_rows, .ref q_t_debts, .int v_t_ringMany, .ref q_t_ring, .ref q_t_line, .ref q_t_groups, .ref q_t_likely, .ref q_t_likelyThen, .int v_t_seedNow, .ref q_t_saved, .int v_t_keptMany, .int v_t_keptByHands, .int v_t_keptByMould, .ref q_t_keptRows, .ref q_t_keptDebts, .long v_t_hash])), (q_t_debts, .inl (cI, 36, .inl v_t_debts)), (q_t_groups, .inl (cI, 64, .inl a15))] → va_S A0 s.heap H locs → lv_has ls 4 [(0, .ref q_t), (1, .int z1.1), (2, .int z8.1)] → W p l e ({ frames := 1, cells := 0, slots := 0, locals := 23 } : Room) s m args below meth c H locs 0 0 Q0 (F0 m 73 ls []) := by
                intro a15 H locs ls h hP hD hS hl
                unfold fX11_fewestOf_J73 at h
                refine lv_iload_n hx hb dX11_fewestOf_73 rfl (lv_at hl 2 rfl) ?_
                refine lv_iconst (v := 1) hx hb dX11_fewestOf_74 (by decide) ?_
                refine lv_isub hx hb dX11_fewestOf_75 ?_
                refine lv_iload_n hx hb dX11_fewestOf_76 rfl (lv_at hl 1 rfl) ?_
                refine lv_iand hx hb dX11_fewestOf_77 ?_
                refine lv_istore_n (lv' := [(2, .int ((z8.1 - 1) &&& z1.1)), (0, .ref q_t), (1, .int z1.1)]) hx hb dX11_fewestOf_78 rfl hl (by decide) rfl (fun ls hl => ?_)
                refine lv_goto (tgt := 24) hx hb dX11_fewestOf_79 (by decide) ?_
                obtain rfl := Option.some.inj h
                exact ih (((z8.1 - 1) &&& z1.1), a15) _ _ _ hn_e9 hP hD hS (lv_sub hl [1, 2, 0] rfl)
              refine lv_icmp_eq (tgt := 73) hx hb dX11_fewestOf_41 (by decide) (fun c17 => ?_) (fun c17 => ?_)
              · skip
                have h := (if_pos c17).symm.trans h
                exact J73_16 z8.2 _ _ _ h hP hD hS (lv_sub hl [1, 2, 3] rfl)
              · skip
                have h := (if_neg c17).symm.trans h
                refine lv_aload_n hx hb dX11_fewestOf_44 rfl (lv_at hl 1 rfl) ?_
                refine lv_iload_n hx hb dX11_fewestOf_45 rfl (lv_at hl 3 rfl) ?_
                obtain ⟨u18, g19, h⟩ := bd_of h
                refine cl_V [(q_t, .inr (10, [.ref q_t_page, .int v_t_pageMany, .ref q_t_readKinds, .ref q_t_readLeaflets, .int v_t_readMany, .int v_t_told, .int v_t_many, .int v_t_lostByHands, .int v_t_lostByMould, .ref q_t_rows, .ref q_t_debts, .int v_t_ringMany, .ref q_t_ring, .ref q_t_line, .ref q_t_groups, .ref q_t_likely, .ref q_t_likelyThen, .int v_t_seedNow, .ref q_t_saved, .int v_t_keptMany, .int v_t_keptByHands, .int v_t_keptByMould, .ref q_t_keptRows, .ref q_t_keptDebts, .long v_t_hash])), (q_t_debts, .inl (cI, 36, .inl v_t_debts)), (q_t_groups, .inl (cI, 64, .inl z8.2))] (As := [.int z8.1]) (rest := []) (rv := (some (.int u18))) (c_X11_balance l D cI cJ q_t q_t_page q_t_readKinds q_t_readLeaflets q_t_rows q_t_debts q_t_ring q_t_line q_t_groups q_t_likely q_t_likelyThen q_t_saved q_t_keptRows q_t_keptDebts v_t_pageMany v_t_readMany v_t_told v_t_many v_t_lostByHands v_t_lostByMould v_t_ringMany v_t_seedNow v_t_keptMany v_t_keptByHands v_t_keptByMould v_t_hash v_t_debts z8.1 u18 g19) ⟨hx, hb, hml, hown, hts⟩ (cwV 1 hts gX11_fewestOf_X11_balance rfl rfl rfl (by decide +kernel) ⟨(Nat.le_of_ble_eq_true rfl), (Nat.le_of_ble_eq_true rfl)⟩) hK hN hP hD hS [0, 1] rfl (by decide) rfl rfl rfl (q0 := 0) (ci := 10) rfl rfl rfl rfl hl.1 rfl (Nat.le_of_ble_eq_true rfl) dX11_fewestOf_46 ⟨Nat.zero_le _, Nat.zero_le _⟩ (fun H locs hP hD hS => ?_)
                show W p l e ({ frames := 1, cells := 0, slots := 0, locals := 23 } : Room) s m args below meth c H locs 0 0 Q0 (F0 m 49 ls [.int u18])
                refine lv_if_ne (tgt := 73) hx hb dX11_fewestOf_49 (by decide) (fun c20 => ?_) (fun c20 => ?_)
                · skip
                  have h := (if_neg c20).symm.trans h
                  exact J73_16 z8.2 _ _ _ h hP hD hS (lv_sub hl [1, 2, 3] rfl)
                · skip
                  have h := (if_pos c20).symm.trans h
                  refine lv_iload_n hx hb dX11_fewestOf_52 rfl (lv_at hl 0 rfl) ?_
                  refine lv_iconst (v := 1) hx hb dX11_fewestOf_53 (by decide) ?_
                  refine lv_iadd hx hb dX11_fewestOf_54 ?_
                  refine lv_aload_n hx hb dX11_fewestOf_55 rfl (lv_at hl 1 rfl) ?_
                  refine va_get (own := RX11) (ci := 10) (v := .ref q_t_groups) (C := RX11) (T := TX11) (N := 25) hx hb hts iX11 hown hK hP 0 rfl rfl 14 (by decide) k31 (fun _ h9 => h9) rfl dX11_fewestOf_56 ?_
                  refine lv_iload_n hx hb dX11_fewestOf_59 rfl (lv_at hl 2 rfl) ?_
                  refine va_iald hx hb hK hP 2 0 rfl rfl (inb_of g7) dX11_fewestOf_60 ?_
                  refine lv_icmp_le (tgt := 73) hx hb dX11_fewestOf_61 (by decide) (fun c21 => ?_) (fun c21 => ?_)
                  · skip
                    have h := (if_pos c21).symm.trans h
                    exact J73_16 z8.2 _ _ _ h hP hD hS (lv_sub hl [1, 2, 3] rfl)
                  · skip
                    have h := (if_neg c21).symm.trans h
                    refine lv_aload_n hx hb dX11_fewestOf_64 rfl (lv_at hl 1 rfl) ?_
                    refine va_get (own := RX11) (ci := 10) (v := .ref q_t_groups) (C := RX11) (T := TX11) (N := 25) hx hb hts iX11 hown hK hP 0 rfl rfl 14 (by decide) k31 (fun _ h9 => h9) rfl dX11_fewestOf_65 ?_
                    refine lv_iload_n hx hb dX11_fewestOf_68 rfl (lv_at hl 2 rfl) ?_
                    refine lv_iload_n hx hb dX11_fewestOf_69 rfl (lv_at hl 0 rfl) ?_
                    refine lv_iconst (v := 1) hx hb dX11_fewestOf_70 (by decide) ?_
                    refine lv_iadd hx hb dX11_fewestOf_71 ?_
                    refine va_iast hx hb hK hP hD hS 2 0 rfl rfl (inb_of g7) dX11_fewestOf_72 (fun H locs hP hD hS => ?_)
                    have hP : va_P D vwCl [(q_t, .inr (10, [.ref q_t_page, .int v_t_pageMany, .ref q_t_readKinds, .ref q_t_readLeaflets, .int v_t_readMany, .int v_t_told, .int v_t_many, .int v_t_lostByHands, .int v_t_lostByMould, .ref q_t_rows, .ref q_t_debts, .int v_t_ringMany, .ref q_t_ring, .ref q_t_line, .ref q_t_groups, .ref q_t_likely, .ref q_t_likelyThen, .int v_t_seedNow, .ref q_t_saved, .int v_t_keptMany, .int v_t_keptByHands, .int v_t_keptByMould, .ref q_t_keptRows, .ref q_t_keptDebts, .long v_t_hash])), (q_t_debts, .inl (cI, 36, .inl v_t_debts)), (q_t_groups, .inl (cI, 64, .inl (upd z8.2 z1.1.toNatClampNeg ((z8.2 (z1.1 &&& (z8.1 ^^^ (-1))).toNatClampNeg) + 1))))] H := hP
                    have hD : va_D A0 [(q_t, .inr (10, [.ref q_t_page, .int v_t_pageMany, .ref q_t_readKinds, .ref q_t_readLeaflets, .int v_t_readMany, .int v_t_told, .int v_t_many, .int v_t_lostByHands, .int v_t_lostByMould, .ref q_t_rows, .ref q_t_debts, .int v_t_ringMany, .ref q_t_ring, .ref q_t_line, .ref q_t_groups, .ref q_t_likely, .ref q_t_likelyThen, .int v_t_seedNow, .ref q_t_saved, .int v_t_keptMany, .int v_t_keptByHands, .int v_t_keptByMould, .ref q_t_keptRows, .ref q_t_keptDebts, .long v_t_hash])), (q_t_debts, .inl (cI, 36, .inl v_t_debts)), (q_t_groups, .inl (cI, 64, .inl (upd z8.2 z1.1.toNatClampNeg ((z8.2 (z1.1 &&& (z8.1 ^^^ (-1))).toNatClampNeg) + 1))))] := hD
                    exact J73_16 (upd z8.2 z1.1.toNatClampNeg ((z8.2 (z1.1 &&& (z8.1 ^^^ (-1))).toNatClampNeg) + 1)) _ _ _ h hP hD hS (lv_sub hl [1, 2, 3] rfl)
        exact L24_12 FU (z1.1, (upd z1.2 z1.1.toNatClampNeg (-1))) _ _ _ he_e9 hP hD hS (lv_sub hl [1, 2, 0] rfl)
  exact L9_5 FU (1, (upd v_t_groups (0 : Int32).toNatClampNeg 0)) _ _ _ he_e2 hP hD hS (lv_sub hl [1, 0] rfl)
def fX11_fewest (v_t_pageMany : Int32) (v_t_readMany : Int32) (v_t_told : Int32) (v_t_many : Int32) (v_t_lostByHands : Int32) (v_t_lostByMould : Int32) (v_t_ringMany : Int32) (v_t_seedNow : Int32) (v_t_keptMany : Int32) (v_t_keptByHands : Int32) (v_t_keptByMould : Int32) (v_t_hash : Int64) (v_t_debts : Nat → Int32) (v_t_groups : Nat → Int32) : Option (Int32 × (Nat → Int32)) :=
  (fX11_fewestOf v_t_pageMany v_t_readMany v_t_told v_t_many v_t_lostByHands v_t_lostByMould v_t_ringMany v_t_seedNow v_t_keptMany v_t_keptByHands v_t_keptByMould v_t_hash v_t_debts v_t_groups).bind (fun u1 => some (u1.1, u1.2))
set_option maxHeartbeats 4000000 in
set_option maxRecDepth 100000 in
theorem c_X11_fewest (l : Launch) (D : va_G) (cI cJ : ClassId) (q_t q_t_page q_t_readKinds q_t_readLeaflets q_t_rows q_t_debts q_t_ring q_t_line q_t_groups q_t_likely q_t_likelyThen q_t_saved q_t_keptRows q_t_keptDebts : Nat) (v_t_pageMany : Int32) (v_t_readMany : Int32) (v_t_told : Int32) (v_t_many : Int32) (v_t_lostByHands : Int32) (v_t_lostByMould : Int32) (v_t_ringMany : Int32) (v_t_seedNow : Int32) (v_t_keptMany : Int32) (v_t_keptByHands : Int32) (v_t_keptByMould : Int32) (v_t_hash : Int64) (v_t_debts : Nat → Int32) (v_t_groups : Nat → Int32) (z : Int32 × (Nat → Int32)) (h : fX11_fewest v_t_pageMany v_t_readMany v_t_told v_t_many v_t_lostByHands v_t_lostByMould v_t_ringMany v_t_seedNow v_t_keptMany v_t_keptByHands v_t_keptByMould v_t_hash v_t_debts v_t_groups = some z) : Met l yX11_fewest wsX11_fewest ({ frames := 2, cells := 0, slots := 0, locals := 46 } : Room) (va_Pc [.ref q_t] (preG D cI cJ [(q_t, .inr (10, [.ref q_t_page, .int v_t_pageMany, .ref q_t_readKinds, .ref q_t_readLeaflets, .int v_t_readMany, .int v_t_told, .int v_t_many, .int v_t_lostByHands, .int v_t_lostByMould, .ref q_t_rows, .ref q_t_debts, .int v_t_ringMany, .ref q_t_ring, .ref q_t_line, .ref q_t_groups, .ref q_t_likely, .ref q_t_likelyThen, .int v_t_seedNow, .ref q_t_saved, .int v_t_keptMany, .int v_t_keptByHands, .int v_t_keptByMould, .ref q_t_keptRows, .ref q_t_keptDebts, .long v_t_hash])), (q_t_debts, .inl (cI, 36, .inl v_t_debts)), (q_t_groups, .inl (cI, 64, .inl v_t_groups))])) (QG D [(q_t, .inr (10, [.ref q_t_page, .int v_t_pageMany, .ref q_t_readKinds, .ref q_t_readLeaflets, .int v_t_readMany, .int v_t_told, .int v_t_many, .int v_t_lostByHands, .int v_t_lostByMould, .ref q_t_rows, .ref q_t_debts, .int v_t_ringMany, .ref q_t_ring, .ref q_t_line, .ref q_t_groups, .ref q_t_likely, .ref q_t_likelyThen, .int v_t_seedNow, .ref q_t_saved, .int v_t_keptMany, .int v_t_keptByHands, .int v_t_keptByMould, .ref q_t_keptRows, .ref q_t_keptDebts, .long v_t_hash])), (q_t_debts, .inl (cI, 36, .inl v_t_debts)), (q_t_groups, .inl (cI, 64, .inl v_t_groups))] [(q_t, .inr (10, [.ref q_t_page, .int v_t_pageMany, .ref q_t_readKinds, .ref q_t_readLeaflets, .int v_t_readMany, .int v_t_told, .int v_t_many, .int v_t_lostByHands, .int v_t_lostByMould, .ref q_t_rows, .ref q_t_debts, .int v_t_ringMany, .ref q_t_ring, .ref q_t_line, .ref q_t_groups, .ref q_t_likely, .ref q_t_likelyThen, .int v_t_seedNow, .ref q_t_saved, .int v_t_keptMany, .int v_t_keptByHands, .int v_t_keptByMould, .ref q_t_keptRows, .ref q_t_keptDebts, .long v_t_hash])), (q_t_debts, .inl (cI, 36, .inl v_t_debts)), (q_t_groups, .inl (cI, 64, .inl z.2))] (some (.int z.1))) 0 0 (fr [(q_t, .inr (10, [.ref q_t_page, .int v_t_pageMany, .ref q_t_readKinds, .ref q_t_readLeaflets, .int v_t_readMany, .int v_t_told, .int v_t_many, .int v_t_lostByHands, .int v_t_lostByMould, .ref q_t_rows, .ref q_t_debts, .int v_t_ringMany, .ref q_t_ring, .ref q_t_line, .ref q_t_groups, .ref q_t_likely, .ref q_t_likelyThen, .int v_t_seedNow, .ref q_t_saved, .int v_t_keptMany, .int v_t_keptByHands, .int v_t_keptByMould, .ref q_t_keptRows, .ref q_t_keptDebts, .long v_t_hash])), (q_t_debts, .inl (cI, 36, .inl v_t_debts)), (q_t_groups, .inl (cI, 64, .inl v_t_groups))]) := by
  refine Met.ofW (cc := cX11_fewest) (maxL := 1) (ret := (some .int)) (by decide) rfl ?_
  intro p e s m args below meth c s₁ B hml hv
  obtain ⟨hargs, hP, hK, hN, hD0⟩ := hv
  have hx := B.exec
  have hb := B.bytes
  have hr := B.returns
  have hts := atoms_spec (ws := wsX11_fewest) B.pre
  have hown : s.vm.findClass RX11 = some m.cls := findClass_of_methodNamed B.named
  have hlocks := B.notSynchronized
  have hD := fr_D hD0
  have hS : va_S (fr [(q_t, .inr (10, [.ref q_t_page, .int v_t_pageMany, .ref q_t_readKinds, .ref q_t_readLeaflets, .int v_t_readMany, .int v_t_told, .int v_t_many, .int v_t_lostByHands, .int v_t_lostByMould, .ref q_t_rows, .ref q_t_debts, .int v_t_ringMany, .ref q_t_ring, .ref q_t_line, .ref q_t_groups, .ref q_t_likely, .ref q_t_likelyThen, .int v_t_seedNow, .ref q_t_saved, .int v_t_keptMany, .int v_t_keptByHands, .int v_t_keptByMould, .ref q_t_keptRows, .ref q_t_keptDebts, .long v_t_hash])), (q_t_debts, .inl (cI, 36, .inl v_t_debts)), (q_t_groups, .inl (cI, 64, .inl v_t_groups))]) s.heap s.heap [] := va_S.rf
  have hl := lv_entry ([.ref q_t]) (n := 1) (Nat.le_of_ble_eq_true rfl)
  refine W.eq (g2 := F0 m 0 ((lg_sl ([.ref q_t]) ++ List.replicate (1 - (lg_sl ([.ref q_t])).length) Slot.unset).toArray) []) (by rw [hargs, lg_entry_eq]) ?_
  generalize (lg_sl ([.ref q_t]) ++ List.replicate (1 - (lg_sl ([.ref q_t])).length) Slot.unset).toArray = ls at hl ⊢
  have hl : lv_has ls 1 [(0, .ref q_t)] := hl
  show W p l e ({ frames := 2, cells := 0, slots := 0, locals := 46 } : Room) s m args below meth c s.heap [] 0 0 (MQ below (QG D [(q_t, .inr (10, [.ref q_t_page, .int v_t_pageMany, .ref q_t_readKinds, .ref q_t_readLeaflets, .int v_t_readMany, .int v_t_told, .int v_t_many, .int v_t_lostByHands, .int v_t_lostByMould, .ref q_t_rows, .ref q_t_debts, .int v_t_ringMany, .ref q_t_ring, .ref q_t_line, .ref q_t_groups, .ref q_t_likely, .ref q_t_likelyThen, .int v_t_seedNow, .ref q_t_saved, .int v_t_keptMany, .int v_t_keptByHands, .int v_t_keptByMould, .ref q_t_keptRows, .ref q_t_keptDebts, .long v_t_hash])), (q_t_debts, .inl (cI, 36, .inl v_t_debts)), (q_t_groups, .inl (cI, 64, .inl v_t_groups))] [(q_t, .inr (10, [.ref q_t_page, .int v_t_pageMany, .ref q_t_readKinds, .ref q_t_readLeaflets, .int v_t_readMany, .int v_t_told, .int v_t_many, .int v_t_lostByHands, .int v_t_lostByMould, .ref q_t_rows, .ref q_t_debts, .int v_t_ringMany, .ref q_t_ring, .ref q_t_line, .ref q_t_groups, .ref q_t_likely, .ref q_t_likelyThen, .int v_t_seedNow, .ref q_t_saved, .int v_t_keptMany, .int v_t_keptByHands, .int v_t_keptByMould, .ref q_t_keptRows, .ref q_t_keptDebts, .long v_t_hash])), (q_t_debts, .inl (cI, 36, .inl v_t_debts)), (q_t_groups, .inl (cI, 64, .inl z.2))] (some (.int z.1))) args s 0 0 (fr [(q_t, .inr (10, [.ref q_t_page, .int v_t_pageMany, .ref q_t_readKinds, .ref q_t_readLeaflets, .int v_t_readMany, .int v_t_told, .int v_t_many, .int v_t_lostByHands, .int v_t_lostByMould, .ref q_t_rows, .ref q_t_debts, .int v_t_ringMany, .ref q_t_ring, .ref q_t_line, .ref q_t_groups, .ref q_t_likely, .ref q_t_likelyThen, .int v_t_seedNow, .ref q_t_saved, .int v_t_keptMany, .int v_t_keptByHands, .int v_t_keptByMould, .ref q_t_keptRows, .ref q_t_keptDebts, .long v_t_hash])), (q_t_debts, .inl (cI, 36, .inl v_t_debts)), (q_t_groups, .inl (cI, 64, .inl v_t_groups))])) (F0 m 0 ls [])
  generalize hQ0 : (MQ below (QG D [(q_t, .inr (10, [.ref q_t_page, .int v_t_pageMany, .ref q_t_readKinds, .ref q_t_readLeaflets, .int v_t_readMany, .int v_t_told, .int v_t_many, .int v_t_lostByHands, .int v_t_lostByMould, .ref q_t_rows, .ref q_t_debts, .int v_t_ringMany, .ref q_t_ring, .ref q_t_line, .ref q_t_groups, .ref q_t_likely, .ref q_t_likelyThen, .int v_t_seedNow, .ref q_t_saved, .int v_t_keptMany, .int v_t_keptByHands, .int v_t_keptByMould, .ref q_t_keptRows, .ref q_t_keptDebts, .long v_t_hash])), (q_t_debts, .inl (cI, 36, .inl v_t_debts)), (q_t_groups, .inl (cI, 64, .inl v_t_groups))] [(q_t, .inr (10, [.ref q_t_page, .int v_t_pageMany, .ref q_t_readKinds, .ref q_t_readLeaflets, .int v_t_readMany, .int v_t_told, .int v_t_many, .int v_t_lostByHands, .int v_t_lostByMould, .ref q_t_rows, .ref q_t_debts, .int v_t_ringMany, .ref q_t_ring, .ref q_t_line, .ref q_t_groups, .ref q_t_likely, .ref q_t_likelyThen, .int v_t_seedNow, .ref q_t_saved, .int v_t_keptMany, .int v_t_keptByHands, .int v_t_keptByMould, .ref q_t_keptRows, .ref q_t_keptDebts, .long v_t_hash])), (q_t_debts, .inl (cI, 36, .inl v_t_debts)), (q_t_groups, .inl (cI, 64, .inl z.2))] (some (.int z.1))) args s 0 0 (fr [(q_t, .inr (10, [.ref q_t_page, .int v_t_pageMany, .ref q_t_readKinds, .ref q_t_readLeaflets, .int v_t_readMany, .int v_t_told, .int v_t_many, .int v_t_lostByHands, .int v_t_lostByMould, .ref q_t_rows, .ref q_t_debts, .int v_t_ringMany, .ref q_t_ring, .ref q_t_line, .ref q_t_groups, .ref q_t_likely, .ref q_t_likelyThen, .int v_t_seedNow, .ref q_t_saved, .int v_t_keptMany, .int v_t_keptByHands, .int v_t_keptByMould, .ref q_t_keptRows, .ref q_t_keptDebts, .long v_t_hash])), (q_t_debts, .inl (cI, 36, .inl v_t_debts)), (q_t_groups, .inl (cI, 64, .inl v_t_groups))])) = Q0
  generalize hA0 : fr [(q_t, .inr (10, [.ref q_t_page, .int v_t_pageMany, .ref q_t_readKinds, .ref q_t_readLeaflets, .int v_t_readMany, .int v_t_told, .int v_t_many, .int v_t_lostByHands, .int v_t_lostByMould, .ref q_t_rows, .ref q_t_debts, .int v_t_ringMany, .ref q_t_ring, .ref q_t_line, .ref q_t_groups, .ref q_t_likely, .ref q_t_likelyThen, .int v_t_seedNow, .ref q_t_saved, .int v_t_keptMany, .int v_t_keptByHands, .int v_t_keptByMould, .ref q_t_keptRows, .ref q_t_keptDebts, .long v_t_hash])), (q_t_debts, .inl (cI, 36, .inl v_t_debts)), (q_t_groups, .inl (cI, 64, .inl v_t_groups))] = A0 at hD hS
  unfold fX11_fewest at h
  refine lv_aload_n hx hb dX11_fewest_0 rfl (lv_at hl 0 rfl) ?_
  obtain ⟨u1, g2, h⟩ := bd_of h
  refine cl_V [(q_t, .inr (10, [.ref q_t_page, .int v_t_pageMany, .ref q_t_readKinds, .ref q_t_readLeaflets, .int v_t_readMany, .int v_t_told, .int v_t_many, .int v_t_lostByHands, .int v_t_lostByMould, .ref q_t_rows, .ref q_t_debts, .int v_t_ringMany, .ref q_t_ring, .ref q_t_line, .ref q_t_groups, .ref q_t_likely, .ref q_t_likelyThen, .int v_t_seedNow, .ref q_t_saved, .int v_t_keptMany, .int v_t_keptByHands, .int v_t_keptByMould, .ref q_t_keptRows, .ref q_t_keptDebts, .long v_t_hash])), (q_t_debts, .inl (cI, 36, .inl v_t_debts)), (q_t_groups, .inl (cI, 64, .inl u1.2))] (As := []) (rest := []) (rv := (some (.int u1.1))) (c_X11_fewestOf l D cI cJ q_t q_t_page q_t_readKinds q_t_readLeaflets q_t_rows q_t_debts q_t_ring q_t_line q_t_groups q_t_likely q_t_likelyThen q_t_saved q_t_keptRows q_t_keptDebts v_t_pageMany v_t_readMany v_t_told v_t_many v_t_lostByHands v_t_lostByMould v_t_ringMany v_t_seedNow v_t_keptMany v_t_keptByHands v_t_keptByMould v_t_hash v_t_debts v_t_groups u1 g2) ⟨hx, hb, hml, hown, hts⟩ (cwV 0 hts gX11_fewest_X11_fewestOf rfl rfl rfl (by decide +kernel) ⟨(Nat.le_of_ble_eq_true rfl), (Nat.le_of_ble_eq_true rfl)⟩) hK hN hP hD hS [0, 1, 2] rfl (by decide) rfl rfl rfl (q0 := 0) (ci := 10) rfl rfl rfl rfl hl.1 rfl (Nat.le_of_ble_eq_true rfl) dX11_fewest_1 ⟨Nat.zero_le _, Nat.zero_le _⟩ (fun H locs hP hD hS => ?_)
  show W p l e ({ frames := 2, cells := 0, slots := 0, locals := 46 } : Room) s m args below meth c H locs 0 0 Q0 (F0 m 4 ls [.int u1.1])
  obtain rfl := Option.some.inj h
  exact rt_i hA0 hQ0 hx hb hr hlocks hP hS dX11_fewest_4
def fX11_heldUp_X230_264 (a11 : (Nat → Int64) × (Nat → Int64)) (a15 : Int64) : Option (Int64 × (Nat → Int64) × (Nat → Int64)) :=
  some (a15, a11.1, a11.2)
def fX11_heldUp_L230 (v_t_rows : Nat → Int32) (x1 : Int32) (a11 : (Nat → Int64) × (Nat → Int64)) (z13 : Int64 × Int32) : Option ((Int64 × Int32) ⊕ (Int64)) :=
  if 10 ≤ z13.2 then (some (Sum.inr z13.1)) else (gd (inb z13.2 10) (some (Sum.inl ((z13.1 + ((a11.1 z13.2.toNatClampNeg) * (((fX11_byHand (v_t_rows (8 * x1).toNatClampNeg) z13.2) : Int32).toInt64))), (z13.2 + 1)))))
def fX11_heldUp_X80_224 (v_t_rows : Nat → Int32) (x1 : Int32) (a11 : (Nat → Int64) × (Nat → Int64)) : Option (Int64 × (Nat → Int64) × (Nat → Int64)) :=
  (iter (fX11_heldUp_L230 v_t_rows x1 a11) FU (0, 0)).bind (fX11_heldUp_X230_264 a11)
def fX11_heldUp_X191_218 (z9 : Int32 × (Nat → Int64) × (Nat → Int64)) (a28 : (Nat → Int64)) (a32 : (Nat → Int64)) : Option ((Int32 × (Nat → Int64) × (Nat → Int64)) ⊕ ((Nat → Int64) × (Nat → Int64))) :=
  some (Sum.inl ((z9.1 + 1), a32, a28))
def fX11_heldUp_L191 (a28 : (Nat → Int64)) (z30 : Int32 × (Nat → Int64)) : Option ((Int32 × (Nat → Int64)) ⊕ ((Nat → Int64))) :=
  if 10 ≤ z30.1 then (some (Sum.inr z30.2)) else (gd (inb z30.1 10) (some (Sum.inl ((z30.1 + 1), (vp_updL z30.2 z30.1.toNatClampNeg (a28 z30.1.toNatClampNeg))))))
def fX11_heldUp_X113_188 (z9 : Int32 × (Nat → Int64) × (Nat → Int64)) (a28 : (Nat → Int64)) : Option ((Int32 × (Nat → Int64) × (Nat → Int64)) ⊕ ((Nat → Int64) × (Nat → Int64))) :=
  (iter (fX11_heldUp_L191 a28) FU (0, z9.2.1)).bind (fX11_heldUp_X191_218 z9 a28)
def fX11_heldUp_L113 (v_t_rows : Nat → Int32) (x1 : Int32) (x3 : Int32) (z9 : Int32 × (Nat → Int64) × (Nat → Int64)) (z26 : Int32 × (Nat → Int64)) : Option ((Int32 × (Nat → Int64)) ⊕ ((Nat → Int64))) :=
  if 10 ≤ z26.1 then (some (Sum.inr z26.2)) else (gd (inb (if (if (v_t_rows ((8 * x1) + 2).toNatClampNeg) = (-1) then 1 else 0 : Int32) = 0 then (fX11_byMould (v_t_rows (8 * x1).toNatClampNeg) z26.1) else z26.1 : Int32) 10) (gd (inb z26.1 10) (some (Sum.inl ((z26.1 + 1), (vp_updL (vp_updL z26.2 (if (if (v_t_rows ((8 * x1) + 2).toNatClampNeg) = (-1) then 1 else 0 : Int32) = 0 then (fX11_byMould (v_t_rows (8 * x1).toNatClampNeg) z26.1) else z26.1 : Int32).toNatClampNeg ((z26.2 (if (if (v_t_rows ((8 * x1) + 2).toNatClampNeg) = (-1) then 1 else 0 : Int32) = 0 then (fX11_byMould (v_t_rows (8 * x1).toNatClampNeg) z26.1) else z26.1 : Int32).toNatClampNeg) + ((z9.2.1 z26.1.toNatClampNeg) * ((x3 : Int32).toInt64)))) z26.1.toNatClampNeg (((vp_updL z26.2 (if (if (v_t_rows ((8 * x1) + 2).toNatClampNeg) = (-1) then 1 else 0 : Int32) = 0 then (fX11_byMould (v_t_rows (8 * x1).toNatClampNeg) z26.1) else z26.1 : Int32).toNatClampNeg ((z26.2 (if (if (v_t_rows ((8 * x1) + 2).toNatClampNeg) = (-1) then 1 else 0 : Int32) = 0 then (fX11_byMould (v_t_rows (8 * x1).toNatClampNeg) z26.1) else z26.1 : Int32).toNatClampNeg) + ((z9.2.1 z26.1.toNatClampNeg) * ((x3 : Int32).toInt64)))) z26.1.toNatClampNeg) + ((z9.2.1 z26.1.toNatClampNeg) * (((10 - x3) : Int32).toInt64)))))))))
def fX11_heldUp_X89_110 (v_t_rows : Nat → Int32) (x1 : Int32) (x3 : Int32) (z9 : Int32 × (Nat → Int64) × (Nat → Int64)) (a24 : (Nat → Int64)) : Option ((Int32 × (Nat → Int64) × (Nat → Int64)) ⊕ ((Nat → Int64) × (Nat → Int64))) :=
  (iter (fX11_heldUp_L113 v_t_rows x1 x3 z9) FU (0, a24)).bind (fX11_heldUp_X113_188 z9)
def fX11_heldUp_L89  (z22 : Int32 × (Nat → Int64)) : Option ((Int32 × (Nat → Int64)) ⊕ ((Nat → Int64))) :=
  if 10 ≤ z22.1 then (some (Sum.inr z22.2)) else (gd (inb z22.1 10) (some (Sum.inl ((z22.1 + 1), (vp_updL z22.2 z22.1.toNatClampNeg 0)))))
def fX11_heldUp_L80 (v_t_rows : Nat → Int32) (x1 : Int32) (x2 : Int32) (x3 : Int32) (z9 : Int32 × (Nat → Int64) × (Nat → Int64)) : Option ((Int32 × (Nat → Int64) × (Nat → Int64)) ⊕ ((Nat → Int64) × (Nat → Int64))) :=
  if x2 ≤ z9.1 then (some (Sum.inr (z9.2.1, z9.2.2))) else ((iter (fX11_heldUp_L89) FU (0, z9.2.2)).bind (fX11_heldUp_X89_110 v_t_rows x1 x3 z9))
def fX11_heldUp_X36_77 (v_t_rows : Nat → Int32) (v_t_likelyThen : Nat → Int64) (x1 : Int32) (x2 : Int32) (x3 : Int32) (a7 : (Nat → Int64)) : Option (Int64 × (Nat → Int64) × (Nat → Int64)) :=
  (iter (fX11_heldUp_L80 v_t_rows x1 x2 x3) FU (0, a7, v_t_likelyThen)).bind (fX11_heldUp_X80_224 v_t_rows x1)
def fX11_heldUp_L36 (v_t_rows : Nat → Int32) (x1 : Int32) (z5 : Int32 × (Nat → Int64)) : Option ((Int32 × (Nat → Int64)) ⊕ ((Nat → Int64))) :=
  if 10 ≤ z5.1 then (some (Sum.inr z5.2)) else (gd (inb ((8 * x1) + 1) 80) (gd (inb z5.1 10) (some (Sum.inl ((z5.1 + 1), (vp_updL z5.2 z5.1.toNatClampNeg (if z5.1 = (v_t_rows ((8 * x1) + 1).toNatClampNeg) then 1 else 0 : Int64)))))))
def fX11_heldUp (v_t_pageMany : Int32) (v_t_readMany : Int32) (v_t_told : Int32) (v_t_many : Int32) (v_t_lostByHands : Int32) (v_t_lostByMould : Int32) (v_t_ringMany : Int32) (v_t_seedNow : Int32) (v_t_keptMany : Int32) (v_t_keptByHands : Int32) (v_t_keptByMould : Int32) (v_t_hash : Int64) (v_t_rows : Nat → Int32) (v_t_likely : Nat → Int64) (v_t_likelyThen : Nat → Int64) (x1 : Int32) (x2 : Int32) (x3 : Int32) : Option (Int64 × (Nat → Int64) × (Nat → Int64)) :=
  gd (inb (8 * x1) 80) (gd (inb ((8 * x1) + 2) 80) ((iter (fX11_heldUp_L36 v_t_rows x1) FU (0, v_t_likely)).bind (fX11_heldUp_X36_77 v_t_rows v_t_likelyThen x1 x2 x3)))
set_option maxHeartbeats 4000000 in
set_option maxRecDepth 100000 in
theorem c_X11_heldUp (l : Launch) (D : va_G) (cI cJ : ClassId) (q_t q_t_page q_t_readKinds q_t_readLeaflets q_t_rows q_t_debts q_t_ring q_t_line q_t_groups q_t_likely q_t_likelyThen q_t_saved q_t_keptRows q_t_keptDebts : Nat) (v_t_pageMany : Int32) (v_t_readMany : Int32) (v_t_told : Int32) (v_t_many : Int32) (v_t_lostByHands : Int32) (v_t_lostByMould : Int32) (v_t_ringMany : Int32) (v_t_seedNow : Int32) (v_t_keptMany : Int32) (v_t_keptByHands : Int32) (v_t_keptByMould : Int32) (v_t_hash : Int64) (v_t_rows : Nat → Int32) (v_t_likely : Nat → Int64) (v_t_likelyThen : Nat → Int64) (x1 : Int32) (x2 : Int32) (x3 : Int32) (z : Int64 × (Nat → Int64) × (Nat → Int64)) (h : fX11_heldUp v_t_pageMany v_t_readMany v_t_told v_t_many v_t_lostByHands v_t_lostByMould v_t_ringMany v_t_seedNow v_t_keptMany v_t_keptByHands v_t_keptByMould v_t_hash v_t_rows v_t_likely v_t_likelyThen x1 x2 x3 = some z) : Met l yX11_heldUp wsX11_heldUp ({ frames := 1, cells := 0, slots := 0, locals := 22 } : Room) (va_Pc [.ref q_t, .int x1, .int x2, .int x3] (preG D cI cJ [(q_t, .inr (10, [.ref q_t_page, .int v_t_pageMany, .ref q_t_readKinds, .ref q_t_readLeaflets, .int v_t_readMany, .int v_t_told, .int v_t_many, .int v_t_lostByHands, .int v_t_lostByMould, .ref q_t_rows, .ref q_t_debts, .int v_t_ringMany, .ref q_t_ring, .ref q_t_line, .ref q_t_groups, .ref q_t_likely, .ref q_t_likelyThen, .int v_t_seedNow, .ref q_t_saved, .int v_t_keptMany, .int v_t_keptByHands, .int v_t_keptByMould, .ref q_t_keptRows, .ref q_t_keptDebts, .long v_t_hash])), (q_t_rows, .inl (cI, 80, .inl v_t_rows)), (q_t_likely, .inl (cJ, 10, .inr (.inl v_t_likely))), (q_t_likelyThen, .inl (cJ, 10, .inr (.inl v_t_likelyThen)))])) (QG D [(q_t, .inr (10, [.ref q_t_page, .int v_t_pageMany, .ref q_t_readKinds, .ref q_t_readLeaflets, .int v_t_readMany, .int v_t_told, .int v_t_many, .int v_t_lostByHands, .int v_t_lostByMould, .ref q_t_rows, .ref q_t_debts, .int v_t_ringMany, .ref q_t_ring, .ref q_t_line, .ref q_t_groups, .ref q_t_likely, .ref q_t_likelyThen, .int v_t_seedNow, .ref q_t_saved, .int v_t_keptMany, .int v_t_keptByHands, .int v_t_keptByMould, .ref q_t_keptRows, .ref q_t_keptDebts, .long v_t_hash])), (q_t_rows, .inl (cI, 80, .inl v_t_rows)), (q_t_likely, .inl (cJ, 10, .inr (.inl v_t_likely))), (q_t_likelyThen, .inl (cJ, 10, .inr (.inl v_t_likelyThen)))] [(q_t, .inr (10, [.ref q_t_page, .int v_t_pageMany, .ref q_t_readKinds, .ref q_t_readLeaflets, .int v_t_readMany, .int v_t_told, .int v_t_many, .int v_t_lostByHands, .int v_t_lostByMould, .ref q_t_rows, .ref q_t_debts, .int v_t_ringMany, .ref q_t_ring, .ref q_t_line, .ref q_t_groups, .ref q_t_likely, .ref q_t_likelyThen, .int v_t_seedNow, .ref q_t_saved, .int v_t_keptMany, .int v_t_keptByHands, .int v_t_keptByMould, .ref q_t_keptRows, .ref q_t_keptDebts, .long v_t_hash])), (q_t_rows, .inl (cI, 80, .inl v_t_rows)), (q_t_likely, .inl (cJ, 10, .inr (.inl z.2.1))), (q_t_likelyThen, .inl (cJ, 10, .inr (.inl z.2.2)))] (some (.long z.1))) 0 0 (fr [(q_t, .inr (10, [.ref q_t_page, .int v_t_pageMany, .ref q_t_readKinds, .ref q_t_readLeaflets, .int v_t_readMany, .int v_t_told, .int v_t_many, .int v_t_lostByHands, .int v_t_lostByMould, .ref q_t_rows, .ref q_t_debts, .int v_t_ringMany, .ref q_t_ring, .ref q_t_line, .ref q_t_groups, .ref q_t_likely, .ref q_t_likelyThen, .int v_t_seedNow, .ref q_t_saved, .int v_t_keptMany, .int v_t_keptByHands, .int v_t_keptByMould, .ref q_t_keptRows, .ref q_t_keptDebts, .long v_t_hash])), (q_t_rows, .inl (cI, 80, .inl v_t_rows)), (q_t_likely, .inl (cJ, 10, .inr (.inl v_t_likely))), (q_t_likelyThen, .inl (cJ, 10, .inr (.inl v_t_likelyThen)))]) := by
  refine Met.ofW (cc := cX11_heldUp) (maxL := 9) (ret := (some .long)) (by decide) rfl ?_
  intro p e s m args below meth c s₁ B hml hv
  obtain ⟨hargs, hP, hK, hN, hD0⟩ := hv
  have hx := B.exec
  have hb := B.bytes
  have hr := B.returns
  have hts := atoms_spec (ws := wsX11_heldUp) B.pre
  have hown : s.vm.findClass RX11 = some m.cls := findClass_of_methodNamed B.named
  have hlocks := B.notSynchronized
  have iX11 : ∀ w ∈ wsX110, w ∈ wsX11_heldUp := by decide +kernel
  have k19 := hts (.fieldLink RX11 19 "PressedFernsModel" "rows" "[I") (by decide +kernel)
  have k34 := hts (.fieldLink RX11 34 "PressedFernsModel" "likely" "[J") (by decide +kernel)
  have k38 := hts (.fieldLink RX11 38 "PressedFernsModel" "likelyThen" "[J") (by decide +kernel)
  have hD := fr_D hD0
  have hS : va_S (fr [(q_t, .inr (10, [.ref q_t_page, .int v_t_pageMany, .ref q_t_readKinds, .ref q_t_readLeaflets, .int v_t_readMany, .int v_t_told, .int v_t_many, .int v_t_lostByHands, .int v_t_lostByMould, .ref q_t_rows, .ref q_t_debts, .int v_t_ringMany, .ref q_t_ring, .ref q_t_line, .ref q_t_groups, .ref q_t_likely, .ref q_t_likelyThen, .int v_t_seedNow, .ref q_t_saved, .int v_t_keptMany, .int v_t_keptByHands, .int v_t_keptByMould, .ref q_t_keptRows, .ref q_t_keptDebts, .long v_t_hash])), (q_t_rows, .inl (cI, 80, .inl v_t_rows)), (q_t_likely, .inl (cJ, 10, .inr (.inl v_t_likely))), (q_t_likelyThen, .inl (cJ, 10, .inr (.inl v_t_likelyThen)))]) s.heap s.heap [] := va_S.rf
  have hl := lv_entry ([.ref q_t, .int x1, .int x2, .int x3]) (n := 9) (Nat.le_of_ble_eq_true rfl)
  refine W.eq (g2 := F0 m 0 ((lg_sl ([.ref q_t, .int x1, .int x2, .int x3]) ++ List.replicate (9 - (lg_sl ([.ref q_t, .int x1, .int x2, .int x3])).length) Slot.unset).toArray) []) (by rw [hargs, lg_entry_eq]) ?_
  generalize (lg_sl ([.ref q_t, .int x1, .int x2, .int x3]) ++ List.replicate (9 - (lg_sl ([.ref q_t, .int x1, .int x2, .int x3])).length) Slot.unset).toArray = ls at hl ⊢
  have hl : lv_has ls 9 [(0, .ref q_t), (1, .int x1), (2, .int x2), (3, .int x3)] := hl
  show W p l e ({ frames := 1, cells := 0, slots := 0, locals := 22 } : Room) s m args below meth c s.heap [] 0 0 (MQ below (QG D [(q_t, .inr (10, [.ref q_t_page, .int v_t_pageMany, .ref q_t_readKinds, .ref q_t_readLeaflets, .int v_t_readMany, .int v_t_told, .int v_t_many, .int v_t_lostByHands, .int v_t_lostByMould, .ref q_t_rows, .ref q_t_debts, .int v_t_ringMany, .ref q_t_ring, .ref q_t_line, .ref q_t_groups, .ref q_t_likely, .ref q_t_likelyThen, .int v_t_seedNow, .ref q_t_saved, .int v_t_keptMany, .int v_t_keptByHands, .int v_t_keptByMould, .ref q_t_keptRows, .ref q_t_keptDebts, .long v_t_hash])), (q_t_rows, .inl (cI, 80, .inl v_t_rows)), (q_t_likely, .inl (cJ, 10, .inr (.inl v_t_likely))), (q_t_likelyThen, .inl (cJ, 10, .inr (.inl v_t_likelyThen)))] [(q_t, .inr (10, [.ref q_t_page, .int v_t_pageMany, .ref q_t_readKinds, .ref q_t_readLeaflets, .int v_t_readMany, .int v_t_told, .int v_t_many, .int v_t_lostByHands, .int v_t_lostByMould, .ref q_t_rows, .ref q_t_debts, .int v_t_ringMany, .ref q_t_ring, .ref q_t_line, .ref q_t_groups, .ref q_t_likely, .ref q_t_likelyThen, .int v_t_seedNow, .ref q_t_saved, .int v_t_keptMany, .int v_t_keptByHands, .int v_t_keptByMould, .ref q_t_keptRows, .ref q_t_keptDebts, .long v_t_hash])), (q_t_rows, .inl (cI, 80, .inl v_t_rows)), (q_t_likely, .inl (cJ, 10, .inr (.inl z.2.1))), (q_t_likelyThen, .inl (cJ, 10, .inr (.inl z.2.2)))] (some (.long z.1))) args s 0 0 (fr [(q_t, .inr (10, [.ref q_t_page, .int v_t_pageMany, .ref q_t_readKinds, .ref q_t_readLeaflets, .int v_t_readMany, .int v_t_told, .int v_t_many, .int v_t_lostByHands, .int v_t_lostByMould, .ref q_t_rows, .ref q_t_debts, .int v_t_ringMany, .ref q_t_ring, .ref q_t_line, .ref q_t_groups, .ref q_t_likely, .ref q_t_likelyThen, .int v_t_seedNow, .ref q_t_saved, .int v_t_keptMany, .int v_t_keptByHands, .int v_t_keptByMould, .ref q_t_keptRows, .ref q_t_keptDebts, .long v_t_hash])), (q_t_rows, .inl (cI, 80, .inl v_t_rows)), (q_t_likely, .inl (cJ, 10, .inr (.inl v_t_likely))), (q_t_likelyThen, .inl (cJ, 10, .inr (.inl v_t_likelyThen)))])) (F0 m 0 ls [])
  generalize hQ0 : (MQ below (QG D [(q_t, .inr (10, [.ref q_t_page, .int v_t_pageMany, .ref q_t_readKinds, .ref q_t_readLeaflets, .int v_t_readMany, .int v_t_told, .int v_t_many, .int v_t_lostByHands, .int v_t_lostByMould, .ref q_t_rows, .ref q_t_debts, .int v_t_ringMany, .ref q_t_ring, .ref q_t_line, .ref q_t_groups, .ref q_t_likely, .ref q_t_likelyThen, .int v_t_seedNow, .ref q_t_saved, .int v_t_keptMany, .int v_t_keptByHands, .int v_t_keptByMould, .ref q_t_keptRows, .ref q_t_keptDebts, .long v_t_hash])), (q_t_rows, .inl (cI, 80, .inl v_t_rows)), (q_t_likely, .inl (cJ, 10, .inr (.inl v_t_likely))), (q_t_likelyThen, .inl (cJ, 10, .inr (.inl v_t_likelyThen)))] [(q_t, .inr (10, [.ref q_t_page, .int v_t_pageMany, .ref q_t_readKinds, .ref q_t_readLeaflets, .int v_t_readMany, .int v_t_told, .int v_t_many, .int v_t_lostByHands, .int v_t_lostByMould, .ref q_t_rows, .ref q_t_debts, .int v_t_ringMany, .ref q_t_ring, .ref q_t_line, .ref q_t_groups, .ref q_t_likely, .ref q_t_likelyThen, .int v_t_seedNow, .ref q_t_saved, .int v_t_keptMany, .int v_t_keptByHands, .int v_t_keptByMould, .ref q_t_keptRows, .ref q_t_keptDebts, .long v_t_hash])), (q_t_rows, .inl (cI, 80, .inl v_t_rows)), (q_t_likely, .inl (cJ, 10, .inr (.inl z.2.1))), (q_t_likelyThen, .inl (cJ, 10, .inr (.inl z.2.2)))] (some (.long z.1))) args s 0 0 (fr [(q_t, .inr (10, [.ref q_t_page, .int v_t_pageMany, .ref q_t_readKinds, .ref q_t_readLeaflets, .int v_t_readMany, .int v_t_told, .int v_t_many, .int v_t_lostByHands, .int v_t_lostByMould, .ref q_t_rows, .ref q_t_debts, .int v_t_ringMany, .ref q_t_ring, .ref q_t_line, .ref q_t_groups, .ref q_t_likely, .ref q_t_likelyThen, .int v_t_seedNow, .ref q_t_saved, .int v_t_keptMany, .int v_t_keptByHands, .int v_t_keptByMould, .ref q_t_keptRows, .ref q_t_keptDebts, .long v_t_hash])), (q_t_rows, .inl (cI, 80, .inl v_t_rows)), (q_t_likely, .inl (cJ, 10, .inr (.inl v_t_likely))), (q_t_likelyThen, .inl (cJ, 10, .inr (.inl v_t_likelyThen)))])) = Q0
  generalize hA0 : fr [(q_t, .inr (10, [.ref q_t_page, .int v_t_pageMany, .ref q_t_readKinds, .ref q_t_readLeaflets, .int v_t_readMany, .int v_t_told, .int v_t_many, .int v_t_lostByHands, .int v_t_lostByMould, .ref q_t_rows, .ref q_t_debts, .int v_t_ringMany, .ref q_t_ring, .ref q_t_line, .ref q_t_groups, .ref q_t_likely, .ref q_t_likelyThen, .int v_t_seedNow, .ref q_t_saved, .int v_t_keptMany, .int v_t_keptByHands, .int v_t_keptByMould, .ref q_t_keptRows, .ref q_t_keptDebts, .long v_t_hash])), (q_t_rows, .inl (cI, 80, .inl v_t_rows)), (q_t_likely, .inl (cJ, 10, .inr (.inl v_t_likely))), (q_t_likelyThen, .inl (cJ, 10, .inr (.inl v_t_likelyThen)))] = A0 at hD hS
  unfold fX11_heldUp at h
  refine lv_aload_n hx hb dX11_heldUp_0 rfl (lv_at hl 0 rfl) ?_
  refine va_get (own := RX11) (ci := 10) (v := .ref q_t_rows) (C := RX11) (T := TX11) (N := 25) hx hb hts iX11 hown hK hP 0 rfl rfl 9 (by decide) k19 (fun _ h9 => h9) rfl dX11_heldUp_1 ?_
  refine lv_bipush (v := 8) hx hb dX11_heldUp_4 (by decide) ?_
  refine lv_iload_n hx hb dX11_heldUp_6 rfl (lv_at hl 1 rfl) ?_
  refine lv_imul hx hb dX11_heldUp_7 ?_
  obtain ⟨g1, h⟩ := gd_of h
  refine va_iald hx hb hK hP 1 0 rfl rfl (inb_of g1) dX11_heldUp_8 ?_
  refine lv_istore (lv' := [(4, .int (v_t_rows (8 * x1).toNatClampNeg)), (0, .ref q_t), (1, .int x1), (2, .int x2), (3, .int x3)]) hx hb dX11_heldUp_9 hl (by decide) rfl (fun ls hl => ?_)
  refine lv_aload_n hx hb dX11_heldUp_11 rfl (lv_at hl 1 rfl) ?_
  refine va_get (own := RX11) (ci := 10) (v := .ref q_t_rows) (C := RX11) (T := TX11) (N := 25) hx hb hts iX11 hown hK hP 0 rfl rfl 9 (by decide) k19 (fun _ h9 => h9) rfl dX11_heldUp_12 ?_
  refine lv_bipush (v := 8) hx hb dX11_heldUp_15 (by decide) ?_
  refine lv_iload_n hx hb dX11_heldUp_17 rfl (lv_at hl 2 rfl) ?_
  refine lv_imul hx hb dX11_heldUp_18 ?_
  refine lv_iconst (v := 2) hx hb dX11_heldUp_19 (by decide) ?_
  refine lv_iadd hx hb dX11_heldUp_20 ?_
  obtain ⟨g2, h⟩ := gd_of h
  refine va_iald hx hb hK hP 1 0 rfl rfl (inb_of g2) dX11_heldUp_21 ?_
  refine lv_iconst (v := (-1)) hx hb dX11_heldUp_22 (by decide) ?_
  have K31_3 : ∀ (w4 : Int32) (H : Heap) (locs : List Loc) (ls : Array Slot), w4 = (if (v_t_rows ((8 * x1) + 2).toNatClampNeg) = (-1) then 1 else 0 : Int32) → va_P D vwCl [(q_t, .inr (10, [.ref q_t_page, .int v_t_pageMany, .ref q_t_readKinds, .ref q_t_readLeaflets, .int v_t_readMany, .int v_t_told, .int v_t_many, .int v_t_lostByHands, .int v_t_lostByMould, .ref q_t_rows, .ref q_t_debts, .int v_t_ringMany, .ref q_t_ring, .ref q_t_line, .ref q_t_groups, .ref q_t_likely, .ref q_t_likelyThen, .int v_t_seedNow, .ref q_t_saved, .int v_t_keptMany, .int v_t_keptByHands, .int v_t_keptByMould, .ref q_t_keptRows, .ref q_t_keptDebts, .long v_t_hash])), (q_t_rows, .inl (cI, 80, .inl v_t_rows)), (q_t_likely, .inl (cJ, 10, .inr (.inl v_t_likely))), (q_t_likelyThen, .inl (cJ, 10, .inr (.inl v_t_likelyThen)))] H → va_D A0 [(q_t, .inr (10, [.ref q_t_page, .int v_t_pageMany, .ref q_t_readKinds, .ref q_t_readLeaflets, .int v_t_readMany, .int v_t_told, .int v_t_many, .int v_t_lostByHands, .int v_t_lostByMould, .ref q_t_rows, .ref q_t_debts, .int v_t_ringMany, .ref q_t_ring, .ref q_t_line, .ref q_t_groups, .ref q_t_likely, .ref q_t_likelyThen, .int v_t_seedNow, .ref q_t_saved, .int v_t_keptMany, .int v_t_keptByHands, .int v_t_keptByMould, .ref q_t_keptRows, .ref q_t_keptDebts, .long v_t_hash])), (q_t_rows, .inl (cI, 80, .inl v_t_rows)), (q_t_likely, .inl (cJ, 10, .inr (.inl v_t_likely))), (q_t_likelyThen, .inl (cJ, 10, .inr (.inl v_t_likelyThen)))] → va_S A0 s.heap H locs → lv_has ls 9 [(0, .ref q_t), (1, .int x1), (2, .int x2), (3, .int x3), (4, .int (v_t_rows (8 * x1).toNatClampNeg))] → W p l e ({ frames := 1, cells := 0, slots := 0, locals := 22 } : Room) s m args below meth c H locs 0 0 Q0 (F0 m 31 ls [.int w4]) := by
    intro w4 H locs ls e_w4 hP hD hS hl
    subst e_w4
    refine lv_istore (lv' := [(5, .int (if (v_t_rows ((8 * x1) + 2).toNatClampNeg) = (-1) then 1 else 0 : Int32)), (0, .ref q_t), (1, .int x1), (2, .int x2), (3, .int x3), (4, .int (v_t_rows (8 * x1).toNatClampNeg))]) hx hb dX11_heldUp_31 hl (by decide) rfl (fun ls hl => ?_)
    refine lv_iconst (v := 0) hx hb dX11_heldUp_33 (by decide) ?_
    refine lv_istore (lv' := [(6, .int 0), (5, .int (if (v_t_rows ((8 * x1) + 2).toNatClampNeg) = (-1) then 1 else 0 : Int32)), (0, .ref q_t), (1, .int x1), (2, .int x2), (3, .int x3), (4, .int (v_t_rows (8 * x1).toNatClampNeg))]) hx hb dX11_heldUp_34 hl (by decide) rfl (fun ls hl => ?_)
    obtain ⟨e6, he_e6, hc_e6⟩ := bd_of h
    have X77_8 : ∀ (a7 : (Nat → Int64)) (H : Heap) (locs : List Loc) (ls : Array Slot), fX11_heldUp_X36_77 v_t_rows v_t_likelyThen x1 x2 x3 a7 = some z → va_P D vwCl [(q_t, .inr (10, [.ref q_t_page, .int v_t_pageMany, .ref q_t_readKinds, .ref q_t_readLeaflets, .int v_t_readMany, .int v_t_told, .int v_t_many, .int v_t_lostByHands, .int v_t_lostByMould, .ref q_t_rows, .ref q_t_debts, .int v_t_ringMany, .ref q_t_ring, .ref q_t_line, .ref q_t_groups, .ref q_t_likely, .ref q_t_likelyThen, .int v_t_seedNow, .ref q_t_saved, .int v_t_keptMany, .int v_t_keptByHands, .int v_t_keptByMould, .ref q_t_keptRows, .ref q_t_keptDebts, .long v_t_hash])), (q_t_rows, .inl (cI, 80, .inl v_t_rows)), (q_t_likely, .inl (cJ, 10, .inr (.inl a7))), (q_t_likelyThen, .inl (cJ, 10, .inr (.inl v_t_likelyThen)))] H → va_D A0 [(q_t, .inr (10, [.ref q_t_page, .int v_t_pageMany, .ref q_t_readKinds, .ref q_t_readLeaflets, .int v_t_readMany, .int v_t_told, .int v_t_many, .int v_t_lostByHands, .int v_t_lostByMould, .ref q_t_rows, .ref q_t_debts, .int v_t_ringMany, .ref q_t_ring, .ref q_t_line, .ref q_t_groups, .ref q_t_likely, .ref q_t_likelyThen, .int v_t_seedNow, .ref q_t_saved, .int v_t_keptMany, .int v_t_keptByHands, .int v_t_keptByMould, .ref q_t_keptRows, .ref q_t_keptDebts, .long v_t_hash])), (q_t_rows, .inl (cI, 80, .inl v_t_rows)), (q_t_likely, .inl (cJ, 10, .inr (.inl a7))), (q_t_likelyThen, .inl (cJ, 10, .inr (.inl v_t_likelyThen)))] → va_S A0 s.heap H locs → lv_has ls 9 [(0, .ref q_t), (2, .int x2), (3, .int x3), (4, .int (v_t_rows (8 * x1).toNatClampNeg)), (5, .int (if (v_t_rows ((8 * x1) + 2).toNatClampNeg) = (-1) then 1 else 0 : Int32))] → W p l e ({ frames := 1, cells := 0, slots := 0, locals := 22 } : Room) s m args below meth c H locs 0 0 Q0 (F0 m 77 ls []) := by
      intro a7 H locs ls h hP hD hS hl
      unfold fX11_heldUp_X36_77 at h
      refine lv_iconst (v := 0) hx hb dX11_heldUp_77 (by decide) ?_
      refine lv_istore (lv' := [(6, .int 0), (0, .ref q_t), (2, .int x2), (3, .int x3), (4, .int (v_t_rows (8 * x1).toNatClampNeg)), (5, .int (if (v_t_rows ((8 * x1) + 2).toNatClampNeg) = (-1) then 1 else 0 : Int32))]) hx hb dX11_heldUp_78 hl (by decide) rfl (fun ls hl => ?_)
      obtain ⟨e10, he_e10, hc_e10⟩ := bd_of h
      have X224_12 : ∀ (a11 : (Nat → Int64) × (Nat → Int64)) (H : Heap) (locs : List Loc) (ls : Array Slot), fX11_heldUp_X80_224 v_t_rows x1 a11 = some z → va_P D vwCl [(q_t, .inr (10, [.ref q_t_page, .int v_t_pageMany, .ref q_t_readKinds, .ref q_t_readLeaflets, .int v_t_readMany, .int v_t_told, .int v_t_many, .int v_t_lostByHands, .int v_t_lostByMould, .ref q_t_rows, .ref q_t_debts, .int v_t_ringMany, .ref q_t_ring, .ref q_t_line, .ref q_t_groups, .ref q_t_likely, .ref q_t_likelyThen, .int v_t_seedNow, .ref q_t_saved, .int v_t_keptMany, .int v_t_keptByHands, .int v_t_keptByMould, .ref q_t_keptRows, .ref q_t_keptDebts, .long v_t_hash])), (q_t_rows, .inl (cI, 80, .inl v_t_rows)), (q_t_likely, .inl (cJ, 10, .inr (.inl a11.1))), (q_t_likelyThen, .inl (cJ, 10, .inr (.inl a11.2)))] H → va_D A0 [(q_t, .inr (10, [.ref q_t_page, .int v_t_pageMany, .ref q_t_readKinds, .ref q_t_readLeaflets, .int v_t_readMany, .int v_t_told, .int v_t_many, .int v_t_lostByHands, .int v_t_lostByMould, .ref q_t_rows, .ref q_t_debts, .int v_t_ringMany, .ref q_t_ring, .ref q_t_line, .ref q_t_groups, .ref q_t_likely, .ref q_t_likelyThen, .int v_t_seedNow, .ref q_t_saved, .int v_t_keptMany, .int v_t_keptByHands, .int v_t_keptByMould, .ref q_t_keptRows, .ref q_t_keptDebts, .long v_t_hash])), (q_t_rows, .inl (cI, 80, .inl v_t_rows)), (q_t_likely, .inl (cJ, 10, .inr (.inl a11.1))), (q_t_likelyThen, .inl (cJ, 10, .inr (.inl a11.2)))] → va_S A0 s.heap H locs → lv_has ls 9 [(0, .ref q_t), (4, .int (v_t_rows (8 * x1).toNatClampNeg))] → W p l e ({ frames := 1, cells := 0, slots := 0, locals := 22 } : Room) s m args below meth c H locs 0 0 Q0 (F0 m 224 ls []) := by
        intro a11 H locs ls h hP hD hS hl
        unfold fX11_heldUp_X80_224 at h
        refine lv_lconst (v := 0) hx hb dX11_heldUp_224 (by decide) ?_
        refine lv_lstore (lv' := [(6, .long 0), (0, .ref q_t), (4, .int (v_t_rows (8 * x1).toNatClampNeg))]) hx hb dX11_heldUp_225 hl (by decide) rfl (fun ls hl => ?_)
        refine lv_iconst (v := 0) hx hb dX11_heldUp_227 (by decide) ?_
        refine lv_istore (lv' := [(8, .int 0), (6, .long 0), (0, .ref q_t), (4, .int (v_t_rows (8 * x1).toNatClampNeg))]) hx hb dX11_heldUp_228 hl (by decide) rfl (fun ls hl => ?_)
        obtain ⟨e14, he_e14, hc_e14⟩ := bd_of h
        have X264_16 : ∀ (a15 : Int64) (H : Heap) (locs : List Loc) (ls : Array Slot), fX11_heldUp_X230_264 a11 a15 = some z → va_P D vwCl [(q_t, .inr (10, [.ref q_t_page, .int v_t_pageMany, .ref q_t_readKinds, .ref q_t_readLeaflets, .int v_t_readMany, .int v_t_told, .int v_t_many, .int v_t_lostByHands, .int v_t_lostByMould, .ref q_t_rows, .ref q_t_debts, .int v_t_ringMany, .ref q_t_ring, .ref q_t_line, .ref q_t_groups, .ref q_t_likely, .ref q_t_likelyThen, .int v_t_seedNow, .ref q_t_saved, .int v_t_keptMany, .int v_t_keptByHands, .int v_t_keptByMould, .ref q_t_keptRows, .ref q_t_keptDebts, .long v_t_hash])), (q_t_rows, .inl (cI, 80, .inl v_t_rows)), (q_t_likely, .inl (cJ, 10, .inr (.inl a11.1))), (q_t_likelyThen, .inl (cJ, 10, .inr (.inl a11.2)))] H → va_D A0 [(q_t, .inr (10, [.ref q_t_page, .int v_t_pageMany, .ref q_t_readKinds, .ref q_t_readLeaflets, .int v_t_readMany, .int v_t_told, .int v_t_many, .int v_t_lostByHands, .int v_t_lostByMould, .ref q_t_rows, .ref q_t_debts, .int v_t_ringMany, .ref q_t_ring, .ref q_t_line, .ref q_t_groups, .ref q_t_likely, .ref q_t_likelyThen, .int v_t_seedNow, .ref q_t_saved, .int v_t_keptMany, .int v_t_keptByHands, .int v_t_keptByMould, .ref q_t_keptRows, .ref q_t_keptDebts, .long v_t_hash])), (q_t_rows, .inl (cI, 80, .inl v_t_rows)), (q_t_likely, .inl (cJ, 10, .inr (.inl a11.1))), (q_t_likelyThen, .inl (cJ, 10, .inr (.inl a11.2)))] → va_S A0 s.heap H locs → lv_has ls 9 [(6, .long a15)] → W p l e ({ frames := 1, cells := 0, slots := 0, locals := 22 } : Room) s m args below meth c H locs 0 0 Q0 (F0 m 264 ls []) := by
          intro a15 H locs ls h hP hD hS hl
          unfold fX11_heldUp_X230_264 at h
          refine lv_lload hx hb dX11_heldUp_264 (lv_at hl 0 rfl) ?_
          obtain rfl := Option.some.inj h
          exact rt_l hA0 hQ0 hx hb hr hlocks hP hS dX11_heldUp_266
        have L230_17 : ∀ (n : Nat) (z13 : Int64 × Int32) (H : Heap) (locs : List Loc) (ls : Array Slot), iter (fX11_heldUp_L230 v_t_rows x1 a11) n z13 = some e14 → va_P D vwCl [(q_t, .inr (10, [.ref q_t_page, .int v_t_pageMany, .ref q_t_readKinds, .ref q_t_readLeaflets, .int v_t_readMany, .int v_t_told, .int v_t_many, .int v_t_lostByHands, .int v_t_lostByMould, .ref q_t_rows, .ref q_t_debts, .int v_t_ringMany, .ref q_t_ring, .ref q_t_line, .ref q_t_groups, .ref q_t_likely, .ref q_t_likelyThen, .int v_t_seedNow, .ref q_t_saved, .int v_t_keptMany, .int v_t_keptByHands, .int v_t_keptByMould, .ref q_t_keptRows, .ref q_t_keptDebts, .long v_t_hash])), (q_t_rows, .inl (cI, 80, .inl v_t_rows)), (q_t_likely, .inl (cJ, 10, .inr (.inl a11.1))), (q_t_likelyThen, .inl (cJ, 10, .inr (.inl a11.2)))] H → va_D A0 [(q_t, .inr (10, [.ref q_t_page, .int v_t_pageMany, .ref q_t_readKinds, .ref q_t_readLeaflets, .int v_t_readMany, .int v_t_told, .int v_t_many, .int v_t_lostByHands, .int v_t_lostByMould, .ref q_t_rows, .ref q_t_debts, .int v_t_ringMany, .ref q_t_ring, .ref q_t_line, .ref q_t_groups, .ref q_t_likely, .ref q_t_likelyThen, .int v_t_seedNow, .ref q_t_saved, .int v_t_keptMany, .int v_t_keptByHands, .int v_t_keptByMould, .ref q_t_keptRows, .ref q_t_keptDebts, .long v_t_hash])), (q_t_rows, .inl (cI, 80, .inl v_t_rows)), (q_t_likely, .inl (cJ, 10, .inr (.inl a11.1))), (q_t_likelyThen, .inl (cJ, 10, .inr (.inl a11.2)))] → va_S A0 s.heap H locs → lv_has ls 9 [(0, .ref q_t), (4, .int (v_t_rows (8 * x1).toNatClampNeg)), (6, .long z13.1), (8, .int z13.2)] → W p l e ({ frames := 1, cells := 0, slots := 0, locals := 22 } : Room) s m args below meth c H locs 0 0 Q0 (F0 m 230 ls []) := by
          intro n
          induction n with
          | zero => exact fun _ _ _ _ h => (iter_z h).elim
          | succ n ih =>
            intro z13 H locs ls h hP hD hS hl
            obtain ⟨r_e14, h, hn_e14⟩ := iter_s h
            unfold fX11_heldUp_L230 at h
            refine lv_iload hx hb dX11_heldUp_230 (lv_at hl 3 rfl) ?_
            refine lv_bipush (v := 10) hx hb dX11_heldUp_232 (by decide) ?_
            refine lv_icmp_ge (tgt := 264) hx hb dX11_heldUp_234 (by decide) (fun c18 => ?_) (fun c18 => ?_)
            · skip
              have h := (if_pos c18).symm.trans h
              obtain rfl := Option.some.inj h
              obtain rfl := Option.some.inj hn_e14
              exact X264_16 z13.1 _ _ _ hc_e14 hP hD hS (lv_sub hl [2] rfl)
            · skip
              have h := (if_neg c18).symm.trans h
              refine lv_lload hx hb dX11_heldUp_237 (lv_at hl 2 rfl) ?_
              refine lv_aload_n hx hb dX11_heldUp_239 rfl (lv_at hl 0 rfl) ?_
              refine va_get (own := RX11) (ci := 10) (v := .ref q_t_likely) (C := RX11) (T := TX11) (N := 25) hx hb hts iX11 hown hK hP 0 rfl rfl 15 (by decide) k34 (fun _ h9 => h9) rfl dX11_heldUp_240 ?_
              refine lv_iload hx hb dX11_heldUp_243 (lv_at hl 3 rfl) ?_
              obtain ⟨g19, h⟩ := gd_of h
              refine va_lald hx hb hK hP 2 1 rfl rfl (inb_of g19) dX11_heldUp_245 ?_
              refine lv_iload hx hb dX11_heldUp_246 (lv_at hl 1 rfl) ?_
              refine lv_iload hx hb dX11_heldUp_248 (lv_at hl 3 rfl) ?_
              refine cl_S [(q_t, .inr (10, [.ref q_t_page, .int v_t_pageMany, .ref q_t_readKinds, .ref q_t_readLeaflets, .int v_t_readMany, .int v_t_told, .int v_t_many, .int v_t_lostByHands, .int v_t_lostByMould, .ref q_t_rows, .ref q_t_debts, .int v_t_ringMany, .ref q_t_ring, .ref q_t_line, .ref q_t_groups, .ref q_t_likely, .ref q_t_likelyThen, .int v_t_seedNow, .ref q_t_saved, .int v_t_keptMany, .int v_t_keptByHands, .int v_t_keptByMould, .ref q_t_keptRows, .ref q_t_keptDebts, .long v_t_hash])), (q_t_rows, .inl (cI, 80, .inl v_t_rows)), (q_t_likely, .inl (cJ, 10, .inr (.inl a11.1))), (q_t_likelyThen, .inl (cJ, 10, .inr (.inl a11.2)))] (As := [.int (v_t_rows (8 * x1).toNatClampNeg), .int z13.2]) (rest := [.long (a11.1 z13.2.toNatClampNeg), .long z13.1]) (rv := (some (.int (fX11_byHand (v_t_rows (8 * x1).toNatClampNeg) z13.2)))) (c_X11_byHand l D cI cJ (v_t_rows (8 * x1).toNatClampNeg) z13.2) ⟨hx, hb, hml, hown, hts⟩ (va_cwS 2 hts gX11_heldUp_X11_byHand rfl rfl rfl (by decide +kernel) ⟨(Nat.le_of_ble_eq_true rfl), (Nat.le_of_ble_eq_true rfl)⟩) hK hN hP hD hS [] rfl (by decide) rfl rfl rfl rfl hl.1 rfl (Nat.le_of_ble_eq_true rfl) dX11_heldUp_250 ⟨Nat.zero_le _, Nat.zero_le _⟩ (fun H locs hP hD hS => ?_)
              show W p l e ({ frames := 1, cells := 0, slots := 0, locals := 22 } : Room) s m args below meth c H locs 0 0 Q0 (F0 m 253 ls [.int (fX11_byHand (v_t_rows (8 * x1).toNatClampNeg) z13.2), .long (a11.1 z13.2.toNatClampNeg), .long z13.1])
              refine lv_i2l hx hb dX11_heldUp_253 rfl ?_
              refine lv_lmul hx hb dX11_heldUp_254 ?_
              refine lv_ladd hx hb dX11_heldUp_255 ?_
              refine lv_lstore (lv' := [(6, .long (z13.1 + ((a11.1 z13.2.toNatClampNeg) * (((fX11_byHand (v_t_rows (8 * x1).toNatClampNeg) z13.2) : Int32).toInt64)))), (0, .ref q_t), (4, .int (v_t_rows (8 * x1).toNatClampNeg)), (8, .int z13.2)]) hx hb dX11_heldUp_256 hl (by decide) rfl (fun ls hl => ?_)
              refine lv_iinc (v := (z13.2 + 1)) (lv' := [(8, .int (z13.2 + 1)), (6, .long (z13.1 + ((a11.1 z13.2.toNatClampNeg) * (((fX11_byHand (v_t_rows (8 * x1).toNatClampNeg) z13.2) : Int32).toInt64)))), (0, .ref q_t), (4, .int (v_t_rows (8 * x1).toNatClampNeg))]) hx hb dX11_heldUp_258 hl (k := 3) rfl rfl (by decide) rfl (fun ls hl => ?_)
              refine lv_goto (tgt := 230) hx hb dX11_heldUp_261 (by decide) ?_
              obtain rfl := Option.some.inj h
              exact ih ((z13.1 + ((a11.1 z13.2.toNatClampNeg) * (((fX11_byHand (v_t_rows (8 * x1).toNatClampNeg) z13.2) : Int32).toInt64))), (z13.2 + 1)) _ _ _ hn_e14 hP hD hS (lv_sub hl [2, 3, 1, 0] rfl)
        exact L230_17 FU (0, 0) _ _ _ he_e14 hP hD hS (lv_sub hl [2, 3, 1, 0] rfl)
      have L80_20 : ∀ (n : Nat) (z9 : Int32 × (Nat → Int64) × (Nat → Int64)) (H : Heap) (locs : List Loc) (ls : Array Slot), iter (fX11_heldUp_L80 v_t_rows x1 x2 x3) n z9 = some e10 → va_P D vwCl [(q_t, .inr (10, [.ref q_t_page, .int v_t_pageMany, .ref q_t_readKinds, .ref q_t_readLeaflets, .int v_t_readMany, .int v_t_told, .int v_t_many, .int v_t_lostByHands, .int v_t_lostByMould, .ref q_t_rows, .ref q_t_debts, .int v_t_ringMany, .ref q_t_ring, .ref q_t_line, .ref q_t_groups, .ref q_t_likely, .ref q_t_likelyThen, .int v_t_seedNow, .ref q_t_saved, .int v_t_keptMany, .int v_t_keptByHands, .int v_t_keptByMould, .ref q_t_keptRows, .ref q_t_keptDebts, .long v_t_hash])), (q_t_rows, .inl (cI, 80, .inl v_t_rows)), (q_t_likely, .inl (cJ, 10, .inr (.inl z9.2.1))), (q_t_likelyThen, .inl (cJ, 10, .inr (.inl z9.2.2)))] H → va_D A0 [(q_t, .inr (10, [.ref q_t_page, .int v_t_pageMany, .ref q_t_readKinds, .ref q_t_readLeaflets, .int v_t_readMany, .int v_t_told, .int v_t_many, .int v_t_lostByHands, .int v_t_lostByMould, .ref q_t_rows, .ref q_t_debts, .int v_t_ringMany, .ref q_t_ring, .ref q_t_line, .ref q_t_groups, .ref q_t_likely, .ref q_t_likelyThen, .int v_t_seedNow, .ref q_t_saved, .int v_t_keptMany, .int v_t_keptByHands, .int v_t_keptByMould, .ref q_t_keptRows, .ref q_t_keptDebts, .long v_t_hash])), (q_t_rows, .inl (cI, 80, .inl v_t_rows)), (q_t_likely, .inl (cJ, 10, .inr (.inl z9.2.1))), (q_t_likelyThen, .inl (cJ, 10, .inr (.inl z9.2.2)))] → va_S A0 s.heap H locs → lv_has ls 9 [(0, .ref q_t), (2, .int x2), (3, .int x3), (4, .int (v_t_rows (8 * x1).toNatClampNeg)), (5, .int (if (v_t_rows ((8 * x1) + 2).toNatClampNeg) = (-1) then 1 else 0 : Int32)), (6, .int z9.1)] → W p l e ({ frames := 1, cells := 0, slots := 0, locals := 22 } : Room) s m args below meth c H locs 0 0 Q0 (F0 m 80 ls []) := by
        intro n
        induction n with
        | zero => exact fun _ _ _ _ h => (iter_z h).elim
        | succ n ih =>
          intro z9 H locs ls h hP hD hS hl
          obtain ⟨r_e10, h, hn_e10⟩ := iter_s h
          unfold fX11_heldUp_L80 at h
          refine lv_iload hx hb dX11_heldUp_80 (lv_at hl 5 rfl) ?_
          refine lv_iload_n hx hb dX11_heldUp_82 rfl (lv_at hl 1 rfl) ?_
          refine lv_icmp_ge (tgt := 224) hx hb dX11_heldUp_83 (by decide) (fun c21 => ?_) (fun c21 => ?_)
          · skip
            have h := (if_pos c21).symm.trans h
            obtain rfl := Option.some.inj h
            obtain rfl := Option.some.inj hn_e10
            exact X224_12 (z9.2.1, z9.2.2) _ _ _ hc_e10 hP hD hS (lv_sub hl [0, 3] rfl)
          · skip
            have h := (if_neg c21).symm.trans h
            refine lv_iconst (v := 0) hx hb dX11_heldUp_86 (by decide) ?_
            refine lv_istore (lv' := [(7, .int 0), (0, .ref q_t), (2, .int x2), (3, .int x3), (4, .int (v_t_rows (8 * x1).toNatClampNeg)), (5, .int (if (v_t_rows ((8 * x1) + 2).toNatClampNeg) = (-1) then 1 else 0 : Int32)), (6, .int z9.1)]) hx hb dX11_heldUp_87 hl (by decide) rfl (fun ls hl => ?_)
            obtain ⟨e23, he_e23, hc_e23⟩ := bd_of h
            have X110_25 : ∀ (a24 : (Nat → Int64)) (H : Heap) (locs : List Loc) (ls : Array Slot), fX11_heldUp_X89_110 v_t_rows x1 x3 z9 a24 = some r_e10 → va_P D vwCl [(q_t, .inr (10, [.ref q_t_page, .int v_t_pageMany, .ref q_t_readKinds, .ref q_t_readLeaflets, .int v_t_readMany, .int v_t_told, .int v_t_many, .int v_t_lostByHands, .int v_t_lostByMould, .ref q_t_rows, .ref q_t_debts, .int v_t_ringMany, .ref q_t_ring, .ref q_t_line, .ref q_t_groups, .ref q_t_likely, .ref q_t_likelyThen, .int v_t_seedNow, .ref q_t_saved, .int v_t_keptMany, .int v_t_keptByHands, .int v_t_keptByMould, .ref q_t_keptRows, .ref q_t_keptDebts, .long v_t_hash])), (q_t_rows, .inl (cI, 80, .inl v_t_rows)), (q_t_likely, .inl (cJ, 10, .inr (.inl z9.2.1))), (q_t_likelyThen, .inl (cJ, 10, .inr (.inl a24)))] H → va_D A0 [(q_t, .inr (10, [.ref q_t_page, .int v_t_pageMany, .ref q_t_readKinds, .ref q_t_readLeaflets, .int v_t_readMany, .int v_t_told, .int v_t_many, .int v_t_lostByHands, .int v_t_lostByMould, .ref q_t_rows, .ref q_t_debts, .int v_t_ringMany, .ref q_t_ring, .ref q_t_line, .ref q_t_groups, .ref q_t_likely, .ref q_t_likelyThen, .int v_t_seedNow, .ref q_t_saved, .int v_t_keptMany, .int v_t_keptByHands, .int v_t_keptByMould, .ref q_t_keptRows, .ref q_t_keptDebts, .long v_t_hash])), (q_t_rows, .inl (cI, 80, .inl v_t_rows)), (q_t_likely, .inl (cJ, 10, .inr (.inl z9.2.1))), (q_t_likelyThen, .inl (cJ, 10, .inr (.inl a24)))] → va_S A0 s.heap H locs → lv_has ls 9 [(0, .ref q_t), (2, .int x2), (3, .int x3), (4, .int (v_t_rows (8 * x1).toNatClampNeg)), (5, .int (if (v_t_rows ((8 * x1) + 2).toNatClampNeg) = (-1) then 1 else 0 : Int32)), (6, .int z9.1)] → W p l e ({ frames := 1, cells := 0, slots := 0, locals := 22 } : Room) s m args below meth c H locs 0 0 Q0 (F0 m 110 ls []) := by
              intro a24 H locs ls h hP hD hS hl
              unfold fX11_heldUp_X89_110 at h
              refine lv_iconst (v := 0) hx hb dX11_heldUp_110 (by decide) ?_
              refine lv_istore (lv' := [(7, .int 0), (0, .ref q_t), (2, .int x2), (3, .int x3), (4, .int (v_t_rows (8 * x1).toNatClampNeg)), (5, .int (if (v_t_rows ((8 * x1) + 2).toNatClampNeg) = (-1) then 1 else 0 : Int32)), (6, .int z9.1)]) hx hb dX11_heldUp_111 hl (by decide) rfl (fun ls hl => ?_)
              obtain ⟨e27, he_e27, hc_e27⟩ := bd_of h
              have X188_29 : ∀ (a28 : (Nat → Int64)) (H : Heap) (locs : List Loc) (ls : Array Slot), fX11_heldUp_X113_188 z9 a28 = some r_e10 → va_P D vwCl [(q_t, .inr (10, [.ref q_t_page, .int v_t_pageMany, .ref q_t_readKinds, .ref q_t_readLeaflets, .int v_t_readMany, .int v_t_told, .int v_t_many, .int v_t_lostByHands, .int v_t_lostByMould, .ref q_t_rows, .ref q_t_debts, .int v_t_ringMany, .ref q_t_ring, .ref q_t_line, .ref q_t_groups, .ref q_t_likely, .ref q_t_likelyThen, .int v_t_seedNow, .ref q_t_saved, .int v_t_keptMany, .int v_t_keptByHands, .int v_t_keptByMould, .ref q_t_keptRows, .ref q_t_keptDebts, .long v_t_hash])), (q_t_rows, .inl (cI, 80, .inl v_t_rows)), (q_t_likely, .inl (cJ, 10, .inr (.inl z9.2.1))), (q_t_likelyThen, .inl (cJ, 10, .inr (.inl a28)))] H → va_D A0 [(q_t, .inr (10, [.ref q_t_page, .int v_t_pageMany, .ref q_t_readKinds, .ref q_t_readLeaflets, .int v_t_readMany, .int v_t_told, .int v_t_many, .int v_t_lostByHands, .int v_t_lostByMould, .ref q_t_rows, .ref q_t_debts, .int v_t_ringMany, .ref q_t_ring, .ref q_t_line, .ref q_t_groups, .ref q_t_likely, .ref q_t_likelyThen, .int v_t_seedNow, .ref q_t_saved, .int v_t_keptMany, .int v_t_keptByHands, .int v_t_keptByMould, .ref q_t_keptRows, .ref q_t_keptDebts, .long v_t_hash])), (q_t_rows, .inl (cI, 80, .inl v_t_rows)), (q_t_likely, .inl (cJ, 10, .inr (.inl z9.2.1))), (q_t_likelyThen, .inl (cJ, 10, .inr (.inl a28)))] → va_S A0 s.heap H locs → lv_has ls 9 [(0, .ref q_t), (2, .int x2), (3, .int x3), (4, .int (v_t_rows (8 * x1).toNatClampNeg)), (5, .int (if (v_t_rows ((8 * x1) + 2).toNatClampNeg) = (-1) then 1 else 0 : Int32)), (6, .int z9.1)] → W p l e ({ frames := 1, cells := 0, slots := 0, locals := 22 } : Room) s m args below meth c H locs 0 0 Q0 (F0 m 188 ls []) := by
                intro a28 H locs ls h hP hD hS hl
                unfold fX11_heldUp_X113_188 at h
                refine lv_iconst (v := 0) hx hb dX11_heldUp_188 (by decide) ?_
                refine lv_istore (lv' := [(7, .int 0), (0, .ref q_t), (2, .int x2), (3, .int x3), (4, .int (v_t_rows (8 * x1).toNatClampNeg)), (5, .int (if (v_t_rows ((8 * x1) + 2).toNatClampNeg) = (-1) then 1 else 0 : Int32)), (6, .int z9.1)]) hx hb dX11_heldUp_189 hl (by decide) rfl (fun ls hl => ?_)
                obtain ⟨e31, he_e31, hc_e31⟩ := bd_of h
                have X218_33 : ∀ (a32 : (Nat → Int64)) (H : Heap) (locs : List Loc) (ls : Array Slot), fX11_heldUp_X191_218 z9 a28 a32 = some r_e10 → va_P D vwCl [(q_t, .inr (10, [.ref q_t_page, .int v_t_pageMany, .ref q_t_readKinds, .ref q_t_readLeaflets, .int v_t_readMany, .int v_t_told, .int v_t_many, .int v_t_lostByHands, .int v_t_lostByMould, .ref q_t_rows, .ref q_t_debts, .int v_t_ringMany, .ref q_t_ring, .ref q_t_line, .ref q_t_groups, .ref q_t_likely, .ref q_t_likelyThen, .int v_t_seedNow, .ref q_t_saved, .int v_t_keptMany, .int v_t_keptByHands, .int v_t_keptByMould, .ref q_t_keptRows, .ref q_t_keptDebts, .long v_t_hash])), (q_t_rows, .inl (cI, 80, .inl v_t_rows)), (q_t_likely, .inl (cJ, 10, .inr (.inl a32))), (q_t_likelyThen, .inl (cJ, 10, .inr (.inl a28)))] H → va_D A0 [(q_t, .inr (10, [.ref q_t_page, .int v_t_pageMany, .ref q_t_readKinds, .ref q_t_readLeaflets, .int v_t_readMany, .int v_t_told, .int v_t_many, .int v_t_lostByHands, .int v_t_lostByMould, .ref q_t_rows, .ref q_t_debts, .int v_t_ringMany, .ref q_t_ring, .ref q_t_line, .ref q_t_groups, .ref q_t_likely, .ref q_t_likelyThen, .int v_t_seedNow, .ref q_t_saved, .int v_t_keptMany, .int v_t_keptByHands, .int v_t_keptByMould, .ref q_t_keptRows, .ref q_t_keptDebts, .long v_t_hash])), (q_t_rows, .inl (cI, 80, .inl v_t_rows)), (q_t_likely, .inl (cJ, 10, .inr (.inl a32))), (q_t_likelyThen, .inl (cJ, 10, .inr (.inl a28)))] → va_S A0 s.heap H locs → lv_has ls 9 [(0, .ref q_t), (2, .int x2), (3, .int x3), (4, .int (v_t_rows (8 * x1).toNatClampNeg)), (5, .int (if (v_t_rows ((8 * x1) + 2).toNatClampNeg) = (-1) then 1 else 0 : Int32)), (6, .int z9.1)] → W p l e ({ frames := 1, cells := 0, slots := 0, locals := 22 } : Room) s m args below meth c H locs 0 0 Q0 (F0 m 218 ls []) := by
                  intro a32 H locs ls h hP hD hS hl
                  unfold fX11_heldUp_X191_218 at h
                  refine lv_iinc (v := (z9.1 + 1)) (lv' := [(6, .int (z9.1 + 1)), (0, .ref q_t), (2, .int x2), (3, .int x3), (4, .int (v_t_rows (8 * x1).toNatClampNeg)), (5, .int (if (v_t_rows ((8 * x1) + 2).toNatClampNeg) = (-1) then 1 else 0 : Int32))]) hx hb dX11_heldUp_218 hl (k := 5) rfl rfl (by decide) rfl (fun ls hl => ?_)
                  refine lv_goto (tgt := 80) hx hb dX11_heldUp_221 (by decide) ?_
                  obtain rfl := Option.some.inj h
                  exact ih ((z9.1 + 1), a32, a28) _ _ _ hn_e10 hP hD hS (lv_sub hl [1, 2, 3, 4, 5, 0] rfl)
                have L191_34 : ∀ (n : Nat) (z30 : Int32 × (Nat → Int64)) (H : Heap) (locs : List Loc) (ls : Array Slot), iter (fX11_heldUp_L191 a28) n z30 = some e31 → va_P D vwCl [(q_t, .inr (10, [.ref q_t_page, .int v_t_pageMany, .ref q_t_readKinds, .ref q_t_readLeaflets, .int v_t_readMany, .int v_t_told, .int v_t_many, .int v_t_lostByHands, .int v_t_lostByMould, .ref q_t_rows, .ref q_t_debts, .int v_t_ringMany, .ref q_t_ring, .ref q_t_line, .ref q_t_groups, .ref q_t_likely, .ref q_t_likelyThen, .int v_t_seedNow, .ref q_t_saved, .int v_t_keptMany, .int v_t_keptByHands, .int v_t_keptByMould, .ref q_t_keptRows, .ref q_t_keptDebts, .long v_t_hash])), (q_t_rows, .inl (cI, 80, .inl v_t_rows)), (q_t_likely, .inl (cJ, 10, .inr (.inl z30.2))), (q_t_likelyThen, .inl (cJ, 10, .inr (.inl a28)))] H → va_D A0 [(q_t, .inr (10, [.ref q_t_page, .int v_t_pageMany, .ref q_t_readKinds, .ref q_t_readLeaflets, .int v_t_readMany, .int v_t_told, .int v_t_many, .int v_t_lostByHands, .int v_t_lostByMould, .ref q_t_rows, .ref q_t_debts, .int v_t_ringMany, .ref q_t_ring, .ref q_t_line, .ref q_t_groups, .ref q_t_likely, .ref q_t_likelyThen, .int v_t_seedNow, .ref q_t_saved, .int v_t_keptMany, .int v_t_keptByHands, .int v_t_keptByMould, .ref q_t_keptRows, .ref q_t_keptDebts, .long v_t_hash])), (q_t_rows, .inl (cI, 80, .inl v_t_rows)), (q_t_likely, .inl (cJ, 10, .inr (.inl z30.2))), (q_t_likelyThen, .inl (cJ, 10, .inr (.inl a28)))] → va_S A0 s.heap H locs → lv_has ls 9 [(0, .ref q_t), (2, .int x2), (3, .int x3), (4, .int (v_t_rows (8 * x1).toNatClampNeg)), (5, .int (if (v_t_rows ((8 * x1) + 2).toNatClampNeg) = (-1) then 1 else 0 : Int32)), (6, .int z9.1), (7, .int z30.1)] → W p l e ({ frames := 1, cells := 0, slots := 0, locals := 22 } : Room) s m args below meth c H locs 0 0 Q0 (F0 m 191 ls []) := by
                  intro n
                  induction n with
                  | zero => exact fun _ _ _ _ h => (iter_z h).elim
                  | succ n ih =>
                    intro z30 H locs ls h hP hD hS hl
                    obtain ⟨r_e31, h, hn_e31⟩ := iter_s h
                    unfold fX11_heldUp_L191 at h
                    refine lv_iload hx hb dX11_heldUp_191 (lv_at hl 6 rfl) ?_
                    refine lv_bipush (v := 10) hx hb dX11_heldUp_193 (by decide) ?_
                    refine lv_icmp_ge (tgt := 218) hx hb dX11_heldUp_195 (by decide) (fun c35 => ?_) (fun c35 => ?_)
                    · skip
                      have h := (if_pos c35).symm.trans h
                      obtain rfl := Option.some.inj h
                      obtain rfl := Option.some.inj hn_e31
                      exact X218_33 z30.2 _ _ _ hc_e31 hP hD hS (lv_sub hl [0, 1, 2, 3, 4, 5] rfl)
                    · skip
                      have h := (if_neg c35).symm.trans h
                      refine lv_aload_n hx hb dX11_heldUp_198 rfl (lv_at hl 0 rfl) ?_
                      refine va_get (own := RX11) (ci := 10) (v := .ref q_t_likely) (C := RX11) (T := TX11) (N := 25) hx hb hts iX11 hown hK hP 0 rfl rfl 15 (by decide) k34 (fun _ h9 => h9) rfl dX11_heldUp_199 ?_
                      refine lv_iload hx hb dX11_heldUp_202 (lv_at hl 6 rfl) ?_
                      refine lv_aload_n hx hb dX11_heldUp_204 rfl (lv_at hl 0 rfl) ?_
                      refine va_get (own := RX11) (ci := 10) (v := .ref q_t_likelyThen) (C := RX11) (T := TX11) (N := 25) hx hb hts iX11 hown hK hP 0 rfl rfl 16 (by decide) k38 (fun _ h9 => h9) rfl dX11_heldUp_205 ?_
                      refine lv_iload hx hb dX11_heldUp_208 (lv_at hl 6 rfl) ?_
                      obtain ⟨g36, h⟩ := gd_of h
                      refine va_lald hx hb hK hP 3 1 rfl rfl (inb_of g36) dX11_heldUp_210 ?_
                      refine va_last hx hb hK hP hD hS 2 1 rfl rfl (inb_of g36) dX11_heldUp_211 (fun H locs hP hD hS => ?_)
                      have hP : va_P D vwCl [(q_t, .inr (10, [.ref q_t_page, .int v_t_pageMany, .ref q_t_readKinds, .ref q_t_readLeaflets, .int v_t_readMany, .int v_t_told, .int v_t_many, .int v_t_lostByHands, .int v_t_lostByMould, .ref q_t_rows, .ref q_t_debts, .int v_t_ringMany, .ref q_t_ring, .ref q_t_line, .ref q_t_groups, .ref q_t_likely, .ref q_t_likelyThen, .int v_t_seedNow, .ref q_t_saved, .int v_t_keptMany, .int v_t_keptByHands, .int v_t_keptByMould, .ref q_t_keptRows, .ref q_t_keptDebts, .long v_t_hash])), (q_t_rows, .inl (cI, 80, .inl v_t_rows)), (q_t_likely, .inl (cJ, 10, .inr (.inl (vp_updL z30.2 z30.1.toNatClampNeg (a28 z30.1.toNatClampNeg))))), (q_t_likelyThen, .inl (cJ, 10, .inr (.inl a28)))] H := hP
                      have hD : va_D A0 [(q_t, .inr (10, [.ref q_t_page, .int v_t_pageMany, .ref q_t_readKinds, .ref q_t_readLeaflets, .int v_t_readMany, .int v_t_told, .int v_t_many, .int v_t_lostByHands, .int v_t_lostByMould, .ref q_t_rows, .ref q_t_debts, .int v_t_ringMany, .ref q_t_ring, .ref q_t_line, .ref q_t_groups, .ref q_t_likely, .ref q_t_likelyThen, .int v_t_seedNow, .ref q_t_saved, .int v_t_keptMany, .int v_t_keptByHands, .int v_t_keptByMould, .ref q_t_keptRows, .ref q_t_keptDebts, .long v_t_hash])), (q_t_rows, .inl (cI, 80, .inl v_t_rows)), (q_t_likely, .inl (cJ, 10, .inr (.inl (vp_updL z30.2 z30.1.toNatClampNeg (a28 z30.1.toNatClampNeg))))), (q_t_likelyThen, .inl (cJ, 10, .inr (.inl a28)))] := hD
                      refine lv_iinc (v := (z30.1 + 1)) (lv' := [(7, .int (z30.1 + 1)), (0, .ref q_t), (2, .int x2), (3, .int x3), (4, .int (v_t_rows (8 * x1).toNatClampNeg)), (5, .int (if (v_t_rows ((8 * x1) + 2).toNatClampNeg) = (-1) then 1 else 0 : Int32)), (6, .int z9.1)]) hx hb dX11_heldUp_212 hl (k := 6) rfl rfl (by decide) rfl (fun ls hl => ?_)
                      refine lv_goto (tgt := 191) hx hb dX11_heldUp_215 (by decide) ?_
                      obtain rfl := Option.some.inj h
                      exact ih ((z30.1 + 1), (vp_updL z30.2 z30.1.toNatClampNeg (a28 z30.1.toNatClampNeg))) _ _ _ hn_e31 hP hD hS (lv_sub hl [1, 2, 3, 4, 5, 6, 0] rfl)
                exact L191_34 FU (0, z9.2.1) _ _ _ he_e31 hP hD hS (lv_sub hl [1, 2, 3, 4, 5, 6, 0] rfl)
              have L113_37 : ∀ (n : Nat) (z26 : Int32 × (Nat → Int64)) (H : Heap) (locs : List Loc) (ls : Array Slot), iter (fX11_heldUp_L113 v_t_rows x1 x3 z9) n z26 = some e27 → va_P D vwCl [(q_t, .inr (10, [.ref q_t_page, .int v_t_pageMany, .ref q_t_readKinds, .ref q_t_readLeaflets, .int v_t_readMany, .int v_t_told, .int v_t_many, .int v_t_lostByHands, .int v_t_lostByMould, .ref q_t_rows, .ref q_t_debts, .int v_t_ringMany, .ref q_t_ring, .ref q_t_line, .ref q_t_groups, .ref q_t_likely, .ref q_t_likelyThen, .int v_t_seedNow, .ref q_t_saved, .int v_t_keptMany, .int v_t_keptByHands, .int v_t_keptByMould, .ref q_t_keptRows, .ref q_t_keptDebts, .long v_t_hash])), (q_t_rows, .inl (cI, 80, .inl v_t_rows)), (q_t_likely, .inl (cJ, 10, .inr (.inl z9.2.1))), (q_t_likelyThen, .inl (cJ, 10, .inr (.inl z26.2)))] H → va_D A0 [(q_t, .inr (10, [.ref q_t_page, .int v_t_pageMany, .ref q_t_readKinds, .ref q_t_readLeaflets, .int v_t_readMany, .int v_t_told, .int v_t_many, .int v_t_lostByHands, .int v_t_lostByMould, .ref q_t_rows, .ref q_t_debts, .int v_t_ringMany, .ref q_t_ring, .ref q_t_line, .ref q_t_groups, .ref q_t_likely, .ref q_t_likelyThen, .int v_t_seedNow, .ref q_t_saved, .int v_t_keptMany, .int v_t_keptByHands, .int v_t_keptByMould, .ref q_t_keptRows, .ref q_t_keptDebts, .long v_t_hash])), (q_t_rows, .inl (cI, 80, .inl v_t_rows)), (q_t_likely, .inl (cJ, 10, .inr (.inl z9.2.1))), (q_t_likelyThen, .inl (cJ, 10, .inr (.inl z26.2)))] → va_S A0 s.heap H locs → lv_has ls 9 [(0, .ref q_t), (2, .int x2), (3, .int x3), (4, .int (v_t_rows (8 * x1).toNatClampNeg)), (5, .int (if (v_t_rows ((8 * x1) + 2).toNatClampNeg) = (-1) then 1 else 0 : Int32)), (6, .int z9.1), (7, .int z26.1)] → W p l e ({ frames := 1, cells := 0, slots := 0, locals := 22 } : Room) s m args below meth c H locs 0 0 Q0 (F0 m 113 ls []) := by
                intro n
                induction n with
                | zero => exact fun _ _ _ _ h => (iter_z h).elim
                | succ n ih =>
                  intro z26 H locs ls h hP hD hS hl
                  obtain ⟨r_e27, h, hn_e27⟩ := iter_s h
                  unfold fX11_heldUp_L113 at h
                  refine lv_iload hx hb dX11_heldUp_113 (lv_at hl 6 rfl) ?_
                  refine lv_bipush (v := 10) hx hb dX11_heldUp_115 (by decide) ?_
                  refine lv_icmp_ge (tgt := 188) hx hb dX11_heldUp_117 (by decide) (fun c38 => ?_) (fun c38 => ?_)
                  · skip
                    have h := (if_pos c38).symm.trans h
                    obtain rfl := Option.some.inj h
                    obtain rfl := Option.some.inj hn_e27
                    exact X188_29 z26.2 _ _ _ hc_e27 hP hD hS (lv_sub hl [0, 1, 2, 3, 4, 5] rfl)
                  · skip
                    have h := (if_neg c38).symm.trans h
                    refine lv_iload hx hb dX11_heldUp_120 (lv_at hl 4 rfl) ?_
                    have K137_39 : ∀ (w40 : Int32) (H : Heap) (locs : List Loc) (ls : Array Slot), w40 = (if (if (v_t_rows ((8 * x1) + 2).toNatClampNeg) = (-1) then 1 else 0 : Int32) = 0 then (fX11_byMould (v_t_rows (8 * x1).toNatClampNeg) z26.1) else z26.1 : Int32) → va_P D vwCl [(q_t, .inr (10, [.ref q_t_page, .int v_t_pageMany, .ref q_t_readKinds, .ref q_t_readLeaflets, .int v_t_readMany, .int v_t_told, .int v_t_many, .int v_t_lostByHands, .int v_t_lostByMould, .ref q_t_rows, .ref q_t_debts, .int v_t_ringMany, .ref q_t_ring, .ref q_t_line, .ref q_t_groups, .ref q_t_likely, .ref q_t_likelyThen, .int v_t_seedNow, .ref q_t_saved, .int v_t_keptMany, .int v_t_keptByHands, .int v_t_keptByMould, .ref q_t_keptRows, .ref q_t_keptDebts, .long v_t_hash])), (q_t_rows, .inl (cI, 80, .inl v_t_rows)), (q_t_likely, .inl (cJ, 10, .inr (.inl z9.2.1))), (q_t_likelyThen, .inl (cJ, 10, .inr (.inl z26.2)))] H → va_D A0 [(q_t, .inr (10, [.ref q_t_page, .int v_t_pageMany, .ref q_t_readKinds, .ref q_t_readLeaflets, .int v_t_readMany, .int v_t_told, .int v_t_many, .int v_t_lostByHands, .int v_t_lostByMould, .ref q_t_rows, .ref q_t_debts, .int v_t_ringMany, .ref q_t_ring, .ref q_t_line, .ref q_t_groups, .ref q_t_likely, .ref q_t_likelyThen, .int v_t_seedNow, .ref q_t_saved, .int v_t_keptMany, .int v_t_keptByHands, .int v_t_keptByMould, .ref q_t_keptRows, .ref q_t_keptDebts, .long v_t_hash])), (q_t_rows, .inl (cI, 80, .inl v_t_rows)), (q_t_likely, .inl (cJ, 10, .inr (.inl z9.2.1))), (q_t_likelyThen, .inl (cJ, 10, .inr (.inl z26.2)))] → va_S A0 s.heap H locs → lv_has ls 9 [(0, .ref q_t), (2, .int x2), (3, .int x3), (4, .int (v_t_rows (8 * x1).toNatClampNeg)), (5, .int (if (v_t_rows ((8 * x1) + 2).toNatClampNeg) = (-1) then 1 else 0 : Int32)), (6, .int z9.1), (7, .int z26.1)] → W p l e ({ frames := 1, cells := 0, slots := 0, locals := 22 } : Room) s m args below meth c H locs 0 0 Q0 (F0 m 137 ls [.int w40]) := by
                      intro w40 H locs ls e_w40 hP hD hS hl
                      subst e_w40
                      refine lv_istore (lv' := [(8, .int (if (if (v_t_rows ((8 * x1) + 2).toNatClampNeg) = (-1) then 1 else 0 : Int32) = 0 then (fX11_byMould (v_t_rows (8 * x1).toNatClampNeg) z26.1) else z26.1 : Int32)), (0, .ref q_t), (2, .int x2), (3, .int x3), (4, .int (v_t_rows (8 * x1).toNatClampNeg)), (5, .int (if (v_t_rows ((8 * x1) + 2).toNatClampNeg) = (-1) then 1 else 0 : Int32)), (6, .int z9.1), (7, .int z26.1)]) hx hb dX11_heldUp_137 hl (by decide) rfl (fun ls hl => ?_)
                      refine lv_aload_n hx hb dX11_heldUp_139 rfl (lv_at hl 1 rfl) ?_
                      refine va_get (own := RX11) (ci := 10) (v := .ref q_t_likelyThen) (C := RX11) (T := TX11) (N := 25) hx hb hts iX11 hown hK hP 0 rfl rfl 16 (by decide) k38 (fun _ h9 => h9) rfl dX11_heldUp_140 ?_
                      refine lv_iload hx hb dX11_heldUp_143 (lv_at hl 0 rfl) ?_
                      refine lv_dup2_11 hx hb dX11_heldUp_145 rfl rfl ?_
                      obtain ⟨g41, h⟩ := gd_of h
                      refine va_lald hx hb hK hP 3 1 rfl rfl (inb_of g41) dX11_heldUp_146 ?_
                      refine lv_aload_n hx hb dX11_heldUp_147 rfl (lv_at hl 1 rfl) ?_
                      refine va_get (own := RX11) (ci := 10) (v := .ref q_t_likely) (C := RX11) (T := TX11) (N := 25) hx hb hts iX11 hown hK hP 0 rfl rfl 15 (by decide) k34 (fun _ h9 => h9) rfl dX11_heldUp_148 ?_
                      refine lv_iload hx hb dX11_heldUp_151 (lv_at hl 7 rfl) ?_
                      obtain ⟨g42, h⟩ := gd_of h
                      refine va_lald hx hb hK hP 2 1 rfl rfl (inb_of g42) dX11_heldUp_153 ?_
                      refine lv_iload_n hx hb dX11_heldUp_154 rfl (lv_at hl 3 rfl) ?_
                      refine lv_i2l hx hb dX11_heldUp_155 rfl ?_
                      refine lv_lmul hx hb dX11_heldUp_156 ?_
                      refine lv_ladd hx hb dX11_heldUp_157 ?_
                      refine va_last hx hb hK hP hD hS 3 1 rfl rfl (inb_of g41) dX11_heldUp_158 (fun H locs hP hD hS => ?_)
                      have hP : va_P D vwCl [(q_t, .inr (10, [.ref q_t_page, .int v_t_pageMany, .ref q_t_readKinds, .ref q_t_readLeaflets, .int v_t_readMany, .int v_t_told, .int v_t_many, .int v_t_lostByHands, .int v_t_lostByMould, .ref q_t_rows, .ref q_t_debts, .int v_t_ringMany, .ref q_t_ring, .ref q_t_line, .ref q_t_groups, .ref q_t_likely, .ref q_t_likelyThen, .int v_t_seedNow, .ref q_t_saved, .int v_t_keptMany, .int v_t_keptByHands, .int v_t_keptByMould, .ref q_t_keptRows, .ref q_t_keptDebts, .long v_t_hash])), (q_t_rows, .inl (cI, 80, .inl v_t_rows)), (q_t_likely, .inl (cJ, 10, .inr (.inl z9.2.1))), (q_t_likelyThen, .inl (cJ, 10, .inr (.inl (vp_updL z26.2 (if (if (v_t_rows ((8 * x1) + 2).toNatClampNeg) = (-1) then 1 else 0 : Int32) = 0 then (fX11_byMould (v_t_rows (8 * x1).toNatClampNeg) z26.1) else z26.1 : Int32).toNatClampNeg ((z26.2 (if (if (v_t_rows ((8 * x1) + 2).toNatClampNeg) = (-1) then 1 else 0 : Int32) = 0 then (fX11_byMould (v_t_rows (8 * x1).toNatClampNeg) z26.1) else z26.1 : Int32).toNatClampNeg) + ((z9.2.1 z26.1.toNatClampNeg) * ((x3 : Int32).toInt64)))))))] H := hP
                      have hD : va_D A0 [(q_t, .inr (10, [.ref q_t_page, .int v_t_pageMany, .ref q_t_readKinds, .ref q_t_readLeaflets, .int v_t_readMany, .int v_t_told, .int v_t_many, .int v_t_lostByHands, .int v_t_lostByMould, .ref q_t_rows, .ref q_t_debts, .int v_t_ringMany, .ref q_t_ring, .ref q_t_line, .ref q_t_groups, .ref q_t_likely, .ref q_t_likelyThen, .int v_t_seedNow, .ref q_t_saved, .int v_t_keptMany, .int v_t_keptByHands, .int v_t_keptByMould, .ref q_t_keptRows, .ref q_t_keptDebts, .long v_t_hash])), (q_t_rows, .inl (cI, 80, .inl v_t_rows)), (q_t_likely, .inl (cJ, 10, .inr (.inl z9.2.1))), (q_t_likelyThen, .inl (cJ, 10, .inr (.inl (vp_updL z26.2 (if (if (v_t_rows ((8 * x1) + 2).toNatClampNeg) = (-1) then 1 else 0 : Int32) = 0 then (fX11_byMould (v_t_rows (8 * x1).toNatClampNeg) z26.1) else z26.1 : Int32).toNatClampNeg ((z26.2 (if (if (v_t_rows ((8 * x1) + 2).toNatClampNeg) = (-1) then 1 else 0 : Int32) = 0 then (fX11_byMould (v_t_rows (8 * x1).toNatClampNeg) z26.1) else z26.1 : Int32).toNatClampNeg) + ((z9.2.1 z26.1.toNatClampNeg) * ((x3 : Int32).toInt64)))))))] := hD
                      refine lv_aload_n hx hb dX11_heldUp_159 rfl (lv_at hl 1 rfl) ?_
                      refine va_get (own := RX11) (ci := 10) (v := .ref q_t_likelyThen) (C := RX11) (T := TX11) (N := 25) hx hb hts iX11 hown hK hP 0 rfl rfl 16 (by decide) k38 (fun _ h9 => h9) rfl dX11_heldUp_160 ?_
                      refine lv_iload hx hb dX11_heldUp_163 (lv_at hl 7 rfl) ?_
                      refine lv_dup2_11 hx hb dX11_heldUp_165 rfl rfl ?_
                      refine va_lald hx hb hK hP 3 1 rfl rfl (inb_of g42) dX11_heldUp_166 ?_
                      refine lv_aload_n hx hb dX11_heldUp_167 rfl (lv_at hl 1 rfl) ?_
                      refine va_get (own := RX11) (ci := 10) (v := .ref q_t_likely) (C := RX11) (T := TX11) (N := 25) hx hb hts iX11 hown hK hP 0 rfl rfl 15 (by decide) k34 (fun _ h9 => h9) rfl dX11_heldUp_168 ?_
                      refine lv_iload hx hb dX11_heldUp_171 (lv_at hl 7 rfl) ?_
                      refine va_lald hx hb hK hP 2 1 rfl rfl (inb_of g42) dX11_heldUp_173 ?_
                      refine lv_bipush (v := 10) hx hb dX11_heldUp_174 (by decide) ?_
                      refine lv_iload_n hx hb dX11_heldUp_176 rfl (lv_at hl 3 rfl) ?_
                      refine lv_isub hx hb dX11_heldUp_177 ?_
                      refine lv_i2l hx hb dX11_heldUp_178 rfl ?_
                      refine lv_lmul hx hb dX11_heldUp_179 ?_
                      refine lv_ladd hx hb dX11_heldUp_180 ?_
                      refine va_last hx hb hK hP hD hS 3 1 rfl rfl (inb_of g42) dX11_heldUp_181 (fun H locs hP hD hS => ?_)
                      have hP : va_P D vwCl [(q_t, .inr (10, [.ref q_t_page, .int v_t_pageMany, .ref q_t_readKinds, .ref q_t_readLeaflets, .int v_t_readMany, .int v_t_told, .int v_t_many, .int v_t_lostByHands, .int v_t_lostByMould, .ref q_t_rows, .ref q_t_debts, .int v_t_ringMany, .ref q_t_ring, .ref q_t_line, .ref q_t_groups, .ref q_t_likely, .ref q_t_likelyThen, .int v_t_seedNow, .ref q_t_saved, .int v_t_keptMany, .int v_t_keptByHands, .int v_t_keptByMould, .ref q_t_keptRows, .ref q_t_keptDebts, .long v_t_hash])), (q_t_rows, .inl (cI, 80, .inl v_t_rows)), (q_t_likely, .inl (cJ, 10, .inr (.inl z9.2.1))), (q_t_likelyThen, .inl (cJ, 10, .inr (.inl (vp_updL (vp_updL z26.2 (if (if (v_t_rows ((8 * x1) + 2).toNatClampNeg) = (-1) then 1 else 0 : Int32) = 0 then (fX11_byMould (v_t_rows (8 * x1).toNatClampNeg) z26.1) else z26.1 : Int32).toNatClampNeg ((z26.2 (if (if (v_t_rows ((8 * x1) + 2).toNatClampNeg) = (-1) then 1 else 0 : Int32) = 0 then (fX11_byMould (v_t_rows (8 * x1).toNatClampNeg) z26.1) else z26.1 : Int32).toNatClampNeg) + ((z9.2.1 z26.1.toNatClampNeg) * ((x3 : Int32).toInt64)))) z26.1.toNatClampNeg (((vp_updL z26.2 (if (if (v_t_rows ((8 * x1) + 2).toNatClampNeg) = (-1) then 1 else 0 : Int32) = 0 then (fX11_byMould (v_t_rows (8 * x1).toNatClampNeg) z26.1) else z26.1 : Int32).toNatClampNeg ((z26.2 (if (if (v_t_rows ((8 * x1) + 2).toNatClampNeg) = (-1) then 1 else 0 : Int32) = 0 then (fX11_byMould (v_t_rows (8 * x1).toNatClampNeg) z26.1) else z26.1 : Int32).toNatClampNeg) + ((z9.2.1 z26.1.toNatClampNeg) * ((x3 : Int32).toInt64)))) z26.1.toNatClampNeg) + ((z9.2.1 z26.1.toNatClampNeg) * (((10 - x3) : Int32).toInt64)))))))] H := hP
                      have hD : va_D A0 [(q_t, .inr (10, [.ref q_t_page, .int v_t_pageMany, .ref q_t_readKinds, .ref q_t_readLeaflets, .int v_t_readMany, .int v_t_told, .int v_t_many, .int v_t_lostByHands, .int v_t_lostByMould, .ref q_t_rows, .ref q_t_debts, .int v_t_ringMany, .ref q_t_ring, .ref q_t_line, .ref q_t_groups, .ref q_t_likely, .ref q_t_likelyThen, .int v_t_seedNow, .ref q_t_saved, .int v_t_keptMany, .int v_t_keptByHands, .int v_t_keptByMould, .ref q_t_keptRows, .ref q_t_keptDebts, .long v_t_hash])), (q_t_rows, .inl (cI, 80, .inl v_t_rows)), (q_t_likely, .inl (cJ, 10, .inr (.inl z9.2.1))), (q_t_likelyThen, .inl (cJ, 10, .inr (.inl (vp_updL (vp_updL z26.2 (if (if (v_t_rows ((8 * x1) + 2).toNatClampNeg) = (-1) then 1 else 0 : Int32) = 0 then (fX11_byMould (v_t_rows (8 * x1).toNatClampNeg) z26.1) else z26.1 : Int32).toNatClampNeg ((z26.2 (if (if (v_t_rows ((8 * x1) + 2).toNatClampNeg) = (-1) then 1 else 0 : Int32) = 0 then (fX11_byMould (v_t_rows (8 * x1).toNatClampNeg) z26.1) else z26.1 : Int32).toNatClampNeg) + ((z9.2.1 z26.1.toNatClampNeg) * ((x3 : Int32).toInt64)))) z26.1.toNatClampNeg (((vp_updL z26.2 (if (if (v_t_rows ((8 * x1) + 2).toNatClampNeg) = (-1) then 1 else 0 : Int32) = 0 then (fX11_byMould (v_t_rows (8 * x1).toNatClampNeg) z26.1) else z26.1 : Int32).toNatClampNeg ((z26.2 (if (if (v_t_rows ((8 * x1) + 2).toNatClampNeg) = (-1) then 1 else 0 : Int32) = 0 then (fX11_byMould (v_t_rows (8 * x1).toNatClampNeg) z26.1) else z26.1 : Int32).toNatClampNeg) + ((z9.2.1 z26.1.toNatClampNeg) * ((x3 : Int32).toInt64)))) z26.1.toNatClampNeg) + ((z9.2.1 z26.1.toNatClampNeg) * (((10 - x3) : Int32).toInt64)))))))] := hD
                      refine lv_iinc (v := (z26.1 + 1)) (lv' := [(7, .int (z26.1 + 1)), (8, .int (if (if (v_t_rows ((8 * x1) + 2).toNatClampNeg) = (-1) then 1 else 0 : Int32) = 0 then (fX11_byMould (v_t_rows (8 * x1).toNatClampNeg) z26.1) else z26.1 : Int32)), (0, .ref q_t), (2, .int x2), (3, .int x3), (4, .int (v_t_rows (8 * x1).toNatClampNeg)), (5, .int (if (v_t_rows ((8 * x1) + 2).toNatClampNeg) = (-1) then 1 else 0 : Int32)), (6, .int z9.1)]) hx hb dX11_heldUp_182 hl (k := 7) rfl rfl (by decide) rfl (fun ls hl => ?_)
                      refine lv_goto (tgt := 113) hx hb dX11_heldUp_185 (by decide) ?_
                      obtain rfl := Option.some.inj h
                      exact ih ((z26.1 + 1), (vp_updL (vp_updL z26.2 (if (if (v_t_rows ((8 * x1) + 2).toNatClampNeg) = (-1) then 1 else 0 : Int32) = 0 then (fX11_byMould (v_t_rows (8 * x1).toNatClampNeg) z26.1) else z26.1 : Int32).toNatClampNeg ((z26.2 (if (if (v_t_rows ((8 * x1) + 2).toNatClampNeg) = (-1) then 1 else 0 : Int32) = 0 then (fX11_byMould (v_t_rows (8 * x1).toNatClampNeg) z26.1) else z26.1 : Int32).toNatClampNeg) + ((z9.2.1 z26.1.toNatClampNeg) * ((x3 : Int32).toInt64)))) z26.1.toNatClampNeg (((vp_updL z26.2 (if (if (v_t_rows ((8 * x1) + 2).toNatClampNeg) = (-1) then 1 else 0 : Int32) = 0 then (fX11_byMould (v_t_rows (8 * x1).toNatClampNeg) z26.1) else z26.1 : Int32).toNatClampNeg ((z26.2 (if (if (v_t_rows ((8 * x1) + 2).toNatClampNeg) = (-1) then 1 else 0 : Int32) = 0 then (fX11_byMould (v_t_rows (8 * x1).toNatClampNeg) z26.1) else z26.1 : Int32).toNatClampNeg) + ((z9.2.1 z26.1.toNatClampNeg) * ((x3 : Int32).toInt64)))) z26.1.toNatClampNeg) + ((z9.2.1 z26.1.toNatClampNeg) * (((10 - x3) : Int32).toInt64))))) _ _ _ hn_e27 hP hD hS (lv_sub hl [2, 3, 4, 5, 6, 7, 0] rfl)
                    refine lv_if_eq (tgt := 130) hx hb dX11_heldUp_122 (by decide) (fun c43 => ?_) (fun c43 => ?_)
                    · skip
                      refine lv_iload hx hb dX11_heldUp_130 (lv_at hl 3 rfl) ?_
                      refine lv_iload hx hb dX11_heldUp_132 (lv_at hl 6 rfl) ?_
                      refine cl_S [(q_t, .inr (10, [.ref q_t_page, .int v_t_pageMany, .ref q_t_readKinds, .ref q_t_readLeaflets, .int v_t_readMany, .int v_t_told, .int v_t_many, .int v_t_lostByHands, .int v_t_lostByMould, .ref q_t_rows, .ref q_t_debts, .int v_t_ringMany, .ref q_t_ring, .ref q_t_line, .ref q_t_groups, .ref q_t_likely, .ref q_t_likelyThen, .int v_t_seedNow, .ref q_t_saved, .int v_t_keptMany, .int v_t_keptByHands, .int v_t_keptByMould, .ref q_t_keptRows, .ref q_t_keptDebts, .long v_t_hash])), (q_t_rows, .inl (cI, 80, .inl v_t_rows)), (q_t_likely, .inl (cJ, 10, .inr (.inl z9.2.1))), (q_t_likelyThen, .inl (cJ, 10, .inr (.inl z26.2)))] (As := [.int (v_t_rows (8 * x1).toNatClampNeg), .int z26.1]) (rest := []) (rv := (some (.int (fX11_byMould (v_t_rows (8 * x1).toNatClampNeg) z26.1)))) (c_X11_byMould l D cI cJ (v_t_rows (8 * x1).toNatClampNeg) z26.1) ⟨hx, hb, hml, hown, hts⟩ (va_cwS 2 hts gX11_heldUp_X11_byMould rfl rfl rfl (by decide +kernel) ⟨(Nat.le_of_ble_eq_true rfl), (Nat.le_of_ble_eq_true rfl)⟩) hK hN hP hD hS [] rfl (by decide) rfl rfl rfl rfl hl.1 rfl (Nat.le_of_ble_eq_true rfl) dX11_heldUp_134 ⟨Nat.zero_le _, Nat.zero_le _⟩ (fun H locs hP hD hS => ?_)
                      show W p l e ({ frames := 1, cells := 0, slots := 0, locals := 22 } : Room) s m args below meth c H locs 0 0 Q0 (F0 m 137 ls [.int (fX11_byMould (v_t_rows (8 * x1).toNatClampNeg) z26.1)])
                      exact K137_39 ((fX11_byMould (v_t_rows (8 * x1).toNatClampNeg) z26.1)) _ _ _ (by rw [if_pos c43]) hP hD hS (lv_sub hl [0, 1, 2, 3, 4, 5, 6] rfl)
                    · skip
                      refine lv_iload hx hb dX11_heldUp_125 (lv_at hl 6 rfl) ?_
                      refine lv_goto (tgt := 137) hx hb dX11_heldUp_127 (by decide) ?_
                      exact K137_39 z26.1 _ _ _ (by rw [if_neg c43]) hP hD hS (lv_sub hl [0, 1, 2, 3, 4, 5, 6] rfl)
              exact L113_37 FU (0, a24) _ _ _ he_e27 hP hD hS (lv_sub hl [1, 2, 3, 4, 5, 6, 0] rfl)
            have L89_44 : ∀ (n : Nat) (z22 : Int32 × (Nat → Int64)) (H : Heap) (locs : List Loc) (ls : Array Slot), iter (fX11_heldUp_L89) n z22 = some e23 → va_P D vwCl [(q_t, .inr (10, [.ref q_t_page, .int v_t_pageMany, .ref q_t_readKinds, .ref q_t_readLeaflets, .int v_t_readMany, .int v_t_told, .int v_t_many, .int v_t_lostByHands, .int v_t_lostByMould, .ref q_t_rows, .ref q_t_debts, .int v_t_ringMany, .ref q_t_ring, .ref q_t_line, .ref q_t_groups, .ref q_t_likely, .ref q_t_likelyThen, .int v_t_seedNow, .ref q_t_saved, .int v_t_keptMany, .int v_t_keptByHands, .int v_t_keptByMould, .ref q_t_keptRows, .ref q_t_keptDebts, .long v_t_hash])), (q_t_rows, .inl (cI, 80, .inl v_t_rows)), (q_t_likely, .inl (cJ, 10, .inr (.inl z9.2.1))), (q_t_likelyThen, .inl (cJ, 10, .inr (.inl z22.2)))] H → va_D A0 [(q_t, .inr (10, [.ref q_t_page, .int v_t_pageMany, .ref q_t_readKinds, .ref q_t_readLeaflets, .int v_t_readMany, .int v_t_told, .int v_t_many, .int v_t_lostByHands, .int v_t_lostByMould, .ref q_t_rows, .ref q_t_debts, .int v_t_ringMany, .ref q_t_ring, .ref q_t_line, .ref q_t_groups, .ref q_t_likely, .ref q_t_likelyThen, .int v_t_seedNow, .ref q_t_saved, .int v_t_keptMany, .int v_t_keptByHands, .int v_t_keptByMould, .ref q_t_keptRows, .ref q_t_keptDebts, .long v_t_hash])), (q_t_rows, .inl (cI, 80, .inl v_t_rows)), (q_t_likely, .inl (cJ, 10, .inr (.inl z9.2.1))), (q_t_likelyThen, .inl (cJ, 10, .inr (.inl z22.2)))] → va_S A0 s.heap H locs → lv_has ls 9 [(0, .ref q_t), (2, .int x2), (3, .int x3), (4, .int (v_t_rows (8 * x1).toNatClampNeg)), (5, .int (if (v_t_rows ((8 * x1) + 2).toNatClampNeg) = (-1) then 1 else 0 : Int32)), (6, .int z9.1), (7, .int z22.1)] → W p l e ({ frames := 1, cells := 0, slots := 0, locals := 22 } : Room) s m args below meth c H locs 0 0 Q0 (F0 m 89 ls []) := by
              intro n
              induction n with
              | zero => exact fun _ _ _ _ h => (iter_z h).elim
              | succ n ih =>
                intro z22 H locs ls h hP hD hS hl
                obtain ⟨r_e23, h, hn_e23⟩ := iter_s h
                unfold fX11_heldUp_L89 at h
                refine lv_iload hx hb dX11_heldUp_89 (lv_at hl 6 rfl) ?_
                refine lv_bipush (v := 10) hx hb dX11_heldUp_91 (by decide) ?_
                refine lv_icmp_ge (tgt := 110) hx hb dX11_heldUp_93 (by decide) (fun c45 => ?_) (fun c45 => ?_)
                · skip
                  have h := (if_pos c45).symm.trans h
                  obtain rfl := Option.some.inj h
                  obtain rfl := Option.some.inj hn_e23
                  exact X110_25 z22.2 _ _ _ hc_e23 hP hD hS (lv_sub hl [0, 1, 2, 3, 4, 5] rfl)
                · skip
                  have h := (if_neg c45).symm.trans h
                  refine lv_aload_n hx hb dX11_heldUp_96 rfl (lv_at hl 0 rfl) ?_
                  refine va_get (own := RX11) (ci := 10) (v := .ref q_t_likelyThen) (C := RX11) (T := TX11) (N := 25) hx hb hts iX11 hown hK hP 0 rfl rfl 16 (by decide) k38 (fun _ h9 => h9) rfl dX11_heldUp_97 ?_
                  refine lv_iload hx hb dX11_heldUp_100 (lv_at hl 6 rfl) ?_
                  refine lv_lconst (v := 0) hx hb dX11_heldUp_102 (by decide) ?_
                  obtain ⟨g46, h⟩ := gd_of h
                  refine va_last hx hb hK hP hD hS 3 1 rfl rfl (inb_of g46) dX11_heldUp_103 (fun H locs hP hD hS => ?_)
                  have hP : va_P D vwCl [(q_t, .inr (10, [.ref q_t_page, .int v_t_pageMany, .ref q_t_readKinds, .ref q_t_readLeaflets, .int v_t_readMany, .int v_t_told, .int v_t_many, .int v_t_lostByHands, .int v_t_lostByMould, .ref q_t_rows, .ref q_t_debts, .int v_t_ringMany, .ref q_t_ring, .ref q_t_line, .ref q_t_groups, .ref q_t_likely, .ref q_t_likelyThen, .int v_t_seedNow, .ref q_t_saved, .int v_t_keptMany, .int v_t_keptByHands, .int v_t_keptByMould, .ref q_t_keptRows, .ref q_t_keptDebts, .long v_t_hash])), (q_t_rows, .inl (cI, 80, .inl v_t_rows)), (q_t_likely, .inl (cJ, 10, .inr (.inl z9.2.1))), (q_t_likelyThen, .inl (cJ, 10, .inr (.inl (vp_updL z22.2 z22.1.toNatClampNeg 0))))] H := hP
                  have hD : va_D A0 [(q_t, .inr (10, [.ref q_t_page, .int v_t_pageMany, .ref q_t_readKinds, .ref q_t_readLeaflets, .int v_t_readMany, .int v_t_told, .int v_t_many, .int v_t_lostByHands, .int v_t_lostByMould, .ref q_t_rows, .ref q_t_debts, .int v_t_ringMany, .ref q_t_ring, .ref q_t_line, .ref q_t_groups, .ref q_t_likely, .ref q_t_likelyThen, .int v_t_seedNow, .ref q_t_saved, .int v_t_keptMany, .int v_t_keptByHands, .int v_t_keptByMould, .ref q_t_keptRows, .ref q_t_keptDebts, .long v_t_hash])), (q_t_rows, .inl (cI, 80, .inl v_t_rows)), (q_t_likely, .inl (cJ, 10, .inr (.inl z9.2.1))), (q_t_likelyThen, .inl (cJ, 10, .inr (.inl (vp_updL z22.2 z22.1.toNatClampNeg 0))))] := hD
                  refine lv_iinc (v := (z22.1 + 1)) (lv' := [(7, .int (z22.1 + 1)), (0, .ref q_t), (2, .int x2), (3, .int x3), (4, .int (v_t_rows (8 * x1).toNatClampNeg)), (5, .int (if (v_t_rows ((8 * x1) + 2).toNatClampNeg) = (-1) then 1 else 0 : Int32)), (6, .int z9.1)]) hx hb dX11_heldUp_104 hl (k := 6) rfl rfl (by decide) rfl (fun ls hl => ?_)
                  refine lv_goto (tgt := 89) hx hb dX11_heldUp_107 (by decide) ?_
                  obtain rfl := Option.some.inj h
                  exact ih ((z22.1 + 1), (vp_updL z22.2 z22.1.toNatClampNeg 0)) _ _ _ hn_e23 hP hD hS (lv_sub hl [1, 2, 3, 4, 5, 6, 0] rfl)
            exact L89_44 FU (0, z9.2.2) _ _ _ he_e23 hP hD hS (lv_sub hl [1, 2, 3, 4, 5, 6, 0] rfl)
      exact L80_20 FU (0, a7, v_t_likelyThen) _ _ _ he_e10 hP hD hS (lv_sub hl [1, 2, 3, 4, 5, 0] rfl)
    have L36_47 : ∀ (n : Nat) (z5 : Int32 × (Nat → Int64)) (H : Heap) (locs : List Loc) (ls : Array Slot), iter (fX11_heldUp_L36 v_t_rows x1) n z5 = some e6 → va_P D vwCl [(q_t, .inr (10, [.ref q_t_page, .int v_t_pageMany, .ref q_t_readKinds, .ref q_t_readLeaflets, .int v_t_readMany, .int v_t_told, .int v_t_many, .int v_t_lostByHands, .int v_t_lostByMould, .ref q_t_rows, .ref q_t_debts, .int v_t_ringMany, .ref q_t_ring, .ref q_t_line, .ref q_t_groups, .ref q_t_likely, .ref q_t_likelyThen, .int v_t_seedNow, .ref q_t_saved, .int v_t_keptMany, .int v_t_keptByHands, .int v_t_keptByMould, .ref q_t_keptRows, .ref q_t_keptDebts, .long v_t_hash])), (q_t_rows, .inl (cI, 80, .inl v_t_rows)), (q_t_likely, .inl (cJ, 10, .inr (.inl z5.2))), (q_t_likelyThen, .inl (cJ, 10, .inr (.inl v_t_likelyThen)))] H → va_D A0 [(q_t, .inr (10, [.ref q_t_page, .int v_t_pageMany, .ref q_t_readKinds, .ref q_t_readLeaflets, .int v_t_readMany, .int v_t_told, .int v_t_many, .int v_t_lostByHands, .int v_t_lostByMould, .ref q_t_rows, .ref q_t_debts, .int v_t_ringMany, .ref q_t_ring, .ref q_t_line, .ref q_t_groups, .ref q_t_likely, .ref q_t_likelyThen, .int v_t_seedNow, .ref q_t_saved, .int v_t_keptMany, .int v_t_keptByHands, .int v_t_keptByMould, .ref q_t_keptRows, .ref q_t_keptDebts, .long v_t_hash])), (q_t_rows, .inl (cI, 80, .inl v_t_rows)), (q_t_likely, .inl (cJ, 10, .inr (.inl z5.2))), (q_t_likelyThen, .inl (cJ, 10, .inr (.inl v_t_likelyThen)))] → va_S A0 s.heap H locs → lv_has ls 9 [(0, .ref q_t), (1, .int x1), (2, .int x2), (3, .int x3), (4, .int (v_t_rows (8 * x1).toNatClampNeg)), (5, .int (if (v_t_rows ((8 * x1) + 2).toNatClampNeg) = (-1) then 1 else 0 : Int32)), (6, .int z5.1)] → W p l e ({ frames := 1, cells := 0, slots := 0, locals := 22 } : Room) s m args below meth c H locs 0 0 Q0 (F0 m 36 ls []) := by
      intro n
      induction n with
      | zero => exact fun _ _ _ _ h => (iter_z h).elim
      | succ n ih =>
        intro z5 H locs ls h hP hD hS hl
        obtain ⟨r_e6, h, hn_e6⟩ := iter_s h
        unfold fX11_heldUp_L36 at h
        refine lv_iload hx hb dX11_heldUp_36 (lv_at hl 6 rfl) ?_
        refine lv_bipush (v := 10) hx hb dX11_heldUp_38 (by decide) ?_
        refine lv_icmp_ge (tgt := 77) hx hb dX11_heldUp_40 (by decide) (fun c48 => ?_) (fun c48 => ?_)
        · skip
          have h := (if_pos c48).symm.trans h
          obtain rfl := Option.some.inj h
          obtain rfl := Option.some.inj hn_e6
          exact X77_8 z5.2 _ _ _ hc_e6 hP hD hS (lv_sub hl [0, 2, 3, 4, 5] rfl)
        · skip
          have h := (if_neg c48).symm.trans h
          refine lv_aload_n hx hb dX11_heldUp_43 rfl (lv_at hl 0 rfl) ?_
          refine va_get (own := RX11) (ci := 10) (v := .ref q_t_likely) (C := RX11) (T := TX11) (N := 25) hx hb hts iX11 hown hK hP 0 rfl rfl 15 (by decide) k34 (fun _ h9 => h9) rfl dX11_heldUp_44 ?_
          refine lv_iload hx hb dX11_heldUp_47 (lv_at hl 6 rfl) ?_
          refine lv_iload hx hb dX11_heldUp_49 (lv_at hl 6 rfl) ?_
          refine lv_aload_n hx hb dX11_heldUp_51 rfl (lv_at hl 0 rfl) ?_
          refine va_get (own := RX11) (ci := 10) (v := .ref q_t_rows) (C := RX11) (T := TX11) (N := 25) hx hb hts iX11 hown hK hP 0 rfl rfl 9 (by decide) k19 (fun _ h9 => h9) rfl dX11_heldUp_52 ?_
          refine lv_bipush (v := 8) hx hb dX11_heldUp_55 (by decide) ?_
          refine lv_iload_n hx hb dX11_heldUp_57 rfl (lv_at hl 1 rfl) ?_
          refine lv_imul hx hb dX11_heldUp_58 ?_
          refine lv_iconst (v := 1) hx hb dX11_heldUp_59 (by decide) ?_
          refine lv_iadd hx hb dX11_heldUp_60 ?_
          obtain ⟨g49, h⟩ := gd_of h
          refine va_iald hx hb hK hP 1 0 rfl rfl (inb_of g49) dX11_heldUp_61 ?_
          have K70_50 : ∀ (w51 : Int64) (H : Heap) (locs : List Loc) (ls : Array Slot), w51 = (if z5.1 = (v_t_rows ((8 * x1) + 1).toNatClampNeg) then 1 else 0 : Int64) → va_P D vwCl [(q_t, .inr (10, [.ref q_t_page, .int v_t_pageMany, .ref q_t_readKinds, .ref q_t_readLeaflets, .int v_t_readMany, .int v_t_told, .int v_t_many, .int v_t_lostByHands, .int v_t_lostByMould, .ref q_t_rows, .ref q_t_debts, .int v_t_ringMany, .ref q_t_ring, .ref q_t_line, .ref q_t_groups, .ref q_t_likely, .ref q_t_likelyThen, .int v_t_seedNow, .ref q_t_saved, .int v_t_keptMany, .int v_t_keptByHands, .int v_t_keptByMould, .ref q_t_keptRows, .ref q_t_keptDebts, .long v_t_hash])), (q_t_rows, .inl (cI, 80, .inl v_t_rows)), (q_t_likely, .inl (cJ, 10, .inr (.inl z5.2))), (q_t_likelyThen, .inl (cJ, 10, .inr (.inl v_t_likelyThen)))] H → va_D A0 [(q_t, .inr (10, [.ref q_t_page, .int v_t_pageMany, .ref q_t_readKinds, .ref q_t_readLeaflets, .int v_t_readMany, .int v_t_told, .int v_t_many, .int v_t_lostByHands, .int v_t_lostByMould, .ref q_t_rows, .ref q_t_debts, .int v_t_ringMany, .ref q_t_ring, .ref q_t_line, .ref q_t_groups, .ref q_t_likely, .ref q_t_likelyThen, .int v_t_seedNow, .ref q_t_saved, .int v_t_keptMany, .int v_t_keptByHands, .int v_t_keptByMould, .ref q_t_keptRows, .ref q_t_keptDebts, .long v_t_hash])), (q_t_rows, .inl (cI, 80, .inl v_t_rows)), (q_t_likely, .inl (cJ, 10, .inr (.inl z5.2))), (q_t_likelyThen, .inl (cJ, 10, .inr (.inl v_t_likelyThen)))] → va_S A0 s.heap H locs → lv_has ls 9 [(0, .ref q_t), (1, .int x1), (2, .int x2), (3, .int x3), (4, .int (v_t_rows (8 * x1).toNatClampNeg)), (5, .int (if (v_t_rows ((8 * x1) + 2).toNatClampNeg) = (-1) then 1 else 0 : Int32)), (6, .int z5.1)] → W p l e ({ frames := 1, cells := 0, slots := 0, locals := 22 } : Room) s m args below meth c H locs 0 0 Q0 (F0 m 70 ls [.long w51, .int z5.1, .ref q_t_likely]) := by
            intro w51 H locs ls e_w51 hP hD hS hl
            subst e_w51
            obtain ⟨g52, h⟩ := gd_of h
            refine va_last hx hb hK hP hD hS 2 1 rfl rfl (inb_of g52) dX11_heldUp_70 (fun H locs hP hD hS => ?_)
            have hP : va_P D vwCl [(q_t, .inr (10, [.ref q_t_page, .int v_t_pageMany, .ref q_t_readKinds, .ref q_t_readLeaflets, .int v_t_readMany, .int v_t_told, .int v_t_many, .int v_t_lostByHands, .int v_t_lostByMould, .ref q_t_rows, .ref q_t_debts, .int v_t_ringMany, .ref q_t_ring, .ref q_t_line, .ref q_t_groups, .ref q_t_likely, .ref q_t_likelyThen, .int v_t_seedNow, .ref q_t_saved, .int v_t_keptMany, .int v_t_keptByHands, .int v_t_keptByMould, .ref q_t_keptRows, .ref q_t_keptDebts, .long v_t_hash])), (q_t_rows, .inl (cI, 80, .inl v_t_rows)), (q_t_likely, .inl (cJ, 10, .inr (.inl (vp_updL z5.2 z5.1.toNatClampNeg (if z5.1 = (v_t_rows ((8 * x1) + 1).toNatClampNeg) then 1 else 0 : Int64))))), (q_t_likelyThen, .inl (cJ, 10, .inr (.inl v_t_likelyThen)))] H := hP
            have hD : va_D A0 [(q_t, .inr (10, [.ref q_t_page, .int v_t_pageMany, .ref q_t_readKinds, .ref q_t_readLeaflets, .int v_t_readMany, .int v_t_told, .int v_t_many, .int v_t_lostByHands, .int v_t_lostByMould, .ref q_t_rows, .ref q_t_debts, .int v_t_ringMany, .ref q_t_ring, .ref q_t_line, .ref q_t_groups, .ref q_t_likely, .ref q_t_likelyThen, .int v_t_seedNow, .ref q_t_saved, .int v_t_keptMany, .int v_t_keptByHands, .int v_t_keptByMould, .ref q_t_keptRows, .ref q_t_keptDebts, .long v_t_hash])), (q_t_rows, .inl (cI, 80, .inl v_t_rows)), (q_t_likely, .inl (cJ, 10, .inr (.inl (vp_updL z5.2 z5.1.toNatClampNeg (if z5.1 = (v_t_rows ((8 * x1) + 1).toNatClampNeg) then 1 else 0 : Int64))))), (q_t_likelyThen, .inl (cJ, 10, .inr (.inl v_t_likelyThen)))] := hD
            refine lv_iinc (v := (z5.1 + 1)) (lv' := [(6, .int (z5.1 + 1)), (0, .ref q_t), (1, .int x1), (2, .int x2), (3, .int x3), (4, .int (v_t_rows (8 * x1).toNatClampNeg)), (5, .int (if (v_t_rows ((8 * x1) + 2).toNatClampNeg) = (-1) then 1 else 0 : Int32))]) hx hb dX11_heldUp_71 hl (k := 6) rfl rfl (by decide) rfl (fun ls hl => ?_)
            refine lv_goto (tgt := 36) hx hb dX11_heldUp_74 (by decide) ?_
            obtain rfl := Option.some.inj h
            exact ih ((z5.1 + 1), (vp_updL z5.2 z5.1.toNatClampNeg (if z5.1 = (v_t_rows ((8 * x1) + 1).toNatClampNeg) then 1 else 0 : Int64))) _ _ _ hn_e6 hP hD hS (lv_sub hl [1, 2, 3, 4, 5, 6, 0] rfl)
          refine lv_icmp_ne (tgt := 69) hx hb dX11_heldUp_62 (by decide) (fun c53 => ?_) (fun c53 => ?_)
          · skip
            refine lv_lconst (v := 0) hx hb dX11_heldUp_69 (by decide) ?_
            exact K70_50 0 _ _ _ (by rw [if_neg c53]) hP hD hS (lv_sub hl [0, 1, 2, 3, 4, 5, 6] rfl)
          · skip
            refine lv_lconst (v := 1) hx hb dX11_heldUp_65 (by decide) ?_
            refine lv_goto (tgt := 70) hx hb dX11_heldUp_66 (by decide) ?_
            exact K70_50 1 _ _ _ (by rw [if_pos c53]) hP hD hS (lv_sub hl [0, 1, 2, 3, 4, 5, 6] rfl)
    exact L36_47 FU (0, v_t_likely) _ _ _ he_e6 hP hD hS (lv_sub hl [2, 3, 4, 5, 6, 1, 0] rfl)
  refine lv_icmp_ne (tgt := 30) hx hb dX11_heldUp_23 (by decide) (fun c54 => ?_) (fun c54 => ?_)
  · skip
    refine lv_iconst (v := 0) hx hb dX11_heldUp_30 (by decide) ?_
    exact K31_3 0 _ _ _ (by rw [if_neg c54]) hP hD hS (lv_sub hl [1, 2, 3, 4, 0] rfl)
  · skip
    refine lv_iconst (v := 1) hx hb dX11_heldUp_26 (by decide) ?_
    refine lv_goto (tgt := 31) hx hb dX11_heldUp_27 (by decide) ?_
    exact K31_3 1 _ _ _ (by rw [if_pos c54]) hP hD hS (lv_sub hl [1, 2, 3, 4, 0] rfl)
def fX11_power_X4_21  (a3 : Int64) : Option (Int64) :=
  some a3
def fX11_power_L4 (x0 : Int32) (z1 : Int64 × Int32) : Option ((Int64 × Int32) ⊕ (Int64)) :=
  if x0 ≤ z1.2 then (some (Sum.inr z1.1)) else (some (Sum.inl ((z1.1 * 10), (z1.2 + 1))))
def fX11_power (x0 : Int32) : Option (Int64) :=
  (iter (fX11_power_L4 x0) FU (1, 0)).bind (fX11_power_X4_21)
set_option maxHeartbeats 4000000 in
set_option maxRecDepth 100000 in
theorem c_X11_power (l : Launch) (D : va_G) (cI cJ : ClassId) (x0 : Int32) (z : Int64) (h : fX11_power x0 = some z) : Met l yX11_power wsX11_power ({ frames := 0, cells := 0, slots := 0, locals := 0 } : Room) (va_Pc [.int x0] (preG D cI cJ [])) (QG D [] [] (some (.long z))) 0 0 (fr []) := by
  refine Met.ofW (cc := cX11_power) (maxL := 4) (ret := (some .long)) (by decide) rfl ?_
  intro p e s m args below meth c s₁ B hml hv
  obtain ⟨hargs, hP, hK, hN, hD0⟩ := hv
  have hx := B.exec
  have hb := B.bytes
  have hr := B.returns
  have hts := atoms_spec (ws := wsX11_power) B.pre
  have hown : s.vm.findClass RX11 = some m.cls := findClass_of_methodNamed B.named
  have hlocks := B.notSynchronized
  have hD := fr_D hD0
  have hS : va_S (fr []) s.heap s.heap [] := va_S.rf
  have hl := lv_entry ([.int x0]) (n := 4) (Nat.le_of_ble_eq_true rfl)
  refine W.eq (g2 := F0 m 0 ((lg_sl ([.int x0]) ++ List.replicate (4 - (lg_sl ([.int x0])).length) Slot.unset).toArray) []) (by rw [hargs, lg_entry_eq]) ?_
  generalize (lg_sl ([.int x0]) ++ List.replicate (4 - (lg_sl ([.int x0])).length) Slot.unset).toArray = ls at hl ⊢
  have hl : lv_has ls 4 [(0, .int x0)] := hl
  show W p l e ({ frames := 0, cells := 0, slots := 0, locals := 0 } : Room) s m args below meth c s.heap [] 0 0 (MQ below (QG D [] [] (some (.long z))) args s 0 0 (fr [])) (F0 m 0 ls [])
  generalize hQ0 : (MQ below (QG D [] [] (some (.long z))) args s 0 0 (fr [])) = Q0
  generalize hA0 : fr [] = A0 at hD hS
  unfold fX11_power at h
  refine lv_lconst (v := 1) hx hb dX11_power_0 (by decide) ?_
  refine lv_lstore_n (lv' := [(1, .long 1), (0, .int x0)]) hx hb dX11_power_1 rfl hl (by decide) rfl (fun ls hl => ?_)
  refine lv_iconst (v := 0) hx hb dX11_power_2 (by decide) ?_
  refine lv_istore_n (lv' := [(3, .int 0), (1, .long 1), (0, .int x0)]) hx hb dX11_power_3 rfl hl (by decide) rfl (fun ls hl => ?_)
  obtain ⟨e2, he_e2, hc_e2⟩ := bd_of h
  have X21_4 : ∀ (a3 : Int64) (H : Heap) (locs : List Loc) (ls : Array Slot), fX11_power_X4_21 a3 = some z → va_P D vwCl [] H → va_D A0 [] → va_S A0 s.heap H locs → lv_has ls 4 [(1, .long a3)] → W p l e ({ frames := 0, cells := 0, slots := 0, locals := 0 } : Room) s m args below meth c H locs 0 0 Q0 (F0 m 21 ls []) := by
    intro a3 H locs ls h hP hD hS hl
    unfold fX11_power_X4_21 at h
    refine lv_lload_n hx hb dX11_power_21 rfl (lv_at hl 0 rfl) ?_
    obtain rfl := Option.some.inj h
    exact rt_l hA0 hQ0 hx hb hr hlocks hP hS dX11_power_22
  have L4_5 : ∀ (n : Nat) (z1 : Int64 × Int32) (H : Heap) (locs : List Loc) (ls : Array Slot), iter (fX11_power_L4 x0) n z1 = some e2 → va_P D vwCl [] H → va_D A0 [] → va_S A0 s.heap H locs → lv_has ls 4 [(0, .int x0), (1, .long z1.1), (3, .int z1.2)] → W p l e ({ frames := 0, cells := 0, slots := 0, locals := 0 } : Room) s m args below meth c H locs 0 0 Q0 (F0 m 4 ls []) := by
    intro n
    induction n with
    | zero => exact fun _ _ _ _ h => (iter_z h).elim
    | succ n ih =>
      intro z1 H locs ls h hP hD hS hl
      obtain ⟨r_e2, h, hn_e2⟩ := iter_s h
      unfold fX11_power_L4 at h
      refine lv_iload_n hx hb dX11_power_4 rfl (lv_at hl 2 rfl) ?_
      refine lv_iload_n hx hb dX11_power_5 rfl (lv_at hl 0 rfl) ?_
      refine lv_icmp_ge (tgt := 21) hx hb dX11_power_6 (by decide) (fun c6 => ?_) (fun c6 => ?_)
      · skip
        have h := (if_pos c6).symm.trans h
        obtain rfl := Option.some.inj h
        obtain rfl := Option.some.inj hn_e2
        exact X21_4 z1.1 _ _ _ hc_e2 hP hD hS (lv_sub hl [1] rfl)
      · skip
        have h := (if_neg c6).symm.trans h
        refine lv_lload_n hx hb dX11_power_9 rfl (lv_at hl 1 rfl) ?_
        refine lv_ldc2 (own := RX11) (v := 10) hx hb hown (hts (.constantLong RX11 157 (10)) (by decide +kernel)) dX11_power_10 ?_
        refine lv_lmul hx hb dX11_power_13 ?_
        refine lv_lstore_n (lv' := [(1, .long (z1.1 * 10)), (0, .int x0), (3, .int z1.2)]) hx hb dX11_power_14 rfl hl (by decide) rfl (fun ls hl => ?_)
        refine lv_iinc (v := (z1.2 + 1)) (lv' := [(3, .int (z1.2 + 1)), (1, .long (z1.1 * 10)), (0, .int x0)]) hx hb dX11_power_15 hl (k := 2) rfl rfl (by decide) rfl (fun ls hl => ?_)
        refine lv_goto (tgt := 4) hx hb dX11_power_18 (by decide) ?_
        obtain rfl := Option.some.inj h
        exact ih ((z1.1 * 10), (z1.2 + 1)) _ _ _ hn_e2 hP hD hS (lv_sub hl [2, 1, 0] rfl)
  exact L4_5 FU (1, 0) _ _ _ he_e2 hP hD hS (lv_sub hl [2, 1, 0] rfl)
def fX11_term_X6_31 (x0 : Int64) (x2 : Int64) (x4 : Int32) (a3 : Int64) : Option (Int64) :=
  if x4 = 0 then (gd (nzl a3) (some (x0 / a3))) else (gd (nzl a3) (some (x2 / a3)))
def fX11_term_L6  (z1 : Int64 × Int64) : Option ((Int64 × Int64) ⊕ (Int64)) :=
  if (lg_cmp z1.1 0) = 0 then (some (Sum.inr z1.2)) else (gd (nzl z1.1) (some (Sum.inl ((z1.2 - z1.2 / z1.1 * z1.1), z1.1))))
def fX11_term (x0 : Int64) (x2 : Int64) (x4 : Int32) : Option (Int64) :=
  (iter (fX11_term_L6) FU (x0, x2)).bind (fX11_term_X6_31 x0 x2 x4)
set_option maxHeartbeats 4000000 in
set_option maxRecDepth 100000 in
theorem c_X11_term (l : Launch) (D : va_G) (cI cJ : ClassId) (x0 : Int64) (x2 : Int64) (x4 : Int32) (z : Int64) (h : fX11_term x0 x2 x4 = some z) : Met l yX11_term wsX11_term ({ frames := 0, cells := 0, slots := 0, locals := 0 } : Room) (va_Pc [.long x0, .long x2, .int x4] (preG D cI cJ [])) (QG D [] [] (some (.long z))) 0 0 (fr []) := by
  refine Met.ofW (cc := cX11_term) (maxL := 11) (ret := (some .long)) (by decide) rfl ?_
  intro p e s m args below meth c s₁ B hml hv
  obtain ⟨hargs, hP, hK, hN, hD0⟩ := hv
  have hx := B.exec
  have hb := B.bytes
  have hr := B.returns
  have hts := atoms_spec (ws := wsX11_term) B.pre
  have hown : s.vm.findClass RX11 = some m.cls := findClass_of_methodNamed B.named
  have hlocks := B.notSynchronized
  have hD := fr_D hD0
  have hS : va_S (fr []) s.heap s.heap [] := va_S.rf
  have hl := lv_entry ([.long x0, .long x2, .int x4]) (n := 11) (Nat.le_of_ble_eq_true rfl)
  refine W.eq (g2 := F0 m 0 ((lg_sl ([.long x0, .long x2, .int x4]) ++ List.replicate (11 - (lg_sl ([.long x0, .long x2, .int x4])).length) Slot.unset).toArray) []) (by rw [hargs, lg_entry_eq]) ?_
  generalize (lg_sl ([.long x0, .long x2, .int x4]) ++ List.replicate (11 - (lg_sl ([.long x0, .long x2, .int x4])).length) Slot.unset).toArray = ls at hl ⊢
  have hl : lv_has ls 11 [(0, .long x0), (2, .long x2), (4, .int x4)] := hl
  show W p l e ({ frames := 0, cells := 0, slots := 0, locals := 0 } : Room) s m args below meth c s.heap [] 0 0 (MQ below (QG D [] [] (some (.long z))) args s 0 0 (fr [])) (F0 m 0 ls [])
  generalize hQ0 : (MQ below (QG D [] [] (some (.long z))) args s 0 0 (fr [])) = Q0
  generalize hA0 : fr [] = A0 at hD hS
  unfold fX11_term at h
  refine lv_lload_n hx hb dX11_term_0 rfl (lv_at hl 0 rfl) ?_
  refine lv_lstore (lv' := [(5, .long x0), (0, .long x0), (2, .long x2), (4, .int x4)]) hx hb dX11_term_1 hl (by decide) rfl (fun ls hl => ?_)
  refine lv_lload_n hx hb dX11_term_3 rfl (lv_at hl 2 rfl) ?_
  refine lv_lstore (lv' := [(7, .long x2), (5, .long x0), (0, .long x0), (2, .long x2), (4, .int x4)]) hx hb dX11_term_4 hl (by decide) rfl (fun ls hl => ?_)
  obtain ⟨e2, he_e2, hc_e2⟩ := bd_of h
  have X31_4 : ∀ (a3 : Int64) (H : Heap) (locs : List Loc) (ls : Array Slot), fX11_term_X6_31 x0 x2 x4 a3 = some z → va_P D vwCl [] H → va_D A0 [] → va_S A0 s.heap H locs → lv_has ls 11 [(0, .long x0), (2, .long x2), (4, .int x4), (7, .long a3)] → W p l e ({ frames := 0, cells := 0, slots := 0, locals := 0 } : Room) s m args below meth c H locs 0 0 Q0 (F0 m 31 ls []) := by
    intro a3 H locs ls h hP hD hS hl
    unfold fX11_term_X6_31 at h
    refine lv_iload hx hb dX11_term_31 (lv_at hl 2 rfl) ?_
    refine lv_if_ne (tgt := 43) hx hb dX11_term_33 (by decide) (fun c5 => ?_) (fun c5 => ?_)
    · skip
      have h := (if_neg c5).symm.trans h
      refine lv_lload_n hx hb dX11_term_43 rfl (lv_at hl 1 rfl) ?_
      refine lv_lload hx hb dX11_term_44 (lv_at hl 3 rfl) ?_
      obtain ⟨g6, h⟩ := gd_of h
      refine lv_ldiv hx hb dX11_term_46 (nzl_of g6) ?_
      obtain rfl := Option.some.inj h
      exact rt_l hA0 hQ0 hx hb hr hlocks hP hS dX11_term_47
    · skip
      have h := (if_pos c5).symm.trans h
      refine lv_lload_n hx hb dX11_term_36 rfl (lv_at hl 0 rfl) ?_
      refine lv_lload hx hb dX11_term_37 (lv_at hl 3 rfl) ?_
      obtain ⟨g7, h⟩ := gd_of h
      refine lv_ldiv hx hb dX11_term_39 (nzl_of g7) ?_
      refine lv_goto (tgt := 47) hx hb dX11_term_40 (by decide) ?_
      obtain rfl := Option.some.inj h
      exact rt_l hA0 hQ0 hx hb hr hlocks hP hS dX11_term_47
  have L6_8 : ∀ (n : Nat) (z1 : Int64 × Int64) (H : Heap) (locs : List Loc) (ls : Array Slot), iter (fX11_term_L6) n z1 = some e2 → va_P D vwCl [] H → va_D A0 [] → va_S A0 s.heap H locs → lv_has ls 11 [(0, .long x0), (2, .long x2), (4, .int x4), (5, .long z1.1), (7, .long z1.2)] → W p l e ({ frames := 0, cells := 0, slots := 0, locals := 0 } : Room) s m args below meth c H locs 0 0 Q0 (F0 m 6 ls []) := by
    intro n
    induction n with
    | zero => exact fun _ _ _ _ h => (iter_z h).elim
    | succ n ih =>
      intro z1 H locs ls h hP hD hS hl
      obtain ⟨r_e2, h, hn_e2⟩ := iter_s h
      unfold fX11_term_L6 at h
      refine lv_lload hx hb dX11_term_6 (lv_at hl 3 rfl) ?_
      refine lv_lconst (v := 0) hx hb dX11_term_8 (by decide) ?_
      refine W.lcmp hx hb dX11_term_9 ?_
      refine lv_if_eq (tgt := 31) hx hb dX11_term_10 (by decide) (fun c9 => ?_) (fun c9 => ?_)
      · skip
        have h := (if_pos c9).symm.trans h
        obtain rfl := Option.some.inj h
        obtain rfl := Option.some.inj hn_e2
        exact X31_4 z1.2 _ _ _ hc_e2 hP hD hS (lv_sub hl [0, 1, 2, 4] rfl)
      · skip
        have h := (if_neg c9).symm.trans h
        refine lv_lload hx hb dX11_term_13 (lv_at hl 4 rfl) ?_
        refine lv_lload hx hb dX11_term_15 (lv_at hl 3 rfl) ?_
        obtain ⟨g10, h⟩ := gd_of h
        refine lv_lrem hx hb dX11_term_17 (nzl_of g10) ?_
        refine lv_lstore (lv' := [(9, .long (z1.2 - z1.2 / z1.1 * z1.1)), (0, .long x0), (2, .long x2), (4, .int x4), (5, .long z1.1), (7, .long z1.2)]) hx hb dX11_term_18 hl (by decide) rfl (fun ls hl => ?_)
        refine lv_lload hx hb dX11_term_20 (lv_at hl 4 rfl) ?_
        refine lv_lstore (lv' := [(7, .long z1.1), (9, .long (z1.2 - z1.2 / z1.1 * z1.1)), (0, .long x0), (2, .long x2), (4, .int x4), (5, .long z1.1)]) hx hb dX11_term_22 hl (by decide) rfl (fun ls hl => ?_)
        refine lv_lload hx hb dX11_term_24 (lv_at hl 1 rfl) ?_
        refine lv_lstore (lv' := [(5, .long (z1.2 - z1.2 / z1.1 * z1.1)), (7, .long z1.1), (9, .long (z1.2 - z1.2 / z1.1 * z1.1)), (0, .long x0), (2, .long x2), (4, .int x4)]) hx hb dX11_term_26 hl (by decide) rfl (fun ls hl => ?_)
        refine lv_goto (tgt := 6) hx hb dX11_term_28 (by decide) ?_
        obtain rfl := Option.some.inj h
        exact ih ((z1.2 - z1.2 / z1.1 * z1.1), z1.1) _ _ _ hn_e2 hP hD hS (lv_sub hl [3, 4, 5, 0, 1] rfl)
  exact L6_8 FU (x0, x2) _ _ _ he_e2 hP hD hS (lv_sub hl [2, 3, 4, 1, 0] rfl)
def fX11_held (v_t_pageMany : Int32) (v_t_readMany : Int32) (v_t_told : Int32) (v_t_many : Int32) (v_t_lostByHands : Int32) (v_t_lostByMould : Int32) (v_t_ringMany : Int32) (v_t_seedNow : Int32) (v_t_keptMany : Int32) (v_t_keptByHands : Int32) (v_t_keptByMould : Int32) (v_t_hash : Int64) (v_t_rows : Nat → Int32) (v_t_likely : Nat → Int64) (v_t_likelyThen : Nat → Int64) (x1 : Int32) (x2 : Int32) (x3 : Int32) (x4 : Int32) : Option (Int64 × (Nat → Int64) × (Nat → Int64)) :=
  if (fX11_isFrond v_t_pageMany v_t_readMany v_t_told v_t_many v_t_lostByHands v_t_lostByMould v_t_ringMany v_t_seedNow v_t_keptMany v_t_keptByHands v_t_keptByMould v_t_hash x1) = 0 then (some ((-101), v_t_likely, v_t_likelyThen)) else (if (fX11_in ((x2 : Int32).toInt64) 0 9) = 0 then (some ((-102), v_t_likely, v_t_likelyThen)) else (if (fX11_in ((x3 : Int32).toInt64) 0 10) = 0 then (some ((-102), v_t_likely, v_t_likelyThen)) else (if (fX11_in ((x4 : Int32).toInt64) 0 1) = 0 then (some ((-102), v_t_likely, v_t_likelyThen)) else ((fX11_heldUp v_t_pageMany v_t_readMany v_t_told v_t_many v_t_lostByHands v_t_lostByMould v_t_ringMany v_t_seedNow v_t_keptMany v_t_keptByHands v_t_keptByMould v_t_hash v_t_rows v_t_likely v_t_likelyThen x1 x2 x3).bind (fun u5 => (fX11_power x2).bind (fun u7 => (fX11_term u5.1 u7 x4).bind (fun u9 => some (u9, u5.2.1, u5.2.2))))))))
set_option maxHeartbeats 4000000 in
set_option maxRecDepth 100000 in
theorem c_X11_held (l : Launch) (D : va_G) (cI cJ : ClassId) (q_t q_t_page q_t_readKinds q_t_readLeaflets q_t_rows q_t_debts q_t_ring q_t_line q_t_groups q_t_likely q_t_likelyThen q_t_saved q_t_keptRows q_t_keptDebts : Nat) (v_t_pageMany : Int32) (v_t_readMany : Int32) (v_t_told : Int32) (v_t_many : Int32) (v_t_lostByHands : Int32) (v_t_lostByMould : Int32) (v_t_ringMany : Int32) (v_t_seedNow : Int32) (v_t_keptMany : Int32) (v_t_keptByHands : Int32) (v_t_keptByMould : Int32) (v_t_hash : Int64) (v_t_rows : Nat → Int32) (v_t_likely : Nat → Int64) (v_t_likelyThen : Nat → Int64) (x1 : Int32) (x2 : Int32) (x3 : Int32) (x4 : Int32) (z : Int64 × (Nat → Int64) × (Nat → Int64)) (h : fX11_held v_t_pageMany v_t_readMany v_t_told v_t_many v_t_lostByHands v_t_lostByMould v_t_ringMany v_t_seedNow v_t_keptMany v_t_keptByHands v_t_keptByMould v_t_hash v_t_rows v_t_likely v_t_likelyThen x1 x2 x3 x4 = some z) : Met l yX11_held wsX11_held ({ frames := 2, cells := 0, slots := 0, locals := 50 } : Room) (va_Pc [.ref q_t, .int x1, .int x2, .int x3, .int x4] (preG D cI cJ [(q_t, .inr (10, [.ref q_t_page, .int v_t_pageMany, .ref q_t_readKinds, .ref q_t_readLeaflets, .int v_t_readMany, .int v_t_told, .int v_t_many, .int v_t_lostByHands, .int v_t_lostByMould, .ref q_t_rows, .ref q_t_debts, .int v_t_ringMany, .ref q_t_ring, .ref q_t_line, .ref q_t_groups, .ref q_t_likely, .ref q_t_likelyThen, .int v_t_seedNow, .ref q_t_saved, .int v_t_keptMany, .int v_t_keptByHands, .int v_t_keptByMould, .ref q_t_keptRows, .ref q_t_keptDebts, .long v_t_hash])), (q_t_rows, .inl (cI, 80, .inl v_t_rows)), (q_t_likely, .inl (cJ, 10, .inr (.inl v_t_likely))), (q_t_likelyThen, .inl (cJ, 10, .inr (.inl v_t_likelyThen)))])) (QG D [(q_t, .inr (10, [.ref q_t_page, .int v_t_pageMany, .ref q_t_readKinds, .ref q_t_readLeaflets, .int v_t_readMany, .int v_t_told, .int v_t_many, .int v_t_lostByHands, .int v_t_lostByMould, .ref q_t_rows, .ref q_t_debts, .int v_t_ringMany, .ref q_t_ring, .ref q_t_line, .ref q_t_groups, .ref q_t_likely, .ref q_t_likelyThen, .int v_t_seedNow, .ref q_t_saved, .int v_t_keptMany, .int v_t_keptByHands, .int v_t_keptByMould, .ref q_t_keptRows, .ref q_t_keptDebts, .long v_t_hash])), (q_t_rows, .inl (cI, 80, .inl v_t_rows)), (q_t_likely, .inl (cJ, 10, .inr (.inl v_t_likely))), (q_t_likelyThen, .inl (cJ, 10, .inr (.inl v_t_likelyThen)))] [(q_t, .inr (10, [.ref q_t_page, .int v_t_pageMany, .ref q_t_readKinds, .ref q_t_readLeaflets, .int v_t_readMany, .int v_t_told, .int v_t_many, .int v_t_lostByHands, .int v_t_lostByMould, .ref q_t_rows, .ref q_t_debts, .int v_t_ringMany, .ref q_t_ring, .ref q_t_line, .ref q_t_groups, .ref q_t_likely, .ref q_t_likelyThen, .int v_t_seedNow, .ref q_t_saved, .int v_t_keptMany, .int v_t_keptByHands, .int v_t_keptByMould, .ref q_t_keptRows, .ref q_t_keptDebts, .long v_t_hash])), (q_t_rows, .inl (cI, 80, .inl v_t_rows)), (q_t_likely, .inl (cJ, 10, .inr (.inl z.2.1))), (q_t_likelyThen, .inl (cJ, 10, .inr (.inl z.2.2)))] (some (.long z.1))) 0 0 (fr [(q_t, .inr (10, [.ref q_t_page, .int v_t_pageMany, .ref q_t_readKinds, .ref q_t_readLeaflets, .int v_t_readMany, .int v_t_told, .int v_t_many, .int v_t_lostByHands, .int v_t_lostByMould, .ref q_t_rows, .ref q_t_debts, .int v_t_ringMany, .ref q_t_ring, .ref q_t_line, .ref q_t_groups, .ref q_t_likely, .ref q_t_likelyThen, .int v_t_seedNow, .ref q_t_saved, .int v_t_keptMany, .int v_t_keptByHands, .int v_t_keptByMould, .ref q_t_keptRows, .ref q_t_keptDebts, .long v_t_hash])), (q_t_rows, .inl (cI, 80, .inl v_t_rows)), (q_t_likely, .inl (cJ, 10, .inr (.inl v_t_likely))), (q_t_likelyThen, .inl (cJ, 10, .inr (.inl v_t_likelyThen)))]) := by
  refine Met.ofW (cc := cX11_held) (maxL := 5) (ret := (some .long)) (by decide) rfl ?_
  intro p e s m args below meth c s₁ B hml hv
  obtain ⟨hargs, hP, hK, hN, hD0⟩ := hv
  have hx := B.exec
  have hb := B.bytes
  have hr := B.returns
  have hts := atoms_spec (ws := wsX11_held) B.pre
  have hown : s.vm.findClass RX11 = some m.cls := findClass_of_methodNamed B.named
  have hlocks := B.notSynchronized
  have hD := fr_D hD0
  have hS : va_S (fr [(q_t, .inr (10, [.ref q_t_page, .int v_t_pageMany, .ref q_t_readKinds, .ref q_t_readLeaflets, .int v_t_readMany, .int v_t_told, .int v_t_many, .int v_t_lostByHands, .int v_t_lostByMould, .ref q_t_rows, .ref q_t_debts, .int v_t_ringMany, .ref q_t_ring, .ref q_t_line, .ref q_t_groups, .ref q_t_likely, .ref q_t_likelyThen, .int v_t_seedNow, .ref q_t_saved, .int v_t_keptMany, .int v_t_keptByHands, .int v_t_keptByMould, .ref q_t_keptRows, .ref q_t_keptDebts, .long v_t_hash])), (q_t_rows, .inl (cI, 80, .inl v_t_rows)), (q_t_likely, .inl (cJ, 10, .inr (.inl v_t_likely))), (q_t_likelyThen, .inl (cJ, 10, .inr (.inl v_t_likelyThen)))]) s.heap s.heap [] := va_S.rf
  have hl := lv_entry ([.ref q_t, .int x1, .int x2, .int x3, .int x4]) (n := 5) (Nat.le_of_ble_eq_true rfl)
  refine W.eq (g2 := F0 m 0 ((lg_sl ([.ref q_t, .int x1, .int x2, .int x3, .int x4]) ++ List.replicate (5 - (lg_sl ([.ref q_t, .int x1, .int x2, .int x3, .int x4])).length) Slot.unset).toArray) []) (by rw [hargs, lg_entry_eq]) ?_
  generalize (lg_sl ([.ref q_t, .int x1, .int x2, .int x3, .int x4]) ++ List.replicate (5 - (lg_sl ([.ref q_t, .int x1, .int x2, .int x3, .int x4])).length) Slot.unset).toArray = ls at hl ⊢
  have hl : lv_has ls 5 [(0, .ref q_t), (1, .int x1), (2, .int x2), (3, .int x3), (4, .int x4)] := hl
  show W p l e ({ frames := 2, cells := 0, slots := 0, locals := 50 } : Room) s m args below meth c s.heap [] 0 0 (MQ below (QG D [(q_t, .inr (10, [.ref q_t_page, .int v_t_pageMany, .ref q_t_readKinds, .ref q_t_readLeaflets, .int v_t_readMany, .int v_t_told, .int v_t_many, .int v_t_lostByHands, .int v_t_lostByMould, .ref q_t_rows, .ref q_t_debts, .int v_t_ringMany, .ref q_t_ring, .ref q_t_line, .ref q_t_groups, .ref q_t_likely, .ref q_t_likelyThen, .int v_t_seedNow, .ref q_t_saved, .int v_t_keptMany, .int v_t_keptByHands, .int v_t_keptByMould, .ref q_t_keptRows, .ref q_t_keptDebts, .long v_t_hash])), (q_t_rows, .inl (cI, 80, .inl v_t_rows)), (q_t_likely, .inl (cJ, 10, .inr (.inl v_t_likely))), (q_t_likelyThen, .inl (cJ, 10, .inr (.inl v_t_likelyThen)))] [(q_t, .inr (10, [.ref q_t_page, .int v_t_pageMany, .ref q_t_readKinds, .ref q_t_readLeaflets, .int v_t_readMany, .int v_t_told, .int v_t_many, .int v_t_lostByHands, .int v_t_lostByMould, .ref q_t_rows, .ref q_t_debts, .int v_t_ringMany, .ref q_t_ring, .ref q_t_line, .ref q_t_groups, .ref q_t_likely, .ref q_t_likelyThen, .int v_t_seedNow, .ref q_t_saved, .int v_t_keptMany, .int v_t_keptByHands, .int v_t_keptByMould, .ref q_t_keptRows, .ref q_t_keptDebts, .long v_t_hash])), (q_t_rows, .inl (cI, 80, .inl v_t_rows)), (q_t_likely, .inl (cJ, 10, .inr (.inl z.2.1))), (q_t_likelyThen, .inl (cJ, 10, .inr (.inl z.2.2)))] (some (.long z.1))) args s 0 0 (fr [(q_t, .inr (10, [.ref q_t_page, .int v_t_pageMany, .ref q_t_readKinds, .ref q_t_readLeaflets, .int v_t_readMany, .int v_t_told, .int v_t_many, .int v_t_lostByHands, .int v_t_lostByMould, .ref q_t_rows, .ref q_t_debts, .int v_t_ringMany, .ref q_t_ring, .ref q_t_line, .ref q_t_groups, .ref q_t_likely, .ref q_t_likelyThen, .int v_t_seedNow, .ref q_t_saved, .int v_t_keptMany, .int v_t_keptByHands, .int v_t_keptByMould, .ref q_t_keptRows, .ref q_t_keptDebts, .long v_t_hash])), (q_t_rows, .inl (cI, 80, .inl v_t_rows)), (q_t_likely, .inl (cJ, 10, .inr (.inl v_t_likely))), (q_t_likelyThen, .inl (cJ, 10, .inr (.inl v_t_likelyThen)))])) (F0 m 0 ls [])
  generalize hQ0 : (MQ below (QG D [(q_t, .inr (10, [.ref q_t_page, .int v_t_pageMany, .ref q_t_readKinds, .ref q_t_readLeaflets, .int v_t_readMany, .int v_t_told, .int v_t_many, .int v_t_lostByHands, .int v_t_lostByMould, .ref q_t_rows, .ref q_t_debts, .int v_t_ringMany, .ref q_t_ring, .ref q_t_line, .ref q_t_groups, .ref q_t_likely, .ref q_t_likelyThen, .int v_t_seedNow, .ref q_t_saved, .int v_t_keptMany, .int v_t_keptByHands, .int v_t_keptByMould, .ref q_t_keptRows, .ref q_t_keptDebts, .long v_t_hash])), (q_t_rows, .inl (cI, 80, .inl v_t_rows)), (q_t_likely, .inl (cJ, 10, .inr (.inl v_t_likely))), (q_t_likelyThen, .inl (cJ, 10, .inr (.inl v_t_likelyThen)))] [(q_t, .inr (10, [.ref q_t_page, .int v_t_pageMany, .ref q_t_readKinds, .ref q_t_readLeaflets, .int v_t_readMany, .int v_t_told, .int v_t_many, .int v_t_lostByHands, .int v_t_lostByMould, .ref q_t_rows, .ref q_t_debts, .int v_t_ringMany, .ref q_t_ring, .ref q_t_line, .ref q_t_groups, .ref q_t_likely, .ref q_t_likelyThen, .int v_t_seedNow, .ref q_t_saved, .int v_t_keptMany, .int v_t_keptByHands, .int v_t_keptByMould, .ref q_t_keptRows, .ref q_t_keptDebts, .long v_t_hash])), (q_t_rows, .inl (cI, 80, .inl v_t_rows)), (q_t_likely, .inl (cJ, 10, .inr (.inl z.2.1))), (q_t_likelyThen, .inl (cJ, 10, .inr (.inl z.2.2)))] (some (.long z.1))) args s 0 0 (fr [(q_t, .inr (10, [.ref q_t_page, .int v_t_pageMany, .ref q_t_readKinds, .ref q_t_readLeaflets, .int v_t_readMany, .int v_t_told, .int v_t_many, .int v_t_lostByHands, .int v_t_lostByMould, .ref q_t_rows, .ref q_t_debts, .int v_t_ringMany, .ref q_t_ring, .ref q_t_line, .ref q_t_groups, .ref q_t_likely, .ref q_t_likelyThen, .int v_t_seedNow, .ref q_t_saved, .int v_t_keptMany, .int v_t_keptByHands, .int v_t_keptByMould, .ref q_t_keptRows, .ref q_t_keptDebts, .long v_t_hash])), (q_t_rows, .inl (cI, 80, .inl v_t_rows)), (q_t_likely, .inl (cJ, 10, .inr (.inl v_t_likely))), (q_t_likelyThen, .inl (cJ, 10, .inr (.inl v_t_likelyThen)))])) = Q0
  generalize hA0 : fr [(q_t, .inr (10, [.ref q_t_page, .int v_t_pageMany, .ref q_t_readKinds, .ref q_t_readLeaflets, .int v_t_readMany, .int v_t_told, .int v_t_many, .int v_t_lostByHands, .int v_t_lostByMould, .ref q_t_rows, .ref q_t_debts, .int v_t_ringMany, .ref q_t_ring, .ref q_t_line, .ref q_t_groups, .ref q_t_likely, .ref q_t_likelyThen, .int v_t_seedNow, .ref q_t_saved, .int v_t_keptMany, .int v_t_keptByHands, .int v_t_keptByMould, .ref q_t_keptRows, .ref q_t_keptDebts, .long v_t_hash])), (q_t_rows, .inl (cI, 80, .inl v_t_rows)), (q_t_likely, .inl (cJ, 10, .inr (.inl v_t_likely))), (q_t_likelyThen, .inl (cJ, 10, .inr (.inl v_t_likelyThen)))] = A0 at hD hS
  unfold fX11_held at h
  refine lv_aload_n hx hb dX11_held_0 rfl (lv_at hl 0 rfl) ?_
  refine lv_iload_n hx hb dX11_held_1 rfl (lv_at hl 1 rfl) ?_
  refine cl_V [(q_t, .inr (10, [.ref q_t_page, .int v_t_pageMany, .ref q_t_readKinds, .ref q_t_readLeaflets, .int v_t_readMany, .int v_t_told, .int v_t_many, .int v_t_lostByHands, .int v_t_lostByMould, .ref q_t_rows, .ref q_t_debts, .int v_t_ringMany, .ref q_t_ring, .ref q_t_line, .ref q_t_groups, .ref q_t_likely, .ref q_t_likelyThen, .int v_t_seedNow, .ref q_t_saved, .int v_t_keptMany, .int v_t_keptByHands, .int v_t_keptByMould, .ref q_t_keptRows, .ref q_t_keptDebts, .long v_t_hash])), (q_t_rows, .inl (cI, 80, .inl v_t_rows)), (q_t_likely, .inl (cJ, 10, .inr (.inl v_t_likely))), (q_t_likelyThen, .inl (cJ, 10, .inr (.inl v_t_likelyThen)))] (As := [.int x1]) (rest := []) (rv := (some (.int (fX11_isFrond v_t_pageMany v_t_readMany v_t_told v_t_many v_t_lostByHands v_t_lostByMould v_t_ringMany v_t_seedNow v_t_keptMany v_t_keptByHands v_t_keptByMould v_t_hash x1)))) (c_X11_isFrond l D cI cJ q_t q_t_page q_t_readKinds q_t_readLeaflets q_t_rows q_t_debts q_t_ring q_t_line q_t_groups q_t_likely q_t_likelyThen q_t_saved q_t_keptRows q_t_keptDebts v_t_pageMany v_t_readMany v_t_told v_t_many v_t_lostByHands v_t_lostByMould v_t_ringMany v_t_seedNow v_t_keptMany v_t_keptByHands v_t_keptByMould v_t_hash x1) ⟨hx, hb, hml, hown, hts⟩ (cwV 1 hts gX11_held_X11_isFrond rfl rfl rfl (by decide +kernel) ⟨(Nat.le_of_ble_eq_true rfl), (Nat.le_of_ble_eq_true rfl)⟩) hK hN hP hD hS [0] rfl (by decide) rfl rfl rfl (q0 := 0) (ci := 10) rfl rfl rfl rfl hl.1 rfl (Nat.le_of_ble_eq_true rfl) dX11_held_2 ⟨Nat.zero_le _, Nat.zero_le _⟩ (fun H locs hP hD hS => ?_)
  show W p l e ({ frames := 2, cells := 0, slots := 0, locals := 50 } : Room) s m args below meth c H locs 0 0 Q0 (F0 m 5 ls [.int (fX11_isFrond v_t_pageMany v_t_readMany v_t_told v_t_many v_t_lostByHands v_t_lostByMould v_t_ringMany v_t_seedNow v_t_keptMany v_t_keptByHands v_t_keptByMould v_t_hash x1)])
  refine lv_if_ne (tgt := 12) hx hb dX11_held_5 (by decide) (fun c1 => ?_) (fun c1 => ?_)
  · skip
    have h := (if_neg c1).symm.trans h
    refine lv_iload_n hx hb dX11_held_12 rfl (lv_at hl 2 rfl) ?_
    refine lv_i2l hx hb dX11_held_13 rfl ?_
    refine lv_lconst (v := 0) hx hb dX11_held_14 (by decide) ?_
    refine lv_ldc2 (own := RX11) (v := 9) hx hb hown (hts (.constantLong RX11 172 (9)) (by decide +kernel)) dX11_held_15 ?_
    refine cl_S [(q_t, .inr (10, [.ref q_t_page, .int v_t_pageMany, .ref q_t_readKinds, .ref q_t_readLeaflets, .int v_t_readMany, .int v_t_told, .int v_t_many, .int v_t_lostByHands, .int v_t_lostByMould, .ref q_t_rows, .ref q_t_debts, .int v_t_ringMany, .ref q_t_ring, .ref q_t_line, .ref q_t_groups, .ref q_t_likely, .ref q_t_likelyThen, .int v_t_seedNow, .ref q_t_saved, .int v_t_keptMany, .int v_t_keptByHands, .int v_t_keptByMould, .ref q_t_keptRows, .ref q_t_keptDebts, .long v_t_hash])), (q_t_rows, .inl (cI, 80, .inl v_t_rows)), (q_t_likely, .inl (cJ, 10, .inr (.inl v_t_likely))), (q_t_likelyThen, .inl (cJ, 10, .inr (.inl v_t_likelyThen)))] (As := [.long ((x2 : Int32).toInt64), .long 0, .long 9]) (rest := []) (rv := (some (.int (fX11_in ((x2 : Int32).toInt64) 0 9)))) (c_X11_in l D cI cJ ((x2 : Int32).toInt64) 0 9) ⟨hx, hb, hml, hown, hts⟩ (va_cwS 3 hts gX11_held_X11_in rfl rfl rfl (by decide +kernel) ⟨(Nat.le_of_ble_eq_true rfl), (Nat.le_of_ble_eq_true rfl)⟩) hK hN hP hD hS [] rfl (by decide) rfl rfl rfl rfl hl.1 rfl (Nat.le_of_ble_eq_true rfl) dX11_held_18 ⟨Nat.zero_le _, Nat.zero_le _⟩ (fun H locs hP hD hS => ?_)
    show W p l e ({ frames := 2, cells := 0, slots := 0, locals := 50 } : Room) s m args below meth c H locs 0 0 Q0 (F0 m 21 ls [.int (fX11_in ((x2 : Int32).toInt64) 0 9)])
    refine lv_if_eq (tgt := 47) hx hb dX11_held_21 (by decide) (fun c2 => ?_) (fun c2 => ?_)
    · skip
      have h := (if_pos c2).symm.trans h
      refine lv_ldc2 (own := RX11) (v := (-102)) hx hb hown (hts (.constantLong RX11 174 (-102)) (by decide +kernel)) dX11_held_47 ?_
      obtain rfl := Option.some.inj h
      exact rt_l hA0 hQ0 hx hb hr hlocks hP hS dX11_held_50
    · skip
      have h := (if_neg c2).symm.trans h
      refine lv_iload_n hx hb dX11_held_24 rfl (lv_at hl 3 rfl) ?_
      refine lv_i2l hx hb dX11_held_25 rfl ?_
      refine lv_lconst (v := 0) hx hb dX11_held_26 (by decide) ?_
      refine lv_ldc2 (own := RX11) (v := 10) hx hb hown (hts (.constantLong RX11 157 (10)) (by decide +kernel)) dX11_held_27 ?_
      refine cl_S [(q_t, .inr (10, [.ref q_t_page, .int v_t_pageMany, .ref q_t_readKinds, .ref q_t_readLeaflets, .int v_t_readMany, .int v_t_told, .int v_t_many, .int v_t_lostByHands, .int v_t_lostByMould, .ref q_t_rows, .ref q_t_debts, .int v_t_ringMany, .ref q_t_ring, .ref q_t_line, .ref q_t_groups, .ref q_t_likely, .ref q_t_likelyThen, .int v_t_seedNow, .ref q_t_saved, .int v_t_keptMany, .int v_t_keptByHands, .int v_t_keptByMould, .ref q_t_keptRows, .ref q_t_keptDebts, .long v_t_hash])), (q_t_rows, .inl (cI, 80, .inl v_t_rows)), (q_t_likely, .inl (cJ, 10, .inr (.inl v_t_likely))), (q_t_likelyThen, .inl (cJ, 10, .inr (.inl v_t_likelyThen)))] (As := [.long ((x3 : Int32).toInt64), .long 0, .long 10]) (rest := []) (rv := (some (.int (fX11_in ((x3 : Int32).toInt64) 0 10)))) (c_X11_in l D cI cJ ((x3 : Int32).toInt64) 0 10) ⟨hx, hb, hml, hown, hts⟩ (va_cwS 3 hts gX11_held_X11_in rfl rfl rfl (by decide +kernel) ⟨(Nat.le_of_ble_eq_true rfl), (Nat.le_of_ble_eq_true rfl)⟩) hK hN hP hD hS [] rfl (by decide) rfl rfl rfl rfl hl.1 rfl (Nat.le_of_ble_eq_true rfl) dX11_held_30 ⟨Nat.zero_le _, Nat.zero_le _⟩ (fun H locs hP hD hS => ?_)
      show W p l e ({ frames := 2, cells := 0, slots := 0, locals := 50 } : Room) s m args below meth c H locs 0 0 Q0 (F0 m 33 ls [.int (fX11_in ((x3 : Int32).toInt64) 0 10)])
      refine lv_if_eq (tgt := 47) hx hb dX11_held_33 (by decide) (fun c3 => ?_) (fun c3 => ?_)
      · skip
        have h := (if_pos c3).symm.trans h
        refine lv_ldc2 (own := RX11) (v := (-102)) hx hb hown (hts (.constantLong RX11 174 (-102)) (by decide +kernel)) dX11_held_47 ?_
        obtain rfl := Option.some.inj h
        exact rt_l hA0 hQ0 hx hb hr hlocks hP hS dX11_held_50
      · skip
        have h := (if_neg c3).symm.trans h
        refine lv_iload hx hb dX11_held_36 (lv_at hl 4 rfl) ?_
        refine lv_i2l hx hb dX11_held_38 rfl ?_
        refine lv_lconst (v := 0) hx hb dX11_held_39 (by decide) ?_
        refine lv_lconst (v := 1) hx hb dX11_held_40 (by decide) ?_
        refine cl_S [(q_t, .inr (10, [.ref q_t_page, .int v_t_pageMany, .ref q_t_readKinds, .ref q_t_readLeaflets, .int v_t_readMany, .int v_t_told, .int v_t_many, .int v_t_lostByHands, .int v_t_lostByMould, .ref q_t_rows, .ref q_t_debts, .int v_t_ringMany, .ref q_t_ring, .ref q_t_line, .ref q_t_groups, .ref q_t_likely, .ref q_t_likelyThen, .int v_t_seedNow, .ref q_t_saved, .int v_t_keptMany, .int v_t_keptByHands, .int v_t_keptByMould, .ref q_t_keptRows, .ref q_t_keptDebts, .long v_t_hash])), (q_t_rows, .inl (cI, 80, .inl v_t_rows)), (q_t_likely, .inl (cJ, 10, .inr (.inl v_t_likely))), (q_t_likelyThen, .inl (cJ, 10, .inr (.inl v_t_likelyThen)))] (As := [.long ((x4 : Int32).toInt64), .long 0, .long 1]) (rest := []) (rv := (some (.int (fX11_in ((x4 : Int32).toInt64) 0 1)))) (c_X11_in l D cI cJ ((x4 : Int32).toInt64) 0 1) ⟨hx, hb, hml, hown, hts⟩ (va_cwS 3 hts gX11_held_X11_in rfl rfl rfl (by decide +kernel) ⟨(Nat.le_of_ble_eq_true rfl), (Nat.le_of_ble_eq_true rfl)⟩) hK hN hP hD hS [] rfl (by decide) rfl rfl rfl rfl hl.1 rfl (Nat.le_of_ble_eq_true rfl) dX11_held_41 ⟨Nat.zero_le _, Nat.zero_le _⟩ (fun H locs hP hD hS => ?_)
        show W p l e ({ frames := 2, cells := 0, slots := 0, locals := 50 } : Room) s m args below meth c H locs 0 0 Q0 (F0 m 44 ls [.int (fX11_in ((x4 : Int32).toInt64) 0 1)])
        refine lv_if_ne (tgt := 51) hx hb dX11_held_44 (by decide) (fun c4 => ?_) (fun c4 => ?_)
        · skip
          have h := (if_neg c4).symm.trans h
          refine lv_aload_n hx hb dX11_held_51 rfl (lv_at hl 0 rfl) ?_
          refine lv_iload_n hx hb dX11_held_52 rfl (lv_at hl 1 rfl) ?_
          refine lv_iload_n hx hb dX11_held_53 rfl (lv_at hl 2 rfl) ?_
          refine lv_iload_n hx hb dX11_held_54 rfl (lv_at hl 3 rfl) ?_
          obtain ⟨u5, g6, h⟩ := bd_of h
          refine cl_V [(q_t, .inr (10, [.ref q_t_page, .int v_t_pageMany, .ref q_t_readKinds, .ref q_t_readLeaflets, .int v_t_readMany, .int v_t_told, .int v_t_many, .int v_t_lostByHands, .int v_t_lostByMould, .ref q_t_rows, .ref q_t_debts, .int v_t_ringMany, .ref q_t_ring, .ref q_t_line, .ref q_t_groups, .ref q_t_likely, .ref q_t_likelyThen, .int v_t_seedNow, .ref q_t_saved, .int v_t_keptMany, .int v_t_keptByHands, .int v_t_keptByMould, .ref q_t_keptRows, .ref q_t_keptDebts, .long v_t_hash])), (q_t_rows, .inl (cI, 80, .inl v_t_rows)), (q_t_likely, .inl (cJ, 10, .inr (.inl u5.2.1))), (q_t_likelyThen, .inl (cJ, 10, .inr (.inl u5.2.2)))] (As := [.int x1, .int x2, .int x3]) (rest := []) (rv := (some (.long u5.1))) (c_X11_heldUp l D cI cJ q_t q_t_page q_t_readKinds q_t_readLeaflets q_t_rows q_t_debts q_t_ring q_t_line q_t_groups q_t_likely q_t_likelyThen q_t_saved q_t_keptRows q_t_keptDebts v_t_pageMany v_t_readMany v_t_told v_t_many v_t_lostByHands v_t_lostByMould v_t_ringMany v_t_seedNow v_t_keptMany v_t_keptByHands v_t_keptByMould v_t_hash v_t_rows v_t_likely v_t_likelyThen x1 x2 x3 u5 g6) ⟨hx, hb, hml, hown, hts⟩ (cwV 3 hts gX11_held_X11_heldUp rfl rfl rfl (by decide +kernel) ⟨(Nat.le_of_ble_eq_true rfl), (Nat.le_of_ble_eq_true rfl)⟩) hK hN hP hD hS [0, 1, 2, 3] rfl (by decide) rfl rfl rfl (q0 := 0) (ci := 10) rfl rfl rfl rfl hl.1 rfl (Nat.le_of_ble_eq_true rfl) dX11_held_55 ⟨Nat.zero_le _, Nat.zero_le _⟩ (fun H locs hP hD hS => ?_)
          show W p l e ({ frames := 2, cells := 0, slots := 0, locals := 50 } : Room) s m args below meth c H locs 0 0 Q0 (F0 m 58 ls [.long u5.1])
          refine lv_iload_n hx hb dX11_held_58 rfl (lv_at hl 2 rfl) ?_
          obtain ⟨u7, g8, h⟩ := bd_of h
          refine cl_S [(q_t, .inr (10, [.ref q_t_page, .int v_t_pageMany, .ref q_t_readKinds, .ref q_t_readLeaflets, .int v_t_readMany, .int v_t_told, .int v_t_many, .int v_t_lostByHands, .int v_t_lostByMould, .ref q_t_rows, .ref q_t_debts, .int v_t_ringMany, .ref q_t_ring, .ref q_t_line, .ref q_t_groups, .ref q_t_likely, .ref q_t_likelyThen, .int v_t_seedNow, .ref q_t_saved, .int v_t_keptMany, .int v_t_keptByHands, .int v_t_keptByMould, .ref q_t_keptRows, .ref q_t_keptDebts, .long v_t_hash])), (q_t_rows, .inl (cI, 80, .inl v_t_rows)), (q_t_likely, .inl (cJ, 10, .inr (.inl u5.2.1))), (q_t_likelyThen, .inl (cJ, 10, .inr (.inl u5.2.2)))] (As := [.int x2]) (rest := [.long u5.1]) (rv := (some (.long u7))) (c_X11_power l D cI cJ x2 u7 g8) ⟨hx, hb, hml, hown, hts⟩ (va_cwS 1 hts gX11_held_X11_power rfl rfl rfl (by decide +kernel) ⟨(Nat.le_of_ble_eq_true rfl), (Nat.le_of_ble_eq_true rfl)⟩) hK hN hP hD hS [] rfl (by decide) rfl rfl rfl rfl hl.1 rfl (Nat.le_of_ble_eq_true rfl) dX11_held_59 ⟨Nat.zero_le _, Nat.zero_le _⟩ (fun H locs hP hD hS => ?_)
          show W p l e ({ frames := 2, cells := 0, slots := 0, locals := 50 } : Room) s m args below meth c H locs 0 0 Q0 (F0 m 62 ls [.long u7, .long u5.1])
          refine lv_iload hx hb dX11_held_62 (lv_at hl 4 rfl) ?_
          obtain ⟨u9, g10, h⟩ := bd_of h
          refine cl_S [(q_t, .inr (10, [.ref q_t_page, .int v_t_pageMany, .ref q_t_readKinds, .ref q_t_readLeaflets, .int v_t_readMany, .int v_t_told, .int v_t_many, .int v_t_lostByHands, .int v_t_lostByMould, .ref q_t_rows, .ref q_t_debts, .int v_t_ringMany, .ref q_t_ring, .ref q_t_line, .ref q_t_groups, .ref q_t_likely, .ref q_t_likelyThen, .int v_t_seedNow, .ref q_t_saved, .int v_t_keptMany, .int v_t_keptByHands, .int v_t_keptByMould, .ref q_t_keptRows, .ref q_t_keptDebts, .long v_t_hash])), (q_t_rows, .inl (cI, 80, .inl v_t_rows)), (q_t_likely, .inl (cJ, 10, .inr (.inl u5.2.1))), (q_t_likelyThen, .inl (cJ, 10, .inr (.inl u5.2.2)))] (As := [.long u5.1, .long u7, .int x4]) (rest := []) (rv := (some (.long u9))) (c_X11_term l D cI cJ u5.1 u7 x4 u9 g10) ⟨hx, hb, hml, hown, hts⟩ (va_cwS 3 hts gX11_held_X11_term rfl rfl rfl (by decide +kernel) ⟨(Nat.le_of_ble_eq_true rfl), (Nat.le_of_ble_eq_true rfl)⟩) hK hN hP hD hS [] rfl (by decide) rfl rfl rfl rfl hl.1 rfl (Nat.le_of_ble_eq_true rfl) dX11_held_64 ⟨Nat.zero_le _, Nat.zero_le _⟩ (fun H locs hP hD hS => ?_)
          show W p l e ({ frames := 2, cells := 0, slots := 0, locals := 50 } : Room) s m args below meth c H locs 0 0 Q0 (F0 m 67 ls [.long u9])
          obtain rfl := Option.some.inj h
          exact rt_l hA0 hQ0 hx hb hr hlocks hP hS dX11_held_67
        · skip
          have h := (if_pos c4).symm.trans h
          refine lv_ldc2 (own := RX11) (v := (-102)) hx hb hown (hts (.constantLong RX11 174 (-102)) (by decide +kernel)) dX11_held_47 ?_
          obtain rfl := Option.some.inj h
          exact rt_l hA0 hQ0 hx hb hr hlocks hP hS dX11_held_50
  · skip
    have h := (if_pos c1).symm.trans h
    refine lv_ldc2 (own := RX11) (v := (-101)) hx hb hown (hts (.constantLong RX11 170 (-101)) (by decide +kernel)) dX11_held_8 ?_
    obtain rfl := Option.some.inj h
    exact rt_l hA0 hQ0 hx hb hr hlocks hP hS dX11_held_11
def fX11_when_X53_94  (a8 : Int32 × (Nat → Int64) × (Nat → Int64)) : Option (Int32 × (Nat → Int64) × (Nat → Int64)) :=
  some (a8.1, a8.2.1, a8.2.2)
def fX11_when_L53 (v_t_pageMany : Int32) (v_t_readMany : Int32) (v_t_told : Int32) (v_t_many : Int32) (v_t_lostByHands : Int32) (v_t_lostByMould : Int32) (v_t_ringMany : Int32) (v_t_seedNow : Int32) (v_t_keptMany : Int32) (v_t_keptByHands : Int32) (v_t_keptByMould : Int32) (v_t_hash : Int64) (v_t_rows : Nat → Int32) (x1 : Int32) (x2 : Int32) (x3 : Int32) (u4 : Int64 × (Nat → Int64) × (Nat → Int64)) (z6 : Int32 × Int32 × (Nat → Int64) × (Nat → Int64)) : Option ((Int32 × Int32 × (Nat → Int64) × (Nat → Int64)) ⊕ (Int32 × (Nat → Int64) × (Nat → Int64))) :=
  if x2 < z6.2.1 then (some (Sum.inr (z6.1, z6.2.2.1, z6.2.2.2))) else ((fX11_heldUp v_t_pageMany v_t_readMany v_t_told v_t_many v_t_lostByHands v_t_lostByMould v_t_ringMany v_t_seedNow v_t_keptMany v_t_keptByHands v_t_keptByMould v_t_hash v_t_rows z6.2.2.1 z6.2.2.2 x1 z6.2.1 x3).bind (fun u12 => (fX11_power z6.2.1).bind (fun u14 => some (Sum.inl ((if (lg_cmp u12.1 (u4.1 * u14)) < 0 then z6.1 else z6.2.1 : Int32), (z6.2.1 + 1), u12.2.1, u12.2.2)))))
def fX11_when (v_t_pageMany : Int32) (v_t_readMany : Int32) (v_t_told : Int32) (v_t_many : Int32) (v_t_lostByHands : Int32) (v_t_lostByMould : Int32) (v_t_ringMany : Int32) (v_t_seedNow : Int32) (v_t_keptMany : Int32) (v_t_keptByHands : Int32) (v_t_keptByMould : Int32) (v_t_hash : Int64) (v_t_rows : Nat → Int32) (v_t_likely : Nat → Int64) (v_t_likelyThen : Nat → Int64) (x1 : Int32) (x2 : Int32) (x3 : Int32) : Option (Int32 × (Nat → Int64) × (Nat → Int64)) :=
  if (fX11_isFrond v_t_pageMany v_t_readMany v_t_told v_t_many v_t_lostByHands v_t_lostByMould v_t_ringMany v_t_seedNow v_t_keptMany v_t_keptByHands v_t_keptByMould v_t_hash x1) = 0 then (some ((-101), v_t_likely, v_t_likelyThen)) else (if (fX11_in ((x2 : Int32).toInt64) 0 9) = 0 then (some ((-102), v_t_likely, v_t_likelyThen)) else (if (fX11_in ((x3 : Int32).toInt64) 0 10) = 0 then (some ((-102), v_t_likely, v_t_likelyThen)) else ((fX11_heldUp v_t_pageMany v_t_readMany v_t_told v_t_many v_t_lostByHands v_t_lostByMould v_t_ringMany v_t_seedNow v_t_keptMany v_t_keptByHands v_t_keptByMould v_t_hash v_t_rows v_t_likely v_t_likelyThen x1 0 x3).bind (fun u4 => (iter (fX11_when_L53 v_t_pageMany v_t_readMany v_t_told v_t_many v_t_lostByHands v_t_lostByMould v_t_ringMany v_t_seedNow v_t_keptMany v_t_keptByHands v_t_keptByMould v_t_hash v_t_rows x1 x2 x3 u4) FU (0, 1, u4.2.1, u4.2.2)).bind (fX11_when_X53_94)))))
set_option maxHeartbeats 4000000 in
set_option maxRecDepth 100000 in
theorem c_X11_when (l : Launch) (D : va_G) (cI cJ : ClassId) (q_t q_t_page q_t_readKinds q_t_readLeaflets q_t_rows q_t_debts q_t_ring q_t_line q_t_groups q_t_likely q_t_likelyThen q_t_saved q_t_keptRows q_t_keptDebts : Nat) (v_t_pageMany : Int32) (v_t_readMany : Int32) (v_t_told : Int32) (v_t_many : Int32) (v_t_lostByHands : Int32) (v_t_lostByMould : Int32) (v_t_ringMany : Int32) (v_t_seedNow : Int32) (v_t_keptMany : Int32) (v_t_keptByHands : Int32) (v_t_keptByMould : Int32) (v_t_hash : Int64) (v_t_rows : Nat → Int32) (v_t_likely : Nat → Int64) (v_t_likelyThen : Nat → Int64) (x1 : Int32) (x2 : Int32) (x3 : Int32) (z : Int32 × (Nat → Int64) × (Nat → Int64)) (h : fX11_when v_t_pageMany v_t_readMany v_t_told v_t_many v_t_lostByHands v_t_lostByMould v_t_ringMany v_t_seedNow v_t_keptMany v_t_keptByHands v_t_keptByMould v_t_hash v_t_rows v_t_likely v_t_likelyThen x1 x2 x3 = some z) : Met l yX11_when wsX11_when ({ frames := 2, cells := 0, slots := 0, locals := 50 } : Room) (va_Pc [.ref q_t, .int x1, .int x2, .int x3] (preG D cI cJ [(q_t, .inr (10, [.ref q_t_page, .int v_t_pageMany, .ref q_t_readKinds, .ref q_t_readLeaflets, .int v_t_readMany, .int v_t_told, .int v_t_many, .int v_t_lostByHands, .int v_t_lostByMould, .ref q_t_rows, .ref q_t_debts, .int v_t_ringMany, .ref q_t_ring, .ref q_t_line, .ref q_t_groups, .ref q_t_likely, .ref q_t_likelyThen, .int v_t_seedNow, .ref q_t_saved, .int v_t_keptMany, .int v_t_keptByHands, .int v_t_keptByMould, .ref q_t_keptRows, .ref q_t_keptDebts, .long v_t_hash])), (q_t_rows, .inl (cI, 80, .inl v_t_rows)), (q_t_likely, .inl (cJ, 10, .inr (.inl v_t_likely))), (q_t_likelyThen, .inl (cJ, 10, .inr (.inl v_t_likelyThen)))])) (QG D [(q_t, .inr (10, [.ref q_t_page, .int v_t_pageMany, .ref q_t_readKinds, .ref q_t_readLeaflets, .int v_t_readMany, .int v_t_told, .int v_t_many, .int v_t_lostByHands, .int v_t_lostByMould, .ref q_t_rows, .ref q_t_debts, .int v_t_ringMany, .ref q_t_ring, .ref q_t_line, .ref q_t_groups, .ref q_t_likely, .ref q_t_likelyThen, .int v_t_seedNow, .ref q_t_saved, .int v_t_keptMany, .int v_t_keptByHands, .int v_t_keptByMould, .ref q_t_keptRows, .ref q_t_keptDebts, .long v_t_hash])), (q_t_rows, .inl (cI, 80, .inl v_t_rows)), (q_t_likely, .inl (cJ, 10, .inr (.inl v_t_likely))), (q_t_likelyThen, .inl (cJ, 10, .inr (.inl v_t_likelyThen)))] [(q_t, .inr (10, [.ref q_t_page, .int v_t_pageMany, .ref q_t_readKinds, .ref q_t_readLeaflets, .int v_t_readMany, .int v_t_told, .int v_t_many, .int v_t_lostByHands, .int v_t_lostByMould, .ref q_t_rows, .ref q_t_debts, .int v_t_ringMany, .ref q_t_ring, .ref q_t_line, .ref q_t_groups, .ref q_t_likely, .ref q_t_likelyThen, .int v_t_seedNow, .ref q_t_saved, .int v_t_keptMany, .int v_t_keptByHands, .int v_t_keptByMould, .ref q_t_keptRows, .ref q_t_keptDebts, .long v_t_hash])), (q_t_rows, .inl (cI, 80, .inl v_t_rows)), (q_t_likely, .inl (cJ, 10, .inr (.inl z.2.1))), (q_t_likelyThen, .inl (cJ, 10, .inr (.inl z.2.2)))] (some (.int z.1))) 0 0 (fr [(q_t, .inr (10, [.ref q_t_page, .int v_t_pageMany, .ref q_t_readKinds, .ref q_t_readLeaflets, .int v_t_readMany, .int v_t_told, .int v_t_many, .int v_t_lostByHands, .int v_t_lostByMould, .ref q_t_rows, .ref q_t_debts, .int v_t_ringMany, .ref q_t_ring, .ref q_t_line, .ref q_t_groups, .ref q_t_likely, .ref q_t_likelyThen, .int v_t_seedNow, .ref q_t_saved, .int v_t_keptMany, .int v_t_keptByHands, .int v_t_keptByMould, .ref q_t_keptRows, .ref q_t_keptDebts, .long v_t_hash])), (q_t_rows, .inl (cI, 80, .inl v_t_rows)), (q_t_likely, .inl (cJ, 10, .inr (.inl v_t_likely))), (q_t_likelyThen, .inl (cJ, 10, .inr (.inl v_t_likelyThen)))]) := by
  refine Met.ofW (cc := cX11_when) (maxL := 8) (ret := (some .int)) (by decide) rfl ?_
  intro p e s m args below meth c s₁ B hml hv
  obtain ⟨hargs, hP, hK, hN, hD0⟩ := hv
  have hx := B.exec
  have hb := B.bytes
  have hr := B.returns
  have hts := atoms_spec (ws := wsX11_when) B.pre
  have hown : s.vm.findClass RX11 = some m.cls := findClass_of_methodNamed B.named
  have hlocks := B.notSynchronized
  have hD := fr_D hD0
  have hS : va_S (fr [(q_t, .inr (10, [.ref q_t_page, .int v_t_pageMany, .ref q_t_readKinds, .ref q_t_readLeaflets, .int v_t_readMany, .int v_t_told, .int v_t_many, .int v_t_lostByHands, .int v_t_lostByMould, .ref q_t_rows, .ref q_t_debts, .int v_t_ringMany, .ref q_t_ring, .ref q_t_line, .ref q_t_groups, .ref q_t_likely, .ref q_t_likelyThen, .int v_t_seedNow, .ref q_t_saved, .int v_t_keptMany, .int v_t_keptByHands, .int v_t_keptByMould, .ref q_t_keptRows, .ref q_t_keptDebts, .long v_t_hash])), (q_t_rows, .inl (cI, 80, .inl v_t_rows)), (q_t_likely, .inl (cJ, 10, .inr (.inl v_t_likely))), (q_t_likelyThen, .inl (cJ, 10, .inr (.inl v_t_likelyThen)))]) s.heap s.heap [] := va_S.rf
  have hl := lv_entry ([.ref q_t, .int x1, .int x2, .int x3]) (n := 8) (Nat.le_of_ble_eq_true rfl)
  refine W.eq (g2 := F0 m 0 ((lg_sl ([.ref q_t, .int x1, .int x2, .int x3]) ++ List.replicate (8 - (lg_sl ([.ref q_t, .int x1, .int x2, .int x3])).length) Slot.unset).toArray) []) (by rw [hargs, lg_entry_eq]) ?_
  generalize (lg_sl ([.ref q_t, .int x1, .int x2, .int x3]) ++ List.replicate (8 - (lg_sl ([.ref q_t, .int x1, .int x2, .int x3])).length) Slot.unset).toArray = ls at hl ⊢
  have hl : lv_has ls 8 [(0, .ref q_t), (1, .int x1), (2, .int x2), (3, .int x3)] := hl
  show W p l e ({ frames := 2, cells := 0, slots := 0, locals := 50 } : Room) s m args below meth c s.heap [] 0 0 (MQ below (QG D [(q_t, .inr (10, [.ref q_t_page, .int v_t_pageMany, .ref q_t_readKinds, .ref q_t_readLeaflets, .int v_t_readMany, .int v_t_told, .int v_t_many, .int v_t_lostByHands, .int v_t_lostByMould, .ref q_t_rows, .ref q_t_debts, .int v_t_ringMany, .ref q_t_ring, .ref q_t_line, .ref q_t_groups, .ref q_t_likely, .ref q_t_likelyThen, .int v_t_seedNow, .ref q_t_saved, .int v_t_keptMany, .int v_t_keptByHands, .int v_t_keptByMould, .ref q_t_keptRows, .ref q_t_keptDebts, .long v_t_hash])), (q_t_rows, .inl (cI, 80, .inl v_t_rows)), (q_t_likely, .inl (cJ, 10, .inr (.inl v_t_likely))), (q_t_likelyThen, .inl (cJ, 10, .inr (.inl v_t_likelyThen)))] [(q_t, .inr (10, [.ref q_t_page, .int v_t_pageMany, .ref q_t_readKinds, .ref q_t_readLeaflets, .int v_t_readMany, .int v_t_told, .int v_t_many, .int v_t_lostByHands, .int v_t_lostByMould, .ref q_t_rows, .ref q_t_debts, .int v_t_ringMany, .ref q_t_ring, .ref q_t_line, .ref q_t_groups, .ref q_t_likely, .ref q_t_likelyThen, .int v_t_seedNow, .ref q_t_saved, .int v_t_keptMany, .int v_t_keptByHands, .int v_t_keptByMould, .ref q_t_keptRows, .ref q_t_keptDebts, .long v_t_hash])), (q_t_rows, .inl (cI, 80, .inl v_t_rows)), (q_t_likely, .inl (cJ, 10, .inr (.inl z.2.1))), (q_t_likelyThen, .inl (cJ, 10, .inr (.inl z.2.2)))] (some (.int z.1))) args s 0 0 (fr [(q_t, .inr (10, [.ref q_t_page, .int v_t_pageMany, .ref q_t_readKinds, .ref q_t_readLeaflets, .int v_t_readMany, .int v_t_told, .int v_t_many, .int v_t_lostByHands, .int v_t_lostByMould, .ref q_t_rows, .ref q_t_debts, .int v_t_ringMany, .ref q_t_ring, .ref q_t_line, .ref q_t_groups, .ref q_t_likely, .ref q_t_likelyThen, .int v_t_seedNow, .ref q_t_saved, .int v_t_keptMany, .int v_t_keptByHands, .int v_t_keptByMould, .ref q_t_keptRows, .ref q_t_keptDebts, .long v_t_hash])), (q_t_rows, .inl (cI, 80, .inl v_t_rows)), (q_t_likely, .inl (cJ, 10, .inr (.inl v_t_likely))), (q_t_likelyThen, .inl (cJ, 10, .inr (.inl v_t_likelyThen)))])) (F0 m 0 ls [])
  generalize hQ0 : (MQ below (QG D [(q_t, .inr (10, [.ref q_t_page, .int v_t_pageMany, .ref q_t_readKinds, .ref q_t_readLeaflets, .int v_t_readMany, .int v_t_told, .int v_t_many, .int v_t_lostByHands, .int v_t_lostByMould, .ref q_t_rows, .ref q_t_debts, .int v_t_ringMany, .ref q_t_ring, .ref q_t_line, .ref q_t_groups, .ref q_t_likely, .ref q_t_likelyThen, .int v_t_seedNow, .ref q_t_saved, .int v_t_keptMany, .int v_t_keptByHands, .int v_t_keptByMould, .ref q_t_keptRows, .ref q_t_keptDebts, .long v_t_hash])), (q_t_rows, .inl (cI, 80, .inl v_t_rows)), (q_t_likely, .inl (cJ, 10, .inr (.inl v_t_likely))), (q_t_likelyThen, .inl (cJ, 10, .inr (.inl v_t_likelyThen)))] [(q_t, .inr (10, [.ref q_t_page, .int v_t_pageMany, .ref q_t_readKinds, .ref q_t_readLeaflets, .int v_t_readMany, .int v_t_told, .int v_t_many, .int v_t_lostByHands, .int v_t_lostByMould, .ref q_t_rows, .ref q_t_debts, .int v_t_ringMany, .ref q_t_ring, .ref q_t_line, .ref q_t_groups, .ref q_t_likely, .ref q_t_likelyThen, .int v_t_seedNow, .ref q_t_saved, .int v_t_keptMany, .int v_t_keptByHands, .int v_t_keptByMould, .ref q_t_keptRows, .ref q_t_keptDebts, .long v_t_hash])), (q_t_rows, .inl (cI, 80, .inl v_t_rows)), (q_t_likely, .inl (cJ, 10, .inr (.inl z.2.1))), (q_t_likelyThen, .inl (cJ, 10, .inr (.inl z.2.2)))] (some (.int z.1))) args s 0 0 (fr [(q_t, .inr (10, [.ref q_t_page, .int v_t_pageMany, .ref q_t_readKinds, .ref q_t_readLeaflets, .int v_t_readMany, .int v_t_told, .int v_t_many, .int v_t_lostByHands, .int v_t_lostByMould, .ref q_t_rows, .ref q_t_debts, .int v_t_ringMany, .ref q_t_ring, .ref q_t_line, .ref q_t_groups, .ref q_t_likely, .ref q_t_likelyThen, .int v_t_seedNow, .ref q_t_saved, .int v_t_keptMany, .int v_t_keptByHands, .int v_t_keptByMould, .ref q_t_keptRows, .ref q_t_keptDebts, .long v_t_hash])), (q_t_rows, .inl (cI, 80, .inl v_t_rows)), (q_t_likely, .inl (cJ, 10, .inr (.inl v_t_likely))), (q_t_likelyThen, .inl (cJ, 10, .inr (.inl v_t_likelyThen)))])) = Q0
  generalize hA0 : fr [(q_t, .inr (10, [.ref q_t_page, .int v_t_pageMany, .ref q_t_readKinds, .ref q_t_readLeaflets, .int v_t_readMany, .int v_t_told, .int v_t_many, .int v_t_lostByHands, .int v_t_lostByMould, .ref q_t_rows, .ref q_t_debts, .int v_t_ringMany, .ref q_t_ring, .ref q_t_line, .ref q_t_groups, .ref q_t_likely, .ref q_t_likelyThen, .int v_t_seedNow, .ref q_t_saved, .int v_t_keptMany, .int v_t_keptByHands, .int v_t_keptByMould, .ref q_t_keptRows, .ref q_t_keptDebts, .long v_t_hash])), (q_t_rows, .inl (cI, 80, .inl v_t_rows)), (q_t_likely, .inl (cJ, 10, .inr (.inl v_t_likely))), (q_t_likelyThen, .inl (cJ, 10, .inr (.inl v_t_likelyThen)))] = A0 at hD hS
  unfold fX11_when at h
  refine lv_aload_n hx hb dX11_when_0 rfl (lv_at hl 0 rfl) ?_
  refine lv_iload_n hx hb dX11_when_1 rfl (lv_at hl 1 rfl) ?_
  refine cl_V [(q_t, .inr (10, [.ref q_t_page, .int v_t_pageMany, .ref q_t_readKinds, .ref q_t_readLeaflets, .int v_t_readMany, .int v_t_told, .int v_t_many, .int v_t_lostByHands, .int v_t_lostByMould, .ref q_t_rows, .ref q_t_debts, .int v_t_ringMany, .ref q_t_ring, .ref q_t_line, .ref q_t_groups, .ref q_t_likely, .ref q_t_likelyThen, .int v_t_seedNow, .ref q_t_saved, .int v_t_keptMany, .int v_t_keptByHands, .int v_t_keptByMould, .ref q_t_keptRows, .ref q_t_keptDebts, .long v_t_hash])), (q_t_rows, .inl (cI, 80, .inl v_t_rows)), (q_t_likely, .inl (cJ, 10, .inr (.inl v_t_likely))), (q_t_likelyThen, .inl (cJ, 10, .inr (.inl v_t_likelyThen)))] (As := [.int x1]) (rest := []) (rv := (some (.int (fX11_isFrond v_t_pageMany v_t_readMany v_t_told v_t_many v_t_lostByHands v_t_lostByMould v_t_ringMany v_t_seedNow v_t_keptMany v_t_keptByHands v_t_keptByMould v_t_hash x1)))) (c_X11_isFrond l D cI cJ q_t q_t_page q_t_readKinds q_t_readLeaflets q_t_rows q_t_debts q_t_ring q_t_line q_t_groups q_t_likely q_t_likelyThen q_t_saved q_t_keptRows q_t_keptDebts v_t_pageMany v_t_readMany v_t_told v_t_many v_t_lostByHands v_t_lostByMould v_t_ringMany v_t_seedNow v_t_keptMany v_t_keptByHands v_t_keptByMould v_t_hash x1) ⟨hx, hb, hml, hown, hts⟩ (cwV 1 hts gX11_when_X11_isFrond rfl rfl rfl (by decide +kernel) ⟨(Nat.le_of_ble_eq_true rfl), (Nat.le_of_ble_eq_true rfl)⟩) hK hN hP hD hS [0] rfl (by decide) rfl rfl rfl (q0 := 0) (ci := 10) rfl rfl rfl rfl hl.1 rfl (Nat.le_of_ble_eq_true rfl) dX11_when_2 ⟨Nat.zero_le _, Nat.zero_le _⟩ (fun H locs hP hD hS => ?_)
  show W p l e ({ frames := 2, cells := 0, slots := 0, locals := 50 } : Room) s m args below meth c H locs 0 0 Q0 (F0 m 5 ls [.int (fX11_isFrond v_t_pageMany v_t_readMany v_t_told v_t_many v_t_lostByHands v_t_lostByMould v_t_ringMany v_t_seedNow v_t_keptMany v_t_keptByHands v_t_keptByMould v_t_hash x1)])
  refine lv_if_ne (tgt := 11) hx hb dX11_when_5 (by decide) (fun c1 => ?_) (fun c1 => ?_)
  · skip
    have h := (if_neg c1).symm.trans h
    refine lv_iload_n hx hb dX11_when_11 rfl (lv_at hl 2 rfl) ?_
    refine lv_i2l hx hb dX11_when_12 rfl ?_
    refine lv_lconst (v := 0) hx hb dX11_when_13 (by decide) ?_
    refine lv_ldc2 (own := RX11) (v := 9) hx hb hown (hts (.constantLong RX11 172 (9)) (by decide +kernel)) dX11_when_14 ?_
    refine cl_S [(q_t, .inr (10, [.ref q_t_page, .int v_t_pageMany, .ref q_t_readKinds, .ref q_t_readLeaflets, .int v_t_readMany, .int v_t_told, .int v_t_many, .int v_t_lostByHands, .int v_t_lostByMould, .ref q_t_rows, .ref q_t_debts, .int v_t_ringMany, .ref q_t_ring, .ref q_t_line, .ref q_t_groups, .ref q_t_likely, .ref q_t_likelyThen, .int v_t_seedNow, .ref q_t_saved, .int v_t_keptMany, .int v_t_keptByHands, .int v_t_keptByMould, .ref q_t_keptRows, .ref q_t_keptDebts, .long v_t_hash])), (q_t_rows, .inl (cI, 80, .inl v_t_rows)), (q_t_likely, .inl (cJ, 10, .inr (.inl v_t_likely))), (q_t_likelyThen, .inl (cJ, 10, .inr (.inl v_t_likelyThen)))] (As := [.long ((x2 : Int32).toInt64), .long 0, .long 9]) (rest := []) (rv := (some (.int (fX11_in ((x2 : Int32).toInt64) 0 9)))) (c_X11_in l D cI cJ ((x2 : Int32).toInt64) 0 9) ⟨hx, hb, hml, hown, hts⟩ (va_cwS 3 hts gX11_when_X11_in rfl rfl rfl (by decide +kernel) ⟨(Nat.le_of_ble_eq_true rfl), (Nat.le_of_ble_eq_true rfl)⟩) hK hN hP hD hS [] rfl (by decide) rfl rfl rfl rfl hl.1 rfl (Nat.le_of_ble_eq_true rfl) dX11_when_17 ⟨Nat.zero_le _, Nat.zero_le _⟩ (fun H locs hP hD hS => ?_)
    show W p l e ({ frames := 2, cells := 0, slots := 0, locals := 50 } : Room) s m args below meth c H locs 0 0 Q0 (F0 m 20 ls [.int (fX11_in ((x2 : Int32).toInt64) 0 9)])
    refine lv_if_eq (tgt := 35) hx hb dX11_when_20 (by decide) (fun c2 => ?_) (fun c2 => ?_)
    · skip
      have h := (if_pos c2).symm.trans h
      refine lv_bipush (v := (-102)) hx hb dX11_when_35 (by decide) ?_
      obtain rfl := Option.some.inj h
      exact rt_i hA0 hQ0 hx hb hr hlocks hP hS dX11_when_37
    · skip
      have h := (if_neg c2).symm.trans h
      refine lv_iload_n hx hb dX11_when_23 rfl (lv_at hl 3 rfl) ?_
      refine lv_i2l hx hb dX11_when_24 rfl ?_
      refine lv_lconst (v := 0) hx hb dX11_when_25 (by decide) ?_
      refine lv_ldc2 (own := RX11) (v := 10) hx hb hown (hts (.constantLong RX11 157 (10)) (by decide +kernel)) dX11_when_26 ?_
      refine cl_S [(q_t, .inr (10, [.ref q_t_page, .int v_t_pageMany, .ref q_t_readKinds, .ref q_t_readLeaflets, .int v_t_readMany, .int v_t_told, .int v_t_many, .int v_t_lostByHands, .int v_t_lostByMould, .ref q_t_rows, .ref q_t_debts, .int v_t_ringMany, .ref q_t_ring, .ref q_t_line, .ref q_t_groups, .ref q_t_likely, .ref q_t_likelyThen, .int v_t_seedNow, .ref q_t_saved, .int v_t_keptMany, .int v_t_keptByHands, .int v_t_keptByMould, .ref q_t_keptRows, .ref q_t_keptDebts, .long v_t_hash])), (q_t_rows, .inl (cI, 80, .inl v_t_rows)), (q_t_likely, .inl (cJ, 10, .inr (.inl v_t_likely))), (q_t_likelyThen, .inl (cJ, 10, .inr (.inl v_t_likelyThen)))] (As := [.long ((x3 : Int32).toInt64), .long 0, .long 10]) (rest := []) (rv := (some (.int (fX11_in ((x3 : Int32).toInt64) 0 10)))) (c_X11_in l D cI cJ ((x3 : Int32).toInt64) 0 10) ⟨hx, hb, hml, hown, hts⟩ (va_cwS 3 hts gX11_when_X11_in rfl rfl rfl (by decide +kernel) ⟨(Nat.le_of_ble_eq_true rfl), (Nat.le_of_ble_eq_true rfl)⟩) hK hN hP hD hS [] rfl (by decide) rfl rfl rfl rfl hl.1 rfl (Nat.le_of_ble_eq_true rfl) dX11_when_29 ⟨Nat.zero_le _, Nat.zero_le _⟩ (fun H locs hP hD hS => ?_)
      show W p l e ({ frames := 2, cells := 0, slots := 0, locals := 50 } : Room) s m args below meth c H locs 0 0 Q0 (F0 m 32 ls [.int (fX11_in ((x3 : Int32).toInt64) 0 10)])
      refine lv_if_ne (tgt := 38) hx hb dX11_when_32 (by decide) (fun c3 => ?_) (fun c3 => ?_)
      · skip
        have h := (if_neg c3).symm.trans h
        refine lv_aload_n hx hb dX11_when_38 rfl (lv_at hl 0 rfl) ?_
        refine lv_iload_n hx hb dX11_when_39 rfl (lv_at hl 1 rfl) ?_
        refine lv_iconst (v := 0) hx hb dX11_when_40 (by decide) ?_
        refine lv_iload_n hx hb dX11_when_41 rfl (lv_at hl 3 rfl) ?_
        obtain ⟨u4, g5, h⟩ := bd_of h
        refine cl_V [(q_t, .inr (10, [.ref q_t_page, .int v_t_pageMany, .ref q_t_readKinds, .ref q_t_readLeaflets, .int v_t_readMany, .int v_t_told, .int v_t_many, .int v_t_lostByHands, .int v_t_lostByMould, .ref q_t_rows, .ref q_t_debts, .int v_t_ringMany, .ref q_t_ring, .ref q_t_line, .ref q_t_groups, .ref q_t_likely, .ref q_t_likelyThen, .int v_t_seedNow, .ref q_t_saved, .int v_t_keptMany, .int v_t_keptByHands, .int v_t_keptByMould, .ref q_t_keptRows, .ref q_t_keptDebts, .long v_t_hash])), (q_t_rows, .inl (cI, 80, .inl v_t_rows)), (q_t_likely, .inl (cJ, 10, .inr (.inl u4.2.1))), (q_t_likelyThen, .inl (cJ, 10, .inr (.inl u4.2.2)))] (As := [.int x1, .int 0, .int x3]) (rest := []) (rv := (some (.long u4.1))) (c_X11_heldUp l D cI cJ q_t q_t_page q_t_readKinds q_t_readLeaflets q_t_rows q_t_debts q_t_ring q_t_line q_t_groups q_t_likely q_t_likelyThen q_t_saved q_t_keptRows q_t_keptDebts v_t_pageMany v_t_readMany v_t_told v_t_many v_t_lostByHands v_t_lostByMould v_t_ringMany v_t_seedNow v_t_keptMany v_t_keptByHands v_t_keptByMould v_t_hash v_t_rows v_t_likely v_t_likelyThen x1 0 x3 u4 g5) ⟨hx, hb, hml, hown, hts⟩ (cwV 3 hts gX11_when_X11_heldUp rfl rfl rfl (by decide +kernel) ⟨(Nat.le_of_ble_eq_true rfl), (Nat.le_of_ble_eq_true rfl)⟩) hK hN hP hD hS [0, 1, 2, 3] rfl (by decide) rfl rfl rfl (q0 := 0) (ci := 10) rfl rfl rfl rfl hl.1 rfl (Nat.le_of_ble_eq_true rfl) dX11_when_42 ⟨Nat.zero_le _, Nat.zero_le _⟩ (fun H locs hP hD hS => ?_)
        show W p l e ({ frames := 2, cells := 0, slots := 0, locals := 50 } : Room) s m args below meth c H locs 0 0 Q0 (F0 m 45 ls [.long u4.1])
        refine lv_lstore (lv' := [(4, .long u4.1), (0, .ref q_t), (1, .int x1), (2, .int x2), (3, .int x3)]) hx hb dX11_when_45 hl (by decide) rfl (fun ls hl => ?_)
        refine lv_iconst (v := 0) hx hb dX11_when_47 (by decide) ?_
        refine lv_istore (lv' := [(6, .int 0), (4, .long u4.1), (0, .ref q_t), (1, .int x1), (2, .int x2), (3, .int x3)]) hx hb dX11_when_48 hl (by decide) rfl (fun ls hl => ?_)
        refine lv_iconst (v := 1) hx hb dX11_when_50 (by decide) ?_
        refine lv_istore (lv' := [(7, .int 1), (6, .int 0), (4, .long u4.1), (0, .ref q_t), (1, .int x1), (2, .int x2), (3, .int x3)]) hx hb dX11_when_51 hl (by decide) rfl (fun ls hl => ?_)
        obtain ⟨e7, he_e7, hc_e7⟩ := bd_of h
        have X94_9 : ∀ (a8 : Int32 × (Nat → Int64) × (Nat → Int64)) (H : Heap) (locs : List Loc) (ls : Array Slot), fX11_when_X53_94 a8 = some z → va_P D vwCl [(q_t, .inr (10, [.ref q_t_page, .int v_t_pageMany, .ref q_t_readKinds, .ref q_t_readLeaflets, .int v_t_readMany, .int v_t_told, .int v_t_many, .int v_t_lostByHands, .int v_t_lostByMould, .ref q_t_rows, .ref q_t_debts, .int v_t_ringMany, .ref q_t_ring, .ref q_t_line, .ref q_t_groups, .ref q_t_likely, .ref q_t_likelyThen, .int v_t_seedNow, .ref q_t_saved, .int v_t_keptMany, .int v_t_keptByHands, .int v_t_keptByMould, .ref q_t_keptRows, .ref q_t_keptDebts, .long v_t_hash])), (q_t_rows, .inl (cI, 80, .inl v_t_rows)), (q_t_likely, .inl (cJ, 10, .inr (.inl a8.2.1))), (q_t_likelyThen, .inl (cJ, 10, .inr (.inl a8.2.2)))] H → va_D A0 [(q_t, .inr (10, [.ref q_t_page, .int v_t_pageMany, .ref q_t_readKinds, .ref q_t_readLeaflets, .int v_t_readMany, .int v_t_told, .int v_t_many, .int v_t_lostByHands, .int v_t_lostByMould, .ref q_t_rows, .ref q_t_debts, .int v_t_ringMany, .ref q_t_ring, .ref q_t_line, .ref q_t_groups, .ref q_t_likely, .ref q_t_likelyThen, .int v_t_seedNow, .ref q_t_saved, .int v_t_keptMany, .int v_t_keptByHands, .int v_t_keptByMould, .ref q_t_keptRows, .ref q_t_keptDebts, .long v_t_hash])), (q_t_rows, .inl (cI, 80, .inl v_t_rows)), (q_t_likely, .inl (cJ, 10, .inr (.inl a8.2.1))), (q_t_likelyThen, .inl (cJ, 10, .inr (.inl a8.2.2)))] → va_S A0 s.heap H locs → lv_has ls 8 [(6, .int a8.1)] → W p l e ({ frames := 2, cells := 0, slots := 0, locals := 50 } : Room) s m args below meth c H locs 0 0 Q0 (F0 m 94 ls []) := by
          intro a8 H locs ls h hP hD hS hl
          unfold fX11_when_X53_94 at h
          refine lv_iload hx hb dX11_when_94 (lv_at hl 0 rfl) ?_
          obtain rfl := Option.some.inj h
          exact rt_i hA0 hQ0 hx hb hr hlocks hP hS dX11_when_96
        have L53_10 : ∀ (n : Nat) (z6 : Int32 × Int32 × (Nat → Int64) × (Nat → Int64)) (H : Heap) (locs : List Loc) (ls : Array Slot), iter (fX11_when_L53 v_t_pageMany v_t_readMany v_t_told v_t_many v_t_lostByHands v_t_lostByMould v_t_ringMany v_t_seedNow v_t_keptMany v_t_keptByHands v_t_keptByMould v_t_hash v_t_rows x1 x2 x3 u4) n z6 = some e7 → va_P D vwCl [(q_t, .inr (10, [.ref q_t_page, .int v_t_pageMany, .ref q_t_readKinds, .ref q_t_readLeaflets, .int v_t_readMany, .int v_t_told, .int v_t_many, .int v_t_lostByHands, .int v_t_lostByMould, .ref q_t_rows, .ref q_t_debts, .int v_t_ringMany, .ref q_t_ring, .ref q_t_line, .ref q_t_groups, .ref q_t_likely, .ref q_t_likelyThen, .int v_t_seedNow, .ref q_t_saved, .int v_t_keptMany, .int v_t_keptByHands, .int v_t_keptByMould, .ref q_t_keptRows, .ref q_t_keptDebts, .long v_t_hash])), (q_t_rows, .inl (cI, 80, .inl v_t_rows)), (q_t_likely, .inl (cJ, 10, .inr (.inl z6.2.2.1))), (q_t_likelyThen, .inl (cJ, 10, .inr (.inl z6.2.2.2)))] H → va_D A0 [(q_t, .inr (10, [.ref q_t_page, .int v_t_pageMany, .ref q_t_readKinds, .ref q_t_readLeaflets, .int v_t_readMany, .int v_t_told, .int v_t_many, .int v_t_lostByHands, .int v_t_lostByMould, .ref q_t_rows, .ref q_t_debts, .int v_t_ringMany, .ref q_t_ring, .ref q_t_line, .ref q_t_groups, .ref q_t_likely, .ref q_t_likelyThen, .int v_t_seedNow, .ref q_t_saved, .int v_t_keptMany, .int v_t_keptByHands, .int v_t_keptByMould, .ref q_t_keptRows, .ref q_t_keptDebts, .long v_t_hash])), (q_t_rows, .inl (cI, 80, .inl v_t_rows)), (q_t_likely, .inl (cJ, 10, .inr (.inl z6.2.2.1))), (q_t_likelyThen, .inl (cJ, 10, .inr (.inl z6.2.2.2)))] → va_S A0 s.heap H locs → lv_has ls 8 [(0, .ref q_t), (1, .int x1), (2, .int x2), (3, .int x3), (4, .long u4.1), (6, .int z6.1), (7, .int z6.2.1)] → W p l e ({ frames := 2, cells := 0, slots := 0, locals := 50 } : Room) s m args below meth c H locs 0 0 Q0 (F0 m 53 ls []) := by
          intro n
          induction n with
          | zero => exact fun _ _ _ _ h => (iter_z h).elim
          | succ n ih =>
            intro z6 H locs ls h hP hD hS hl
            obtain ⟨r_e7, h, hn_e7⟩ := iter_s h
            unfold fX11_when_L53 at h
            refine lv_iload hx hb dX11_when_53 (lv_at hl 6 rfl) ?_
            refine lv_iload_n hx hb dX11_when_55 rfl (lv_at hl 2 rfl) ?_
            refine lv_icmp_gt (tgt := 94) hx hb dX11_when_56 (by decide) (fun c11 => ?_) (fun c11 => ?_)
            · skip
              have h := (if_pos c11).symm.trans h
              obtain rfl := Option.some.inj h
              obtain rfl := Option.some.inj hn_e7
              exact X94_9 (z6.1, z6.2.2.1, z6.2.2.2) _ _ _ hc_e7 hP hD hS (lv_sub hl [5] rfl)
            · skip
              have h := (if_neg c11).symm.trans h
              refine lv_aload_n hx hb dX11_when_59 rfl (lv_at hl 0 rfl) ?_
              refine lv_iload_n hx hb dX11_when_60 rfl (lv_at hl 1 rfl) ?_
              refine lv_iload hx hb dX11_when_61 (lv_at hl 6 rfl) ?_
              refine lv_iload_n hx hb dX11_when_63 rfl (lv_at hl 3 rfl) ?_
              obtain ⟨u12, g13, h⟩ := bd_of h
              refine cl_V [(q_t, .inr (10, [.ref q_t_page, .int v_t_pageMany, .ref q_t_readKinds, .ref q_t_readLeaflets, .int v_t_readMany, .int v_t_told, .int v_t_many, .int v_t_lostByHands, .int v_t_lostByMould, .ref q_t_rows, .ref q_t_debts, .int v_t_ringMany, .ref q_t_ring, .ref q_t_line, .ref q_t_groups, .ref q_t_likely, .ref q_t_likelyThen, .int v_t_seedNow, .ref q_t_saved, .int v_t_keptMany, .int v_t_keptByHands, .int v_t_keptByMould, .ref q_t_keptRows, .ref q_t_keptDebts, .long v_t_hash])), (q_t_rows, .inl (cI, 80, .inl v_t_rows)), (q_t_likely, .inl (cJ, 10, .inr (.inl u12.2.1))), (q_t_likelyThen, .inl (cJ, 10, .inr (.inl u12.2.2)))] (As := [.int x1, .int z6.2.1, .int x3]) (rest := []) (rv := (some (.long u12.1))) (c_X11_heldUp l D cI cJ q_t q_t_page q_t_readKinds q_t_readLeaflets q_t_rows q_t_debts q_t_ring q_t_line q_t_groups q_t_likely q_t_likelyThen q_t_saved q_t_keptRows q_t_keptDebts v_t_pageMany v_t_readMany v_t_told v_t_many v_t_lostByHands v_t_lostByMould v_t_ringMany v_t_seedNow v_t_keptMany v_t_keptByHands v_t_keptByMould v_t_hash v_t_rows z6.2.2.1 z6.2.2.2 x1 z6.2.1 x3 u12 g13) ⟨hx, hb, hml, hown, hts⟩ (cwV 3 hts gX11_when_X11_heldUp rfl rfl rfl (by decide +kernel) ⟨(Nat.le_of_ble_eq_true rfl), (Nat.le_of_ble_eq_true rfl)⟩) hK hN hP hD hS [0, 1, 2, 3] rfl (by decide) rfl rfl rfl (q0 := 0) (ci := 10) rfl rfl rfl rfl hl.1 rfl (Nat.le_of_ble_eq_true rfl) dX11_when_64 ⟨Nat.zero_le _, Nat.zero_le _⟩ (fun H locs hP hD hS => ?_)
              show W p l e ({ frames := 2, cells := 0, slots := 0, locals := 50 } : Room) s m args below meth c H locs 0 0 Q0 (F0 m 67 ls [.long u12.1])
              refine lv_lload hx hb dX11_when_67 (lv_at hl 4 rfl) ?_
              refine lv_iload hx hb dX11_when_69 (lv_at hl 6 rfl) ?_
              obtain ⟨u14, g15, h⟩ := bd_of h
              refine cl_S [(q_t, .inr (10, [.ref q_t_page, .int v_t_pageMany, .ref q_t_readKinds, .ref q_t_readLeaflets, .int v_t_readMany, .int v_t_told, .int v_t_many, .int v_t_lostByHands, .int v_t_lostByMould, .ref q_t_rows, .ref q_t_debts, .int v_t_ringMany, .ref q_t_ring, .ref q_t_line, .ref q_t_groups, .ref q_t_likely, .ref q_t_likelyThen, .int v_t_seedNow, .ref q_t_saved, .int v_t_keptMany, .int v_t_keptByHands, .int v_t_keptByMould, .ref q_t_keptRows, .ref q_t_keptDebts, .long v_t_hash])), (q_t_rows, .inl (cI, 80, .inl v_t_rows)), (q_t_likely, .inl (cJ, 10, .inr (.inl u12.2.1))), (q_t_likelyThen, .inl (cJ, 10, .inr (.inl u12.2.2)))] (As := [.int z6.2.1]) (rest := [.long u4.1, .long u12.1]) (rv := (some (.long u14))) (c_X11_power l D cI cJ z6.2.1 u14 g15) ⟨hx, hb, hml, hown, hts⟩ (va_cwS 1 hts gX11_when_X11_power rfl rfl rfl (by decide +kernel) ⟨(Nat.le_of_ble_eq_true rfl), (Nat.le_of_ble_eq_true rfl)⟩) hK hN hP hD hS [] rfl (by decide) rfl rfl rfl rfl hl.1 rfl (Nat.le_of_ble_eq_true rfl) dX11_when_71 ⟨Nat.zero_le _, Nat.zero_le _⟩ (fun H locs hP hD hS => ?_)
              show W p l e ({ frames := 2, cells := 0, slots := 0, locals := 50 } : Room) s m args below meth c H locs 0 0 Q0 (F0 m 74 ls [.long u14, .long u4.1, .long u12.1])
              refine lv_lmul hx hb dX11_when_74 ?_
              refine W.lcmp hx hb dX11_when_75 ?_
              have K86_16 : ∀ (w17 : Int32) (H : Heap) (locs : List Loc) (ls : Array Slot), w17 = (if (lg_cmp u12.1 (u4.1 * u14)) < 0 then z6.1 else z6.2.1 : Int32) → va_P D vwCl [(q_t, .inr (10, [.ref q_t_page, .int v_t_pageMany, .ref q_t_readKinds, .ref q_t_readLeaflets, .int v_t_readMany, .int v_t_told, .int v_t_many, .int v_t_lostByHands, .int v_t_lostByMould, .ref q_t_rows, .ref q_t_debts, .int v_t_ringMany, .ref q_t_ring, .ref q_t_line, .ref q_t_groups, .ref q_t_likely, .ref q_t_likelyThen, .int v_t_seedNow, .ref q_t_saved, .int v_t_keptMany, .int v_t_keptByHands, .int v_t_keptByMould, .ref q_t_keptRows, .ref q_t_keptDebts, .long v_t_hash])), (q_t_rows, .inl (cI, 80, .inl v_t_rows)), (q_t_likely, .inl (cJ, 10, .inr (.inl u12.2.1))), (q_t_likelyThen, .inl (cJ, 10, .inr (.inl u12.2.2)))] H → va_D A0 [(q_t, .inr (10, [.ref q_t_page, .int v_t_pageMany, .ref q_t_readKinds, .ref q_t_readLeaflets, .int v_t_readMany, .int v_t_told, .int v_t_many, .int v_t_lostByHands, .int v_t_lostByMould, .ref q_t_rows, .ref q_t_debts, .int v_t_ringMany, .ref q_t_ring, .ref q_t_line, .ref q_t_groups, .ref q_t_likely, .ref q_t_likelyThen, .int v_t_seedNow, .ref q_t_saved, .int v_t_keptMany, .int v_t_keptByHands, .int v_t_keptByMould, .ref q_t_keptRows, .ref q_t_keptDebts, .long v_t_hash])), (q_t_rows, .inl (cI, 80, .inl v_t_rows)), (q_t_likely, .inl (cJ, 10, .inr (.inl u12.2.1))), (q_t_likelyThen, .inl (cJ, 10, .inr (.inl u12.2.2)))] → va_S A0 s.heap H locs → lv_has ls 8 [(0, .ref q_t), (1, .int x1), (2, .int x2), (3, .int x3), (4, .long u4.1), (7, .int z6.2.1)] → W p l e ({ frames := 2, cells := 0, slots := 0, locals := 50 } : Room) s m args below meth c H locs 0 0 Q0 (F0 m 86 ls [.int w17]) := by
                intro w17 H locs ls e_w17 hP hD hS hl
                subst e_w17
                refine lv_istore (lv' := [(6, .int (if (lg_cmp u12.1 (u4.1 * u14)) < 0 then z6.1 else z6.2.1 : Int32)), (0, .ref q_t), (1, .int x1), (2, .int x2), (3, .int x3), (4, .long u4.1), (7, .int z6.2.1)]) hx hb dX11_when_86 hl (by decide) rfl (fun ls hl => ?_)
                refine lv_iinc (v := (z6.2.1 + 1)) (lv' := [(7, .int (z6.2.1 + 1)), (6, .int (if (lg_cmp u12.1 (u4.1 * u14)) < 0 then z6.1 else z6.2.1 : Int32)), (0, .ref q_t), (1, .int x1), (2, .int x2), (3, .int x3), (4, .long u4.1)]) hx hb dX11_when_88 hl (k := 6) rfl rfl (by decide) rfl (fun ls hl => ?_)
                refine lv_goto (tgt := 53) hx hb dX11_when_91 (by decide) ?_
                obtain rfl := Option.some.inj h
                exact ih ((if (lg_cmp u12.1 (u4.1 * u14)) < 0 then z6.1 else z6.2.1 : Int32), (z6.2.1 + 1), u12.2.1, u12.2.2) _ _ _ hn_e7 hP hD hS (lv_sub hl [2, 3, 4, 5, 6, 1, 0] rfl)
              refine lv_if_lt (tgt := 84) hx hb dX11_when_76 (by decide) (fun c18 => ?_) (fun c18 => ?_)
              · skip
                refine lv_iload hx hb dX11_when_84 (lv_at hl 5 rfl) ?_
                exact K86_16 z6.1 _ _ _ (by rw [if_pos c18]) hP hD hS (lv_sub hl [0, 1, 2, 3, 4, 6] rfl)
              · skip
                refine lv_iload hx hb dX11_when_79 (lv_at hl 6 rfl) ?_
                refine lv_goto (tgt := 86) hx hb dX11_when_81 (by decide) ?_
                exact K86_16 z6.2.1 _ _ _ (by rw [if_neg c18]) hP hD hS (lv_sub hl [0, 1, 2, 3, 4, 6] rfl)
        exact L53_10 FU (0, 1, u4.2.1, u4.2.2) _ _ _ he_e7 hP hD hS (lv_sub hl [3, 4, 5, 6, 2, 1, 0] rfl)
      · skip
        have h := (if_pos c3).symm.trans h
        refine lv_bipush (v := (-102)) hx hb dX11_when_35 (by decide) ?_
        obtain rfl := Option.some.inj h
        exact rt_i hA0 hQ0 hx hb hr hlocks hP hS dX11_when_37
  · skip
    have h := (if_pos c1).symm.trans h
    refine lv_bipush (v := (-101)) hx hb dX11_when_8 (by decide) ?_
    obtain rfl := Option.some.inj h
    exact rt_i hA0 hQ0 hx hb hr hlocks hP hS dX11_when_10
def fX11_orders_X22_149  (a4 : Int32) : Option (Int32) :=
  some a4
def fX11_orders_J139 (z2 : Int32 × Int32) (a12 : Unit) : Option ((Int32 × Int32) ⊕ (Int32)) :=
  some (Sum.inl ((z2.1 + 0), (z2.2 + 1)))
def fX11_orders_J140 (z2 : Int32 × Int32) (a14 : Int32) : Option ((Int32 × Int32) ⊕ (Int32)) :=
  some (Sum.inl ((z2.1 + a14), (z2.2 + 1)))
def fX11_orders_X41_111 (v_t_rows : Nat → Int32) (x1 : Int32) (x2 : Int32) (z2 : Int32 × Int32) (a10 : Int32 × Int32) : Option ((Int32 × Int32) ⊕ (Int32)) :=
  if a10.2 = x2 then (gd (inb ((8 * x1) + 1) 80) (if a10.1 = (v_t_rows ((8 * x1) + 1).toNatClampNeg) then (fX11_orders_J140 z2 1) else (fX11_orders_J139 z2 ()))) else (fX11_orders_J139 z2 ())
def fX11_orders_L41 (v_t_rows : Nat → Int32) (x1 : Int32) (x2 : Int32) (x3 : Int32) (z2 : Int32 × Int32) (z8 : Int32 × Int32 × Int32) : Option ((Int32 × Int32 × Int32) ⊕ (Int32 × Int32)) :=
  if (x2 + x3) ≤ z8.2.2 then (some (Sum.inr (z8.1, z8.2.1))) else (some (Sum.inl ((if (if ((z2.2 >>> (z8.2.2 &&& 31)) &&& 1) = 1 then 1 else 0 : Int32) = 0 then (fX11_byMould (v_t_rows (8 * x1).toNatClampNeg) z8.1) else (fX11_byHand (v_t_rows (8 * x1).toNatClampNeg) z8.1) : Int32), (z8.2.1 + (if (if ((z2.2 >>> (z8.2.2 &&& 31)) &&& 1) = 1 then 1 else 0 : Int32) = 0 then 0 else 1 : Int32)), (z8.2.2 + 1))))
def fX11_orders_L22 (v_t_rows : Nat → Int32) (x1 : Int32) (x2 : Int32) (x3 : Int32) (z2 : Int32 × Int32) : Option ((Int32 × Int32) ⊕ (Int32)) :=
  if (1 <<< ((x2 + x3) &&& 31)) ≤ z2.2 then (some (Sum.inr z2.1)) else ((iter (fX11_orders_L41 v_t_rows x1 x2 x3 z2) FU (9, 0, 0)).bind (fX11_orders_X41_111 v_t_rows x1 x2 z2))
def fX11_orders (v_t_pageMany : Int32) (v_t_readMany : Int32) (v_t_told : Int32) (v_t_many : Int32) (v_t_lostByHands : Int32) (v_t_lostByMould : Int32) (v_t_ringMany : Int32) (v_t_seedNow : Int32) (v_t_keptMany : Int32) (v_t_keptByHands : Int32) (v_t_keptByMould : Int32) (v_t_hash : Int64) (v_t_rows : Nat → Int32) (x1 : Int32) (x2 : Int32) (x3 : Int32) : Option (Int32) :=
  gd (inb (8 * x1) 80) ((iter (fX11_orders_L22 v_t_rows x1 x2 x3) FU (0, 0)).bind (fX11_orders_X22_149))
set_option maxHeartbeats 4000000 in
set_option maxRecDepth 100000 in
theorem c_X11_orders (l : Launch) (D : va_G) (cI cJ : ClassId) (q_t q_t_page q_t_readKinds q_t_readLeaflets q_t_rows q_t_debts q_t_ring q_t_line q_t_groups q_t_likely q_t_likelyThen q_t_saved q_t_keptRows q_t_keptDebts : Nat) (v_t_pageMany : Int32) (v_t_readMany : Int32) (v_t_told : Int32) (v_t_many : Int32) (v_t_lostByHands : Int32) (v_t_lostByMould : Int32) (v_t_ringMany : Int32) (v_t_seedNow : Int32) (v_t_keptMany : Int32) (v_t_keptByHands : Int32) (v_t_keptByMould : Int32) (v_t_hash : Int64) (v_t_rows : Nat → Int32) (x1 : Int32) (x2 : Int32) (x3 : Int32) (z : Int32) (h : fX11_orders v_t_pageMany v_t_readMany v_t_told v_t_many v_t_lostByHands v_t_lostByMould v_t_ringMany v_t_seedNow v_t_keptMany v_t_keptByHands v_t_keptByMould v_t_hash v_t_rows x1 x2 x3 = some z) : Met l yX11_orders wsX11_orders ({ frames := 1, cells := 0, slots := 0, locals := 22 } : Room) (va_Pc [.ref q_t, .int x1, .int x2, .int x3] (preG D cI cJ [(q_t, .inr (10, [.ref q_t_page, .int v_t_pageMany, .ref q_t_readKinds, .ref q_t_readLeaflets, .int v_t_readMany, .int v_t_told, .int v_t_many, .int v_t_lostByHands, .int v_t_lostByMould, .ref q_t_rows, .ref q_t_debts, .int v_t_ringMany, .ref q_t_ring, .ref q_t_line, .ref q_t_groups, .ref q_t_likely, .ref q_t_likelyThen, .int v_t_seedNow, .ref q_t_saved, .int v_t_keptMany, .int v_t_keptByHands, .int v_t_keptByMould, .ref q_t_keptRows, .ref q_t_keptDebts, .long v_t_hash])), (q_t_rows, .inl (cI, 80, .inl v_t_rows))])) (QG D [(q_t, .inr (10, [.ref q_t_page, .int v_t_pageMany, .ref q_t_readKinds, .ref q_t_readLeaflets, .int v_t_readMany, .int v_t_told, .int v_t_many, .int v_t_lostByHands, .int v_t_lostByMould, .ref q_t_rows, .ref q_t_debts, .int v_t_ringMany, .ref q_t_ring, .ref q_t_line, .ref q_t_groups, .ref q_t_likely, .ref q_t_likelyThen, .int v_t_seedNow, .ref q_t_saved, .int v_t_keptMany, .int v_t_keptByHands, .int v_t_keptByMould, .ref q_t_keptRows, .ref q_t_keptDebts, .long v_t_hash])), (q_t_rows, .inl (cI, 80, .inl v_t_rows))] [(q_t, .inr (10, [.ref q_t_page, .int v_t_pageMany, .ref q_t_readKinds, .ref q_t_readLeaflets, .int v_t_readMany, .int v_t_told, .int v_t_many, .int v_t_lostByHands, .int v_t_lostByMould, .ref q_t_rows, .ref q_t_debts, .int v_t_ringMany, .ref q_t_ring, .ref q_t_line, .ref q_t_groups, .ref q_t_likely, .ref q_t_likelyThen, .int v_t_seedNow, .ref q_t_saved, .int v_t_keptMany, .int v_t_keptByHands, .int v_t_keptByMould, .ref q_t_keptRows, .ref q_t_keptDebts, .long v_t_hash])), (q_t_rows, .inl (cI, 80, .inl v_t_rows))] (some (.int z))) 0 0 (fr [(q_t, .inr (10, [.ref q_t_page, .int v_t_pageMany, .ref q_t_readKinds, .ref q_t_readLeaflets, .int v_t_readMany, .int v_t_told, .int v_t_many, .int v_t_lostByHands, .int v_t_lostByMould, .ref q_t_rows, .ref q_t_debts, .int v_t_ringMany, .ref q_t_ring, .ref q_t_line, .ref q_t_groups, .ref q_t_likely, .ref q_t_likelyThen, .int v_t_seedNow, .ref q_t_saved, .int v_t_keptMany, .int v_t_keptByHands, .int v_t_keptByMould, .ref q_t_keptRows, .ref q_t_keptDebts, .long v_t_hash])), (q_t_rows, .inl (cI, 80, .inl v_t_rows))]) := by
  refine Met.ofW (cc := cX11_orders) (maxL := 12) (ret := (some .int)) (by decide) rfl ?_
  intro p e s m args below meth c s₁ B hml hv
  obtain ⟨hargs, hP, hK, hN, hD0⟩ := hv
  have hx := B.exec
  have hb := B.bytes
  have hr := B.returns
  have hts := atoms_spec (ws := wsX11_orders) B.pre
  have hown : s.vm.findClass RX11 = some m.cls := findClass_of_methodNamed B.named
  have hlocks := B.notSynchronized
  have iX11 : ∀ w ∈ wsX110, w ∈ wsX11_orders := by decide +kernel
  have k19 := hts (.fieldLink RX11 19 "PressedFernsModel" "rows" "[I") (by decide +kernel)
  have hD := fr_D hD0
  have hS : va_S (fr [(q_t, .inr (10, [.ref q_t_page, .int v_t_pageMany, .ref q_t_readKinds, .ref q_t_readLeaflets, .int v_t_readMany, .int v_t_told, .int v_t_many, .int v_t_lostByHands, .int v_t_lostByMould, .ref q_t_rows, .ref q_t_debts, .int v_t_ringMany, .ref q_t_ring, .ref q_t_line, .ref q_t_groups, .ref q_t_likely, .ref q_t_likelyThen, .int v_t_seedNow, .ref q_t_saved, .int v_t_keptMany, .int v_t_keptByHands, .int v_t_keptByMould, .ref q_t_keptRows, .ref q_t_keptDebts, .long v_t_hash])), (q_t_rows, .inl (cI, 80, .inl v_t_rows))]) s.heap s.heap [] := va_S.rf
  have hl := lv_entry ([.ref q_t, .int x1, .int x2, .int x3]) (n := 12) (Nat.le_of_ble_eq_true rfl)
  refine W.eq (g2 := F0 m 0 ((lg_sl ([.ref q_t, .int x1, .int x2, .int x3]) ++ List.replicate (12 - (lg_sl ([.ref q_t, .int x1, .int x2, .int x3])).length) Slot.unset).toArray) []) (by rw [hargs, lg_entry_eq]) ?_
  generalize (lg_sl ([.ref q_t, .int x1, .int x2, .int x3]) ++ List.replicate (12 - (lg_sl ([.ref q_t, .int x1, .int x2, .int x3])).length) Slot.unset).toArray = ls at hl ⊢
  have hl : lv_has ls 12 [(0, .ref q_t), (1, .int x1), (2, .int x2), (3, .int x3)] := hl
  show W p l e ({ frames := 1, cells := 0, slots := 0, locals := 22 } : Room) s m args below meth c s.heap [] 0 0 (MQ below (QG D [(q_t, .inr (10, [.ref q_t_page, .int v_t_pageMany, .ref q_t_readKinds, .ref q_t_readLeaflets, .int v_t_readMany, .int v_t_told, .int v_t_many, .int v_t_lostByHands, .int v_t_lostByMould, .ref q_t_rows, .ref q_t_debts, .int v_t_ringMany, .ref q_t_ring, .ref q_t_line, .ref q_t_groups, .ref q_t_likely, .ref q_t_likelyThen, .int v_t_seedNow, .ref q_t_saved, .int v_t_keptMany, .int v_t_keptByHands, .int v_t_keptByMould, .ref q_t_keptRows, .ref q_t_keptDebts, .long v_t_hash])), (q_t_rows, .inl (cI, 80, .inl v_t_rows))] [(q_t, .inr (10, [.ref q_t_page, .int v_t_pageMany, .ref q_t_readKinds, .ref q_t_readLeaflets, .int v_t_readMany, .int v_t_told, .int v_t_many, .int v_t_lostByHands, .int v_t_lostByMould, .ref q_t_rows, .ref q_t_debts, .int v_t_ringMany, .ref q_t_ring, .ref q_t_line, .ref q_t_groups, .ref q_t_likely, .ref q_t_likelyThen, .int v_t_seedNow, .ref q_t_saved, .int v_t_keptMany, .int v_t_keptByHands, .int v_t_keptByMould, .ref q_t_keptRows, .ref q_t_keptDebts, .long v_t_hash])), (q_t_rows, .inl (cI, 80, .inl v_t_rows))] (some (.int z))) args s 0 0 (fr [(q_t, .inr (10, [.ref q_t_page, .int v_t_pageMany, .ref q_t_readKinds, .ref q_t_readLeaflets, .int v_t_readMany, .int v_t_told, .int v_t_many, .int v_t_lostByHands, .int v_t_lostByMould, .ref q_t_rows, .ref q_t_debts, .int v_t_ringMany, .ref q_t_ring, .ref q_t_line, .ref q_t_groups, .ref q_t_likely, .ref q_t_likelyThen, .int v_t_seedNow, .ref q_t_saved, .int v_t_keptMany, .int v_t_keptByHands, .int v_t_keptByMould, .ref q_t_keptRows, .ref q_t_keptDebts, .long v_t_hash])), (q_t_rows, .inl (cI, 80, .inl v_t_rows))])) (F0 m 0 ls [])
  generalize hQ0 : (MQ below (QG D [(q_t, .inr (10, [.ref q_t_page, .int v_t_pageMany, .ref q_t_readKinds, .ref q_t_readLeaflets, .int v_t_readMany, .int v_t_told, .int v_t_many, .int v_t_lostByHands, .int v_t_lostByMould, .ref q_t_rows, .ref q_t_debts, .int v_t_ringMany, .ref q_t_ring, .ref q_t_line, .ref q_t_groups, .ref q_t_likely, .ref q_t_likelyThen, .int v_t_seedNow, .ref q_t_saved, .int v_t_keptMany, .int v_t_keptByHands, .int v_t_keptByMould, .ref q_t_keptRows, .ref q_t_keptDebts, .long v_t_hash])), (q_t_rows, .inl (cI, 80, .inl v_t_rows))] [(q_t, .inr (10, [.ref q_t_page, .int v_t_pageMany, .ref q_t_readKinds, .ref q_t_readLeaflets, .int v_t_readMany, .int v_t_told, .int v_t_many, .int v_t_lostByHands, .int v_t_lostByMould, .ref q_t_rows, .ref q_t_debts, .int v_t_ringMany, .ref q_t_ring, .ref q_t_line, .ref q_t_groups, .ref q_t_likely, .ref q_t_likelyThen, .int v_t_seedNow, .ref q_t_saved, .int v_t_keptMany, .int v_t_keptByHands, .int v_t_keptByMould, .ref q_t_keptRows, .ref q_t_keptDebts, .long v_t_hash])), (q_t_rows, .inl (cI, 80, .inl v_t_rows))] (some (.int z))) args s 0 0 (fr [(q_t, .inr (10, [.ref q_t_page, .int v_t_pageMany, .ref q_t_readKinds, .ref q_t_readLeaflets, .int v_t_readMany, .int v_t_told, .int v_t_many, .int v_t_lostByHands, .int v_t_lostByMould, .ref q_t_rows, .ref q_t_debts, .int v_t_ringMany, .ref q_t_ring, .ref q_t_line, .ref q_t_groups, .ref q_t_likely, .ref q_t_likelyThen, .int v_t_seedNow, .ref q_t_saved, .int v_t_keptMany, .int v_t_keptByHands, .int v_t_keptByMould, .ref q_t_keptRows, .ref q_t_keptDebts, .long v_t_hash])), (q_t_rows, .inl (cI, 80, .inl v_t_rows))])) = Q0
  generalize hA0 : fr [(q_t, .inr (10, [.ref q_t_page, .int v_t_pageMany, .ref q_t_readKinds, .ref q_t_readLeaflets, .int v_t_readMany, .int v_t_told, .int v_t_many, .int v_t_lostByHands, .int v_t_lostByMould, .ref q_t_rows, .ref q_t_debts, .int v_t_ringMany, .ref q_t_ring, .ref q_t_line, .ref q_t_groups, .ref q_t_likely, .ref q_t_likelyThen, .int v_t_seedNow, .ref q_t_saved, .int v_t_keptMany, .int v_t_keptByHands, .int v_t_keptByMould, .ref q_t_keptRows, .ref q_t_keptDebts, .long v_t_hash])), (q_t_rows, .inl (cI, 80, .inl v_t_rows))] = A0 at hD hS
  unfold fX11_orders at h
  refine lv_aload_n hx hb dX11_orders_0 rfl (lv_at hl 0 rfl) ?_
  refine va_get (own := RX11) (ci := 10) (v := .ref q_t_rows) (C := RX11) (T := TX11) (N := 25) hx hb hts iX11 hown hK hP 0 rfl rfl 9 (by decide) k19 (fun _ h9 => h9) rfl dX11_orders_1 ?_
  refine lv_bipush (v := 8) hx hb dX11_orders_4 (by decide) ?_
  refine lv_iload_n hx hb dX11_orders_6 rfl (lv_at hl 1 rfl) ?_
  refine lv_imul hx hb dX11_orders_7 ?_
  obtain ⟨g1, h⟩ := gd_of h
  refine va_iald hx hb hK hP 1 0 rfl rfl (inb_of g1) dX11_orders_8 ?_
  refine lv_istore (lv' := [(4, .int (v_t_rows (8 * x1).toNatClampNeg)), (0, .ref q_t), (1, .int x1), (2, .int x2), (3, .int x3)]) hx hb dX11_orders_9 hl (by decide) rfl (fun ls hl => ?_)
  refine lv_iload_n hx hb dX11_orders_11 rfl (lv_at hl 3 rfl) ?_
  refine lv_iload_n hx hb dX11_orders_12 rfl (lv_at hl 4 rfl) ?_
  refine lv_iadd hx hb dX11_orders_13 ?_
  refine lv_istore (lv' := [(5, .int (x2 + x3)), (4, .int (v_t_rows (8 * x1).toNatClampNeg)), (0, .ref q_t), (1, .int x1), (2, .int x2), (3, .int x3)]) hx hb dX11_orders_14 hl (by decide) rfl (fun ls hl => ?_)
  refine lv_iconst (v := 0) hx hb dX11_orders_16 (by decide) ?_
  refine lv_istore (lv' := [(6, .int 0), (5, .int (x2 + x3)), (4, .int (v_t_rows (8 * x1).toNatClampNeg)), (0, .ref q_t), (1, .int x1), (2, .int x2), (3, .int x3)]) hx hb dX11_orders_17 hl (by decide) rfl (fun ls hl => ?_)
  refine lv_iconst (v := 0) hx hb dX11_orders_19 (by decide) ?_
  refine lv_istore (lv' := [(7, .int 0), (6, .int 0), (5, .int (x2 + x3)), (4, .int (v_t_rows (8 * x1).toNatClampNeg)), (0, .ref q_t), (1, .int x1), (2, .int x2), (3, .int x3)]) hx hb dX11_orders_20 hl (by decide) rfl (fun ls hl => ?_)
  obtain ⟨e3, he_e3, hc_e3⟩ := bd_of h
  have X149_5 : ∀ (a4 : Int32) (H : Heap) (locs : List Loc) (ls : Array Slot), fX11_orders_X22_149 a4 = some z → va_P D vwCl [(q_t, .inr (10, [.ref q_t_page, .int v_t_pageMany, .ref q_t_readKinds, .ref q_t_readLeaflets, .int v_t_readMany, .int v_t_told, .int v_t_many, .int v_t_lostByHands, .int v_t_lostByMould, .ref q_t_rows, .ref q_t_debts, .int v_t_ringMany, .ref q_t_ring, .ref q_t_line, .ref q_t_groups, .ref q_t_likely, .ref q_t_likelyThen, .int v_t_seedNow, .ref q_t_saved, .int v_t_keptMany, .int v_t_keptByHands, .int v_t_keptByMould, .ref q_t_keptRows, .ref q_t_keptDebts, .long v_t_hash])), (q_t_rows, .inl (cI, 80, .inl v_t_rows))] H → va_D A0 [(q_t, .inr (10, [.ref q_t_page, .int v_t_pageMany, .ref q_t_readKinds, .ref q_t_readLeaflets, .int v_t_readMany, .int v_t_told, .int v_t_many, .int v_t_lostByHands, .int v_t_lostByMould, .ref q_t_rows, .ref q_t_debts, .int v_t_ringMany, .ref q_t_ring, .ref q_t_line, .ref q_t_groups, .ref q_t_likely, .ref q_t_likelyThen, .int v_t_seedNow, .ref q_t_saved, .int v_t_keptMany, .int v_t_keptByHands, .int v_t_keptByMould, .ref q_t_keptRows, .ref q_t_keptDebts, .long v_t_hash])), (q_t_rows, .inl (cI, 80, .inl v_t_rows))] → va_S A0 s.heap H locs → lv_has ls 12 [(6, .int a4)] → W p l e ({ frames := 1, cells := 0, slots := 0, locals := 22 } : Room) s m args below meth c H locs 0 0 Q0 (F0 m 149 ls []) := by
    intro a4 H locs ls h hP hD hS hl
    unfold fX11_orders_X22_149 at h
    refine lv_iload hx hb dX11_orders_149 (lv_at hl 0 rfl) ?_
    obtain rfl := Option.some.inj h
    exact rt_i hA0 hQ0 hx hb hr hlocks hP hS dX11_orders_151
  have L22_6 : ∀ (n : Nat) (z2 : Int32 × Int32) (H : Heap) (locs : List Loc) (ls : Array Slot), iter (fX11_orders_L22 v_t_rows x1 x2 x3) n z2 = some e3 → va_P D vwCl [(q_t, .inr (10, [.ref q_t_page, .int v_t_pageMany, .ref q_t_readKinds, .ref q_t_readLeaflets, .int v_t_readMany, .int v_t_told, .int v_t_many, .int v_t_lostByHands, .int v_t_lostByMould, .ref q_t_rows, .ref q_t_debts, .int v_t_ringMany, .ref q_t_ring, .ref q_t_line, .ref q_t_groups, .ref q_t_likely, .ref q_t_likelyThen, .int v_t_seedNow, .ref q_t_saved, .int v_t_keptMany, .int v_t_keptByHands, .int v_t_keptByMould, .ref q_t_keptRows, .ref q_t_keptDebts, .long v_t_hash])), (q_t_rows, .inl (cI, 80, .inl v_t_rows))] H → va_D A0 [(q_t, .inr (10, [.ref q_t_page, .int v_t_pageMany, .ref q_t_readKinds, .ref q_t_readLeaflets, .int v_t_readMany, .int v_t_told, .int v_t_many, .int v_t_lostByHands, .int v_t_lostByMould, .ref q_t_rows, .ref q_t_debts, .int v_t_ringMany, .ref q_t_ring, .ref q_t_line, .ref q_t_groups, .ref q_t_likely, .ref q_t_likelyThen, .int v_t_seedNow, .ref q_t_saved, .int v_t_keptMany, .int v_t_keptByHands, .int v_t_keptByMould, .ref q_t_keptRows, .ref q_t_keptDebts, .long v_t_hash])), (q_t_rows, .inl (cI, 80, .inl v_t_rows))] → va_S A0 s.heap H locs → lv_has ls 12 [(0, .ref q_t), (1, .int x1), (2, .int x2), (4, .int (v_t_rows (8 * x1).toNatClampNeg)), (5, .int (x2 + x3)), (6, .int z2.1), (7, .int z2.2)] → W p l e ({ frames := 1, cells := 0, slots := 0, locals := 22 } : Room) s m args below meth c H locs 0 0 Q0 (F0 m 22 ls []) := by
    intro n
    induction n with
    | zero => exact fun _ _ _ _ h => (iter_z h).elim
    | succ n ih =>
      intro z2 H locs ls h hP hD hS hl
      obtain ⟨r_e3, h, hn_e3⟩ := iter_s h
      unfold fX11_orders_L22 at h
      refine lv_iload hx hb dX11_orders_22 (lv_at hl 6 rfl) ?_
      refine lv_iconst (v := 1) hx hb dX11_orders_24 (by decide) ?_
      refine lv_iload hx hb dX11_orders_25 (lv_at hl 4 rfl) ?_
      refine lv_ishl hx hb dX11_orders_27 ?_
      refine lv_icmp_ge (tgt := 149) hx hb dX11_orders_28 (by decide) (fun c7 => ?_) (fun c7 => ?_)
      · skip
        have h := (if_pos c7).symm.trans h
        obtain rfl := Option.some.inj h
        obtain rfl := Option.some.inj hn_e3
        exact X149_5 z2.1 _ _ _ hc_e3 hP hD hS (lv_sub hl [5] rfl)
      · skip
        have h := (if_neg c7).symm.trans h
        refine lv_bipush (v := 9) hx hb dX11_orders_31 (by decide) ?_
        refine lv_istore (lv' := [(8, .int 9), (0, .ref q_t), (1, .int x1), (2, .int x2), (4, .int (v_t_rows (8 * x1).toNatClampNeg)), (5, .int (x2 + x3)), (6, .int z2.1), (7, .int z2.2)]) hx hb dX11_orders_33 hl (by decide) rfl (fun ls hl => ?_)
        refine lv_iconst (v := 0) hx hb dX11_orders_35 (by decide) ?_
        refine lv_istore (lv' := [(9, .int 0), (8, .int 9), (0, .ref q_t), (1, .int x1), (2, .int x2), (4, .int (v_t_rows (8 * x1).toNatClampNeg)), (5, .int (x2 + x3)), (6, .int z2.1), (7, .int z2.2)]) hx hb dX11_orders_36 hl (by decide) rfl (fun ls hl => ?_)
        refine lv_iconst (v := 0) hx hb dX11_orders_38 (by decide) ?_
        refine lv_istore (lv' := [(10, .int 0), (9, .int 0), (8, .int 9), (0, .ref q_t), (1, .int x1), (2, .int x2), (4, .int (v_t_rows (8 * x1).toNatClampNeg)), (5, .int (x2 + x3)), (6, .int z2.1), (7, .int z2.2)]) hx hb dX11_orders_39 hl (by decide) rfl (fun ls hl => ?_)
        obtain ⟨e9, he_e9, hc_e9⟩ := bd_of h
        have X111_11 : ∀ (a10 : Int32 × Int32) (H : Heap) (locs : List Loc) (ls : Array Slot), fX11_orders_X41_111 v_t_rows x1 x2 z2 a10 = some r_e3 → va_P D vwCl [(q_t, .inr (10, [.ref q_t_page, .int v_t_pageMany, .ref q_t_readKinds, .ref q_t_readLeaflets, .int v_t_readMany, .int v_t_told, .int v_t_many, .int v_t_lostByHands, .int v_t_lostByMould, .ref q_t_rows, .ref q_t_debts, .int v_t_ringMany, .ref q_t_ring, .ref q_t_line, .ref q_t_groups, .ref q_t_likely, .ref q_t_likelyThen, .int v_t_seedNow, .ref q_t_saved, .int v_t_keptMany, .int v_t_keptByHands, .int v_t_keptByMould, .ref q_t_keptRows, .ref q_t_keptDebts, .long v_t_hash])), (q_t_rows, .inl (cI, 80, .inl v_t_rows))] H → va_D A0 [(q_t, .inr (10, [.ref q_t_page, .int v_t_pageMany, .ref q_t_readKinds, .ref q_t_readLeaflets, .int v_t_readMany, .int v_t_told, .int v_t_many, .int v_t_lostByHands, .int v_t_lostByMould, .ref q_t_rows, .ref q_t_debts, .int v_t_ringMany, .ref q_t_ring, .ref q_t_line, .ref q_t_groups, .ref q_t_likely, .ref q_t_likelyThen, .int v_t_seedNow, .ref q_t_saved, .int v_t_keptMany, .int v_t_keptByHands, .int v_t_keptByMould, .ref q_t_keptRows, .ref q_t_keptDebts, .long v_t_hash])), (q_t_rows, .inl (cI, 80, .inl v_t_rows))] → va_S A0 s.heap H locs → lv_has ls 12 [(0, .ref q_t), (1, .int x1), (2, .int x2), (4, .int (v_t_rows (8 * x1).toNatClampNeg)), (5, .int (x2 + x3)), (6, .int z2.1), (7, .int z2.2), (8, .int a10.1), (9, .int a10.2)] → W p l e ({ frames := 1, cells := 0, slots := 0, locals := 22 } : Room) s m args below meth c H locs 0 0 Q0 (F0 m 111 ls []) := by
          intro a10 H locs ls h hP hD hS hl
          unfold fX11_orders_X41_111 at h
          refine lv_iload hx hb dX11_orders_111 (lv_at hl 5 rfl) ?_
          refine lv_iload hx hb dX11_orders_113 (lv_at hl 8 rfl) ?_
          refine lv_iload_n hx hb dX11_orders_115 rfl (lv_at hl 2 rfl) ?_
          have J139_13 : ∀ (a12 : Unit) (H : Heap) (locs : List Loc) (ls : Array Slot), fX11_orders_J139 z2 a12 = some r_e3 → va_P D vwCl [(q_t, .inr (10, [.ref q_t_page, .int v_t_pageMany, .ref q_t_readKinds, .ref q_t_readLeaflets, .int v_t_readMany, .int v_t_told, .int v_t_many, .int v_t_lostByHands, .int v_t_lostByMould, .ref q_t_rows, .ref q_t_debts, .int v_t_ringMany, .ref q_t_ring, .ref q_t_line, .ref q_t_groups, .ref q_t_likely, .ref q_t_likelyThen, .int v_t_seedNow, .ref q_t_saved, .int v_t_keptMany, .int v_t_keptByHands, .int v_t_keptByMould, .ref q_t_keptRows, .ref q_t_keptDebts, .long v_t_hash])), (q_t_rows, .inl (cI, 80, .inl v_t_rows))] H → va_D A0 [(q_t, .inr (10, [.ref q_t_page, .int v_t_pageMany, .ref q_t_readKinds, .ref q_t_readLeaflets, .int v_t_readMany, .int v_t_told, .int v_t_many, .int v_t_lostByHands, .int v_t_lostByMould, .ref q_t_rows, .ref q_t_debts, .int v_t_ringMany, .ref q_t_ring, .ref q_t_line, .ref q_t_groups, .ref q_t_likely, .ref q_t_likelyThen, .int v_t_seedNow, .ref q_t_saved, .int v_t_keptMany, .int v_t_keptByHands, .int v_t_keptByMould, .ref q_t_keptRows, .ref q_t_keptDebts, .long v_t_hash])), (q_t_rows, .inl (cI, 80, .inl v_t_rows))] → va_S A0 s.heap H locs → lv_has ls 12 [(0, .ref q_t), (1, .int x1), (2, .int x2), (4, .int (v_t_rows (8 * x1).toNatClampNeg)), (5, .int (x2 + x3)), (7, .int z2.2)] → W p l e ({ frames := 1, cells := 0, slots := 0, locals := 22 } : Room) s m args below meth c H locs 0 0 Q0 (F0 m 139 ls [.int z2.1]) := by
            intro a12 H locs ls h hP hD hS hl
            unfold fX11_orders_J139 at h
            refine lv_iconst (v := 0) hx hb dX11_orders_139 (by decide) ?_
            refine lv_iadd hx hb dX11_orders_140 ?_
            refine lv_istore (lv' := [(6, .int (z2.1 + 0)), (0, .ref q_t), (1, .int x1), (2, .int x2), (4, .int (v_t_rows (8 * x1).toNatClampNeg)), (5, .int (x2 + x3)), (7, .int z2.2)]) hx hb dX11_orders_141 hl (by decide) rfl (fun ls hl => ?_)
            refine lv_iinc (v := (z2.2 + 1)) (lv' := [(7, .int (z2.2 + 1)), (6, .int (z2.1 + 0)), (0, .ref q_t), (1, .int x1), (2, .int x2), (4, .int (v_t_rows (8 * x1).toNatClampNeg)), (5, .int (x2 + x3))]) hx hb dX11_orders_143 hl (k := 6) rfl rfl (by decide) rfl (fun ls hl => ?_)
            refine lv_goto (tgt := 22) hx hb dX11_orders_146 (by decide) ?_
            obtain rfl := Option.some.inj h
            exact ih ((z2.1 + 0), (z2.2 + 1)) _ _ _ hn_e3 hP hD hS (lv_sub hl [2, 3, 4, 5, 6, 1, 0] rfl)
          have J140_15 : ∀ (a14 : Int32) (H : Heap) (locs : List Loc) (ls : Array Slot), fX11_orders_J140 z2 a14 = some r_e3 → va_P D vwCl [(q_t, .inr (10, [.ref q_t_page, .int v_t_pageMany, .ref q_t_readKinds, .ref q_t_readLeaflets, .int v_t_readMany, .int v_t_told, .int v_t_many, .int v_t_lostByHands, .int v_t_lostByMould, .ref q_t_rows, .ref q_t_debts, .int v_t_ringMany, .ref q_t_ring, .ref q_t_line, .ref q_t_groups, .ref q_t_likely, .ref q_t_likelyThen, .int v_t_seedNow, .ref q_t_saved, .int v_t_keptMany, .int v_t_keptByHands, .int v_t_keptByMould, .ref q_t_keptRows, .ref q_t_keptDebts, .long v_t_hash])), (q_t_rows, .inl (cI, 80, .inl v_t_rows))] H → va_D A0 [(q_t, .inr (10, [.ref q_t_page, .int v_t_pageMany, .ref q_t_readKinds, .ref q_t_readLeaflets, .int v_t_readMany, .int v_t_told, .int v_t_many, .int v_t_lostByHands, .int v_t_lostByMould, .ref q_t_rows, .ref q_t_debts, .int v_t_ringMany, .ref q_t_ring, .ref q_t_line, .ref q_t_groups, .ref q_t_likely, .ref q_t_likelyThen, .int v_t_seedNow, .ref q_t_saved, .int v_t_keptMany, .int v_t_keptByHands, .int v_t_keptByMould, .ref q_t_keptRows, .ref q_t_keptDebts, .long v_t_hash])), (q_t_rows, .inl (cI, 80, .inl v_t_rows))] → va_S A0 s.heap H locs → lv_has ls 12 [(0, .ref q_t), (1, .int x1), (2, .int x2), (4, .int (v_t_rows (8 * x1).toNatClampNeg)), (5, .int (x2 + x3)), (7, .int z2.2)] → W p l e ({ frames := 1, cells := 0, slots := 0, locals := 22 } : Room) s m args below meth c H locs 0 0 Q0 (F0 m 140 ls [.int a14, .int z2.1]) := by
            intro a14 H locs ls h hP hD hS hl
            unfold fX11_orders_J140 at h
            refine lv_iadd hx hb dX11_orders_140 ?_
            refine lv_istore (lv' := [(6, .int (z2.1 + a14)), (0, .ref q_t), (1, .int x1), (2, .int x2), (4, .int (v_t_rows (8 * x1).toNatClampNeg)), (5, .int (x2 + x3)), (7, .int z2.2)]) hx hb dX11_orders_141 hl (by decide) rfl (fun ls hl => ?_)
            refine lv_iinc (v := (z2.2 + 1)) (lv' := [(7, .int (z2.2 + 1)), (6, .int (z2.1 + a14)), (0, .ref q_t), (1, .int x1), (2, .int x2), (4, .int (v_t_rows (8 * x1).toNatClampNeg)), (5, .int (x2 + x3))]) hx hb dX11_orders_143 hl (k := 6) rfl rfl (by decide) rfl (fun ls hl => ?_)
            refine lv_goto (tgt := 22) hx hb dX11_orders_146 (by decide) ?_
            obtain rfl := Option.some.inj h
            exact ih ((z2.1 + a14), (z2.2 + 1)) _ _ _ hn_e3 hP hD hS (lv_sub hl [2, 3, 4, 5, 6, 1, 0] rfl)
          refine lv_icmp_ne (tgt := 139) hx hb dX11_orders_116 (by decide) (fun c16 => ?_) (fun c16 => ?_)
          · skip
            have h := (if_neg c16).symm.trans h
            exact J139_13 () _ _ _ h hP hD hS (lv_sub hl [0, 1, 2, 3, 4, 6] rfl)
          · skip
            have h := (if_pos c16).symm.trans h
            refine lv_iload hx hb dX11_orders_119 (lv_at hl 7 rfl) ?_
            refine lv_aload_n hx hb dX11_orders_121 rfl (lv_at hl 0 rfl) ?_
            refine va_get (own := RX11) (ci := 10) (v := .ref q_t_rows) (C := RX11) (T := TX11) (N := 25) hx hb hts iX11 hown hK hP 0 rfl rfl 9 (by decide) k19 (fun _ h9 => h9) rfl dX11_orders_122 ?_
            refine lv_bipush (v := 8) hx hb dX11_orders_125 (by decide) ?_
            refine lv_iload_n hx hb dX11_orders_127 rfl (lv_at hl 1 rfl) ?_
            refine lv_imul hx hb dX11_orders_128 ?_
            refine lv_iconst (v := 1) hx hb dX11_orders_129 (by decide) ?_
            refine lv_iadd hx hb dX11_orders_130 ?_
            obtain ⟨g17, h⟩ := gd_of h
            refine va_iald hx hb hK hP 1 0 rfl rfl (inb_of g17) dX11_orders_131 ?_
            refine lv_icmp_ne (tgt := 139) hx hb dX11_orders_132 (by decide) (fun c18 => ?_) (fun c18 => ?_)
            · skip
              have h := (if_neg c18).symm.trans h
              exact J139_13 () _ _ _ h hP hD hS (lv_sub hl [0, 1, 2, 3, 4, 6] rfl)
            · skip
              have h := (if_pos c18).symm.trans h
              refine lv_iconst (v := 1) hx hb dX11_orders_135 (by decide) ?_
              refine lv_goto (tgt := 140) hx hb dX11_orders_136 (by decide) ?_
              exact J140_15 1 _ _ _ h hP hD hS (lv_sub hl [0, 1, 2, 3, 4, 6] rfl)
        have L41_19 : ∀ (n : Nat) (z8 : Int32 × Int32 × Int32) (H : Heap) (locs : List Loc) (ls : Array Slot), iter (fX11_orders_L41 v_t_rows x1 x2 x3 z2) n z8 = some e9 → va_P D vwCl [(q_t, .inr (10, [.ref q_t_page, .int v_t_pageMany, .ref q_t_readKinds, .ref q_t_readLeaflets, .int v_t_readMany, .int v_t_told, .int v_t_many, .int v_t_lostByHands, .int v_t_lostByMould, .ref q_t_rows, .ref q_t_debts, .int v_t_ringMany, .ref q_t_ring, .ref q_t_line, .ref q_t_groups, .ref q_t_likely, .ref q_t_likelyThen, .int v_t_seedNow, .ref q_t_saved, .int v_t_keptMany, .int v_t_keptByHands, .int v_t_keptByMould, .ref q_t_keptRows, .ref q_t_keptDebts, .long v_t_hash])), (q_t_rows, .inl (cI, 80, .inl v_t_rows))] H → va_D A0 [(q_t, .inr (10, [.ref q_t_page, .int v_t_pageMany, .ref q_t_readKinds, .ref q_t_readLeaflets, .int v_t_readMany, .int v_t_told, .int v_t_many, .int v_t_lostByHands, .int v_t_lostByMould, .ref q_t_rows, .ref q_t_debts, .int v_t_ringMany, .ref q_t_ring, .ref q_t_line, .ref q_t_groups, .ref q_t_likely, .ref q_t_likelyThen, .int v_t_seedNow, .ref q_t_saved, .int v_t_keptMany, .int v_t_keptByHands, .int v_t_keptByMould, .ref q_t_keptRows, .ref q_t_keptDebts, .long v_t_hash])), (q_t_rows, .inl (cI, 80, .inl v_t_rows))] → va_S A0 s.heap H locs → lv_has ls 12 [(0, .ref q_t), (1, .int x1), (2, .int x2), (4, .int (v_t_rows (8 * x1).toNatClampNeg)), (5, .int (x2 + x3)), (6, .int z2.1), (7, .int z2.2), (8, .int z8.1), (9, .int z8.2.1), (10, .int z8.2.2)] → W p l e ({ frames := 1, cells := 0, slots := 0, locals := 22 } : Room) s m args below meth c H locs 0 0 Q0 (F0 m 41 ls []) := by
          intro n
          induction n with
          | zero => exact fun _ _ _ _ h => (iter_z h).elim
          | succ n ih =>
            intro z8 H locs ls h hP hD hS hl
            obtain ⟨r_e9, h, hn_e9⟩ := iter_s h
            unfold fX11_orders_L41 at h
            refine lv_iload hx hb dX11_orders_41 (lv_at hl 9 rfl) ?_
            refine lv_iload hx hb dX11_orders_43 (lv_at hl 4 rfl) ?_
            refine lv_icmp_ge (tgt := 111) hx hb dX11_orders_45 (by decide) (fun c20 => ?_) (fun c20 => ?_)
            · skip
              have h := (if_pos c20).symm.trans h
              obtain rfl := Option.some.inj h
              obtain rfl := Option.some.inj hn_e9
              exact X111_11 (z8.1, z8.2.1) _ _ _ hc_e9 hP hD hS (lv_sub hl [0, 1, 2, 3, 4, 5, 6, 7, 8] rfl)
            · skip
              have h := (if_neg c20).symm.trans h
              refine lv_iload hx hb dX11_orders_48 (lv_at hl 6 rfl) ?_
              refine lv_iload hx hb dX11_orders_50 (lv_at hl 9 rfl) ?_
              refine lv_ishr hx hb dX11_orders_52 ?_
              refine lv_iconst (v := 1) hx hb dX11_orders_53 (by decide) ?_
              refine lv_iand hx hb dX11_orders_54 ?_
              refine lv_iconst (v := 1) hx hb dX11_orders_55 (by decide) ?_
              have K64_21 : ∀ (w22 : Int32) (H : Heap) (locs : List Loc) (ls : Array Slot), w22 = (if ((z2.2 >>> (z8.2.2 &&& 31)) &&& 1) = 1 then 1 else 0 : Int32) → va_P D vwCl [(q_t, .inr (10, [.ref q_t_page, .int v_t_pageMany, .ref q_t_readKinds, .ref q_t_readLeaflets, .int v_t_readMany, .int v_t_told, .int v_t_many, .int v_t_lostByHands, .int v_t_lostByMould, .ref q_t_rows, .ref q_t_debts, .int v_t_ringMany, .ref q_t_ring, .ref q_t_line, .ref q_t_groups, .ref q_t_likely, .ref q_t_likelyThen, .int v_t_seedNow, .ref q_t_saved, .int v_t_keptMany, .int v_t_keptByHands, .int v_t_keptByMould, .ref q_t_keptRows, .ref q_t_keptDebts, .long v_t_hash])), (q_t_rows, .inl (cI, 80, .inl v_t_rows))] H → va_D A0 [(q_t, .inr (10, [.ref q_t_page, .int v_t_pageMany, .ref q_t_readKinds, .ref q_t_readLeaflets, .int v_t_readMany, .int v_t_told, .int v_t_many, .int v_t_lostByHands, .int v_t_lostByMould, .ref q_t_rows, .ref q_t_debts, .int v_t_ringMany, .ref q_t_ring, .ref q_t_line, .ref q_t_groups, .ref q_t_likely, .ref q_t_likelyThen, .int v_t_seedNow, .ref q_t_saved, .int v_t_keptMany, .int v_t_keptByHands, .int v_t_keptByMould, .ref q_t_keptRows, .ref q_t_keptDebts, .long v_t_hash])), (q_t_rows, .inl (cI, 80, .inl v_t_rows))] → va_S A0 s.heap H locs → lv_has ls 12 [(0, .ref q_t), (1, .int x1), (2, .int x2), (4, .int (v_t_rows (8 * x1).toNatClampNeg)), (5, .int (x2 + x3)), (6, .int z2.1), (7, .int z2.2), (8, .int z8.1), (9, .int z8.2.1), (10, .int z8.2.2)] → W p l e ({ frames := 1, cells := 0, slots := 0, locals := 22 } : Room) s m args below meth c H locs 0 0 Q0 (F0 m 64 ls [.int w22]) := by
                intro w22 H locs ls e_w22 hP hD hS hl
                subst e_w22
                refine lv_istore (lv' := [(11, .int (if ((z2.2 >>> (z8.2.2 &&& 31)) &&& 1) = 1 then 1 else 0 : Int32)), (0, .ref q_t), (1, .int x1), (2, .int x2), (4, .int (v_t_rows (8 * x1).toNatClampNeg)), (5, .int (x2 + x3)), (6, .int z2.1), (7, .int z2.2), (8, .int z8.1), (9, .int z8.2.1), (10, .int z8.2.2)]) hx hb dX11_orders_64 hl (by decide) rfl (fun ls hl => ?_)
                refine lv_iload hx hb dX11_orders_66 (lv_at hl 9 rfl) ?_
                refine lv_iload hx hb dX11_orders_68 (lv_at hl 0 rfl) ?_
                have K78_23 : ∀ (w24 : Int32) (H : Heap) (locs : List Loc) (ls : Array Slot), w24 = (if (if ((z2.2 >>> (z8.2.2 &&& 31)) &&& 1) = 1 then 1 else 0 : Int32) = 0 then 0 else 1 : Int32) → va_P D vwCl [(q_t, .inr (10, [.ref q_t_page, .int v_t_pageMany, .ref q_t_readKinds, .ref q_t_readLeaflets, .int v_t_readMany, .int v_t_told, .int v_t_many, .int v_t_lostByHands, .int v_t_lostByMould, .ref q_t_rows, .ref q_t_debts, .int v_t_ringMany, .ref q_t_ring, .ref q_t_line, .ref q_t_groups, .ref q_t_likely, .ref q_t_likelyThen, .int v_t_seedNow, .ref q_t_saved, .int v_t_keptMany, .int v_t_keptByHands, .int v_t_keptByMould, .ref q_t_keptRows, .ref q_t_keptDebts, .long v_t_hash])), (q_t_rows, .inl (cI, 80, .inl v_t_rows))] H → va_D A0 [(q_t, .inr (10, [.ref q_t_page, .int v_t_pageMany, .ref q_t_readKinds, .ref q_t_readLeaflets, .int v_t_readMany, .int v_t_told, .int v_t_many, .int v_t_lostByHands, .int v_t_lostByMould, .ref q_t_rows, .ref q_t_debts, .int v_t_ringMany, .ref q_t_ring, .ref q_t_line, .ref q_t_groups, .ref q_t_likely, .ref q_t_likelyThen, .int v_t_seedNow, .ref q_t_saved, .int v_t_keptMany, .int v_t_keptByHands, .int v_t_keptByMould, .ref q_t_keptRows, .ref q_t_keptDebts, .long v_t_hash])), (q_t_rows, .inl (cI, 80, .inl v_t_rows))] → va_S A0 s.heap H locs → lv_has ls 12 [(0, .ref q_t), (1, .int x1), (2, .int x2), (4, .int (v_t_rows (8 * x1).toNatClampNeg)), (5, .int (x2 + x3)), (6, .int z2.1), (7, .int z2.2), (8, .int z8.1), (10, .int z8.2.2), (11, .int (if ((z2.2 >>> (z8.2.2 &&& 31)) &&& 1) = 1 then 1 else 0 : Int32))] → W p l e ({ frames := 1, cells := 0, slots := 0, locals := 22 } : Room) s m args below meth c H locs 0 0 Q0 (F0 m 78 ls [.int w24, .int z8.2.1]) := by
                  intro w24 H locs ls e_w24 hP hD hS hl
                  subst e_w24
                  refine lv_iadd hx hb dX11_orders_78 ?_
                  refine lv_istore (lv' := [(9, .int (z8.2.1 + (if (if ((z2.2 >>> (z8.2.2 &&& 31)) &&& 1) = 1 then 1 else 0 : Int32) = 0 then 0 else 1 : Int32))), (0, .ref q_t), (1, .int x1), (2, .int x2), (4, .int (v_t_rows (8 * x1).toNatClampNeg)), (5, .int (x2 + x3)), (6, .int z2.1), (7, .int z2.2), (8, .int z8.1), (10, .int z8.2.2), (11, .int (if ((z2.2 >>> (z8.2.2 &&& 31)) &&& 1) = 1 then 1 else 0 : Int32))]) hx hb dX11_orders_79 hl (by decide) rfl (fun ls hl => ?_)
                  refine lv_iload hx hb dX11_orders_81 (lv_at hl 10 rfl) ?_
                  have K103_25 : ∀ (w26 : Int32) (H : Heap) (locs : List Loc) (ls : Array Slot), w26 = (if (if ((z2.2 >>> (z8.2.2 &&& 31)) &&& 1) = 1 then 1 else 0 : Int32) = 0 then (fX11_byMould (v_t_rows (8 * x1).toNatClampNeg) z8.1) else (fX11_byHand (v_t_rows (8 * x1).toNatClampNeg) z8.1) : Int32) → va_P D vwCl [(q_t, .inr (10, [.ref q_t_page, .int v_t_pageMany, .ref q_t_readKinds, .ref q_t_readLeaflets, .int v_t_readMany, .int v_t_told, .int v_t_many, .int v_t_lostByHands, .int v_t_lostByMould, .ref q_t_rows, .ref q_t_debts, .int v_t_ringMany, .ref q_t_ring, .ref q_t_line, .ref q_t_groups, .ref q_t_likely, .ref q_t_likelyThen, .int v_t_seedNow, .ref q_t_saved, .int v_t_keptMany, .int v_t_keptByHands, .int v_t_keptByMould, .ref q_t_keptRows, .ref q_t_keptDebts, .long v_t_hash])), (q_t_rows, .inl (cI, 80, .inl v_t_rows))] H → va_D A0 [(q_t, .inr (10, [.ref q_t_page, .int v_t_pageMany, .ref q_t_readKinds, .ref q_t_readLeaflets, .int v_t_readMany, .int v_t_told, .int v_t_many, .int v_t_lostByHands, .int v_t_lostByMould, .ref q_t_rows, .ref q_t_debts, .int v_t_ringMany, .ref q_t_ring, .ref q_t_line, .ref q_t_groups, .ref q_t_likely, .ref q_t_likelyThen, .int v_t_seedNow, .ref q_t_saved, .int v_t_keptMany, .int v_t_keptByHands, .int v_t_keptByMould, .ref q_t_keptRows, .ref q_t_keptDebts, .long v_t_hash])), (q_t_rows, .inl (cI, 80, .inl v_t_rows))] → va_S A0 s.heap H locs → lv_has ls 12 [(0, .ref q_t), (1, .int x1), (2, .int x2), (4, .int (v_t_rows (8 * x1).toNatClampNeg)), (5, .int (x2 + x3)), (6, .int z2.1), (7, .int z2.2), (9, .int (z8.2.1 + (if (if ((z2.2 >>> (z8.2.2 &&& 31)) &&& 1) = 1 then 1 else 0 : Int32) = 0 then 0 else 1 : Int32))), (10, .int z8.2.2)] → W p l e ({ frames := 1, cells := 0, slots := 0, locals := 22 } : Room) s m args below meth c H locs 0 0 Q0 (F0 m 103 ls [.int w26]) := by
                    intro w26 H locs ls e_w26 hP hD hS hl
                    subst e_w26
                    refine lv_istore (lv' := [(8, .int (if (if ((z2.2 >>> (z8.2.2 &&& 31)) &&& 1) = 1 then 1 else 0 : Int32) = 0 then (fX11_byMould (v_t_rows (8 * x1).toNatClampNeg) z8.1) else (fX11_byHand (v_t_rows (8 * x1).toNatClampNeg) z8.1) : Int32)), (0, .ref q_t), (1, .int x1), (2, .int x2), (4, .int (v_t_rows (8 * x1).toNatClampNeg)), (5, .int (x2 + x3)), (6, .int z2.1), (7, .int z2.2), (9, .int (z8.2.1 + (if (if ((z2.2 >>> (z8.2.2 &&& 31)) &&& 1) = 1 then 1 else 0 : Int32) = 0 then 0 else 1 : Int32))), (10, .int z8.2.2)]) hx hb dX11_orders_103 hl (by decide) rfl (fun ls hl => ?_)
                    refine lv_iinc (v := (z8.2.2 + 1)) (lv' := [(10, .int (z8.2.2 + 1)), (8, .int (if (if ((z2.2 >>> (z8.2.2 &&& 31)) &&& 1) = 1 then 1 else 0 : Int32) = 0 then (fX11_byMould (v_t_rows (8 * x1).toNatClampNeg) z8.1) else (fX11_byHand (v_t_rows (8 * x1).toNatClampNeg) z8.1) : Int32)), (0, .ref q_t), (1, .int x1), (2, .int x2), (4, .int (v_t_rows (8 * x1).toNatClampNeg)), (5, .int (x2 + x3)), (6, .int z2.1), (7, .int z2.2), (9, .int (z8.2.1 + (if (if ((z2.2 >>> (z8.2.2 &&& 31)) &&& 1) = 1 then 1 else 0 : Int32) = 0 then 0 else 1 : Int32)))]) hx hb dX11_orders_105 hl (k := 9) rfl rfl (by decide) rfl (fun ls hl => ?_)
                    refine lv_goto (tgt := 41) hx hb dX11_orders_108 (by decide) ?_
                    obtain rfl := Option.some.inj h
                    exact ih ((if (if ((z2.2 >>> (z8.2.2 &&& 31)) &&& 1) = 1 then 1 else 0 : Int32) = 0 then (fX11_byMould (v_t_rows (8 * x1).toNatClampNeg) z8.1) else (fX11_byHand (v_t_rows (8 * x1).toNatClampNeg) z8.1) : Int32), (z8.2.1 + (if (if ((z2.2 >>> (z8.2.2 &&& 31)) &&& 1) = 1 then 1 else 0 : Int32) = 0 then 0 else 1 : Int32)), (z8.2.2 + 1)) _ _ _ hn_e9 hP hD hS (lv_sub hl [2, 3, 4, 5, 6, 7, 8, 1, 9, 0] rfl)
                  refine lv_if_eq (tgt := 96) hx hb dX11_orders_83 (by decide) (fun c27 => ?_) (fun c27 => ?_)
                  · skip
                    refine lv_iload hx hb dX11_orders_96 (lv_at hl 4 rfl) ?_
                    refine lv_iload hx hb dX11_orders_98 (lv_at hl 8 rfl) ?_
                    refine cl_S [(q_t, .inr (10, [.ref q_t_page, .int v_t_pageMany, .ref q_t_readKinds, .ref q_t_readLeaflets, .int v_t_readMany, .int v_t_told, .int v_t_many, .int v_t_lostByHands, .int v_t_lostByMould, .ref q_t_rows, .ref q_t_debts, .int v_t_ringMany, .ref q_t_ring, .ref q_t_line, .ref q_t_groups, .ref q_t_likely, .ref q_t_likelyThen, .int v_t_seedNow, .ref q_t_saved, .int v_t_keptMany, .int v_t_keptByHands, .int v_t_keptByMould, .ref q_t_keptRows, .ref q_t_keptDebts, .long v_t_hash])), (q_t_rows, .inl (cI, 80, .inl v_t_rows))] (As := [.int (v_t_rows (8 * x1).toNatClampNeg), .int z8.1]) (rest := []) (rv := (some (.int (fX11_byMould (v_t_rows (8 * x1).toNatClampNeg) z8.1)))) (c_X11_byMould l D cI cJ (v_t_rows (8 * x1).toNatClampNeg) z8.1) ⟨hx, hb, hml, hown, hts⟩ (va_cwS 2 hts gX11_orders_X11_byMould rfl rfl rfl (by decide +kernel) ⟨(Nat.le_of_ble_eq_true rfl), (Nat.le_of_ble_eq_true rfl)⟩) hK hN hP hD hS [] rfl (by decide) rfl rfl rfl rfl hl.1 rfl (Nat.le_of_ble_eq_true rfl) dX11_orders_100 ⟨Nat.zero_le _, Nat.zero_le _⟩ (fun H locs hP hD hS => ?_)
                    show W p l e ({ frames := 1, cells := 0, slots := 0, locals := 22 } : Room) s m args below meth c H locs 0 0 Q0 (F0 m 103 ls [.int (fX11_byMould (v_t_rows (8 * x1).toNatClampNeg) z8.1)])
                    exact K103_25 ((fX11_byMould (v_t_rows (8 * x1).toNatClampNeg) z8.1)) _ _ _ (by rw [if_pos c27]) hP hD hS (lv_sub hl [1, 2, 3, 4, 5, 6, 7, 0, 9] rfl)
                  · skip
                    refine lv_iload hx hb dX11_orders_86 (lv_at hl 4 rfl) ?_
                    refine lv_iload hx hb dX11_orders_88 (lv_at hl 8 rfl) ?_
                    refine cl_S [(q_t, .inr (10, [.ref q_t_page, .int v_t_pageMany, .ref q_t_readKinds, .ref q_t_readLeaflets, .int v_t_readMany, .int v_t_told, .int v_t_many, .int v_t_lostByHands, .int v_t_lostByMould, .ref q_t_rows, .ref q_t_debts, .int v_t_ringMany, .ref q_t_ring, .ref q_t_line, .ref q_t_groups, .ref q_t_likely, .ref q_t_likelyThen, .int v_t_seedNow, .ref q_t_saved, .int v_t_keptMany, .int v_t_keptByHands, .int v_t_keptByMould, .ref q_t_keptRows, .ref q_t_keptDebts, .long v_t_hash])), (q_t_rows, .inl (cI, 80, .inl v_t_rows))] (As := [.int (v_t_rows (8 * x1).toNatClampNeg), .int z8.1]) (rest := []) (rv := (some (.int (fX11_byHand (v_t_rows (8 * x1).toNatClampNeg) z8.1)))) (c_X11_byHand l D cI cJ (v_t_rows (8 * x1).toNatClampNeg) z8.1) ⟨hx, hb, hml, hown, hts⟩ (va_cwS 2 hts gX11_orders_X11_byHand rfl rfl rfl (by decide +kernel) ⟨(Nat.le_of_ble_eq_true rfl), (Nat.le_of_ble_eq_true rfl)⟩) hK hN hP hD hS [] rfl (by decide) rfl rfl rfl rfl hl.1 rfl (Nat.le_of_ble_eq_true rfl) dX11_orders_90 ⟨Nat.zero_le _, Nat.zero_le _⟩ (fun H locs hP hD hS => ?_)
                    show W p l e ({ frames := 1, cells := 0, slots := 0, locals := 22 } : Room) s m args below meth c H locs 0 0 Q0 (F0 m 93 ls [.int (fX11_byHand (v_t_rows (8 * x1).toNatClampNeg) z8.1)])
                    refine lv_goto (tgt := 103) hx hb dX11_orders_93 (by decide) ?_
                    exact K103_25 ((fX11_byHand (v_t_rows (8 * x1).toNatClampNeg) z8.1)) _ _ _ (by rw [if_neg c27]) hP hD hS (lv_sub hl [1, 2, 3, 4, 5, 6, 7, 0, 9] rfl)
                refine lv_if_eq (tgt := 77) hx hb dX11_orders_70 (by decide) (fun c28 => ?_) (fun c28 => ?_)
                · skip
                  refine lv_iconst (v := 0) hx hb dX11_orders_77 (by decide) ?_
                  exact K78_23 0 _ _ _ (by rw [if_pos c28]) hP hD hS (lv_sub hl [1, 2, 3, 4, 5, 6, 7, 8, 10, 0] rfl)
                · skip
                  refine lv_iconst (v := 1) hx hb dX11_orders_73 (by decide) ?_
                  refine lv_goto (tgt := 78) hx hb dX11_orders_74 (by decide) ?_
                  exact K78_23 1 _ _ _ (by rw [if_neg c28]) hP hD hS (lv_sub hl [1, 2, 3, 4, 5, 6, 7, 8, 10, 0] rfl)
              refine lv_icmp_ne (tgt := 63) hx hb dX11_orders_56 (by decide) (fun c29 => ?_) (fun c29 => ?_)
              · skip
                refine lv_iconst (v := 0) hx hb dX11_orders_63 (by decide) ?_
                exact K64_21 0 _ _ _ (by rw [if_neg c29]) hP hD hS (lv_sub hl [0, 1, 2, 3, 4, 5, 6, 7, 8, 9] rfl)
              · skip
                refine lv_iconst (v := 1) hx hb dX11_orders_59 (by decide) ?_
                refine lv_goto (tgt := 64) hx hb dX11_orders_60 (by decide) ?_
                exact K64_21 1 _ _ _ (by rw [if_pos c29]) hP hD hS (lv_sub hl [0, 1, 2, 3, 4, 5, 6, 7, 8, 9] rfl)
        exact L41_19 FU (9, 0, 0) _ _ _ he_e9 hP hD hS (lv_sub hl [3, 4, 5, 6, 7, 8, 9, 2, 1, 0] rfl)
  exact L22_6 FU (0, 0) _ _ _ he_e3 hP hD hS (lv_sub hl [4, 5, 6, 3, 2, 1, 0] rfl)
