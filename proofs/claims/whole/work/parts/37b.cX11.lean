def fX11_as (v_t_pageMany : Int32) (v_t_readMany : Int32) (v_t_told : Int32) (v_t_many : Int32) (v_t_lostByHands : Int32) (v_t_lostByMould : Int32) (v_t_ringMany : Int32) (v_t_seedNow : Int32) (v_t_keptMany : Int32) (v_t_keptByHands : Int32) (v_t_keptByMould : Int32) (v_t_hash : Int64) (v_t_rows : Nat → Int32) (x1 : Int32) (x2 : Int32) : Option (Int32) :=
  if (fX11_isFrond v_t_pageMany v_t_readMany v_t_told v_t_many v_t_lostByHands v_t_lostByMould v_t_ringMany v_t_seedNow v_t_keptMany v_t_keptByHands v_t_keptByMould v_t_hash x1) = 0 then (some (-101)) else (if (fX11_in ((x2 : Int32).toInt64) 0 4) = 0 then (some (-102)) else (gd (inb (8 * x1) 80) (if (if x2 = 0 then 1 else (if x2 = (v_t_rows (8 * x1).toNatClampNeg) then 1 else (if x2 = 1 then (if (v_t_rows (8 * x1).toNatClampNeg) = 4 then 1 else 0 : Int32) else 0 : Int32) : Int32) : Int32) = 0 then (some (-1)) else (some x1))))
set_option maxHeartbeats 4000000 in
set_option maxRecDepth 100000 in
theorem c_X11_as (l : Launch) (D : va_G) (cI cJ : ClassId) (q_t q_t_page q_t_readKinds q_t_readLeaflets q_t_rows q_t_debts q_t_ring q_t_line q_t_groups q_t_likely q_t_likelyThen q_t_saved q_t_keptRows q_t_keptDebts : Nat) (v_t_pageMany : Int32) (v_t_readMany : Int32) (v_t_told : Int32) (v_t_many : Int32) (v_t_lostByHands : Int32) (v_t_lostByMould : Int32) (v_t_ringMany : Int32) (v_t_seedNow : Int32) (v_t_keptMany : Int32) (v_t_keptByHands : Int32) (v_t_keptByMould : Int32) (v_t_hash : Int64) (v_t_rows : Nat → Int32) (x1 : Int32) (x2 : Int32) (z : Int32) (h : fX11_as v_t_pageMany v_t_readMany v_t_told v_t_many v_t_lostByHands v_t_lostByMould v_t_ringMany v_t_seedNow v_t_keptMany v_t_keptByHands v_t_keptByMould v_t_hash v_t_rows x1 x2 = some z) : Met l yX11_as wsX11_as ({ frames := 2, cells := 0, slots := 0, locals := 46 } : Room) (va_Pc [.ref q_t, .int x1, .int x2] (preG D cI cJ [(q_t, .inr (10, [.ref q_t_page, .int v_t_pageMany, .ref q_t_readKinds, .ref q_t_readLeaflets, .int v_t_readMany, .int v_t_told, .int v_t_many, .int v_t_lostByHands, .int v_t_lostByMould, .ref q_t_rows, .ref q_t_debts, .int v_t_ringMany, .ref q_t_ring, .ref q_t_line, .ref q_t_groups, .ref q_t_likely, .ref q_t_likelyThen, .int v_t_seedNow, .ref q_t_saved, .int v_t_keptMany, .int v_t_keptByHands, .int v_t_keptByMould, .ref q_t_keptRows, .ref q_t_keptDebts, .long v_t_hash])), (q_t_rows, .inl (cI, 80, .inl v_t_rows))])) (QG D [(q_t, .inr (10, [.ref q_t_page, .int v_t_pageMany, .ref q_t_readKinds, .ref q_t_readLeaflets, .int v_t_readMany, .int v_t_told, .int v_t_many, .int v_t_lostByHands, .int v_t_lostByMould, .ref q_t_rows, .ref q_t_debts, .int v_t_ringMany, .ref q_t_ring, .ref q_t_line, .ref q_t_groups, .ref q_t_likely, .ref q_t_likelyThen, .int v_t_seedNow, .ref q_t_saved, .int v_t_keptMany, .int v_t_keptByHands, .int v_t_keptByMould, .ref q_t_keptRows, .ref q_t_keptDebts, .long v_t_hash])), (q_t_rows, .inl (cI, 80, .inl v_t_rows))] [(q_t, .inr (10, [.ref q_t_page, .int v_t_pageMany, .ref q_t_readKinds, .ref q_t_readLeaflets, .int v_t_readMany, .int v_t_told, .int v_t_many, .int v_t_lostByHands, .int v_t_lostByMould, .ref q_t_rows, .ref q_t_debts, .int v_t_ringMany, .ref q_t_ring, .ref q_t_line, .ref q_t_groups, .ref q_t_likely, .ref q_t_likelyThen, .int v_t_seedNow, .ref q_t_saved, .int v_t_keptMany, .int v_t_keptByHands, .int v_t_keptByMould, .ref q_t_keptRows, .ref q_t_keptDebts, .long v_t_hash])), (q_t_rows, .inl (cI, 80, .inl v_t_rows))] (some (.int z))) 0 0 (fr [(q_t, .inr (10, [.ref q_t_page, .int v_t_pageMany, .ref q_t_readKinds, .ref q_t_readLeaflets, .int v_t_readMany, .int v_t_told, .int v_t_many, .int v_t_lostByHands, .int v_t_lostByMould, .ref q_t_rows, .ref q_t_debts, .int v_t_ringMany, .ref q_t_ring, .ref q_t_line, .ref q_t_groups, .ref q_t_likely, .ref q_t_likelyThen, .int v_t_seedNow, .ref q_t_saved, .int v_t_keptMany, .int v_t_keptByHands, .int v_t_keptByMould, .ref q_t_keptRows, .ref q_t_keptDebts, .long v_t_hash])), (q_t_rows, .inl (cI, 80, .inl v_t_rows))]) := by
  refine Met.ofW (cc := cX11_as) (maxL := 5) (ret := (some .int)) (by decide) rfl ?_
  intro p e s m args below meth c s₁ B hml hv
  obtain ⟨hargs, hP, hK, hN, hD0⟩ := hv
  have hx := B.exec
  have hb := B.bytes
  have hr := B.returns
  have hts := atoms_spec (ws := wsX11_as) B.pre
  have hown : s.vm.findClass RX11 = some m.cls := findClass_of_methodNamed B.named
  have hlocks := B.notSynchronized
  have iX11 : ∀ w ∈ wsX110, w ∈ wsX11_as := by decide +kernel
  have k19 := hts (.fieldLink RX11 19 "PressedFernsModel" "rows" "[I") (by decide +kernel)
  have hD := fr_D hD0
  have hS : va_S (fr [(q_t, .inr (10, [.ref q_t_page, .int v_t_pageMany, .ref q_t_readKinds, .ref q_t_readLeaflets, .int v_t_readMany, .int v_t_told, .int v_t_many, .int v_t_lostByHands, .int v_t_lostByMould, .ref q_t_rows, .ref q_t_debts, .int v_t_ringMany, .ref q_t_ring, .ref q_t_line, .ref q_t_groups, .ref q_t_likely, .ref q_t_likelyThen, .int v_t_seedNow, .ref q_t_saved, .int v_t_keptMany, .int v_t_keptByHands, .int v_t_keptByMould, .ref q_t_keptRows, .ref q_t_keptDebts, .long v_t_hash])), (q_t_rows, .inl (cI, 80, .inl v_t_rows))]) s.heap s.heap [] := va_S.rf
  have hl := lv_entry ([.ref q_t, .int x1, .int x2]) (n := 5) (Nat.le_of_ble_eq_true rfl)
  refine W.eq (g2 := F0 m 0 ((lg_sl ([.ref q_t, .int x1, .int x2]) ++ List.replicate (5 - (lg_sl ([.ref q_t, .int x1, .int x2])).length) Slot.unset).toArray) []) (by rw [hargs, lg_entry_eq]) ?_
  generalize (lg_sl ([.ref q_t, .int x1, .int x2]) ++ List.replicate (5 - (lg_sl ([.ref q_t, .int x1, .int x2])).length) Slot.unset).toArray = ls at hl ⊢
  have hl : lv_has ls 5 [(0, .ref q_t), (1, .int x1), (2, .int x2)] := hl
  show W p l e ({ frames := 2, cells := 0, slots := 0, locals := 46 } : Room) s m args below meth c s.heap [] 0 0 (MQ below (QG D [(q_t, .inr (10, [.ref q_t_page, .int v_t_pageMany, .ref q_t_readKinds, .ref q_t_readLeaflets, .int v_t_readMany, .int v_t_told, .int v_t_many, .int v_t_lostByHands, .int v_t_lostByMould, .ref q_t_rows, .ref q_t_debts, .int v_t_ringMany, .ref q_t_ring, .ref q_t_line, .ref q_t_groups, .ref q_t_likely, .ref q_t_likelyThen, .int v_t_seedNow, .ref q_t_saved, .int v_t_keptMany, .int v_t_keptByHands, .int v_t_keptByMould, .ref q_t_keptRows, .ref q_t_keptDebts, .long v_t_hash])), (q_t_rows, .inl (cI, 80, .inl v_t_rows))] [(q_t, .inr (10, [.ref q_t_page, .int v_t_pageMany, .ref q_t_readKinds, .ref q_t_readLeaflets, .int v_t_readMany, .int v_t_told, .int v_t_many, .int v_t_lostByHands, .int v_t_lostByMould, .ref q_t_rows, .ref q_t_debts, .int v_t_ringMany, .ref q_t_ring, .ref q_t_line, .ref q_t_groups, .ref q_t_likely, .ref q_t_likelyThen, .int v_t_seedNow, .ref q_t_saved, .int v_t_keptMany, .int v_t_keptByHands, .int v_t_keptByMould, .ref q_t_keptRows, .ref q_t_keptDebts, .long v_t_hash])), (q_t_rows, .inl (cI, 80, .inl v_t_rows))] (some (.int z))) args s 0 0 (fr [(q_t, .inr (10, [.ref q_t_page, .int v_t_pageMany, .ref q_t_readKinds, .ref q_t_readLeaflets, .int v_t_readMany, .int v_t_told, .int v_t_many, .int v_t_lostByHands, .int v_t_lostByMould, .ref q_t_rows, .ref q_t_debts, .int v_t_ringMany, .ref q_t_ring, .ref q_t_line, .ref q_t_groups, .ref q_t_likely, .ref q_t_likelyThen, .int v_t_seedNow, .ref q_t_saved, .int v_t_keptMany, .int v_t_keptByHands, .int v_t_keptByMould, .ref q_t_keptRows, .ref q_t_keptDebts, .long v_t_hash])), (q_t_rows, .inl (cI, 80, .inl v_t_rows))])) (F0 m 0 ls [])
  generalize hQ0 : (MQ below (QG D [(q_t, .inr (10, [.ref q_t_page, .int v_t_pageMany, .ref q_t_readKinds, .ref q_t_readLeaflets, .int v_t_readMany, .int v_t_told, .int v_t_many, .int v_t_lostByHands, .int v_t_lostByMould, .ref q_t_rows, .ref q_t_debts, .int v_t_ringMany, .ref q_t_ring, .ref q_t_line, .ref q_t_groups, .ref q_t_likely, .ref q_t_likelyThen, .int v_t_seedNow, .ref q_t_saved, .int v_t_keptMany, .int v_t_keptByHands, .int v_t_keptByMould, .ref q_t_keptRows, .ref q_t_keptDebts, .long v_t_hash])), (q_t_rows, .inl (cI, 80, .inl v_t_rows))] [(q_t, .inr (10, [.ref q_t_page, .int v_t_pageMany, .ref q_t_readKinds, .ref q_t_readLeaflets, .int v_t_readMany, .int v_t_told, .int v_t_many, .int v_t_lostByHands, .int v_t_lostByMould, .ref q_t_rows, .ref q_t_debts, .int v_t_ringMany, .ref q_t_ring, .ref q_t_line, .ref q_t_groups, .ref q_t_likely, .ref q_t_likelyThen, .int v_t_seedNow, .ref q_t_saved, .int v_t_keptMany, .int v_t_keptByHands, .int v_t_keptByMould, .ref q_t_keptRows, .ref q_t_keptDebts, .long v_t_hash])), (q_t_rows, .inl (cI, 80, .inl v_t_rows))] (some (.int z))) args s 0 0 (fr [(q_t, .inr (10, [.ref q_t_page, .int v_t_pageMany, .ref q_t_readKinds, .ref q_t_readLeaflets, .int v_t_readMany, .int v_t_told, .int v_t_many, .int v_t_lostByHands, .int v_t_lostByMould, .ref q_t_rows, .ref q_t_debts, .int v_t_ringMany, .ref q_t_ring, .ref q_t_line, .ref q_t_groups, .ref q_t_likely, .ref q_t_likelyThen, .int v_t_seedNow, .ref q_t_saved, .int v_t_keptMany, .int v_t_keptByHands, .int v_t_keptByMould, .ref q_t_keptRows, .ref q_t_keptDebts, .long v_t_hash])), (q_t_rows, .inl (cI, 80, .inl v_t_rows))])) = Q0
  generalize hA0 : fr [(q_t, .inr (10, [.ref q_t_page, .int v_t_pageMany, .ref q_t_readKinds, .ref q_t_readLeaflets, .int v_t_readMany, .int v_t_told, .int v_t_many, .int v_t_lostByHands, .int v_t_lostByMould, .ref q_t_rows, .ref q_t_debts, .int v_t_ringMany, .ref q_t_ring, .ref q_t_line, .ref q_t_groups, .ref q_t_likely, .ref q_t_likelyThen, .int v_t_seedNow, .ref q_t_saved, .int v_t_keptMany, .int v_t_keptByHands, .int v_t_keptByMould, .ref q_t_keptRows, .ref q_t_keptDebts, .long v_t_hash])), (q_t_rows, .inl (cI, 80, .inl v_t_rows))] = A0 at hD hS
  unfold fX11_as at h
  refine lv_aload_n hx hb dX11_as_0 rfl (lv_at hl 0 rfl) ?_
  refine lv_iload_n hx hb dX11_as_1 rfl (lv_at hl 1 rfl) ?_
  refine cl_V [(q_t, .inr (10, [.ref q_t_page, .int v_t_pageMany, .ref q_t_readKinds, .ref q_t_readLeaflets, .int v_t_readMany, .int v_t_told, .int v_t_many, .int v_t_lostByHands, .int v_t_lostByMould, .ref q_t_rows, .ref q_t_debts, .int v_t_ringMany, .ref q_t_ring, .ref q_t_line, .ref q_t_groups, .ref q_t_likely, .ref q_t_likelyThen, .int v_t_seedNow, .ref q_t_saved, .int v_t_keptMany, .int v_t_keptByHands, .int v_t_keptByMould, .ref q_t_keptRows, .ref q_t_keptDebts, .long v_t_hash])), (q_t_rows, .inl (cI, 80, .inl v_t_rows))] (As := [.int x1]) (rest := []) (rv := (some (.int (fX11_isFrond v_t_pageMany v_t_readMany v_t_told v_t_many v_t_lostByHands v_t_lostByMould v_t_ringMany v_t_seedNow v_t_keptMany v_t_keptByHands v_t_keptByMould v_t_hash x1)))) (c_X11_isFrond l D cI cJ q_t q_t_page q_t_readKinds q_t_readLeaflets q_t_rows q_t_debts q_t_ring q_t_line q_t_groups q_t_likely q_t_likelyThen q_t_saved q_t_keptRows q_t_keptDebts v_t_pageMany v_t_readMany v_t_told v_t_many v_t_lostByHands v_t_lostByMould v_t_ringMany v_t_seedNow v_t_keptMany v_t_keptByHands v_t_keptByMould v_t_hash x1) ⟨hx, hb, hml, hown, hts⟩ (cwV 1 hts gX11_as_X11_isFrond rfl rfl rfl (by decide +kernel) ⟨(Nat.le_of_ble_eq_true rfl), (Nat.le_of_ble_eq_true rfl)⟩) hK hN hP hD hS [0] rfl (by decide) rfl rfl rfl (q0 := 0) (ci := 10) rfl rfl rfl rfl hl.1 rfl (Nat.le_of_ble_eq_true rfl) dX11_as_2 ⟨Nat.zero_le _, Nat.zero_le _⟩ (fun H locs hP hD hS => ?_)
  show W p l e ({ frames := 2, cells := 0, slots := 0, locals := 46 } : Room) s m args below meth c H locs 0 0 Q0 (F0 m 5 ls [.int (fX11_isFrond v_t_pageMany v_t_readMany v_t_told v_t_many v_t_lostByHands v_t_lostByMould v_t_ringMany v_t_seedNow v_t_keptMany v_t_keptByHands v_t_keptByMould v_t_hash x1)])
  refine lv_if_ne (tgt := 11) hx hb dX11_as_5 (by decide) (fun c1 => ?_) (fun c1 => ?_)
  · skip
    have h := (if_neg c1).symm.trans h
    refine lv_iload_n hx hb dX11_as_11 rfl (lv_at hl 2 rfl) ?_
    refine lv_i2l hx hb dX11_as_12 rfl ?_
    refine lv_lconst (v := 0) hx hb dX11_as_13 (by decide) ?_
    refine lv_ldc2 (own := RX11) (v := 4) hx hb hown (hts (.constantLong RX11 113 (4)) (by decide +kernel)) dX11_as_14 ?_
    refine cl_S [(q_t, .inr (10, [.ref q_t_page, .int v_t_pageMany, .ref q_t_readKinds, .ref q_t_readLeaflets, .int v_t_readMany, .int v_t_told, .int v_t_many, .int v_t_lostByHands, .int v_t_lostByMould, .ref q_t_rows, .ref q_t_debts, .int v_t_ringMany, .ref q_t_ring, .ref q_t_line, .ref q_t_groups, .ref q_t_likely, .ref q_t_likelyThen, .int v_t_seedNow, .ref q_t_saved, .int v_t_keptMany, .int v_t_keptByHands, .int v_t_keptByMould, .ref q_t_keptRows, .ref q_t_keptDebts, .long v_t_hash])), (q_t_rows, .inl (cI, 80, .inl v_t_rows))] (As := [.long ((x2 : Int32).toInt64), .long 0, .long 4]) (rest := []) (rv := (some (.int (fX11_in ((x2 : Int32).toInt64) 0 4)))) (c_X11_in l D cI cJ ((x2 : Int32).toInt64) 0 4) ⟨hx, hb, hml, hown, hts⟩ (va_cwS 3 hts gX11_as_X11_in rfl rfl rfl (by decide +kernel) ⟨(Nat.le_of_ble_eq_true rfl), (Nat.le_of_ble_eq_true rfl)⟩) hK hN hP hD hS [] rfl (by decide) rfl rfl rfl rfl hl.1 rfl (Nat.le_of_ble_eq_true rfl) dX11_as_17 ⟨Nat.zero_le _, Nat.zero_le _⟩ (fun H locs hP hD hS => ?_)
    show W p l e ({ frames := 2, cells := 0, slots := 0, locals := 46 } : Room) s m args below meth c H locs 0 0 Q0 (F0 m 20 ls [.int (fX11_in ((x2 : Int32).toInt64) 0 4)])
    refine lv_if_ne (tgt := 26) hx hb dX11_as_20 (by decide) (fun c2 => ?_) (fun c2 => ?_)
    · skip
      have h := (if_neg c2).symm.trans h
      refine lv_aload_n hx hb dX11_as_26 rfl (lv_at hl 0 rfl) ?_
      refine va_get (own := RX11) (ci := 10) (v := .ref q_t_rows) (C := RX11) (T := TX11) (N := 25) hx hb hts iX11 hown hK hP 0 rfl rfl 9 (by decide) k19 (fun _ h9 => h9) rfl dX11_as_27 ?_
      refine lv_bipush (v := 8) hx hb dX11_as_30 (by decide) ?_
      refine lv_iload_n hx hb dX11_as_32 rfl (lv_at hl 1 rfl) ?_
      refine lv_imul hx hb dX11_as_33 ?_
      obtain ⟨g3, h⟩ := gd_of h
      refine va_iald hx hb hK hP 1 0 rfl rfl (inb_of g3) dX11_as_34 ?_
      refine lv_istore_n (lv' := [(3, .int (v_t_rows (8 * x1).toNatClampNeg)), (0, .ref q_t), (1, .int x1), (2, .int x2)]) hx hb dX11_as_35 rfl hl (by decide) rfl (fun ls hl => ?_)
      refine lv_iload_n hx hb dX11_as_36 rfl (lv_at hl 3 rfl) ?_
      have K60_4 : ∀ (w5 : Int32) (H : Heap) (locs : List Loc) (ls : Array Slot), w5 = (if x2 = 0 then 1 else (if x2 = (v_t_rows (8 * x1).toNatClampNeg) then 1 else (if x2 = 1 then (if (v_t_rows (8 * x1).toNatClampNeg) = 4 then 1 else 0 : Int32) else 0 : Int32) : Int32) : Int32) → va_P D vwCl [(q_t, .inr (10, [.ref q_t_page, .int v_t_pageMany, .ref q_t_readKinds, .ref q_t_readLeaflets, .int v_t_readMany, .int v_t_told, .int v_t_many, .int v_t_lostByHands, .int v_t_lostByMould, .ref q_t_rows, .ref q_t_debts, .int v_t_ringMany, .ref q_t_ring, .ref q_t_line, .ref q_t_groups, .ref q_t_likely, .ref q_t_likelyThen, .int v_t_seedNow, .ref q_t_saved, .int v_t_keptMany, .int v_t_keptByHands, .int v_t_keptByMould, .ref q_t_keptRows, .ref q_t_keptDebts, .long v_t_hash])), (q_t_rows, .inl (cI, 80, .inl v_t_rows))] H → va_D A0 [(q_t, .inr (10, [.ref q_t_page, .int v_t_pageMany, .ref q_t_readKinds, .ref q_t_readLeaflets, .int v_t_readMany, .int v_t_told, .int v_t_many, .int v_t_lostByHands, .int v_t_lostByMould, .ref q_t_rows, .ref q_t_debts, .int v_t_ringMany, .ref q_t_ring, .ref q_t_line, .ref q_t_groups, .ref q_t_likely, .ref q_t_likelyThen, .int v_t_seedNow, .ref q_t_saved, .int v_t_keptMany, .int v_t_keptByHands, .int v_t_keptByMould, .ref q_t_keptRows, .ref q_t_keptDebts, .long v_t_hash])), (q_t_rows, .inl (cI, 80, .inl v_t_rows))] → va_S A0 s.heap H locs → lv_has ls 5 [(1, .int x1)] → W p l e ({ frames := 2, cells := 0, slots := 0, locals := 46 } : Room) s m args below meth c H locs 0 0 Q0 (F0 m 60 ls [.int w5]) := by
        intro w5 H locs ls e_w5 hP hD hS hl
        subst e_w5
        refine lv_istore (lv' := [(4, .int (if x2 = 0 then 1 else (if x2 = (v_t_rows (8 * x1).toNatClampNeg) then 1 else (if x2 = 1 then (if (v_t_rows (8 * x1).toNatClampNeg) = 4 then 1 else 0 : Int32) else 0 : Int32) : Int32) : Int32)), (1, .int x1)]) hx hb dX11_as_60 hl (by decide) rfl (fun ls hl => ?_)
        refine lv_iload hx hb dX11_as_62 (lv_at hl 0 rfl) ?_
        refine lv_if_eq (tgt := 71) hx hb dX11_as_64 (by decide) (fun c6 => ?_) (fun c6 => ?_)
        · skip
          have h := (if_pos c6).symm.trans h
          refine lv_iconst (v := (-1)) hx hb dX11_as_71 (by decide) ?_
          obtain rfl := Option.some.inj h
          exact rt_i hA0 hQ0 hx hb hr hlocks hP hS dX11_as_72
        · skip
          have h := (if_neg c6).symm.trans h
          refine lv_iload_n hx hb dX11_as_67 rfl (lv_at hl 1 rfl) ?_
          refine lv_goto (tgt := 72) hx hb dX11_as_68 (by decide) ?_
          obtain rfl := Option.some.inj h
          exact rt_i hA0 hQ0 hx hb hr hlocks hP hS dX11_as_72
      refine lv_if_eq (tgt := 55) hx hb dX11_as_37 (by decide) (fun c7 => ?_) (fun c7 => ?_)
      · skip
        refine lv_iconst (v := 1) hx hb dX11_as_55 (by decide) ?_
        refine lv_goto (tgt := 60) hx hb dX11_as_56 (by decide) ?_
        exact K60_4 1 _ _ _ (by rw [if_pos c7]) hP hD hS (lv_sub hl [2] rfl)
      · skip
        refine lv_iload_n hx hb dX11_as_40 rfl (lv_at hl 3 rfl) ?_
        refine lv_iload_n hx hb dX11_as_41 rfl (lv_at hl 0 rfl) ?_
        refine lv_icmp_eq (tgt := 55) hx hb dX11_as_42 (by decide) (fun c8 => ?_) (fun c8 => ?_)
        · skip
          refine lv_iconst (v := 1) hx hb dX11_as_55 (by decide) ?_
          refine lv_goto (tgt := 60) hx hb dX11_as_56 (by decide) ?_
          exact K60_4 1 _ _ _ (by rw [if_neg c7, if_pos c8]) hP hD hS (lv_sub hl [2] rfl)
        · skip
          refine lv_iload_n hx hb dX11_as_45 rfl (lv_at hl 3 rfl) ?_
          refine lv_iconst (v := 1) hx hb dX11_as_46 (by decide) ?_
          refine lv_icmp_ne (tgt := 59) hx hb dX11_as_47 (by decide) (fun c9 => ?_) (fun c9 => ?_)
          · skip
            refine lv_iconst (v := 0) hx hb dX11_as_59 (by decide) ?_
            exact K60_4 0 _ _ _ (by rw [if_neg c7, if_neg c8, if_neg c9]) hP hD hS (lv_sub hl [2] rfl)
          · skip
            refine lv_iload_n hx hb dX11_as_50 rfl (lv_at hl 0 rfl) ?_
            refine lv_iconst (v := 4) hx hb dX11_as_51 (by decide) ?_
            refine lv_icmp_ne (tgt := 59) hx hb dX11_as_52 (by decide) (fun c10 => ?_) (fun c10 => ?_)
            · skip
              refine lv_iconst (v := 0) hx hb dX11_as_59 (by decide) ?_
              exact K60_4 0 _ _ _ (by rw [if_neg c7, if_neg c8, if_pos c9, if_neg c10]) hP hD hS (lv_sub hl [2] rfl)
            · skip
              refine lv_iconst (v := 1) hx hb dX11_as_55 (by decide) ?_
              refine lv_goto (tgt := 60) hx hb dX11_as_56 (by decide) ?_
              exact K60_4 1 _ _ _ (by rw [if_neg c7, if_neg c8, if_pos c9, if_pos c10]) hP hD hS (lv_sub hl [2] rfl)
    · skip
      have h := (if_pos c2).symm.trans h
      refine lv_bipush (v := (-102)) hx hb dX11_as_23 (by decide) ?_
      obtain rfl := Option.some.inj h
      exact rt_i hA0 hQ0 hx hb hr hlocks hP hS dX11_as_25
  · skip
    have h := (if_pos c1).symm.trans h
    refine lv_bipush (v := (-101)) hx hb dX11_as_8 (by decide) ?_
    obtain rfl := Option.some.inj h
    exact rt_i hA0 hQ0 hx hb hr hlocks hP hS dX11_as_10
def fX11_snap (v_t_pageMany : Int32) (v_t_readMany : Int32) (v_t_told : Int32) (v_t_many : Int32) (v_t_lostByHands : Int32) (v_t_lostByMould : Int32) (v_t_ringMany : Int32) (v_t_seedNow : Int32) (v_t_keptMany : Int32) (v_t_keptByHands : Int32) (v_t_keptByMould : Int32) (v_t_hash : Int64) (v_t_rows : Nat → Int32) (x1 : Int32) (x2 : Int32) : Option (Int32 × Int32 × (Nat → Int32)) :=
  if (fX11_isFrond v_t_pageMany v_t_readMany v_t_told v_t_many v_t_lostByHands v_t_lostByMould v_t_ringMany v_t_seedNow v_t_keptMany v_t_keptByHands v_t_keptByMould v_t_hash x1) = 0 then (some ((-101), v_t_many, v_t_rows)) else (if (fX11_in ((x2 : Int32).toInt64) 1 8) = 0 then (some ((-102), v_t_many, v_t_rows)) else (gd (inb ((8 * x1) + 2) 80) (if (v_t_rows ((8 * x1) + 2).toNatClampNeg) = (-1) then (some ((-103), v_t_many, v_t_rows)) else (gd (inb ((8 * x1) + 1) 80) (if x2 < (v_t_rows ((8 * x1) + 1).toNatClampNeg) then (if v_t_many = 10 then (some ((-104), v_t_many, v_t_rows)) else ((fX11_begin v_t_pageMany v_t_readMany v_t_told v_t_many v_t_lostByHands v_t_lostByMould v_t_ringMany v_t_seedNow v_t_keptMany v_t_keptByHands v_t_keptByMould v_t_hash (upd v_t_rows ((8 * x1) + 1).toNatClampNeg ((v_t_rows ((8 * x1) + 1).toNatClampNeg) - x2)) 0 x2 ((upd v_t_rows ((8 * x1) + 1).toNatClampNeg ((v_t_rows ((8 * x1) + 1).toNatClampNeg) - x2)) ((8 * x1) + 2).toNatClampNeg)).bind (fun u8 => some (u8.1, u8.2.1, u8.2.2)))) else (some ((-103), v_t_many, v_t_rows)))))))
set_option maxHeartbeats 4000000 in
set_option maxRecDepth 100000 in
theorem c_X11_snap (l : Launch) (D : va_G) (cI cJ : ClassId) (q_t q_t_page q_t_readKinds q_t_readLeaflets q_t_rows q_t_debts q_t_ring q_t_line q_t_groups q_t_likely q_t_likelyThen q_t_saved q_t_keptRows q_t_keptDebts : Nat) (v_t_pageMany : Int32) (v_t_readMany : Int32) (v_t_told : Int32) (v_t_many : Int32) (v_t_lostByHands : Int32) (v_t_lostByMould : Int32) (v_t_ringMany : Int32) (v_t_seedNow : Int32) (v_t_keptMany : Int32) (v_t_keptByHands : Int32) (v_t_keptByMould : Int32) (v_t_hash : Int64) (v_t_rows : Nat → Int32) (x1 : Int32) (x2 : Int32) (z : Int32 × Int32 × (Nat → Int32)) (h : fX11_snap v_t_pageMany v_t_readMany v_t_told v_t_many v_t_lostByHands v_t_lostByMould v_t_ringMany v_t_seedNow v_t_keptMany v_t_keptByHands v_t_keptByMould v_t_hash v_t_rows x1 x2 = some z) : Met l yX11_snap wsX11_snap ({ frames := 2, cells := 0, slots := 0, locals := 46 } : Room) (va_Pc [.ref q_t, .int x1, .int x2] (preG D cI cJ [(q_t, .inr (10, [.ref q_t_page, .int v_t_pageMany, .ref q_t_readKinds, .ref q_t_readLeaflets, .int v_t_readMany, .int v_t_told, .int v_t_many, .int v_t_lostByHands, .int v_t_lostByMould, .ref q_t_rows, .ref q_t_debts, .int v_t_ringMany, .ref q_t_ring, .ref q_t_line, .ref q_t_groups, .ref q_t_likely, .ref q_t_likelyThen, .int v_t_seedNow, .ref q_t_saved, .int v_t_keptMany, .int v_t_keptByHands, .int v_t_keptByMould, .ref q_t_keptRows, .ref q_t_keptDebts, .long v_t_hash])), (q_t_rows, .inl (cI, 80, .inl v_t_rows))])) (QG D [(q_t, .inr (10, [.ref q_t_page, .int v_t_pageMany, .ref q_t_readKinds, .ref q_t_readLeaflets, .int v_t_readMany, .int v_t_told, .int v_t_many, .int v_t_lostByHands, .int v_t_lostByMould, .ref q_t_rows, .ref q_t_debts, .int v_t_ringMany, .ref q_t_ring, .ref q_t_line, .ref q_t_groups, .ref q_t_likely, .ref q_t_likelyThen, .int v_t_seedNow, .ref q_t_saved, .int v_t_keptMany, .int v_t_keptByHands, .int v_t_keptByMould, .ref q_t_keptRows, .ref q_t_keptDebts, .long v_t_hash])), (q_t_rows, .inl (cI, 80, .inl v_t_rows))] [(q_t, .inr (10, [.ref q_t_page, .int v_t_pageMany, .ref q_t_readKinds, .ref q_t_readLeaflets, .int v_t_readMany, .int v_t_told, .int z.2.1, .int v_t_lostByHands, .int v_t_lostByMould, .ref q_t_rows, .ref q_t_debts, .int v_t_ringMany, .ref q_t_ring, .ref q_t_line, .ref q_t_groups, .ref q_t_likely, .ref q_t_likelyThen, .int v_t_seedNow, .ref q_t_saved, .int v_t_keptMany, .int v_t_keptByHands, .int v_t_keptByMould, .ref q_t_keptRows, .ref q_t_keptDebts, .long v_t_hash])), (q_t_rows, .inl (cI, 80, .inl z.2.2))] (some (.int z.1))) 0 0 (fr [(q_t, .inr (10, [.ref q_t_page, .int v_t_pageMany, .ref q_t_readKinds, .ref q_t_readLeaflets, .int v_t_readMany, .int v_t_told, .int v_t_many, .int v_t_lostByHands, .int v_t_lostByMould, .ref q_t_rows, .ref q_t_debts, .int v_t_ringMany, .ref q_t_ring, .ref q_t_line, .ref q_t_groups, .ref q_t_likely, .ref q_t_likelyThen, .int v_t_seedNow, .ref q_t_saved, .int v_t_keptMany, .int v_t_keptByHands, .int v_t_keptByMould, .ref q_t_keptRows, .ref q_t_keptDebts, .long v_t_hash])), (q_t_rows, .inl (cI, 80, .inl v_t_rows))]) := by
  refine Met.ofW (cc := cX11_snap) (maxL := 3) (ret := (some .int)) (by decide) rfl ?_
  intro p e s m args below meth c s₁ B hml hv
  obtain ⟨hargs, hP, hK, hN, hD0⟩ := hv
  have hx := B.exec
  have hb := B.bytes
  have hr := B.returns
  have hts := atoms_spec (ws := wsX11_snap) B.pre
  have hown : s.vm.findClass RX11 = some m.cls := findClass_of_methodNamed B.named
  have hlocks := B.notSynchronized
  have iX11 : ∀ w ∈ wsX110, w ∈ wsX11_snap := by decide +kernel
  have k19 := hts (.fieldLink RX11 19 "PressedFernsModel" "rows" "[I") (by decide +kernel)
  have k88 := hts (.fieldLink RX11 88 "PressedFernsModel" "many" "I") (by decide +kernel)
  have hD := fr_D hD0
  have hS : va_S (fr [(q_t, .inr (10, [.ref q_t_page, .int v_t_pageMany, .ref q_t_readKinds, .ref q_t_readLeaflets, .int v_t_readMany, .int v_t_told, .int v_t_many, .int v_t_lostByHands, .int v_t_lostByMould, .ref q_t_rows, .ref q_t_debts, .int v_t_ringMany, .ref q_t_ring, .ref q_t_line, .ref q_t_groups, .ref q_t_likely, .ref q_t_likelyThen, .int v_t_seedNow, .ref q_t_saved, .int v_t_keptMany, .int v_t_keptByHands, .int v_t_keptByMould, .ref q_t_keptRows, .ref q_t_keptDebts, .long v_t_hash])), (q_t_rows, .inl (cI, 80, .inl v_t_rows))]) s.heap s.heap [] := va_S.rf
  have hl := lv_entry ([.ref q_t, .int x1, .int x2]) (n := 3) (Nat.le_of_ble_eq_true rfl)
  refine W.eq (g2 := F0 m 0 ((lg_sl ([.ref q_t, .int x1, .int x2]) ++ List.replicate (3 - (lg_sl ([.ref q_t, .int x1, .int x2])).length) Slot.unset).toArray) []) (by rw [hargs, lg_entry_eq]) ?_
  generalize (lg_sl ([.ref q_t, .int x1, .int x2]) ++ List.replicate (3 - (lg_sl ([.ref q_t, .int x1, .int x2])).length) Slot.unset).toArray = ls at hl ⊢
  have hl : lv_has ls 3 [(0, .ref q_t), (1, .int x1), (2, .int x2)] := hl
  show W p l e ({ frames := 2, cells := 0, slots := 0, locals := 46 } : Room) s m args below meth c s.heap [] 0 0 (MQ below (QG D [(q_t, .inr (10, [.ref q_t_page, .int v_t_pageMany, .ref q_t_readKinds, .ref q_t_readLeaflets, .int v_t_readMany, .int v_t_told, .int v_t_many, .int v_t_lostByHands, .int v_t_lostByMould, .ref q_t_rows, .ref q_t_debts, .int v_t_ringMany, .ref q_t_ring, .ref q_t_line, .ref q_t_groups, .ref q_t_likely, .ref q_t_likelyThen, .int v_t_seedNow, .ref q_t_saved, .int v_t_keptMany, .int v_t_keptByHands, .int v_t_keptByMould, .ref q_t_keptRows, .ref q_t_keptDebts, .long v_t_hash])), (q_t_rows, .inl (cI, 80, .inl v_t_rows))] [(q_t, .inr (10, [.ref q_t_page, .int v_t_pageMany, .ref q_t_readKinds, .ref q_t_readLeaflets, .int v_t_readMany, .int v_t_told, .int z.2.1, .int v_t_lostByHands, .int v_t_lostByMould, .ref q_t_rows, .ref q_t_debts, .int v_t_ringMany, .ref q_t_ring, .ref q_t_line, .ref q_t_groups, .ref q_t_likely, .ref q_t_likelyThen, .int v_t_seedNow, .ref q_t_saved, .int v_t_keptMany, .int v_t_keptByHands, .int v_t_keptByMould, .ref q_t_keptRows, .ref q_t_keptDebts, .long v_t_hash])), (q_t_rows, .inl (cI, 80, .inl z.2.2))] (some (.int z.1))) args s 0 0 (fr [(q_t, .inr (10, [.ref q_t_page, .int v_t_pageMany, .ref q_t_readKinds, .ref q_t_readLeaflets, .int v_t_readMany, .int v_t_told, .int v_t_many, .int v_t_lostByHands, .int v_t_lostByMould, .ref q_t_rows, .ref q_t_debts, .int v_t_ringMany, .ref q_t_ring, .ref q_t_line, .ref q_t_groups, .ref q_t_likely, .ref q_t_likelyThen, .int v_t_seedNow, .ref q_t_saved, .int v_t_keptMany, .int v_t_keptByHands, .int v_t_keptByMould, .ref q_t_keptRows, .ref q_t_keptDebts, .long v_t_hash])), (q_t_rows, .inl (cI, 80, .inl v_t_rows))])) (F0 m 0 ls [])
  generalize hQ0 : (MQ below (QG D [(q_t, .inr (10, [.ref q_t_page, .int v_t_pageMany, .ref q_t_readKinds, .ref q_t_readLeaflets, .int v_t_readMany, .int v_t_told, .int v_t_many, .int v_t_lostByHands, .int v_t_lostByMould, .ref q_t_rows, .ref q_t_debts, .int v_t_ringMany, .ref q_t_ring, .ref q_t_line, .ref q_t_groups, .ref q_t_likely, .ref q_t_likelyThen, .int v_t_seedNow, .ref q_t_saved, .int v_t_keptMany, .int v_t_keptByHands, .int v_t_keptByMould, .ref q_t_keptRows, .ref q_t_keptDebts, .long v_t_hash])), (q_t_rows, .inl (cI, 80, .inl v_t_rows))] [(q_t, .inr (10, [.ref q_t_page, .int v_t_pageMany, .ref q_t_readKinds, .ref q_t_readLeaflets, .int v_t_readMany, .int v_t_told, .int z.2.1, .int v_t_lostByHands, .int v_t_lostByMould, .ref q_t_rows, .ref q_t_debts, .int v_t_ringMany, .ref q_t_ring, .ref q_t_line, .ref q_t_groups, .ref q_t_likely, .ref q_t_likelyThen, .int v_t_seedNow, .ref q_t_saved, .int v_t_keptMany, .int v_t_keptByHands, .int v_t_keptByMould, .ref q_t_keptRows, .ref q_t_keptDebts, .long v_t_hash])), (q_t_rows, .inl (cI, 80, .inl z.2.2))] (some (.int z.1))) args s 0 0 (fr [(q_t, .inr (10, [.ref q_t_page, .int v_t_pageMany, .ref q_t_readKinds, .ref q_t_readLeaflets, .int v_t_readMany, .int v_t_told, .int v_t_many, .int v_t_lostByHands, .int v_t_lostByMould, .ref q_t_rows, .ref q_t_debts, .int v_t_ringMany, .ref q_t_ring, .ref q_t_line, .ref q_t_groups, .ref q_t_likely, .ref q_t_likelyThen, .int v_t_seedNow, .ref q_t_saved, .int v_t_keptMany, .int v_t_keptByHands, .int v_t_keptByMould, .ref q_t_keptRows, .ref q_t_keptDebts, .long v_t_hash])), (q_t_rows, .inl (cI, 80, .inl v_t_rows))])) = Q0
  generalize hA0 : fr [(q_t, .inr (10, [.ref q_t_page, .int v_t_pageMany, .ref q_t_readKinds, .ref q_t_readLeaflets, .int v_t_readMany, .int v_t_told, .int v_t_many, .int v_t_lostByHands, .int v_t_lostByMould, .ref q_t_rows, .ref q_t_debts, .int v_t_ringMany, .ref q_t_ring, .ref q_t_line, .ref q_t_groups, .ref q_t_likely, .ref q_t_likelyThen, .int v_t_seedNow, .ref q_t_saved, .int v_t_keptMany, .int v_t_keptByHands, .int v_t_keptByMould, .ref q_t_keptRows, .ref q_t_keptDebts, .long v_t_hash])), (q_t_rows, .inl (cI, 80, .inl v_t_rows))] = A0 at hD hS
  unfold fX11_snap at h
  refine lv_aload_n hx hb dX11_snap_0 rfl (lv_at hl 0 rfl) ?_
  refine lv_iload_n hx hb dX11_snap_1 rfl (lv_at hl 1 rfl) ?_
  refine cl_V [(q_t, .inr (10, [.ref q_t_page, .int v_t_pageMany, .ref q_t_readKinds, .ref q_t_readLeaflets, .int v_t_readMany, .int v_t_told, .int v_t_many, .int v_t_lostByHands, .int v_t_lostByMould, .ref q_t_rows, .ref q_t_debts, .int v_t_ringMany, .ref q_t_ring, .ref q_t_line, .ref q_t_groups, .ref q_t_likely, .ref q_t_likelyThen, .int v_t_seedNow, .ref q_t_saved, .int v_t_keptMany, .int v_t_keptByHands, .int v_t_keptByMould, .ref q_t_keptRows, .ref q_t_keptDebts, .long v_t_hash])), (q_t_rows, .inl (cI, 80, .inl v_t_rows))] (As := [.int x1]) (rest := []) (rv := (some (.int (fX11_isFrond v_t_pageMany v_t_readMany v_t_told v_t_many v_t_lostByHands v_t_lostByMould v_t_ringMany v_t_seedNow v_t_keptMany v_t_keptByHands v_t_keptByMould v_t_hash x1)))) (c_X11_isFrond l D cI cJ q_t q_t_page q_t_readKinds q_t_readLeaflets q_t_rows q_t_debts q_t_ring q_t_line q_t_groups q_t_likely q_t_likelyThen q_t_saved q_t_keptRows q_t_keptDebts v_t_pageMany v_t_readMany v_t_told v_t_many v_t_lostByHands v_t_lostByMould v_t_ringMany v_t_seedNow v_t_keptMany v_t_keptByHands v_t_keptByMould v_t_hash x1) ⟨hx, hb, hml, hown, hts⟩ (cwV 1 hts gX11_snap_X11_isFrond rfl rfl rfl (by decide +kernel) ⟨(Nat.le_of_ble_eq_true rfl), (Nat.le_of_ble_eq_true rfl)⟩) hK hN hP hD hS [0] rfl (by decide) rfl rfl rfl (q0 := 0) (ci := 10) rfl rfl rfl rfl hl.1 rfl (Nat.le_of_ble_eq_true rfl) dX11_snap_2 ⟨Nat.zero_le _, Nat.zero_le _⟩ (fun H locs hP hD hS => ?_)
  show W p l e ({ frames := 2, cells := 0, slots := 0, locals := 46 } : Room) s m args below meth c H locs 0 0 Q0 (F0 m 5 ls [.int (fX11_isFrond v_t_pageMany v_t_readMany v_t_told v_t_many v_t_lostByHands v_t_lostByMould v_t_ringMany v_t_seedNow v_t_keptMany v_t_keptByHands v_t_keptByMould v_t_hash x1)])
  refine lv_if_ne (tgt := 11) hx hb dX11_snap_5 (by decide) (fun c1 => ?_) (fun c1 => ?_)
  · skip
    have h := (if_neg c1).symm.trans h
    refine lv_iload_n hx hb dX11_snap_11 rfl (lv_at hl 2 rfl) ?_
    refine lv_i2l hx hb dX11_snap_12 rfl ?_
    refine lv_lconst (v := 1) hx hb dX11_snap_13 (by decide) ?_
    refine lv_ldc2 (own := RX11) (v := 8) hx hb hown (hts (.constantLong RX11 115 (8)) (by decide +kernel)) dX11_snap_14 ?_
    refine cl_S [(q_t, .inr (10, [.ref q_t_page, .int v_t_pageMany, .ref q_t_readKinds, .ref q_t_readLeaflets, .int v_t_readMany, .int v_t_told, .int v_t_many, .int v_t_lostByHands, .int v_t_lostByMould, .ref q_t_rows, .ref q_t_debts, .int v_t_ringMany, .ref q_t_ring, .ref q_t_line, .ref q_t_groups, .ref q_t_likely, .ref q_t_likelyThen, .int v_t_seedNow, .ref q_t_saved, .int v_t_keptMany, .int v_t_keptByHands, .int v_t_keptByMould, .ref q_t_keptRows, .ref q_t_keptDebts, .long v_t_hash])), (q_t_rows, .inl (cI, 80, .inl v_t_rows))] (As := [.long ((x2 : Int32).toInt64), .long 1, .long 8]) (rest := []) (rv := (some (.int (fX11_in ((x2 : Int32).toInt64) 1 8)))) (c_X11_in l D cI cJ ((x2 : Int32).toInt64) 1 8) ⟨hx, hb, hml, hown, hts⟩ (va_cwS 3 hts gX11_snap_X11_in rfl rfl rfl (by decide +kernel) ⟨(Nat.le_of_ble_eq_true rfl), (Nat.le_of_ble_eq_true rfl)⟩) hK hN hP hD hS [] rfl (by decide) rfl rfl rfl rfl hl.1 rfl (Nat.le_of_ble_eq_true rfl) dX11_snap_17 ⟨Nat.zero_le _, Nat.zero_le _⟩ (fun H locs hP hD hS => ?_)
    show W p l e ({ frames := 2, cells := 0, slots := 0, locals := 46 } : Room) s m args below meth c H locs 0 0 Q0 (F0 m 20 ls [.int (fX11_in ((x2 : Int32).toInt64) 1 8)])
    refine lv_if_ne (tgt := 26) hx hb dX11_snap_20 (by decide) (fun c2 => ?_) (fun c2 => ?_)
    · skip
      have h := (if_neg c2).symm.trans h
      refine lv_aload_n hx hb dX11_snap_26 rfl (lv_at hl 0 rfl) ?_
      refine va_get (own := RX11) (ci := 10) (v := .ref q_t_rows) (C := RX11) (T := TX11) (N := 25) hx hb hts iX11 hown hK hP 0 rfl rfl 9 (by decide) k19 (fun _ h9 => h9) rfl dX11_snap_27 ?_
      refine lv_bipush (v := 8) hx hb dX11_snap_30 (by decide) ?_
      refine lv_iload_n hx hb dX11_snap_32 rfl (lv_at hl 1 rfl) ?_
      refine lv_imul hx hb dX11_snap_33 ?_
      refine lv_iconst (v := 2) hx hb dX11_snap_34 (by decide) ?_
      refine lv_iadd hx hb dX11_snap_35 ?_
      obtain ⟨g3, h⟩ := gd_of h
      refine va_iald hx hb hK hP 1 0 rfl rfl (inb_of g3) dX11_snap_36 ?_
      refine lv_iconst (v := (-1)) hx hb dX11_snap_37 (by decide) ?_
      refine lv_icmp_eq (tgt := 56) hx hb dX11_snap_38 (by decide) (fun c4 => ?_) (fun c4 => ?_)
      · skip
        have h := (if_pos c4).symm.trans h
        refine lv_bipush (v := (-103)) hx hb dX11_snap_56 (by decide) ?_
        obtain rfl := Option.some.inj h
        exact rt_i hA0 hQ0 hx hb hr hlocks hP hS dX11_snap_58
      · skip
        have h := (if_neg c4).symm.trans h
        refine lv_aload_n hx hb dX11_snap_41 rfl (lv_at hl 0 rfl) ?_
        refine va_get (own := RX11) (ci := 10) (v := .ref q_t_rows) (C := RX11) (T := TX11) (N := 25) hx hb hts iX11 hown hK hP 0 rfl rfl 9 (by decide) k19 (fun _ h9 => h9) rfl dX11_snap_42 ?_
        refine lv_bipush (v := 8) hx hb dX11_snap_45 (by decide) ?_
        refine lv_iload_n hx hb dX11_snap_47 rfl (lv_at hl 1 rfl) ?_
        refine lv_imul hx hb dX11_snap_48 ?_
        refine lv_iconst (v := 1) hx hb dX11_snap_49 (by decide) ?_
        refine lv_iadd hx hb dX11_snap_50 ?_
        obtain ⟨g5, h⟩ := gd_of h
        refine va_iald hx hb hK hP 1 0 rfl rfl (inb_of g5) dX11_snap_51 ?_
        refine lv_iload_n hx hb dX11_snap_52 rfl (lv_at hl 2 rfl) ?_
        refine lv_icmp_gt (tgt := 59) hx hb dX11_snap_53 (by decide) (fun c6 => ?_) (fun c6 => ?_)
        · skip
          have h := (if_pos c6).symm.trans h
          refine lv_aload_n hx hb dX11_snap_59 rfl (lv_at hl 0 rfl) ?_
          refine va_get (own := RX11) (ci := 10) (v := .int v_t_many) (C := RX11) (T := TX11) (N := 25) hx hb hts iX11 hown hK hP 0 rfl rfl 6 (by decide) k88 (fun _ h9 => h9) rfl dX11_snap_60 ?_
          refine lv_bipush (v := 10) hx hb dX11_snap_63 (by decide) ?_
          refine lv_icmp_ne (tgt := 71) hx hb dX11_snap_65 (by decide) (fun c7 => ?_) (fun c7 => ?_)
          · skip
            have h := (if_neg c7).symm.trans h
            refine lv_aload_n hx hb dX11_snap_71 rfl (lv_at hl 0 rfl) ?_
            refine va_get (own := RX11) (ci := 10) (v := .ref q_t_rows) (C := RX11) (T := TX11) (N := 25) hx hb hts iX11 hown hK hP 0 rfl rfl 9 (by decide) k19 (fun _ h9 => h9) rfl dX11_snap_72 ?_
            refine lv_bipush (v := 8) hx hb dX11_snap_75 (by decide) ?_
            refine lv_iload_n hx hb dX11_snap_77 rfl (lv_at hl 1 rfl) ?_
            refine lv_imul hx hb dX11_snap_78 ?_
            refine lv_iconst (v := 1) hx hb dX11_snap_79 (by decide) ?_
            refine lv_iadd hx hb dX11_snap_80 ?_
            refine lv_dup2_11 hx hb dX11_snap_81 rfl rfl ?_
            refine va_iald hx hb hK hP 1 0 rfl rfl (inb_of g5) dX11_snap_82 ?_
            refine lv_iload_n hx hb dX11_snap_83 rfl (lv_at hl 2 rfl) ?_
            refine lv_isub hx hb dX11_snap_84 ?_
            refine va_iast hx hb hK hP hD hS 1 0 rfl rfl (inb_of g5) dX11_snap_85 (fun H locs hP hD hS => ?_)
            have hP : va_P D vwCl [(q_t, .inr (10, [.ref q_t_page, .int v_t_pageMany, .ref q_t_readKinds, .ref q_t_readLeaflets, .int v_t_readMany, .int v_t_told, .int v_t_many, .int v_t_lostByHands, .int v_t_lostByMould, .ref q_t_rows, .ref q_t_debts, .int v_t_ringMany, .ref q_t_ring, .ref q_t_line, .ref q_t_groups, .ref q_t_likely, .ref q_t_likelyThen, .int v_t_seedNow, .ref q_t_saved, .int v_t_keptMany, .int v_t_keptByHands, .int v_t_keptByMould, .ref q_t_keptRows, .ref q_t_keptDebts, .long v_t_hash])), (q_t_rows, .inl (cI, 80, .inl (upd v_t_rows ((8 * x1) + 1).toNatClampNeg ((v_t_rows ((8 * x1) + 1).toNatClampNeg) - x2))))] H := hP
            have hD : va_D A0 [(q_t, .inr (10, [.ref q_t_page, .int v_t_pageMany, .ref q_t_readKinds, .ref q_t_readLeaflets, .int v_t_readMany, .int v_t_told, .int v_t_many, .int v_t_lostByHands, .int v_t_lostByMould, .ref q_t_rows, .ref q_t_debts, .int v_t_ringMany, .ref q_t_ring, .ref q_t_line, .ref q_t_groups, .ref q_t_likely, .ref q_t_likelyThen, .int v_t_seedNow, .ref q_t_saved, .int v_t_keptMany, .int v_t_keptByHands, .int v_t_keptByMould, .ref q_t_keptRows, .ref q_t_keptDebts, .long v_t_hash])), (q_t_rows, .inl (cI, 80, .inl (upd v_t_rows ((8 * x1) + 1).toNatClampNeg ((v_t_rows ((8 * x1) + 1).toNatClampNeg) - x2))))] := hD
            refine lv_aload_n hx hb dX11_snap_86 rfl (lv_at hl 0 rfl) ?_
            refine lv_iconst (v := 0) hx hb dX11_snap_87 (by decide) ?_
            refine lv_iload_n hx hb dX11_snap_88 rfl (lv_at hl 2 rfl) ?_
            refine lv_aload_n hx hb dX11_snap_89 rfl (lv_at hl 0 rfl) ?_
            refine va_get (own := RX11) (ci := 10) (v := .ref q_t_rows) (C := RX11) (T := TX11) (N := 25) hx hb hts iX11 hown hK hP 0 rfl rfl 9 (by decide) k19 (fun _ h9 => h9) rfl dX11_snap_90 ?_
            refine lv_bipush (v := 8) hx hb dX11_snap_93 (by decide) ?_
            refine lv_iload_n hx hb dX11_snap_95 rfl (lv_at hl 1 rfl) ?_
            refine lv_imul hx hb dX11_snap_96 ?_
            refine lv_iconst (v := 2) hx hb dX11_snap_97 (by decide) ?_
            refine lv_iadd hx hb dX11_snap_98 ?_
            refine va_iald hx hb hK hP 1 0 rfl rfl (inb_of g3) dX11_snap_99 ?_
            obtain ⟨u8, g9, h⟩ := bd_of h
            refine cl_V [(q_t, .inr (10, [.ref q_t_page, .int v_t_pageMany, .ref q_t_readKinds, .ref q_t_readLeaflets, .int v_t_readMany, .int v_t_told, .int u8.2.1, .int v_t_lostByHands, .int v_t_lostByMould, .ref q_t_rows, .ref q_t_debts, .int v_t_ringMany, .ref q_t_ring, .ref q_t_line, .ref q_t_groups, .ref q_t_likely, .ref q_t_likelyThen, .int v_t_seedNow, .ref q_t_saved, .int v_t_keptMany, .int v_t_keptByHands, .int v_t_keptByMould, .ref q_t_keptRows, .ref q_t_keptDebts, .long v_t_hash])), (q_t_rows, .inl (cI, 80, .inl u8.2.2))] (As := [.int 0, .int x2, .int ((upd v_t_rows ((8 * x1) + 1).toNatClampNeg ((v_t_rows ((8 * x1) + 1).toNatClampNeg) - x2)) ((8 * x1) + 2).toNatClampNeg)]) (rest := []) (rv := (some (.int u8.1))) (c_X11_begin l D cI cJ q_t q_t_page q_t_readKinds q_t_readLeaflets q_t_rows q_t_debts q_t_ring q_t_line q_t_groups q_t_likely q_t_likelyThen q_t_saved q_t_keptRows q_t_keptDebts v_t_pageMany v_t_readMany v_t_told v_t_many v_t_lostByHands v_t_lostByMould v_t_ringMany v_t_seedNow v_t_keptMany v_t_keptByHands v_t_keptByMould v_t_hash (upd v_t_rows ((8 * x1) + 1).toNatClampNeg ((v_t_rows ((8 * x1) + 1).toNatClampNeg) - x2)) 0 x2 ((upd v_t_rows ((8 * x1) + 1).toNatClampNeg ((v_t_rows ((8 * x1) + 1).toNatClampNeg) - x2)) ((8 * x1) + 2).toNatClampNeg) u8 g9) ⟨hx, hb, hml, hown, hts⟩ (cwV 3 hts gX11_snap_X11_begin rfl rfl rfl (by decide +kernel) ⟨(Nat.le_of_ble_eq_true rfl), (Nat.le_of_ble_eq_true rfl)⟩) hK hN hP hD hS [0, 1] rfl (by decide) rfl rfl rfl (q0 := 0) (ci := 10) rfl rfl rfl rfl hl.1 rfl (Nat.le_of_ble_eq_true rfl) dX11_snap_100 ⟨Nat.zero_le _, Nat.zero_le _⟩ (fun H locs hP hD hS => ?_)
            show W p l e ({ frames := 2, cells := 0, slots := 0, locals := 46 } : Room) s m args below meth c H locs 0 0 Q0 (F0 m 103 ls [.int u8.1])
            obtain rfl := Option.some.inj h
            exact rt_i hA0 hQ0 hx hb hr hlocks hP hS dX11_snap_103
          · skip
            have h := (if_pos c7).symm.trans h
            refine lv_bipush (v := (-104)) hx hb dX11_snap_68 (by decide) ?_
            obtain rfl := Option.some.inj h
            exact rt_i hA0 hQ0 hx hb hr hlocks hP hS dX11_snap_70
        · skip
          have h := (if_neg c6).symm.trans h
          refine lv_bipush (v := (-103)) hx hb dX11_snap_56 (by decide) ?_
          obtain rfl := Option.some.inj h
          exact rt_i hA0 hQ0 hx hb hr hlocks hP hS dX11_snap_58
    · skip
      have h := (if_pos c2).symm.trans h
      refine lv_bipush (v := (-102)) hx hb dX11_snap_23 (by decide) ?_
      obtain rfl := Option.some.inj h
      exact rt_i hA0 hQ0 hx hb hr hlocks hP hS dX11_snap_25
  · skip
    have h := (if_pos c1).symm.trans h
    refine lv_bipush (v := (-101)) hx hb dX11_snap_8 (by decide) ?_
    obtain rfl := Option.some.inj h
    exact rt_i hA0 hQ0 hx hb hr hlocks hP hS dX11_snap_10
def fX11_hand_X32_64 (v_t_rows : Nat → Int32) (x1 : Int32) (x2 : Int32) (a6 : (Nat → Int32)) : Option (Int32 × (Nat → Int32)) :=
  gd (inb ((8 * x1) + 2) 80) (gd (inb ((8 * x1) + 4) 80) (some (((v_t_rows ((8 * x1) + 1).toNatClampNeg) - ((upd (upd a6 ((8 * x1) + 4).toNatClampNeg (a6 ((8 * x1) + 2).toNatClampNeg)) ((8 * x1) + 2).toNatClampNeg x2) ((8 * x1) + 1).toNatClampNeg)), (upd (upd a6 ((8 * x1) + 4).toNatClampNeg (a6 ((8 * x1) + 2).toNatClampNeg)) ((8 * x1) + 2).toNatClampNeg x2))))
def fX11_hand_L32 (x1 : Int32) (z4 : Int32 × (Nat → Int32)) : Option ((Int32 × (Nat → Int32)) ⊕ ((Nat → Int32))) :=
  if z4.1 ≤ 4 then (some (Sum.inr z4.2)) else (gd (inb (((8 * x1) + z4.1) - 1) 80) (gd (inb ((8 * x1) + z4.1) 80) (some (Sum.inl ((z4.1 + (-1)), (upd z4.2 ((8 * x1) + z4.1).toNatClampNeg (z4.2 (((8 * x1) + z4.1) - 1).toNatClampNeg)))))))
def fX11_hand (v_t_pageMany : Int32) (v_t_readMany : Int32) (v_t_told : Int32) (v_t_many : Int32) (v_t_lostByHands : Int32) (v_t_lostByMould : Int32) (v_t_ringMany : Int32) (v_t_seedNow : Int32) (v_t_keptMany : Int32) (v_t_keptByHands : Int32) (v_t_keptByMould : Int32) (v_t_hash : Int64) (v_t_rows : Nat → Int32) (x1 : Int32) (x2 : Int32) : Option (Int32 × (Nat → Int32)) :=
  gd (inb ((8 * x1) + 1) 80) ((fX11_worth v_t_pageMany v_t_readMany v_t_told v_t_many v_t_lostByHands v_t_lostByMould v_t_ringMany v_t_seedNow v_t_keptMany v_t_keptByHands v_t_keptByMould v_t_hash v_t_rows x1).bind (fun u2 => (iter (fX11_hand_L32 x1) FU (7, (upd v_t_rows ((8 * x1) + 1).toNatClampNeg u2))).bind (fX11_hand_X32_64 v_t_rows x1 x2)))
set_option maxHeartbeats 4000000 in
set_option maxRecDepth 100000 in
theorem c_X11_hand (l : Launch) (D : va_G) (cI cJ : ClassId) (q_t q_t_page q_t_readKinds q_t_readLeaflets q_t_rows q_t_debts q_t_ring q_t_line q_t_groups q_t_likely q_t_likelyThen q_t_saved q_t_keptRows q_t_keptDebts : Nat) (v_t_pageMany : Int32) (v_t_readMany : Int32) (v_t_told : Int32) (v_t_many : Int32) (v_t_lostByHands : Int32) (v_t_lostByMould : Int32) (v_t_ringMany : Int32) (v_t_seedNow : Int32) (v_t_keptMany : Int32) (v_t_keptByHands : Int32) (v_t_keptByMould : Int32) (v_t_hash : Int64) (v_t_rows : Nat → Int32) (x1 : Int32) (x2 : Int32) (z : Int32 × (Nat → Int32)) (h : fX11_hand v_t_pageMany v_t_readMany v_t_told v_t_many v_t_lostByHands v_t_lostByMould v_t_ringMany v_t_seedNow v_t_keptMany v_t_keptByHands v_t_keptByMould v_t_hash v_t_rows x1 x2 = some z) : Met l yX11_hand wsX11_hand ({ frames := 2, cells := 0, slots := 0, locals := 43 } : Room) (va_Pc [.ref q_t, .int x1, .int x2] (preG D cI cJ [(q_t, .inr (10, [.ref q_t_page, .int v_t_pageMany, .ref q_t_readKinds, .ref q_t_readLeaflets, .int v_t_readMany, .int v_t_told, .int v_t_many, .int v_t_lostByHands, .int v_t_lostByMould, .ref q_t_rows, .ref q_t_debts, .int v_t_ringMany, .ref q_t_ring, .ref q_t_line, .ref q_t_groups, .ref q_t_likely, .ref q_t_likelyThen, .int v_t_seedNow, .ref q_t_saved, .int v_t_keptMany, .int v_t_keptByHands, .int v_t_keptByMould, .ref q_t_keptRows, .ref q_t_keptDebts, .long v_t_hash])), (q_t_rows, .inl (cI, 80, .inl v_t_rows))])) (QG D [(q_t, .inr (10, [.ref q_t_page, .int v_t_pageMany, .ref q_t_readKinds, .ref q_t_readLeaflets, .int v_t_readMany, .int v_t_told, .int v_t_many, .int v_t_lostByHands, .int v_t_lostByMould, .ref q_t_rows, .ref q_t_debts, .int v_t_ringMany, .ref q_t_ring, .ref q_t_line, .ref q_t_groups, .ref q_t_likely, .ref q_t_likelyThen, .int v_t_seedNow, .ref q_t_saved, .int v_t_keptMany, .int v_t_keptByHands, .int v_t_keptByMould, .ref q_t_keptRows, .ref q_t_keptDebts, .long v_t_hash])), (q_t_rows, .inl (cI, 80, .inl v_t_rows))] [(q_t, .inr (10, [.ref q_t_page, .int v_t_pageMany, .ref q_t_readKinds, .ref q_t_readLeaflets, .int v_t_readMany, .int v_t_told, .int v_t_many, .int v_t_lostByHands, .int v_t_lostByMould, .ref q_t_rows, .ref q_t_debts, .int v_t_ringMany, .ref q_t_ring, .ref q_t_line, .ref q_t_groups, .ref q_t_likely, .ref q_t_likelyThen, .int v_t_seedNow, .ref q_t_saved, .int v_t_keptMany, .int v_t_keptByHands, .int v_t_keptByMould, .ref q_t_keptRows, .ref q_t_keptDebts, .long v_t_hash])), (q_t_rows, .inl (cI, 80, .inl z.2))] (some (.int z.1))) 0 0 (fr [(q_t, .inr (10, [.ref q_t_page, .int v_t_pageMany, .ref q_t_readKinds, .ref q_t_readLeaflets, .int v_t_readMany, .int v_t_told, .int v_t_many, .int v_t_lostByHands, .int v_t_lostByMould, .ref q_t_rows, .ref q_t_debts, .int v_t_ringMany, .ref q_t_ring, .ref q_t_line, .ref q_t_groups, .ref q_t_likely, .ref q_t_likelyThen, .int v_t_seedNow, .ref q_t_saved, .int v_t_keptMany, .int v_t_keptByHands, .int v_t_keptByMould, .ref q_t_keptRows, .ref q_t_keptDebts, .long v_t_hash])), (q_t_rows, .inl (cI, 80, .inl v_t_rows))]) := by
  refine Met.ofW (cc := cX11_hand) (maxL := 6) (ret := (some .int)) (by decide) rfl ?_
  intro p e s m args below meth c s₁ B hml hv
  obtain ⟨hargs, hP, hK, hN, hD0⟩ := hv
  have hx := B.exec
  have hb := B.bytes
  have hr := B.returns
  have hts := atoms_spec (ws := wsX11_hand) B.pre
  have hown : s.vm.findClass RX11 = some m.cls := findClass_of_methodNamed B.named
  have hlocks := B.notSynchronized
  have iX11 : ∀ w ∈ wsX110, w ∈ wsX11_hand := by decide +kernel
  have k19 := hts (.fieldLink RX11 19 "PressedFernsModel" "rows" "[I") (by decide +kernel)
  have hD := fr_D hD0
  have hS : va_S (fr [(q_t, .inr (10, [.ref q_t_page, .int v_t_pageMany, .ref q_t_readKinds, .ref q_t_readLeaflets, .int v_t_readMany, .int v_t_told, .int v_t_many, .int v_t_lostByHands, .int v_t_lostByMould, .ref q_t_rows, .ref q_t_debts, .int v_t_ringMany, .ref q_t_ring, .ref q_t_line, .ref q_t_groups, .ref q_t_likely, .ref q_t_likelyThen, .int v_t_seedNow, .ref q_t_saved, .int v_t_keptMany, .int v_t_keptByHands, .int v_t_keptByMould, .ref q_t_keptRows, .ref q_t_keptDebts, .long v_t_hash])), (q_t_rows, .inl (cI, 80, .inl v_t_rows))]) s.heap s.heap [] := va_S.rf
  have hl := lv_entry ([.ref q_t, .int x1, .int x2]) (n := 6) (Nat.le_of_ble_eq_true rfl)
  refine W.eq (g2 := F0 m 0 ((lg_sl ([.ref q_t, .int x1, .int x2]) ++ List.replicate (6 - (lg_sl ([.ref q_t, .int x1, .int x2])).length) Slot.unset).toArray) []) (by rw [hargs, lg_entry_eq]) ?_
  generalize (lg_sl ([.ref q_t, .int x1, .int x2]) ++ List.replicate (6 - (lg_sl ([.ref q_t, .int x1, .int x2])).length) Slot.unset).toArray = ls at hl ⊢
  have hl : lv_has ls 6 [(0, .ref q_t), (1, .int x1), (2, .int x2)] := hl
  show W p l e ({ frames := 2, cells := 0, slots := 0, locals := 43 } : Room) s m args below meth c s.heap [] 0 0 (MQ below (QG D [(q_t, .inr (10, [.ref q_t_page, .int v_t_pageMany, .ref q_t_readKinds, .ref q_t_readLeaflets, .int v_t_readMany, .int v_t_told, .int v_t_many, .int v_t_lostByHands, .int v_t_lostByMould, .ref q_t_rows, .ref q_t_debts, .int v_t_ringMany, .ref q_t_ring, .ref q_t_line, .ref q_t_groups, .ref q_t_likely, .ref q_t_likelyThen, .int v_t_seedNow, .ref q_t_saved, .int v_t_keptMany, .int v_t_keptByHands, .int v_t_keptByMould, .ref q_t_keptRows, .ref q_t_keptDebts, .long v_t_hash])), (q_t_rows, .inl (cI, 80, .inl v_t_rows))] [(q_t, .inr (10, [.ref q_t_page, .int v_t_pageMany, .ref q_t_readKinds, .ref q_t_readLeaflets, .int v_t_readMany, .int v_t_told, .int v_t_many, .int v_t_lostByHands, .int v_t_lostByMould, .ref q_t_rows, .ref q_t_debts, .int v_t_ringMany, .ref q_t_ring, .ref q_t_line, .ref q_t_groups, .ref q_t_likely, .ref q_t_likelyThen, .int v_t_seedNow, .ref q_t_saved, .int v_t_keptMany, .int v_t_keptByHands, .int v_t_keptByMould, .ref q_t_keptRows, .ref q_t_keptDebts, .long v_t_hash])), (q_t_rows, .inl (cI, 80, .inl z.2))] (some (.int z.1))) args s 0 0 (fr [(q_t, .inr (10, [.ref q_t_page, .int v_t_pageMany, .ref q_t_readKinds, .ref q_t_readLeaflets, .int v_t_readMany, .int v_t_told, .int v_t_many, .int v_t_lostByHands, .int v_t_lostByMould, .ref q_t_rows, .ref q_t_debts, .int v_t_ringMany, .ref q_t_ring, .ref q_t_line, .ref q_t_groups, .ref q_t_likely, .ref q_t_likelyThen, .int v_t_seedNow, .ref q_t_saved, .int v_t_keptMany, .int v_t_keptByHands, .int v_t_keptByMould, .ref q_t_keptRows, .ref q_t_keptDebts, .long v_t_hash])), (q_t_rows, .inl (cI, 80, .inl v_t_rows))])) (F0 m 0 ls [])
  generalize hQ0 : (MQ below (QG D [(q_t, .inr (10, [.ref q_t_page, .int v_t_pageMany, .ref q_t_readKinds, .ref q_t_readLeaflets, .int v_t_readMany, .int v_t_told, .int v_t_many, .int v_t_lostByHands, .int v_t_lostByMould, .ref q_t_rows, .ref q_t_debts, .int v_t_ringMany, .ref q_t_ring, .ref q_t_line, .ref q_t_groups, .ref q_t_likely, .ref q_t_likelyThen, .int v_t_seedNow, .ref q_t_saved, .int v_t_keptMany, .int v_t_keptByHands, .int v_t_keptByMould, .ref q_t_keptRows, .ref q_t_keptDebts, .long v_t_hash])), (q_t_rows, .inl (cI, 80, .inl v_t_rows))] [(q_t, .inr (10, [.ref q_t_page, .int v_t_pageMany, .ref q_t_readKinds, .ref q_t_readLeaflets, .int v_t_readMany, .int v_t_told, .int v_t_many, .int v_t_lostByHands, .int v_t_lostByMould, .ref q_t_rows, .ref q_t_debts, .int v_t_ringMany, .ref q_t_ring, .ref q_t_line, .ref q_t_groups, .ref q_t_likely, .ref q_t_likelyThen, .int v_t_seedNow, .ref q_t_saved, .int v_t_keptMany, .int v_t_keptByHands, .int v_t_keptByMould, .ref q_t_keptRows, .ref q_t_keptDebts, .long v_t_hash])), (q_t_rows, .inl (cI, 80, .inl z.2))] (some (.int z.1))) args s 0 0 (fr [(q_t, .inr (10, [.ref q_t_page, .int v_t_pageMany, .ref q_t_readKinds, .ref q_t_readLeaflets, .int v_t_readMany, .int v_t_told, .int v_t_many, .int v_t_lostByHands, .int v_t_lostByMould, .ref q_t_rows, .ref q_t_debts, .int v_t_ringMany, .ref q_t_ring, .ref q_t_line, .ref q_t_groups, .ref q_t_likely, .ref q_t_likelyThen, .int v_t_seedNow, .ref q_t_saved, .int v_t_keptMany, .int v_t_keptByHands, .int v_t_keptByMould, .ref q_t_keptRows, .ref q_t_keptDebts, .long v_t_hash])), (q_t_rows, .inl (cI, 80, .inl v_t_rows))])) = Q0
  generalize hA0 : fr [(q_t, .inr (10, [.ref q_t_page, .int v_t_pageMany, .ref q_t_readKinds, .ref q_t_readLeaflets, .int v_t_readMany, .int v_t_told, .int v_t_many, .int v_t_lostByHands, .int v_t_lostByMould, .ref q_t_rows, .ref q_t_debts, .int v_t_ringMany, .ref q_t_ring, .ref q_t_line, .ref q_t_groups, .ref q_t_likely, .ref q_t_likelyThen, .int v_t_seedNow, .ref q_t_saved, .int v_t_keptMany, .int v_t_keptByHands, .int v_t_keptByMould, .ref q_t_keptRows, .ref q_t_keptDebts, .long v_t_hash])), (q_t_rows, .inl (cI, 80, .inl v_t_rows))] = A0 at hD hS
  unfold fX11_hand at h
  refine lv_bipush (v := 8) hx hb dX11_hand_0 (by decide) ?_
  refine lv_iload_n hx hb dX11_hand_2 rfl (lv_at hl 1 rfl) ?_
  refine lv_imul hx hb dX11_hand_3 ?_
  refine lv_istore_n (lv' := [(3, .int (8 * x1)), (0, .ref q_t), (1, .int x1), (2, .int x2)]) hx hb dX11_hand_4 rfl hl (by decide) rfl (fun ls hl => ?_)
  refine lv_aload_n hx hb dX11_hand_5 rfl (lv_at hl 1 rfl) ?_
  refine va_get (own := RX11) (ci := 10) (v := .ref q_t_rows) (C := RX11) (T := TX11) (N := 25) hx hb hts iX11 hown hK hP 0 rfl rfl 9 (by decide) k19 (fun _ h9 => h9) rfl dX11_hand_6 ?_
  refine lv_iload_n hx hb dX11_hand_9 rfl (lv_at hl 0 rfl) ?_
  refine lv_iconst (v := 1) hx hb dX11_hand_10 (by decide) ?_
  refine lv_iadd hx hb dX11_hand_11 ?_
  obtain ⟨g1, h⟩ := gd_of h
  refine va_iald hx hb hK hP 1 0 rfl rfl (inb_of g1) dX11_hand_12 ?_
  refine lv_istore (lv' := [(4, .int (v_t_rows ((8 * x1) + 1).toNatClampNeg)), (3, .int (8 * x1)), (0, .ref q_t), (1, .int x1), (2, .int x2)]) hx hb dX11_hand_13 hl (by decide) rfl (fun ls hl => ?_)
  refine lv_aload_n hx hb dX11_hand_15 rfl (lv_at hl 2 rfl) ?_
  refine va_get (own := RX11) (ci := 10) (v := .ref q_t_rows) (C := RX11) (T := TX11) (N := 25) hx hb hts iX11 hown hK hP 0 rfl rfl 9 (by decide) k19 (fun _ h9 => h9) rfl dX11_hand_16 ?_
  refine lv_iload_n hx hb dX11_hand_19 rfl (lv_at hl 1 rfl) ?_
  refine lv_iconst (v := 1) hx hb dX11_hand_20 (by decide) ?_
  refine lv_iadd hx hb dX11_hand_21 ?_
  refine lv_aload_n hx hb dX11_hand_22 rfl (lv_at hl 2 rfl) ?_
  refine lv_iload_n hx hb dX11_hand_23 rfl (lv_at hl 3 rfl) ?_
  obtain ⟨u2, g3, h⟩ := bd_of h
  refine cl_V [(q_t, .inr (10, [.ref q_t_page, .int v_t_pageMany, .ref q_t_readKinds, .ref q_t_readLeaflets, .int v_t_readMany, .int v_t_told, .int v_t_many, .int v_t_lostByHands, .int v_t_lostByMould, .ref q_t_rows, .ref q_t_debts, .int v_t_ringMany, .ref q_t_ring, .ref q_t_line, .ref q_t_groups, .ref q_t_likely, .ref q_t_likelyThen, .int v_t_seedNow, .ref q_t_saved, .int v_t_keptMany, .int v_t_keptByHands, .int v_t_keptByMould, .ref q_t_keptRows, .ref q_t_keptDebts, .long v_t_hash])), (q_t_rows, .inl (cI, 80, .inl v_t_rows))] (As := [.int x1]) (rest := [.int ((8 * x1) + 1), .ref q_t_rows]) (rv := (some (.int u2))) (c_X11_worth l D cI cJ q_t q_t_page q_t_readKinds q_t_readLeaflets q_t_rows q_t_debts q_t_ring q_t_line q_t_groups q_t_likely q_t_likelyThen q_t_saved q_t_keptRows q_t_keptDebts v_t_pageMany v_t_readMany v_t_told v_t_many v_t_lostByHands v_t_lostByMould v_t_ringMany v_t_seedNow v_t_keptMany v_t_keptByHands v_t_keptByMould v_t_hash v_t_rows x1 u2 g3) ⟨hx, hb, hml, hown, hts⟩ (cwV 1 hts gX11_hand_X11_worth rfl rfl rfl (by decide +kernel) ⟨(Nat.le_of_ble_eq_true rfl), (Nat.le_of_ble_eq_true rfl)⟩) hK hN hP hD hS [0, 1] rfl (by decide) rfl rfl rfl (q0 := 0) (ci := 10) rfl rfl rfl rfl hl.1 rfl (Nat.le_of_ble_eq_true rfl) dX11_hand_24 ⟨Nat.zero_le _, Nat.zero_le _⟩ (fun H locs hP hD hS => ?_)
  show W p l e ({ frames := 2, cells := 0, slots := 0, locals := 43 } : Room) s m args below meth c H locs 0 0 Q0 (F0 m 27 ls [.int u2, .int ((8 * x1) + 1), .ref q_t_rows])
  refine va_iast hx hb hK hP hD hS 1 0 rfl rfl (inb_of g1) dX11_hand_27 (fun H locs hP hD hS => ?_)
  have hP : va_P D vwCl [(q_t, .inr (10, [.ref q_t_page, .int v_t_pageMany, .ref q_t_readKinds, .ref q_t_readLeaflets, .int v_t_readMany, .int v_t_told, .int v_t_many, .int v_t_lostByHands, .int v_t_lostByMould, .ref q_t_rows, .ref q_t_debts, .int v_t_ringMany, .ref q_t_ring, .ref q_t_line, .ref q_t_groups, .ref q_t_likely, .ref q_t_likelyThen, .int v_t_seedNow, .ref q_t_saved, .int v_t_keptMany, .int v_t_keptByHands, .int v_t_keptByMould, .ref q_t_keptRows, .ref q_t_keptDebts, .long v_t_hash])), (q_t_rows, .inl (cI, 80, .inl (upd v_t_rows ((8 * x1) + 1).toNatClampNeg u2)))] H := hP
  have hD : va_D A0 [(q_t, .inr (10, [.ref q_t_page, .int v_t_pageMany, .ref q_t_readKinds, .ref q_t_readLeaflets, .int v_t_readMany, .int v_t_told, .int v_t_many, .int v_t_lostByHands, .int v_t_lostByMould, .ref q_t_rows, .ref q_t_debts, .int v_t_ringMany, .ref q_t_ring, .ref q_t_line, .ref q_t_groups, .ref q_t_likely, .ref q_t_likelyThen, .int v_t_seedNow, .ref q_t_saved, .int v_t_keptMany, .int v_t_keptByHands, .int v_t_keptByMould, .ref q_t_keptRows, .ref q_t_keptDebts, .long v_t_hash])), (q_t_rows, .inl (cI, 80, .inl (upd v_t_rows ((8 * x1) + 1).toNatClampNeg u2)))] := hD
  refine lv_bipush (v := 7) hx hb dX11_hand_28 (by decide) ?_
  refine lv_istore (lv' := [(5, .int 7), (4, .int (v_t_rows ((8 * x1) + 1).toNatClampNeg)), (3, .int (8 * x1)), (0, .ref q_t), (1, .int x1), (2, .int x2)]) hx hb dX11_hand_30 hl (by decide) rfl (fun ls hl => ?_)
  obtain ⟨e5, he_e5, hc_e5⟩ := bd_of h
  have X64_7 : ∀ (a6 : (Nat → Int32)) (H : Heap) (locs : List Loc) (ls : Array Slot), fX11_hand_X32_64 v_t_rows x1 x2 a6 = some z → va_P D vwCl [(q_t, .inr (10, [.ref q_t_page, .int v_t_pageMany, .ref q_t_readKinds, .ref q_t_readLeaflets, .int v_t_readMany, .int v_t_told, .int v_t_many, .int v_t_lostByHands, .int v_t_lostByMould, .ref q_t_rows, .ref q_t_debts, .int v_t_ringMany, .ref q_t_ring, .ref q_t_line, .ref q_t_groups, .ref q_t_likely, .ref q_t_likelyThen, .int v_t_seedNow, .ref q_t_saved, .int v_t_keptMany, .int v_t_keptByHands, .int v_t_keptByMould, .ref q_t_keptRows, .ref q_t_keptDebts, .long v_t_hash])), (q_t_rows, .inl (cI, 80, .inl a6))] H → va_D A0 [(q_t, .inr (10, [.ref q_t_page, .int v_t_pageMany, .ref q_t_readKinds, .ref q_t_readLeaflets, .int v_t_readMany, .int v_t_told, .int v_t_many, .int v_t_lostByHands, .int v_t_lostByMould, .ref q_t_rows, .ref q_t_debts, .int v_t_ringMany, .ref q_t_ring, .ref q_t_line, .ref q_t_groups, .ref q_t_likely, .ref q_t_likelyThen, .int v_t_seedNow, .ref q_t_saved, .int v_t_keptMany, .int v_t_keptByHands, .int v_t_keptByMould, .ref q_t_keptRows, .ref q_t_keptDebts, .long v_t_hash])), (q_t_rows, .inl (cI, 80, .inl a6))] → va_S A0 s.heap H locs → lv_has ls 6 [(0, .ref q_t), (2, .int x2), (3, .int (8 * x1)), (4, .int (v_t_rows ((8 * x1) + 1).toNatClampNeg))] → W p l e ({ frames := 2, cells := 0, slots := 0, locals := 43 } : Room) s m args below meth c H locs 0 0 Q0 (F0 m 64 ls []) := by
    intro a6 H locs ls h hP hD hS hl
    unfold fX11_hand_X32_64 at h
    refine lv_aload_n hx hb dX11_hand_64 rfl (lv_at hl 0 rfl) ?_
    refine va_get (own := RX11) (ci := 10) (v := .ref q_t_rows) (C := RX11) (T := TX11) (N := 25) hx hb hts iX11 hown hK hP 0 rfl rfl 9 (by decide) k19 (fun _ h9 => h9) rfl dX11_hand_65 ?_
    refine lv_iload_n hx hb dX11_hand_68 rfl (lv_at hl 2 rfl) ?_
    refine lv_iconst (v := 4) hx hb dX11_hand_69 (by decide) ?_
    refine lv_iadd hx hb dX11_hand_70 ?_
    refine lv_aload_n hx hb dX11_hand_71 rfl (lv_at hl 0 rfl) ?_
    refine va_get (own := RX11) (ci := 10) (v := .ref q_t_rows) (C := RX11) (T := TX11) (N := 25) hx hb hts iX11 hown hK hP 0 rfl rfl 9 (by decide) k19 (fun _ h9 => h9) rfl dX11_hand_72 ?_
    refine lv_iload_n hx hb dX11_hand_75 rfl (lv_at hl 2 rfl) ?_
    refine lv_iconst (v := 2) hx hb dX11_hand_76 (by decide) ?_
    refine lv_iadd hx hb dX11_hand_77 ?_
    obtain ⟨g8, h⟩ := gd_of h
    refine va_iald hx hb hK hP 1 0 rfl rfl (inb_of g8) dX11_hand_78 ?_
    obtain ⟨g9, h⟩ := gd_of h
    refine va_iast hx hb hK hP hD hS 1 0 rfl rfl (inb_of g9) dX11_hand_79 (fun H locs hP hD hS => ?_)
    have hP : va_P D vwCl [(q_t, .inr (10, [.ref q_t_page, .int v_t_pageMany, .ref q_t_readKinds, .ref q_t_readLeaflets, .int v_t_readMany, .int v_t_told, .int v_t_many, .int v_t_lostByHands, .int v_t_lostByMould, .ref q_t_rows, .ref q_t_debts, .int v_t_ringMany, .ref q_t_ring, .ref q_t_line, .ref q_t_groups, .ref q_t_likely, .ref q_t_likelyThen, .int v_t_seedNow, .ref q_t_saved, .int v_t_keptMany, .int v_t_keptByHands, .int v_t_keptByMould, .ref q_t_keptRows, .ref q_t_keptDebts, .long v_t_hash])), (q_t_rows, .inl (cI, 80, .inl (upd a6 ((8 * x1) + 4).toNatClampNeg (a6 ((8 * x1) + 2).toNatClampNeg))))] H := hP
    have hD : va_D A0 [(q_t, .inr (10, [.ref q_t_page, .int v_t_pageMany, .ref q_t_readKinds, .ref q_t_readLeaflets, .int v_t_readMany, .int v_t_told, .int v_t_many, .int v_t_lostByHands, .int v_t_lostByMould, .ref q_t_rows, .ref q_t_debts, .int v_t_ringMany, .ref q_t_ring, .ref q_t_line, .ref q_t_groups, .ref q_t_likely, .ref q_t_likelyThen, .int v_t_seedNow, .ref q_t_saved, .int v_t_keptMany, .int v_t_keptByHands, .int v_t_keptByMould, .ref q_t_keptRows, .ref q_t_keptDebts, .long v_t_hash])), (q_t_rows, .inl (cI, 80, .inl (upd a6 ((8 * x1) + 4).toNatClampNeg (a6 ((8 * x1) + 2).toNatClampNeg))))] := hD
    refine lv_aload_n hx hb dX11_hand_80 rfl (lv_at hl 0 rfl) ?_
    refine va_get (own := RX11) (ci := 10) (v := .ref q_t_rows) (C := RX11) (T := TX11) (N := 25) hx hb hts iX11 hown hK hP 0 rfl rfl 9 (by decide) k19 (fun _ h9 => h9) rfl dX11_hand_81 ?_
    refine lv_iload_n hx hb dX11_hand_84 rfl (lv_at hl 2 rfl) ?_
    refine lv_iconst (v := 2) hx hb dX11_hand_85 (by decide) ?_
    refine lv_iadd hx hb dX11_hand_86 ?_
    refine lv_iload_n hx hb dX11_hand_87 rfl (lv_at hl 1 rfl) ?_
    refine va_iast hx hb hK hP hD hS 1 0 rfl rfl (inb_of g8) dX11_hand_88 (fun H locs hP hD hS => ?_)
    have hP : va_P D vwCl [(q_t, .inr (10, [.ref q_t_page, .int v_t_pageMany, .ref q_t_readKinds, .ref q_t_readLeaflets, .int v_t_readMany, .int v_t_told, .int v_t_many, .int v_t_lostByHands, .int v_t_lostByMould, .ref q_t_rows, .ref q_t_debts, .int v_t_ringMany, .ref q_t_ring, .ref q_t_line, .ref q_t_groups, .ref q_t_likely, .ref q_t_likelyThen, .int v_t_seedNow, .ref q_t_saved, .int v_t_keptMany, .int v_t_keptByHands, .int v_t_keptByMould, .ref q_t_keptRows, .ref q_t_keptDebts, .long v_t_hash])), (q_t_rows, .inl (cI, 80, .inl (upd (upd a6 ((8 * x1) + 4).toNatClampNeg (a6 ((8 * x1) + 2).toNatClampNeg)) ((8 * x1) + 2).toNatClampNeg x2)))] H := hP
    have hD : va_D A0 [(q_t, .inr (10, [.ref q_t_page, .int v_t_pageMany, .ref q_t_readKinds, .ref q_t_readLeaflets, .int v_t_readMany, .int v_t_told, .int v_t_many, .int v_t_lostByHands, .int v_t_lostByMould, .ref q_t_rows, .ref q_t_debts, .int v_t_ringMany, .ref q_t_ring, .ref q_t_line, .ref q_t_groups, .ref q_t_likely, .ref q_t_likelyThen, .int v_t_seedNow, .ref q_t_saved, .int v_t_keptMany, .int v_t_keptByHands, .int v_t_keptByMould, .ref q_t_keptRows, .ref q_t_keptDebts, .long v_t_hash])), (q_t_rows, .inl (cI, 80, .inl (upd (upd a6 ((8 * x1) + 4).toNatClampNeg (a6 ((8 * x1) + 2).toNatClampNeg)) ((8 * x1) + 2).toNatClampNeg x2)))] := hD
    refine lv_iload hx hb dX11_hand_89 (lv_at hl 3 rfl) ?_
    refine lv_aload_n hx hb dX11_hand_91 rfl (lv_at hl 0 rfl) ?_
    refine va_get (own := RX11) (ci := 10) (v := .ref q_t_rows) (C := RX11) (T := TX11) (N := 25) hx hb hts iX11 hown hK hP 0 rfl rfl 9 (by decide) k19 (fun _ h9 => h9) rfl dX11_hand_92 ?_
    refine lv_iload_n hx hb dX11_hand_95 rfl (lv_at hl 2 rfl) ?_
    refine lv_iconst (v := 1) hx hb dX11_hand_96 (by decide) ?_
    refine lv_iadd hx hb dX11_hand_97 ?_
    refine va_iald hx hb hK hP 1 0 rfl rfl (inb_of g1) dX11_hand_98 ?_
    refine lv_isub hx hb dX11_hand_99 ?_
    obtain rfl := Option.some.inj h
    exact rt_i hA0 hQ0 hx hb hr hlocks hP hS dX11_hand_100
  have L32_10 : ∀ (n : Nat) (z4 : Int32 × (Nat → Int32)) (H : Heap) (locs : List Loc) (ls : Array Slot), iter (fX11_hand_L32 x1) n z4 = some e5 → va_P D vwCl [(q_t, .inr (10, [.ref q_t_page, .int v_t_pageMany, .ref q_t_readKinds, .ref q_t_readLeaflets, .int v_t_readMany, .int v_t_told, .int v_t_many, .int v_t_lostByHands, .int v_t_lostByMould, .ref q_t_rows, .ref q_t_debts, .int v_t_ringMany, .ref q_t_ring, .ref q_t_line, .ref q_t_groups, .ref q_t_likely, .ref q_t_likelyThen, .int v_t_seedNow, .ref q_t_saved, .int v_t_keptMany, .int v_t_keptByHands, .int v_t_keptByMould, .ref q_t_keptRows, .ref q_t_keptDebts, .long v_t_hash])), (q_t_rows, .inl (cI, 80, .inl z4.2))] H → va_D A0 [(q_t, .inr (10, [.ref q_t_page, .int v_t_pageMany, .ref q_t_readKinds, .ref q_t_readLeaflets, .int v_t_readMany, .int v_t_told, .int v_t_many, .int v_t_lostByHands, .int v_t_lostByMould, .ref q_t_rows, .ref q_t_debts, .int v_t_ringMany, .ref q_t_ring, .ref q_t_line, .ref q_t_groups, .ref q_t_likely, .ref q_t_likelyThen, .int v_t_seedNow, .ref q_t_saved, .int v_t_keptMany, .int v_t_keptByHands, .int v_t_keptByMould, .ref q_t_keptRows, .ref q_t_keptDebts, .long v_t_hash])), (q_t_rows, .inl (cI, 80, .inl z4.2))] → va_S A0 s.heap H locs → lv_has ls 6 [(0, .ref q_t), (2, .int x2), (3, .int (8 * x1)), (4, .int (v_t_rows ((8 * x1) + 1).toNatClampNeg)), (5, .int z4.1)] → W p l e ({ frames := 2, cells := 0, slots := 0, locals := 43 } : Room) s m args below meth c H locs 0 0 Q0 (F0 m 32 ls []) := by
    intro n
    induction n with
    | zero => exact fun _ _ _ _ h => (iter_z h).elim
    | succ n ih =>
      intro z4 H locs ls h hP hD hS hl
      obtain ⟨r_e5, h, hn_e5⟩ := iter_s h
      unfold fX11_hand_L32 at h
      refine lv_iload hx hb dX11_hand_32 (lv_at hl 4 rfl) ?_
      refine lv_iconst (v := 4) hx hb dX11_hand_34 (by decide) ?_
      refine lv_icmp_le (tgt := 64) hx hb dX11_hand_35 (by decide) (fun c11 => ?_) (fun c11 => ?_)
      · skip
        have h := (if_pos c11).symm.trans h
        obtain rfl := Option.some.inj h
        obtain rfl := Option.some.inj hn_e5
        exact X64_7 z4.2 _ _ _ hc_e5 hP hD hS (lv_sub hl [0, 1, 2, 3] rfl)
      · skip
        have h := (if_neg c11).symm.trans h
        refine lv_aload_n hx hb dX11_hand_38 rfl (lv_at hl 0 rfl) ?_
        refine va_get (own := RX11) (ci := 10) (v := .ref q_t_rows) (C := RX11) (T := TX11) (N := 25) hx hb hts iX11 hown hK hP 0 rfl rfl 9 (by decide) k19 (fun _ h9 => h9) rfl dX11_hand_39 ?_
        refine lv_iload_n hx hb dX11_hand_42 rfl (lv_at hl 2 rfl) ?_
        refine lv_iload hx hb dX11_hand_43 (lv_at hl 4 rfl) ?_
        refine lv_iadd hx hb dX11_hand_45 ?_
        refine lv_aload_n hx hb dX11_hand_46 rfl (lv_at hl 0 rfl) ?_
        refine va_get (own := RX11) (ci := 10) (v := .ref q_t_rows) (C := RX11) (T := TX11) (N := 25) hx hb hts iX11 hown hK hP 0 rfl rfl 9 (by decide) k19 (fun _ h9 => h9) rfl dX11_hand_47 ?_
        refine lv_iload_n hx hb dX11_hand_50 rfl (lv_at hl 2 rfl) ?_
        refine lv_iload hx hb dX11_hand_51 (lv_at hl 4 rfl) ?_
        refine lv_iadd hx hb dX11_hand_53 ?_
        refine lv_iconst (v := 1) hx hb dX11_hand_54 (by decide) ?_
        refine lv_isub hx hb dX11_hand_55 ?_
        obtain ⟨g12, h⟩ := gd_of h
        refine va_iald hx hb hK hP 1 0 rfl rfl (inb_of g12) dX11_hand_56 ?_
        obtain ⟨g13, h⟩ := gd_of h
        refine va_iast hx hb hK hP hD hS 1 0 rfl rfl (inb_of g13) dX11_hand_57 (fun H locs hP hD hS => ?_)
        have hP : va_P D vwCl [(q_t, .inr (10, [.ref q_t_page, .int v_t_pageMany, .ref q_t_readKinds, .ref q_t_readLeaflets, .int v_t_readMany, .int v_t_told, .int v_t_many, .int v_t_lostByHands, .int v_t_lostByMould, .ref q_t_rows, .ref q_t_debts, .int v_t_ringMany, .ref q_t_ring, .ref q_t_line, .ref q_t_groups, .ref q_t_likely, .ref q_t_likelyThen, .int v_t_seedNow, .ref q_t_saved, .int v_t_keptMany, .int v_t_keptByHands, .int v_t_keptByMould, .ref q_t_keptRows, .ref q_t_keptDebts, .long v_t_hash])), (q_t_rows, .inl (cI, 80, .inl (upd z4.2 ((8 * x1) + z4.1).toNatClampNeg (z4.2 (((8 * x1) + z4.1) - 1).toNatClampNeg))))] H := hP
        have hD : va_D A0 [(q_t, .inr (10, [.ref q_t_page, .int v_t_pageMany, .ref q_t_readKinds, .ref q_t_readLeaflets, .int v_t_readMany, .int v_t_told, .int v_t_many, .int v_t_lostByHands, .int v_t_lostByMould, .ref q_t_rows, .ref q_t_debts, .int v_t_ringMany, .ref q_t_ring, .ref q_t_line, .ref q_t_groups, .ref q_t_likely, .ref q_t_likelyThen, .int v_t_seedNow, .ref q_t_saved, .int v_t_keptMany, .int v_t_keptByHands, .int v_t_keptByMould, .ref q_t_keptRows, .ref q_t_keptDebts, .long v_t_hash])), (q_t_rows, .inl (cI, 80, .inl (upd z4.2 ((8 * x1) + z4.1).toNatClampNeg (z4.2 (((8 * x1) + z4.1) - 1).toNatClampNeg))))] := hD
        refine lv_iinc (v := (z4.1 + (-1))) (lv' := [(5, .int (z4.1 + (-1))), (0, .ref q_t), (2, .int x2), (3, .int (8 * x1)), (4, .int (v_t_rows ((8 * x1) + 1).toNatClampNeg))]) hx hb dX11_hand_58 hl (k := 4) rfl rfl (by decide) rfl (fun ls hl => ?_)
        refine lv_goto (tgt := 32) hx hb dX11_hand_61 (by decide) ?_
        obtain rfl := Option.some.inj h
        exact ih ((z4.1 + (-1)), (upd z4.2 ((8 * x1) + z4.1).toNatClampNeg (z4.2 (((8 * x1) + z4.1) - 1).toNatClampNeg))) _ _ _ hn_e5 hP hD hS (lv_sub hl [1, 2, 3, 4, 0] rfl)
  exact L32_10 FU (7, (upd v_t_rows ((8 * x1) + 1).toNatClampNeg u2)) _ _ _ he_e5 hP hD hS (lv_sub hl [3, 5, 2, 1, 0] rfl)
def fX11_pay (v_t_pageMany : Int32) (v_t_readMany : Int32) (v_t_told : Int32) (v_t_many : Int32) (v_t_lostByHands : Int32) (v_t_lostByMould : Int32) (v_t_ringMany : Int32) (v_t_seedNow : Int32) (v_t_keptMany : Int32) (v_t_keptByHands : Int32) (v_t_keptByMould : Int32) (v_t_hash : Int64) (v_t_rows : Nat → Int32) (v_t_debts : Nat → Int32) (x1 : Int32) (x2 : Int32) : Option (Int32 × Int32 × (Nat → Int32) × (Nat → Int32)) :=
  if (fX11_isFrond v_t_pageMany v_t_readMany v_t_told v_t_many v_t_lostByHands v_t_lostByMould v_t_ringMany v_t_seedNow v_t_keptMany v_t_keptByHands v_t_keptByMould v_t_hash x1) = 0 then (some ((-101), v_t_lostByHands, v_t_rows, v_t_debts)) else (if (fX11_isPerson x2) = 0 then (some ((-101), v_t_lostByHands, v_t_rows, v_t_debts)) else (gd (inb ((8 * x1) + 2) 80) (if (v_t_rows ((8 * x1) + 2).toNatClampNeg) = (-1) then (some ((-103), v_t_lostByHands, v_t_rows, v_t_debts)) else (if (v_t_rows ((8 * x1) + 2).toNatClampNeg) = x2 then (some ((-103), v_t_lostByHands, v_t_rows, v_t_debts)) else ((fX11_hand v_t_pageMany v_t_readMany v_t_told v_t_many v_t_lostByHands v_t_lostByMould v_t_ringMany v_t_seedNow v_t_keptMany v_t_keptByHands v_t_keptByMould v_t_hash v_t_rows x1 x2).bind (fun u6 => gd (inb ((8 * x1) + 1) 80) (gd (inb ((6 * (v_t_rows ((8 * x1) + 2).toNatClampNeg)) + x2) 36) (some ((u6.2 ((8 * x1) + 1).toNatClampNeg), (v_t_lostByHands + u6.1), u6.2, (upd v_t_debts ((6 * (v_t_rows ((8 * x1) + 2).toNatClampNeg)) + x2).toNatClampNeg (if 0 ≤ ((v_t_debts ((6 * (v_t_rows ((8 * x1) + 2).toNatClampNeg)) + x2).toNatClampNeg) - (u6.2 ((8 * x1) + 1).toNatClampNeg)) then ((v_t_debts ((6 * (v_t_rows ((8 * x1) + 2).toNatClampNeg)) + x2).toNatClampNeg) - (u6.2 ((8 * x1) + 1).toNatClampNeg)) else 0 : Int32)))))))))))
set_option maxHeartbeats 4000000 in
set_option maxRecDepth 100000 in
theorem c_X11_pay (l : Launch) (D : va_G) (cI cJ : ClassId) (q_t q_t_page q_t_readKinds q_t_readLeaflets q_t_rows q_t_debts q_t_ring q_t_line q_t_groups q_t_likely q_t_likelyThen q_t_saved q_t_keptRows q_t_keptDebts : Nat) (v_t_pageMany : Int32) (v_t_readMany : Int32) (v_t_told : Int32) (v_t_many : Int32) (v_t_lostByHands : Int32) (v_t_lostByMould : Int32) (v_t_ringMany : Int32) (v_t_seedNow : Int32) (v_t_keptMany : Int32) (v_t_keptByHands : Int32) (v_t_keptByMould : Int32) (v_t_hash : Int64) (v_t_rows : Nat → Int32) (v_t_debts : Nat → Int32) (x1 : Int32) (x2 : Int32) (z : Int32 × Int32 × (Nat → Int32) × (Nat → Int32)) (h : fX11_pay v_t_pageMany v_t_readMany v_t_told v_t_many v_t_lostByHands v_t_lostByMould v_t_ringMany v_t_seedNow v_t_keptMany v_t_keptByHands v_t_keptByMould v_t_hash v_t_rows v_t_debts x1 x2 = some z) : Met l yX11_pay wsX11_pay ({ frames := 3, cells := 0, slots := 0, locals := 68 } : Room) (va_Pc [.ref q_t, .int x1, .int x2] (preG D cI cJ [(q_t, .inr (10, [.ref q_t_page, .int v_t_pageMany, .ref q_t_readKinds, .ref q_t_readLeaflets, .int v_t_readMany, .int v_t_told, .int v_t_many, .int v_t_lostByHands, .int v_t_lostByMould, .ref q_t_rows, .ref q_t_debts, .int v_t_ringMany, .ref q_t_ring, .ref q_t_line, .ref q_t_groups, .ref q_t_likely, .ref q_t_likelyThen, .int v_t_seedNow, .ref q_t_saved, .int v_t_keptMany, .int v_t_keptByHands, .int v_t_keptByMould, .ref q_t_keptRows, .ref q_t_keptDebts, .long v_t_hash])), (q_t_rows, .inl (cI, 80, .inl v_t_rows)), (q_t_debts, .inl (cI, 36, .inl v_t_debts))])) (QG D [(q_t, .inr (10, [.ref q_t_page, .int v_t_pageMany, .ref q_t_readKinds, .ref q_t_readLeaflets, .int v_t_readMany, .int v_t_told, .int v_t_many, .int v_t_lostByHands, .int v_t_lostByMould, .ref q_t_rows, .ref q_t_debts, .int v_t_ringMany, .ref q_t_ring, .ref q_t_line, .ref q_t_groups, .ref q_t_likely, .ref q_t_likelyThen, .int v_t_seedNow, .ref q_t_saved, .int v_t_keptMany, .int v_t_keptByHands, .int v_t_keptByMould, .ref q_t_keptRows, .ref q_t_keptDebts, .long v_t_hash])), (q_t_rows, .inl (cI, 80, .inl v_t_rows)), (q_t_debts, .inl (cI, 36, .inl v_t_debts))] [(q_t, .inr (10, [.ref q_t_page, .int v_t_pageMany, .ref q_t_readKinds, .ref q_t_readLeaflets, .int v_t_readMany, .int v_t_told, .int v_t_many, .int z.2.1, .int v_t_lostByMould, .ref q_t_rows, .ref q_t_debts, .int v_t_ringMany, .ref q_t_ring, .ref q_t_line, .ref q_t_groups, .ref q_t_likely, .ref q_t_likelyThen, .int v_t_seedNow, .ref q_t_saved, .int v_t_keptMany, .int v_t_keptByHands, .int v_t_keptByMould, .ref q_t_keptRows, .ref q_t_keptDebts, .long v_t_hash])), (q_t_rows, .inl (cI, 80, .inl z.2.2.1)), (q_t_debts, .inl (cI, 36, .inl z.2.2.2))] (some (.int z.1))) 0 0 (fr [(q_t, .inr (10, [.ref q_t_page, .int v_t_pageMany, .ref q_t_readKinds, .ref q_t_readLeaflets, .int v_t_readMany, .int v_t_told, .int v_t_many, .int v_t_lostByHands, .int v_t_lostByMould, .ref q_t_rows, .ref q_t_debts, .int v_t_ringMany, .ref q_t_ring, .ref q_t_line, .ref q_t_groups, .ref q_t_likely, .ref q_t_likelyThen, .int v_t_seedNow, .ref q_t_saved, .int v_t_keptMany, .int v_t_keptByHands, .int v_t_keptByMould, .ref q_t_keptRows, .ref q_t_keptDebts, .long v_t_hash])), (q_t_rows, .inl (cI, 80, .inl v_t_rows)), (q_t_debts, .inl (cI, 36, .inl v_t_debts))]) := by
  refine Met.ofW (cc := cX11_pay) (maxL := 7) (ret := (some .int)) (by decide) rfl ?_
  intro p e s m args below meth c s₁ B hml hv
  obtain ⟨hargs, hP, hK, hN, hD0⟩ := hv
  have hx := B.exec
  have hb := B.bytes
  have hr := B.returns
  have hts := atoms_spec (ws := wsX11_pay) B.pre
  have hown : s.vm.findClass RX11 = some m.cls := findClass_of_methodNamed B.named
  have hlocks := B.notSynchronized
  have iX11 : ∀ w ∈ wsX110, w ∈ wsX11_pay := by decide +kernel
  have k19 := hts (.fieldLink RX11 19 "PressedFernsModel" "rows" "[I") (by decide +kernel)
  have k22 := hts (.fieldLink RX11 22 "PressedFernsModel" "debts" "[I") (by decide +kernel)
  have k120 := hts (.fieldLink RX11 120 "PressedFernsModel" "lostByHands" "I") (by decide +kernel)
  have hD := fr_D hD0
  have hS : va_S (fr [(q_t, .inr (10, [.ref q_t_page, .int v_t_pageMany, .ref q_t_readKinds, .ref q_t_readLeaflets, .int v_t_readMany, .int v_t_told, .int v_t_many, .int v_t_lostByHands, .int v_t_lostByMould, .ref q_t_rows, .ref q_t_debts, .int v_t_ringMany, .ref q_t_ring, .ref q_t_line, .ref q_t_groups, .ref q_t_likely, .ref q_t_likelyThen, .int v_t_seedNow, .ref q_t_saved, .int v_t_keptMany, .int v_t_keptByHands, .int v_t_keptByMould, .ref q_t_keptRows, .ref q_t_keptDebts, .long v_t_hash])), (q_t_rows, .inl (cI, 80, .inl v_t_rows)), (q_t_debts, .inl (cI, 36, .inl v_t_debts))]) s.heap s.heap [] := va_S.rf
  have hl := lv_entry ([.ref q_t, .int x1, .int x2]) (n := 7) (Nat.le_of_ble_eq_true rfl)
  refine W.eq (g2 := F0 m 0 ((lg_sl ([.ref q_t, .int x1, .int x2]) ++ List.replicate (7 - (lg_sl ([.ref q_t, .int x1, .int x2])).length) Slot.unset).toArray) []) (by rw [hargs, lg_entry_eq]) ?_
  generalize (lg_sl ([.ref q_t, .int x1, .int x2]) ++ List.replicate (7 - (lg_sl ([.ref q_t, .int x1, .int x2])).length) Slot.unset).toArray = ls at hl ⊢
  have hl : lv_has ls 7 [(0, .ref q_t), (1, .int x1), (2, .int x2)] := hl
  show W p l e ({ frames := 3, cells := 0, slots := 0, locals := 68 } : Room) s m args below meth c s.heap [] 0 0 (MQ below (QG D [(q_t, .inr (10, [.ref q_t_page, .int v_t_pageMany, .ref q_t_readKinds, .ref q_t_readLeaflets, .int v_t_readMany, .int v_t_told, .int v_t_many, .int v_t_lostByHands, .int v_t_lostByMould, .ref q_t_rows, .ref q_t_debts, .int v_t_ringMany, .ref q_t_ring, .ref q_t_line, .ref q_t_groups, .ref q_t_likely, .ref q_t_likelyThen, .int v_t_seedNow, .ref q_t_saved, .int v_t_keptMany, .int v_t_keptByHands, .int v_t_keptByMould, .ref q_t_keptRows, .ref q_t_keptDebts, .long v_t_hash])), (q_t_rows, .inl (cI, 80, .inl v_t_rows)), (q_t_debts, .inl (cI, 36, .inl v_t_debts))] [(q_t, .inr (10, [.ref q_t_page, .int v_t_pageMany, .ref q_t_readKinds, .ref q_t_readLeaflets, .int v_t_readMany, .int v_t_told, .int v_t_many, .int z.2.1, .int v_t_lostByMould, .ref q_t_rows, .ref q_t_debts, .int v_t_ringMany, .ref q_t_ring, .ref q_t_line, .ref q_t_groups, .ref q_t_likely, .ref q_t_likelyThen, .int v_t_seedNow, .ref q_t_saved, .int v_t_keptMany, .int v_t_keptByHands, .int v_t_keptByMould, .ref q_t_keptRows, .ref q_t_keptDebts, .long v_t_hash])), (q_t_rows, .inl (cI, 80, .inl z.2.2.1)), (q_t_debts, .inl (cI, 36, .inl z.2.2.2))] (some (.int z.1))) args s 0 0 (fr [(q_t, .inr (10, [.ref q_t_page, .int v_t_pageMany, .ref q_t_readKinds, .ref q_t_readLeaflets, .int v_t_readMany, .int v_t_told, .int v_t_many, .int v_t_lostByHands, .int v_t_lostByMould, .ref q_t_rows, .ref q_t_debts, .int v_t_ringMany, .ref q_t_ring, .ref q_t_line, .ref q_t_groups, .ref q_t_likely, .ref q_t_likelyThen, .int v_t_seedNow, .ref q_t_saved, .int v_t_keptMany, .int v_t_keptByHands, .int v_t_keptByMould, .ref q_t_keptRows, .ref q_t_keptDebts, .long v_t_hash])), (q_t_rows, .inl (cI, 80, .inl v_t_rows)), (q_t_debts, .inl (cI, 36, .inl v_t_debts))])) (F0 m 0 ls [])
  generalize hQ0 : (MQ below (QG D [(q_t, .inr (10, [.ref q_t_page, .int v_t_pageMany, .ref q_t_readKinds, .ref q_t_readLeaflets, .int v_t_readMany, .int v_t_told, .int v_t_many, .int v_t_lostByHands, .int v_t_lostByMould, .ref q_t_rows, .ref q_t_debts, .int v_t_ringMany, .ref q_t_ring, .ref q_t_line, .ref q_t_groups, .ref q_t_likely, .ref q_t_likelyThen, .int v_t_seedNow, .ref q_t_saved, .int v_t_keptMany, .int v_t_keptByHands, .int v_t_keptByMould, .ref q_t_keptRows, .ref q_t_keptDebts, .long v_t_hash])), (q_t_rows, .inl (cI, 80, .inl v_t_rows)), (q_t_debts, .inl (cI, 36, .inl v_t_debts))] [(q_t, .inr (10, [.ref q_t_page, .int v_t_pageMany, .ref q_t_readKinds, .ref q_t_readLeaflets, .int v_t_readMany, .int v_t_told, .int v_t_many, .int z.2.1, .int v_t_lostByMould, .ref q_t_rows, .ref q_t_debts, .int v_t_ringMany, .ref q_t_ring, .ref q_t_line, .ref q_t_groups, .ref q_t_likely, .ref q_t_likelyThen, .int v_t_seedNow, .ref q_t_saved, .int v_t_keptMany, .int v_t_keptByHands, .int v_t_keptByMould, .ref q_t_keptRows, .ref q_t_keptDebts, .long v_t_hash])), (q_t_rows, .inl (cI, 80, .inl z.2.2.1)), (q_t_debts, .inl (cI, 36, .inl z.2.2.2))] (some (.int z.1))) args s 0 0 (fr [(q_t, .inr (10, [.ref q_t_page, .int v_t_pageMany, .ref q_t_readKinds, .ref q_t_readLeaflets, .int v_t_readMany, .int v_t_told, .int v_t_many, .int v_t_lostByHands, .int v_t_lostByMould, .ref q_t_rows, .ref q_t_debts, .int v_t_ringMany, .ref q_t_ring, .ref q_t_line, .ref q_t_groups, .ref q_t_likely, .ref q_t_likelyThen, .int v_t_seedNow, .ref q_t_saved, .int v_t_keptMany, .int v_t_keptByHands, .int v_t_keptByMould, .ref q_t_keptRows, .ref q_t_keptDebts, .long v_t_hash])), (q_t_rows, .inl (cI, 80, .inl v_t_rows)), (q_t_debts, .inl (cI, 36, .inl v_t_debts))])) = Q0
  generalize hA0 : fr [(q_t, .inr (10, [.ref q_t_page, .int v_t_pageMany, .ref q_t_readKinds, .ref q_t_readLeaflets, .int v_t_readMany, .int v_t_told, .int v_t_many, .int v_t_lostByHands, .int v_t_lostByMould, .ref q_t_rows, .ref q_t_debts, .int v_t_ringMany, .ref q_t_ring, .ref q_t_line, .ref q_t_groups, .ref q_t_likely, .ref q_t_likelyThen, .int v_t_seedNow, .ref q_t_saved, .int v_t_keptMany, .int v_t_keptByHands, .int v_t_keptByMould, .ref q_t_keptRows, .ref q_t_keptDebts, .long v_t_hash])), (q_t_rows, .inl (cI, 80, .inl v_t_rows)), (q_t_debts, .inl (cI, 36, .inl v_t_debts))] = A0 at hD hS
  unfold fX11_pay at h
  refine lv_aload_n hx hb dX11_pay_0 rfl (lv_at hl 0 rfl) ?_
  refine lv_iload_n hx hb dX11_pay_1 rfl (lv_at hl 1 rfl) ?_
  refine cl_V [(q_t, .inr (10, [.ref q_t_page, .int v_t_pageMany, .ref q_t_readKinds, .ref q_t_readLeaflets, .int v_t_readMany, .int v_t_told, .int v_t_many, .int v_t_lostByHands, .int v_t_lostByMould, .ref q_t_rows, .ref q_t_debts, .int v_t_ringMany, .ref q_t_ring, .ref q_t_line, .ref q_t_groups, .ref q_t_likely, .ref q_t_likelyThen, .int v_t_seedNow, .ref q_t_saved, .int v_t_keptMany, .int v_t_keptByHands, .int v_t_keptByMould, .ref q_t_keptRows, .ref q_t_keptDebts, .long v_t_hash])), (q_t_rows, .inl (cI, 80, .inl v_t_rows)), (q_t_debts, .inl (cI, 36, .inl v_t_debts))] (As := [.int x1]) (rest := []) (rv := (some (.int (fX11_isFrond v_t_pageMany v_t_readMany v_t_told v_t_many v_t_lostByHands v_t_lostByMould v_t_ringMany v_t_seedNow v_t_keptMany v_t_keptByHands v_t_keptByMould v_t_hash x1)))) (c_X11_isFrond l D cI cJ q_t q_t_page q_t_readKinds q_t_readLeaflets q_t_rows q_t_debts q_t_ring q_t_line q_t_groups q_t_likely q_t_likelyThen q_t_saved q_t_keptRows q_t_keptDebts v_t_pageMany v_t_readMany v_t_told v_t_many v_t_lostByHands v_t_lostByMould v_t_ringMany v_t_seedNow v_t_keptMany v_t_keptByHands v_t_keptByMould v_t_hash x1) ⟨hx, hb, hml, hown, hts⟩ (cwV 1 hts gX11_pay_X11_isFrond rfl rfl rfl (by decide +kernel) ⟨(Nat.le_of_ble_eq_true rfl), (Nat.le_of_ble_eq_true rfl)⟩) hK hN hP hD hS [0] rfl (by decide) rfl rfl rfl (q0 := 0) (ci := 10) rfl rfl rfl rfl hl.1 rfl (Nat.le_of_ble_eq_true rfl) dX11_pay_2 ⟨Nat.zero_le _, Nat.zero_le _⟩ (fun H locs hP hD hS => ?_)
  show W p l e ({ frames := 3, cells := 0, slots := 0, locals := 68 } : Room) s m args below meth c H locs 0 0 Q0 (F0 m 5 ls [.int (fX11_isFrond v_t_pageMany v_t_readMany v_t_told v_t_many v_t_lostByHands v_t_lostByMould v_t_ringMany v_t_seedNow v_t_keptMany v_t_keptByHands v_t_keptByMould v_t_hash x1)])
  refine lv_if_eq (tgt := 15) hx hb dX11_pay_5 (by decide) (fun c1 => ?_) (fun c1 => ?_)
  · skip
    have h := (if_pos c1).symm.trans h
    refine lv_bipush (v := (-101)) hx hb dX11_pay_15 (by decide) ?_
    obtain rfl := Option.some.inj h
    exact rt_i hA0 hQ0 hx hb hr hlocks hP hS dX11_pay_17
  · skip
    have h := (if_neg c1).symm.trans h
    refine lv_iload_n hx hb dX11_pay_8 rfl (lv_at hl 2 rfl) ?_
    refine cl_S [(q_t, .inr (10, [.ref q_t_page, .int v_t_pageMany, .ref q_t_readKinds, .ref q_t_readLeaflets, .int v_t_readMany, .int v_t_told, .int v_t_many, .int v_t_lostByHands, .int v_t_lostByMould, .ref q_t_rows, .ref q_t_debts, .int v_t_ringMany, .ref q_t_ring, .ref q_t_line, .ref q_t_groups, .ref q_t_likely, .ref q_t_likelyThen, .int v_t_seedNow, .ref q_t_saved, .int v_t_keptMany, .int v_t_keptByHands, .int v_t_keptByMould, .ref q_t_keptRows, .ref q_t_keptDebts, .long v_t_hash])), (q_t_rows, .inl (cI, 80, .inl v_t_rows)), (q_t_debts, .inl (cI, 36, .inl v_t_debts))] (As := [.int x2]) (rest := []) (rv := (some (.int (fX11_isPerson x2)))) (c_X11_isPerson l D cI cJ x2) ⟨hx, hb, hml, hown, hts⟩ (va_cwS 1 hts gX11_pay_X11_isPerson rfl rfl rfl (by decide +kernel) ⟨(Nat.le_of_ble_eq_true rfl), (Nat.le_of_ble_eq_true rfl)⟩) hK hN hP hD hS [] rfl (by decide) rfl rfl rfl rfl hl.1 rfl (Nat.le_of_ble_eq_true rfl) dX11_pay_9 ⟨Nat.zero_le _, Nat.zero_le _⟩ (fun H locs hP hD hS => ?_)
    show W p l e ({ frames := 3, cells := 0, slots := 0, locals := 68 } : Room) s m args below meth c H locs 0 0 Q0 (F0 m 12 ls [.int (fX11_isPerson x2)])
    refine lv_if_ne (tgt := 18) hx hb dX11_pay_12 (by decide) (fun c2 => ?_) (fun c2 => ?_)
    · skip
      have h := (if_neg c2).symm.trans h
      refine lv_aload_n hx hb dX11_pay_18 rfl (lv_at hl 0 rfl) ?_
      refine va_get (own := RX11) (ci := 10) (v := .ref q_t_rows) (C := RX11) (T := TX11) (N := 25) hx hb hts iX11 hown hK hP 0 rfl rfl 9 (by decide) k19 (fun _ h9 => h9) rfl dX11_pay_19 ?_
      refine lv_bipush (v := 8) hx hb dX11_pay_22 (by decide) ?_
      refine lv_iload_n hx hb dX11_pay_24 rfl (lv_at hl 1 rfl) ?_
      refine lv_imul hx hb dX11_pay_25 ?_
      refine lv_iconst (v := 2) hx hb dX11_pay_26 (by decide) ?_
      refine lv_iadd hx hb dX11_pay_27 ?_
      obtain ⟨g3, h⟩ := gd_of h
      refine va_iald hx hb hK hP 1 0 rfl rfl (inb_of g3) dX11_pay_28 ?_
      refine lv_istore_n (lv' := [(3, .int (v_t_rows ((8 * x1) + 2).toNatClampNeg)), (0, .ref q_t), (1, .int x1), (2, .int x2)]) hx hb dX11_pay_29 rfl hl (by decide) rfl (fun ls hl => ?_)
      refine lv_iload_n hx hb dX11_pay_30 rfl (lv_at hl 0 rfl) ?_
      refine lv_iconst (v := (-1)) hx hb dX11_pay_31 (by decide) ?_
      refine lv_icmp_eq (tgt := 40) hx hb dX11_pay_32 (by decide) (fun c4 => ?_) (fun c4 => ?_)
      · skip
        have h := (if_pos c4).symm.trans h
        refine lv_bipush (v := (-103)) hx hb dX11_pay_40 (by decide) ?_
        obtain rfl := Option.some.inj h
        exact rt_i hA0 hQ0 hx hb hr hlocks hP hS dX11_pay_42
      · skip
        have h := (if_neg c4).symm.trans h
        refine lv_iload_n hx hb dX11_pay_35 rfl (lv_at hl 0 rfl) ?_
        refine lv_iload_n hx hb dX11_pay_36 rfl (lv_at hl 3 rfl) ?_
        refine lv_icmp_ne (tgt := 43) hx hb dX11_pay_37 (by decide) (fun c5 => ?_) (fun c5 => ?_)
        · skip
          have h := (if_neg c5).symm.trans h
          refine lv_aload_n hx hb dX11_pay_43 rfl (lv_at hl 1 rfl) ?_
          refine lv_iload_n hx hb dX11_pay_44 rfl (lv_at hl 2 rfl) ?_
          refine lv_iload_n hx hb dX11_pay_45 rfl (lv_at hl 3 rfl) ?_
          obtain ⟨u6, g7, h⟩ := bd_of h
          refine cl_V [(q_t, .inr (10, [.ref q_t_page, .int v_t_pageMany, .ref q_t_readKinds, .ref q_t_readLeaflets, .int v_t_readMany, .int v_t_told, .int v_t_many, .int v_t_lostByHands, .int v_t_lostByMould, .ref q_t_rows, .ref q_t_debts, .int v_t_ringMany, .ref q_t_ring, .ref q_t_line, .ref q_t_groups, .ref q_t_likely, .ref q_t_likelyThen, .int v_t_seedNow, .ref q_t_saved, .int v_t_keptMany, .int v_t_keptByHands, .int v_t_keptByMould, .ref q_t_keptRows, .ref q_t_keptDebts, .long v_t_hash])), (q_t_rows, .inl (cI, 80, .inl u6.2)), (q_t_debts, .inl (cI, 36, .inl v_t_debts))] (As := [.int x1, .int x2]) (rest := []) (rv := (some (.int u6.1))) (c_X11_hand l D cI cJ q_t q_t_page q_t_readKinds q_t_readLeaflets q_t_rows q_t_debts q_t_ring q_t_line q_t_groups q_t_likely q_t_likelyThen q_t_saved q_t_keptRows q_t_keptDebts v_t_pageMany v_t_readMany v_t_told v_t_many v_t_lostByHands v_t_lostByMould v_t_ringMany v_t_seedNow v_t_keptMany v_t_keptByHands v_t_keptByMould v_t_hash v_t_rows x1 x2 u6 g7) ⟨hx, hb, hml, hown, hts⟩ (cwV 2 hts gX11_pay_X11_hand rfl rfl rfl (by decide +kernel) ⟨(Nat.le_of_ble_eq_true rfl), (Nat.le_of_ble_eq_true rfl)⟩) hK hN hP hD hS [0, 1] rfl (by decide) rfl rfl rfl (q0 := 0) (ci := 10) rfl rfl rfl rfl hl.1 rfl (Nat.le_of_ble_eq_true rfl) dX11_pay_46 ⟨Nat.zero_le _, Nat.zero_le _⟩ (fun H locs hP hD hS => ?_)
          show W p l e ({ frames := 3, cells := 0, slots := 0, locals := 68 } : Room) s m args below meth c H locs 0 0 Q0 (F0 m 49 ls [.int u6.1])
          refine lv_istore (lv' := [(4, .int u6.1), (3, .int (v_t_rows ((8 * x1) + 2).toNatClampNeg)), (0, .ref q_t), (1, .int x1), (2, .int x2)]) hx hb dX11_pay_49 hl (by decide) rfl (fun ls hl => ?_)
          refine lv_aload_n hx hb dX11_pay_51 rfl (lv_at hl 2 rfl) ?_
          refine lv_dup hx hb dX11_pay_52 rfl ?_
          refine va_get (own := RX11) (ci := 10) (v := .int v_t_lostByHands) (C := RX11) (T := TX11) (N := 25) hx hb hts iX11 hown hK hP 0 rfl rfl 7 (by decide) k120 (fun _ h9 => h9) rfl dX11_pay_53 ?_
          refine lv_iload hx hb dX11_pay_56 (lv_at hl 0 rfl) ?_
          refine lv_iadd hx hb dX11_pay_58 ?_
          refine va_put (D := D) (own := RX11) (ci := 10) (v := .int (v_t_lostByHands + u6.1)) (ty := .int) (C := RX11) (T := TX11) (N := 25) hx hb hts iX11 tyX11 tyX11_ok nmX11 hown hK hP hD hS 0 rfl rfl 7 (by decide) k120 (fun _ h9 => h9) rfl (by decide +kernel) rfl rfl (Nat.le_of_ble_eq_true rfl) dX11_pay_59 (fun H locs hP hD hS => ?_)
          have hP : va_P D vwCl [(q_t, .inr (10, [.ref q_t_page, .int v_t_pageMany, .ref q_t_readKinds, .ref q_t_readLeaflets, .int v_t_readMany, .int v_t_told, .int v_t_many, .int (v_t_lostByHands + u6.1), .int v_t_lostByMould, .ref q_t_rows, .ref q_t_debts, .int v_t_ringMany, .ref q_t_ring, .ref q_t_line, .ref q_t_groups, .ref q_t_likely, .ref q_t_likelyThen, .int v_t_seedNow, .ref q_t_saved, .int v_t_keptMany, .int v_t_keptByHands, .int v_t_keptByMould, .ref q_t_keptRows, .ref q_t_keptDebts, .long v_t_hash])), (q_t_rows, .inl (cI, 80, .inl u6.2)), (q_t_debts, .inl (cI, 36, .inl v_t_debts))] H := hP
          have hD : va_D A0 [(q_t, .inr (10, [.ref q_t_page, .int v_t_pageMany, .ref q_t_readKinds, .ref q_t_readLeaflets, .int v_t_readMany, .int v_t_told, .int v_t_many, .int (v_t_lostByHands + u6.1), .int v_t_lostByMould, .ref q_t_rows, .ref q_t_debts, .int v_t_ringMany, .ref q_t_ring, .ref q_t_line, .ref q_t_groups, .ref q_t_likely, .ref q_t_likelyThen, .int v_t_seedNow, .ref q_t_saved, .int v_t_keptMany, .int v_t_keptByHands, .int v_t_keptByMould, .ref q_t_keptRows, .ref q_t_keptDebts, .long v_t_hash])), (q_t_rows, .inl (cI, 80, .inl u6.2)), (q_t_debts, .inl (cI, 36, .inl v_t_debts))] := hD
          refine lv_aload_n hx hb dX11_pay_62 rfl (lv_at hl 2 rfl) ?_
          refine va_get (own := RX11) (ci := 10) (v := .ref q_t_rows) (C := RX11) (T := TX11) (N := 25) hx hb hts iX11 hown hK hP 0 rfl rfl 9 (by decide) k19 (fun _ h9 => h9) rfl dX11_pay_63 ?_
          refine lv_bipush (v := 8) hx hb dX11_pay_66 (by decide) ?_
          refine lv_iload_n hx hb dX11_pay_68 rfl (lv_at hl 3 rfl) ?_
          refine lv_imul hx hb dX11_pay_69 ?_
          refine lv_iconst (v := 1) hx hb dX11_pay_70 (by decide) ?_
          refine lv_iadd hx hb dX11_pay_71 ?_
          obtain ⟨g8, h⟩ := gd_of h
          refine va_iald hx hb hK hP 1 0 rfl rfl (inb_of g8) dX11_pay_72 ?_
          refine lv_istore (lv' := [(5, .int (u6.2 ((8 * x1) + 1).toNatClampNeg)), (4, .int u6.1), (3, .int (v_t_rows ((8 * x1) + 2).toNatClampNeg)), (0, .ref q_t), (1, .int x1), (2, .int x2)]) hx hb dX11_pay_73 hl (by decide) rfl (fun ls hl => ?_)
          refine lv_aload_n hx hb dX11_pay_75 rfl (lv_at hl 3 rfl) ?_
          refine va_get (own := RX11) (ci := 10) (v := .ref q_t_debts) (C := RX11) (T := TX11) (N := 25) hx hb hts iX11 hown hK hP 0 rfl rfl 10 (by decide) k22 (fun _ h9 => h9) rfl dX11_pay_76 ?_
          refine lv_bipush (v := 6) hx hb dX11_pay_79 (by decide) ?_
          refine lv_iload_n hx hb dX11_pay_81 rfl (lv_at hl 2 rfl) ?_
          refine lv_imul hx hb dX11_pay_82 ?_
          refine lv_iload_n hx hb dX11_pay_83 rfl (lv_at hl 5 rfl) ?_
          refine lv_iadd hx hb dX11_pay_84 ?_
          obtain ⟨g9, h⟩ := gd_of h
          refine va_iald hx hb hK hP 2 0 rfl rfl (inb_of g9) dX11_pay_85 ?_
          refine lv_iload hx hb dX11_pay_86 (lv_at hl 0 rfl) ?_
          refine lv_isub hx hb dX11_pay_88 ?_
          refine lv_istore (lv' := [(6, .int ((v_t_debts ((6 * (v_t_rows ((8 * x1) + 2).toNatClampNeg)) + x2).toNatClampNeg) - (u6.2 ((8 * x1) + 1).toNatClampNeg))), (5, .int (u6.2 ((8 * x1) + 1).toNatClampNeg)), (4, .int u6.1), (3, .int (v_t_rows ((8 * x1) + 2).toNatClampNeg)), (0, .ref q_t), (1, .int x1), (2, .int x2)]) hx hb dX11_pay_89 hl (by decide) rfl (fun ls hl => ?_)
          refine lv_aload_n hx hb dX11_pay_91 rfl (lv_at hl 4 rfl) ?_
          refine va_get (own := RX11) (ci := 10) (v := .ref q_t_debts) (C := RX11) (T := TX11) (N := 25) hx hb hts iX11 hown hK hP 0 rfl rfl 10 (by decide) k22 (fun _ h9 => h9) rfl dX11_pay_92 ?_
          refine lv_bipush (v := 6) hx hb dX11_pay_95 (by decide) ?_
          refine lv_iload_n hx hb dX11_pay_97 rfl (lv_at hl 3 rfl) ?_
          refine lv_imul hx hb dX11_pay_98 ?_
          refine lv_iload_n hx hb dX11_pay_99 rfl (lv_at hl 6 rfl) ?_
          refine lv_iadd hx hb dX11_pay_100 ?_
          refine lv_iload hx hb dX11_pay_101 (lv_at hl 0 rfl) ?_
          have K112_10 : ∀ (w11 : Int32) (H : Heap) (locs : List Loc) (ls : Array Slot), w11 = (if 0 ≤ ((v_t_debts ((6 * (v_t_rows ((8 * x1) + 2).toNatClampNeg)) + x2).toNatClampNeg) - (u6.2 ((8 * x1) + 1).toNatClampNeg)) then ((v_t_debts ((6 * (v_t_rows ((8 * x1) + 2).toNatClampNeg)) + x2).toNatClampNeg) - (u6.2 ((8 * x1) + 1).toNatClampNeg)) else 0 : Int32) → va_P D vwCl [(q_t, .inr (10, [.ref q_t_page, .int v_t_pageMany, .ref q_t_readKinds, .ref q_t_readLeaflets, .int v_t_readMany, .int v_t_told, .int v_t_many, .int (v_t_lostByHands + u6.1), .int v_t_lostByMould, .ref q_t_rows, .ref q_t_debts, .int v_t_ringMany, .ref q_t_ring, .ref q_t_line, .ref q_t_groups, .ref q_t_likely, .ref q_t_likelyThen, .int v_t_seedNow, .ref q_t_saved, .int v_t_keptMany, .int v_t_keptByHands, .int v_t_keptByMould, .ref q_t_keptRows, .ref q_t_keptDebts, .long v_t_hash])), (q_t_rows, .inl (cI, 80, .inl u6.2)), (q_t_debts, .inl (cI, 36, .inl v_t_debts))] H → va_D A0 [(q_t, .inr (10, [.ref q_t_page, .int v_t_pageMany, .ref q_t_readKinds, .ref q_t_readLeaflets, .int v_t_readMany, .int v_t_told, .int v_t_many, .int (v_t_lostByHands + u6.1), .int v_t_lostByMould, .ref q_t_rows, .ref q_t_debts, .int v_t_ringMany, .ref q_t_ring, .ref q_t_line, .ref q_t_groups, .ref q_t_likely, .ref q_t_likelyThen, .int v_t_seedNow, .ref q_t_saved, .int v_t_keptMany, .int v_t_keptByHands, .int v_t_keptByMould, .ref q_t_keptRows, .ref q_t_keptDebts, .long v_t_hash])), (q_t_rows, .inl (cI, 80, .inl u6.2)), (q_t_debts, .inl (cI, 36, .inl v_t_debts))] → va_S A0 s.heap H locs → lv_has ls 7 [(5, .int (u6.2 ((8 * x1) + 1).toNatClampNeg))] → W p l e ({ frames := 3, cells := 0, slots := 0, locals := 68 } : Room) s m args below meth c H locs 0 0 Q0 (F0 m 112 ls [.int w11, .int ((6 * (v_t_rows ((8 * x1) + 2).toNatClampNeg)) + x2), .ref q_t_debts]) := by
            intro w11 H locs ls e_w11 hP hD hS hl
            subst e_w11
            refine va_iast hx hb hK hP hD hS 2 0 rfl rfl (inb_of g9) dX11_pay_112 (fun H locs hP hD hS => ?_)
            have hP : va_P D vwCl [(q_t, .inr (10, [.ref q_t_page, .int v_t_pageMany, .ref q_t_readKinds, .ref q_t_readLeaflets, .int v_t_readMany, .int v_t_told, .int v_t_many, .int (v_t_lostByHands + u6.1), .int v_t_lostByMould, .ref q_t_rows, .ref q_t_debts, .int v_t_ringMany, .ref q_t_ring, .ref q_t_line, .ref q_t_groups, .ref q_t_likely, .ref q_t_likelyThen, .int v_t_seedNow, .ref q_t_saved, .int v_t_keptMany, .int v_t_keptByHands, .int v_t_keptByMould, .ref q_t_keptRows, .ref q_t_keptDebts, .long v_t_hash])), (q_t_rows, .inl (cI, 80, .inl u6.2)), (q_t_debts, .inl (cI, 36, .inl (upd v_t_debts ((6 * (v_t_rows ((8 * x1) + 2).toNatClampNeg)) + x2).toNatClampNeg (if 0 ≤ ((v_t_debts ((6 * (v_t_rows ((8 * x1) + 2).toNatClampNeg)) + x2).toNatClampNeg) - (u6.2 ((8 * x1) + 1).toNatClampNeg)) then ((v_t_debts ((6 * (v_t_rows ((8 * x1) + 2).toNatClampNeg)) + x2).toNatClampNeg) - (u6.2 ((8 * x1) + 1).toNatClampNeg)) else 0 : Int32))))] H := hP
            have hD : va_D A0 [(q_t, .inr (10, [.ref q_t_page, .int v_t_pageMany, .ref q_t_readKinds, .ref q_t_readLeaflets, .int v_t_readMany, .int v_t_told, .int v_t_many, .int (v_t_lostByHands + u6.1), .int v_t_lostByMould, .ref q_t_rows, .ref q_t_debts, .int v_t_ringMany, .ref q_t_ring, .ref q_t_line, .ref q_t_groups, .ref q_t_likely, .ref q_t_likelyThen, .int v_t_seedNow, .ref q_t_saved, .int v_t_keptMany, .int v_t_keptByHands, .int v_t_keptByMould, .ref q_t_keptRows, .ref q_t_keptDebts, .long v_t_hash])), (q_t_rows, .inl (cI, 80, .inl u6.2)), (q_t_debts, .inl (cI, 36, .inl (upd v_t_debts ((6 * (v_t_rows ((8 * x1) + 2).toNatClampNeg)) + x2).toNatClampNeg (if 0 ≤ ((v_t_debts ((6 * (v_t_rows ((8 * x1) + 2).toNatClampNeg)) + x2).toNatClampNeg) - (u6.2 ((8 * x1) + 1).toNatClampNeg)) then ((v_t_debts ((6 * (v_t_rows ((8 * x1) + 2).toNatClampNeg)) + x2).toNatClampNeg) - (u6.2 ((8 * x1) + 1).toNatClampNeg)) else 0 : Int32))))] := hD
            refine lv_iload hx hb dX11_pay_113 (lv_at hl 0 rfl) ?_
            obtain rfl := Option.some.inj h
            exact rt_i hA0 hQ0 hx hb hr hlocks hP hS dX11_pay_115
          refine lv_if_ge (tgt := 110) hx hb dX11_pay_103 (by decide) (fun c12 => ?_) (fun c12 => ?_)
          · skip
            refine lv_iload hx hb dX11_pay_110 (lv_at hl 0 rfl) ?_
            exact K112_10 (((v_t_debts ((6 * (v_t_rows ((8 * x1) + 2).toNatClampNeg)) + x2).toNatClampNeg) - (u6.2 ((8 * x1) + 1).toNatClampNeg))) _ _ _ (by rw [if_pos c12]) hP hD hS (lv_sub hl [1] rfl)
          · skip
            refine lv_iconst (v := 0) hx hb dX11_pay_106 (by decide) ?_
            refine lv_goto (tgt := 112) hx hb dX11_pay_107 (by decide) ?_
            exact K112_10 0 _ _ _ (by rw [if_neg c12]) hP hD hS (lv_sub hl [1] rfl)
        · skip
          have h := (if_pos c5).symm.trans h
          refine lv_bipush (v := (-103)) hx hb dX11_pay_40 (by decide) ?_
          obtain rfl := Option.some.inj h
          exact rt_i hA0 hQ0 hx hb hr hlocks hP hS dX11_pay_42
    · skip
      have h := (if_pos c2).symm.trans h
      refine lv_bipush (v := (-101)) hx hb dX11_pay_15 (by decide) ?_
      obtain rfl := Option.some.inj h
      exact rt_i hA0 hQ0 hx hb hr hlocks hP hS dX11_pay_17
def fX11_arePair (x0 : Int32) (x1 : Int32) : Int32 :=
  if (fX11_isPerson x0) = 0 then (0) else (if (fX11_isPerson x1) = 0 then (0) else (if x0 = x1 then (0) else (1)))
set_option maxHeartbeats 4000000 in
set_option maxRecDepth 100000 in
theorem c_X11_arePair (l : Launch) (D : va_G) (cI cJ : ClassId) (x0 : Int32) (x1 : Int32) : Met l yX11_arePair wsX11_arePair ({ frames := 2, cells := 0, slots := 0, locals := 45 } : Room) (va_Pc [.int x0, .int x1] (preG D cI cJ [])) (QG D [] [] (some (.int (fX11_arePair x0 x1)))) 0 0 (fr []) := by
  generalize h : fX11_arePair x0 x1 = z
  refine Met.ofW (cc := cX11_arePair) (maxL := 2) (ret := (some .boolean)) (by decide) rfl ?_
  intro p e s m args below meth c s₁ B hml hv
  obtain ⟨hargs, hP, hK, hN, hD0⟩ := hv
  have hx := B.exec
  have hb := B.bytes
  have hr := B.returns
  have hts := atoms_spec (ws := wsX11_arePair) B.pre
  have hown : s.vm.findClass RX11 = some m.cls := findClass_of_methodNamed B.named
  have hlocks := B.notSynchronized
  have hD := fr_D hD0
  have hS : va_S (fr []) s.heap s.heap [] := va_S.rf
  have hl := lv_entry ([.int x0, .int x1]) (n := 2) (Nat.le_of_ble_eq_true rfl)
  refine W.eq (g2 := F0 m 0 ((lg_sl ([.int x0, .int x1]) ++ List.replicate (2 - (lg_sl ([.int x0, .int x1])).length) Slot.unset).toArray) []) (by rw [hargs, lg_entry_eq]) ?_
  generalize (lg_sl ([.int x0, .int x1]) ++ List.replicate (2 - (lg_sl ([.int x0, .int x1])).length) Slot.unset).toArray = ls at hl ⊢
  have hl : lv_has ls 2 [(0, .int x0), (1, .int x1)] := hl
  show W p l e ({ frames := 2, cells := 0, slots := 0, locals := 45 } : Room) s m args below meth c s.heap [] 0 0 (MQ below (QG D [] [] (some (.int z))) args s 0 0 (fr [])) (F0 m 0 ls [])
  generalize hQ0 : (MQ below (QG D [] [] (some (.int z))) args s 0 0 (fr [])) = Q0
  generalize hA0 : fr [] = A0 at hD hS
  unfold fX11_arePair at h
  refine lv_iload_n hx hb dX11_arePair_0 rfl (lv_at hl 0 rfl) ?_
  refine cl_S [] (As := [.int x0]) (rest := []) (rv := (some (.int (fX11_isPerson x0)))) (c_X11_isPerson l D cI cJ x0) ⟨hx, hb, hml, hown, hts⟩ (va_cwS 1 hts gX11_arePair_X11_isPerson rfl rfl rfl (by decide +kernel) ⟨(Nat.le_of_ble_eq_true rfl), (Nat.le_of_ble_eq_true rfl)⟩) hK hN hP hD hS [] rfl (by decide) rfl rfl rfl rfl hl.1 rfl (Nat.le_of_ble_eq_true rfl) dX11_arePair_1 ⟨Nat.zero_le _, Nat.zero_le _⟩ (fun H locs hP hD hS => ?_)
  show W p l e ({ frames := 2, cells := 0, slots := 0, locals := 45 } : Room) s m args below meth c H locs 0 0 Q0 (F0 m 4 ls [.int (fX11_isPerson x0)])
  refine lv_if_eq (tgt := 23) hx hb dX11_arePair_4 (by decide) (fun c1 => ?_) (fun c1 => ?_)
  · skip
    have h := (if_pos c1).symm.trans h
    refine lv_iconst (v := 0) hx hb dX11_arePair_23 (by decide) ?_
    subst h
    exact rt_z hA0 hQ0 hx hb hr hlocks rfl hP hS dX11_arePair_24
  · skip
    have h := (if_neg c1).symm.trans h
    refine lv_iload_n hx hb dX11_arePair_7 rfl (lv_at hl 1 rfl) ?_
    refine cl_S [] (As := [.int x1]) (rest := []) (rv := (some (.int (fX11_isPerson x1)))) (c_X11_isPerson l D cI cJ x1) ⟨hx, hb, hml, hown, hts⟩ (va_cwS 1 hts gX11_arePair_X11_isPerson rfl rfl rfl (by decide +kernel) ⟨(Nat.le_of_ble_eq_true rfl), (Nat.le_of_ble_eq_true rfl)⟩) hK hN hP hD hS [] rfl (by decide) rfl rfl rfl rfl hl.1 rfl (Nat.le_of_ble_eq_true rfl) dX11_arePair_8 ⟨Nat.zero_le _, Nat.zero_le _⟩ (fun H locs hP hD hS => ?_)
    show W p l e ({ frames := 2, cells := 0, slots := 0, locals := 45 } : Room) s m args below meth c H locs 0 0 Q0 (F0 m 11 ls [.int (fX11_isPerson x1)])
    refine lv_if_eq (tgt := 23) hx hb dX11_arePair_11 (by decide) (fun c2 => ?_) (fun c2 => ?_)
    · skip
      have h := (if_pos c2).symm.trans h
      refine lv_iconst (v := 0) hx hb dX11_arePair_23 (by decide) ?_
      subst h
      exact rt_z hA0 hQ0 hx hb hr hlocks rfl hP hS dX11_arePair_24
    · skip
      have h := (if_neg c2).symm.trans h
      refine lv_iload_n hx hb dX11_arePair_14 rfl (lv_at hl 0 rfl) ?_
      refine lv_iload_n hx hb dX11_arePair_15 rfl (lv_at hl 1 rfl) ?_
      refine lv_icmp_eq (tgt := 23) hx hb dX11_arePair_16 (by decide) (fun c3 => ?_) (fun c3 => ?_)
      · skip
        have h := (if_pos c3).symm.trans h
        refine lv_iconst (v := 0) hx hb dX11_arePair_23 (by decide) ?_
        subst h
        exact rt_z hA0 hQ0 hx hb hr hlocks rfl hP hS dX11_arePair_24
      · skip
        have h := (if_neg c3).symm.trans h
        refine lv_iconst (v := 1) hx hb dX11_arePair_19 (by decide) ?_
        refine lv_goto (tgt := 24) hx hb dX11_arePair_20 (by decide) ?_
        subst h
        exact rt_z hA0 hQ0 hx hb hr hlocks rfl hP hS dX11_arePair_24
theorem zb_X11_arePair (x0 : Int32) (x1 : Int32) : narrow .boolean (.int (fX11_arePair x0 x1)) = .int (fX11_arePair x0 x1) := by
  unfold fX11_arePair
  repeat' split
  all_goals rfl
def fX11_debt (v_t_pageMany : Int32) (v_t_readMany : Int32) (v_t_told : Int32) (v_t_many : Int32) (v_t_lostByHands : Int32) (v_t_lostByMould : Int32) (v_t_ringMany : Int32) (v_t_seedNow : Int32) (v_t_keptMany : Int32) (v_t_keptByHands : Int32) (v_t_keptByMould : Int32) (v_t_hash : Int64) (v_t_debts : Nat → Int32) (x1 : Int32) (x2 : Int32) (x3 : Int32) : Option (Int32 × (Nat → Int32)) :=
  if (fX11_arePair x1 x2) = 0 then (some ((-101), v_t_debts)) else (if (fX11_in ((x3 : Int32).toInt64) 0 99) = 0 then (some ((-102), v_t_debts)) else (gd (inb ((6 * x1) + x2) 36) (some ((v_t_debts ((6 * x1) + x2).toNatClampNeg), (upd v_t_debts ((6 * x1) + x2).toNatClampNeg x3)))))
set_option maxHeartbeats 4000000 in
set_option maxRecDepth 100000 in
theorem c_X11_debt (l : Launch) (D : va_G) (cI cJ : ClassId) (q_t q_t_page q_t_readKinds q_t_readLeaflets q_t_rows q_t_debts q_t_ring q_t_line q_t_groups q_t_likely q_t_likelyThen q_t_saved q_t_keptRows q_t_keptDebts : Nat) (v_t_pageMany : Int32) (v_t_readMany : Int32) (v_t_told : Int32) (v_t_many : Int32) (v_t_lostByHands : Int32) (v_t_lostByMould : Int32) (v_t_ringMany : Int32) (v_t_seedNow : Int32) (v_t_keptMany : Int32) (v_t_keptByHands : Int32) (v_t_keptByMould : Int32) (v_t_hash : Int64) (v_t_debts : Nat → Int32) (x1 : Int32) (x2 : Int32) (x3 : Int32) (z : Int32 × (Nat → Int32)) (h : fX11_debt v_t_pageMany v_t_readMany v_t_told v_t_many v_t_lostByHands v_t_lostByMould v_t_ringMany v_t_seedNow v_t_keptMany v_t_keptByHands v_t_keptByMould v_t_hash v_t_debts x1 x2 x3 = some z) : Met l yX11_debt wsX11_debt ({ frames := 3, cells := 0, slots := 0, locals := 66 } : Room) (va_Pc [.ref q_t, .int x1, .int x2, .int x3] (preG D cI cJ [(q_t, .inr (10, [.ref q_t_page, .int v_t_pageMany, .ref q_t_readKinds, .ref q_t_readLeaflets, .int v_t_readMany, .int v_t_told, .int v_t_many, .int v_t_lostByHands, .int v_t_lostByMould, .ref q_t_rows, .ref q_t_debts, .int v_t_ringMany, .ref q_t_ring, .ref q_t_line, .ref q_t_groups, .ref q_t_likely, .ref q_t_likelyThen, .int v_t_seedNow, .ref q_t_saved, .int v_t_keptMany, .int v_t_keptByHands, .int v_t_keptByMould, .ref q_t_keptRows, .ref q_t_keptDebts, .long v_t_hash])), (q_t_debts, .inl (cI, 36, .inl v_t_debts))])) (QG D [(q_t, .inr (10, [.ref q_t_page, .int v_t_pageMany, .ref q_t_readKinds, .ref q_t_readLeaflets, .int v_t_readMany, .int v_t_told, .int v_t_many, .int v_t_lostByHands, .int v_t_lostByMould, .ref q_t_rows, .ref q_t_debts, .int v_t_ringMany, .ref q_t_ring, .ref q_t_line, .ref q_t_groups, .ref q_t_likely, .ref q_t_likelyThen, .int v_t_seedNow, .ref q_t_saved, .int v_t_keptMany, .int v_t_keptByHands, .int v_t_keptByMould, .ref q_t_keptRows, .ref q_t_keptDebts, .long v_t_hash])), (q_t_debts, .inl (cI, 36, .inl v_t_debts))] [(q_t, .inr (10, [.ref q_t_page, .int v_t_pageMany, .ref q_t_readKinds, .ref q_t_readLeaflets, .int v_t_readMany, .int v_t_told, .int v_t_many, .int v_t_lostByHands, .int v_t_lostByMould, .ref q_t_rows, .ref q_t_debts, .int v_t_ringMany, .ref q_t_ring, .ref q_t_line, .ref q_t_groups, .ref q_t_likely, .ref q_t_likelyThen, .int v_t_seedNow, .ref q_t_saved, .int v_t_keptMany, .int v_t_keptByHands, .int v_t_keptByMould, .ref q_t_keptRows, .ref q_t_keptDebts, .long v_t_hash])), (q_t_debts, .inl (cI, 36, .inl z.2))] (some (.int z.1))) 0 0 (fr [(q_t, .inr (10, [.ref q_t_page, .int v_t_pageMany, .ref q_t_readKinds, .ref q_t_readLeaflets, .int v_t_readMany, .int v_t_told, .int v_t_many, .int v_t_lostByHands, .int v_t_lostByMould, .ref q_t_rows, .ref q_t_debts, .int v_t_ringMany, .ref q_t_ring, .ref q_t_line, .ref q_t_groups, .ref q_t_likely, .ref q_t_likelyThen, .int v_t_seedNow, .ref q_t_saved, .int v_t_keptMany, .int v_t_keptByHands, .int v_t_keptByMould, .ref q_t_keptRows, .ref q_t_keptDebts, .long v_t_hash])), (q_t_debts, .inl (cI, 36, .inl v_t_debts))]) := by
  refine Met.ofW (cc := cX11_debt) (maxL := 5) (ret := (some .int)) (by decide) rfl ?_
  intro p e s m args below meth c s₁ B hml hv
  obtain ⟨hargs, hP, hK, hN, hD0⟩ := hv
  have hx := B.exec
  have hb := B.bytes
  have hr := B.returns
  have hts := atoms_spec (ws := wsX11_debt) B.pre
  have hown : s.vm.findClass RX11 = some m.cls := findClass_of_methodNamed B.named
  have hlocks := B.notSynchronized
  have iX11 : ∀ w ∈ wsX110, w ∈ wsX11_debt := by decide +kernel
  have k22 := hts (.fieldLink RX11 22 "PressedFernsModel" "debts" "[I") (by decide +kernel)
  have hD := fr_D hD0
  have hS : va_S (fr [(q_t, .inr (10, [.ref q_t_page, .int v_t_pageMany, .ref q_t_readKinds, .ref q_t_readLeaflets, .int v_t_readMany, .int v_t_told, .int v_t_many, .int v_t_lostByHands, .int v_t_lostByMould, .ref q_t_rows, .ref q_t_debts, .int v_t_ringMany, .ref q_t_ring, .ref q_t_line, .ref q_t_groups, .ref q_t_likely, .ref q_t_likelyThen, .int v_t_seedNow, .ref q_t_saved, .int v_t_keptMany, .int v_t_keptByHands, .int v_t_keptByMould, .ref q_t_keptRows, .ref q_t_keptDebts, .long v_t_hash])), (q_t_debts, .inl (cI, 36, .inl v_t_debts))]) s.heap s.heap [] := va_S.rf
  have hl := lv_entry ([.ref q_t, .int x1, .int x2, .int x3]) (n := 5) (Nat.le_of_ble_eq_true rfl)
  refine W.eq (g2 := F0 m 0 ((lg_sl ([.ref q_t, .int x1, .int x2, .int x3]) ++ List.replicate (5 - (lg_sl ([.ref q_t, .int x1, .int x2, .int x3])).length) Slot.unset).toArray) []) (by rw [hargs, lg_entry_eq]) ?_
  generalize (lg_sl ([.ref q_t, .int x1, .int x2, .int x3]) ++ List.replicate (5 - (lg_sl ([.ref q_t, .int x1, .int x2, .int x3])).length) Slot.unset).toArray = ls at hl ⊢
  have hl : lv_has ls 5 [(0, .ref q_t), (1, .int x1), (2, .int x2), (3, .int x3)] := hl
  show W p l e ({ frames := 3, cells := 0, slots := 0, locals := 66 } : Room) s m args below meth c s.heap [] 0 0 (MQ below (QG D [(q_t, .inr (10, [.ref q_t_page, .int v_t_pageMany, .ref q_t_readKinds, .ref q_t_readLeaflets, .int v_t_readMany, .int v_t_told, .int v_t_many, .int v_t_lostByHands, .int v_t_lostByMould, .ref q_t_rows, .ref q_t_debts, .int v_t_ringMany, .ref q_t_ring, .ref q_t_line, .ref q_t_groups, .ref q_t_likely, .ref q_t_likelyThen, .int v_t_seedNow, .ref q_t_saved, .int v_t_keptMany, .int v_t_keptByHands, .int v_t_keptByMould, .ref q_t_keptRows, .ref q_t_keptDebts, .long v_t_hash])), (q_t_debts, .inl (cI, 36, .inl v_t_debts))] [(q_t, .inr (10, [.ref q_t_page, .int v_t_pageMany, .ref q_t_readKinds, .ref q_t_readLeaflets, .int v_t_readMany, .int v_t_told, .int v_t_many, .int v_t_lostByHands, .int v_t_lostByMould, .ref q_t_rows, .ref q_t_debts, .int v_t_ringMany, .ref q_t_ring, .ref q_t_line, .ref q_t_groups, .ref q_t_likely, .ref q_t_likelyThen, .int v_t_seedNow, .ref q_t_saved, .int v_t_keptMany, .int v_t_keptByHands, .int v_t_keptByMould, .ref q_t_keptRows, .ref q_t_keptDebts, .long v_t_hash])), (q_t_debts, .inl (cI, 36, .inl z.2))] (some (.int z.1))) args s 0 0 (fr [(q_t, .inr (10, [.ref q_t_page, .int v_t_pageMany, .ref q_t_readKinds, .ref q_t_readLeaflets, .int v_t_readMany, .int v_t_told, .int v_t_many, .int v_t_lostByHands, .int v_t_lostByMould, .ref q_t_rows, .ref q_t_debts, .int v_t_ringMany, .ref q_t_ring, .ref q_t_line, .ref q_t_groups, .ref q_t_likely, .ref q_t_likelyThen, .int v_t_seedNow, .ref q_t_saved, .int v_t_keptMany, .int v_t_keptByHands, .int v_t_keptByMould, .ref q_t_keptRows, .ref q_t_keptDebts, .long v_t_hash])), (q_t_debts, .inl (cI, 36, .inl v_t_debts))])) (F0 m 0 ls [])
  generalize hQ0 : (MQ below (QG D [(q_t, .inr (10, [.ref q_t_page, .int v_t_pageMany, .ref q_t_readKinds, .ref q_t_readLeaflets, .int v_t_readMany, .int v_t_told, .int v_t_many, .int v_t_lostByHands, .int v_t_lostByMould, .ref q_t_rows, .ref q_t_debts, .int v_t_ringMany, .ref q_t_ring, .ref q_t_line, .ref q_t_groups, .ref q_t_likely, .ref q_t_likelyThen, .int v_t_seedNow, .ref q_t_saved, .int v_t_keptMany, .int v_t_keptByHands, .int v_t_keptByMould, .ref q_t_keptRows, .ref q_t_keptDebts, .long v_t_hash])), (q_t_debts, .inl (cI, 36, .inl v_t_debts))] [(q_t, .inr (10, [.ref q_t_page, .int v_t_pageMany, .ref q_t_readKinds, .ref q_t_readLeaflets, .int v_t_readMany, .int v_t_told, .int v_t_many, .int v_t_lostByHands, .int v_t_lostByMould, .ref q_t_rows, .ref q_t_debts, .int v_t_ringMany, .ref q_t_ring, .ref q_t_line, .ref q_t_groups, .ref q_t_likely, .ref q_t_likelyThen, .int v_t_seedNow, .ref q_t_saved, .int v_t_keptMany, .int v_t_keptByHands, .int v_t_keptByMould, .ref q_t_keptRows, .ref q_t_keptDebts, .long v_t_hash])), (q_t_debts, .inl (cI, 36, .inl z.2))] (some (.int z.1))) args s 0 0 (fr [(q_t, .inr (10, [.ref q_t_page, .int v_t_pageMany, .ref q_t_readKinds, .ref q_t_readLeaflets, .int v_t_readMany, .int v_t_told, .int v_t_many, .int v_t_lostByHands, .int v_t_lostByMould, .ref q_t_rows, .ref q_t_debts, .int v_t_ringMany, .ref q_t_ring, .ref q_t_line, .ref q_t_groups, .ref q_t_likely, .ref q_t_likelyThen, .int v_t_seedNow, .ref q_t_saved, .int v_t_keptMany, .int v_t_keptByHands, .int v_t_keptByMould, .ref q_t_keptRows, .ref q_t_keptDebts, .long v_t_hash])), (q_t_debts, .inl (cI, 36, .inl v_t_debts))])) = Q0
  generalize hA0 : fr [(q_t, .inr (10, [.ref q_t_page, .int v_t_pageMany, .ref q_t_readKinds, .ref q_t_readLeaflets, .int v_t_readMany, .int v_t_told, .int v_t_many, .int v_t_lostByHands, .int v_t_lostByMould, .ref q_t_rows, .ref q_t_debts, .int v_t_ringMany, .ref q_t_ring, .ref q_t_line, .ref q_t_groups, .ref q_t_likely, .ref q_t_likelyThen, .int v_t_seedNow, .ref q_t_saved, .int v_t_keptMany, .int v_t_keptByHands, .int v_t_keptByMould, .ref q_t_keptRows, .ref q_t_keptDebts, .long v_t_hash])), (q_t_debts, .inl (cI, 36, .inl v_t_debts))] = A0 at hD hS
  unfold fX11_debt at h
  refine lv_iload_n hx hb dX11_debt_0 rfl (lv_at hl 1 rfl) ?_
  refine lv_iload_n hx hb dX11_debt_1 rfl (lv_at hl 2 rfl) ?_
  refine cl_S [(q_t, .inr (10, [.ref q_t_page, .int v_t_pageMany, .ref q_t_readKinds, .ref q_t_readLeaflets, .int v_t_readMany, .int v_t_told, .int v_t_many, .int v_t_lostByHands, .int v_t_lostByMould, .ref q_t_rows, .ref q_t_debts, .int v_t_ringMany, .ref q_t_ring, .ref q_t_line, .ref q_t_groups, .ref q_t_likely, .ref q_t_likelyThen, .int v_t_seedNow, .ref q_t_saved, .int v_t_keptMany, .int v_t_keptByHands, .int v_t_keptByMould, .ref q_t_keptRows, .ref q_t_keptDebts, .long v_t_hash])), (q_t_debts, .inl (cI, 36, .inl v_t_debts))] (As := [.int x1, .int x2]) (rest := []) (rv := (some (.int (fX11_arePair x1 x2)))) (c_X11_arePair l D cI cJ x1 x2) ⟨hx, hb, hml, hown, hts⟩ (va_cwS 2 hts gX11_debt_X11_arePair rfl rfl rfl (by decide +kernel) ⟨(Nat.le_of_ble_eq_true rfl), (Nat.le_of_ble_eq_true rfl)⟩) hK hN hP hD hS [] rfl (by decide) rfl rfl rfl rfl hl.1 rfl (Nat.le_of_ble_eq_true rfl) dX11_debt_2 ⟨Nat.zero_le _, Nat.zero_le _⟩ (fun H locs hP hD hS => ?_)
  show W p l e ({ frames := 3, cells := 0, slots := 0, locals := 66 } : Room) s m args below meth c H locs 0 0 Q0 (F0 m 5 ls [.int (fX11_arePair x1 x2)])
  refine lv_if_ne (tgt := 11) hx hb dX11_debt_5 (by decide) (fun c1 => ?_) (fun c1 => ?_)
  · skip
    have h := (if_neg c1).symm.trans h
    refine lv_iload_n hx hb dX11_debt_11 rfl (lv_at hl 3 rfl) ?_
    refine lv_i2l hx hb dX11_debt_12 rfl ?_
    refine lv_lconst (v := 0) hx hb dX11_debt_13 (by decide) ?_
    refine lv_ldc2 (own := RX11) (v := 99) hx hb hown (hts (.constantLong RX11 127 (99)) (by decide +kernel)) dX11_debt_14 ?_
    refine cl_S [(q_t, .inr (10, [.ref q_t_page, .int v_t_pageMany, .ref q_t_readKinds, .ref q_t_readLeaflets, .int v_t_readMany, .int v_t_told, .int v_t_many, .int v_t_lostByHands, .int v_t_lostByMould, .ref q_t_rows, .ref q_t_debts, .int v_t_ringMany, .ref q_t_ring, .ref q_t_line, .ref q_t_groups, .ref q_t_likely, .ref q_t_likelyThen, .int v_t_seedNow, .ref q_t_saved, .int v_t_keptMany, .int v_t_keptByHands, .int v_t_keptByMould, .ref q_t_keptRows, .ref q_t_keptDebts, .long v_t_hash])), (q_t_debts, .inl (cI, 36, .inl v_t_debts))] (As := [.long ((x3 : Int32).toInt64), .long 0, .long 99]) (rest := []) (rv := (some (.int (fX11_in ((x3 : Int32).toInt64) 0 99)))) (c_X11_in l D cI cJ ((x3 : Int32).toInt64) 0 99) ⟨hx, hb, hml, hown, hts⟩ (va_cwS 3 hts gX11_debt_X11_in rfl rfl rfl (by decide +kernel) ⟨(Nat.le_of_ble_eq_true rfl), (Nat.le_of_ble_eq_true rfl)⟩) hK hN hP hD hS [] rfl (by decide) rfl rfl rfl rfl hl.1 rfl (Nat.le_of_ble_eq_true rfl) dX11_debt_17 ⟨Nat.zero_le _, Nat.zero_le _⟩ (fun H locs hP hD hS => ?_)
    show W p l e ({ frames := 3, cells := 0, slots := 0, locals := 66 } : Room) s m args below meth c H locs 0 0 Q0 (F0 m 20 ls [.int (fX11_in ((x3 : Int32).toInt64) 0 99)])
    refine lv_if_ne (tgt := 26) hx hb dX11_debt_20 (by decide) (fun c2 => ?_) (fun c2 => ?_)
    · skip
      have h := (if_neg c2).symm.trans h
      refine lv_aload_n hx hb dX11_debt_26 rfl (lv_at hl 0 rfl) ?_
      refine va_get (own := RX11) (ci := 10) (v := .ref q_t_debts) (C := RX11) (T := TX11) (N := 25) hx hb hts iX11 hown hK hP 0 rfl rfl 10 (by decide) k22 (fun _ h9 => h9) rfl dX11_debt_27 ?_
      refine lv_bipush (v := 6) hx hb dX11_debt_30 (by decide) ?_
      refine lv_iload_n hx hb dX11_debt_32 rfl (lv_at hl 1 rfl) ?_
      refine lv_imul hx hb dX11_debt_33 ?_
      refine lv_iload_n hx hb dX11_debt_34 rfl (lv_at hl 2 rfl) ?_
      refine lv_iadd hx hb dX11_debt_35 ?_
      obtain ⟨g3, h⟩ := gd_of h
      refine va_iald hx hb hK hP 1 0 rfl rfl (inb_of g3) dX11_debt_36 ?_
      refine lv_istore (lv' := [(4, .int (v_t_debts ((6 * x1) + x2).toNatClampNeg)), (0, .ref q_t), (1, .int x1), (2, .int x2), (3, .int x3)]) hx hb dX11_debt_37 hl (by decide) rfl (fun ls hl => ?_)
      refine lv_aload_n hx hb dX11_debt_39 rfl (lv_at hl 1 rfl) ?_
      refine va_get (own := RX11) (ci := 10) (v := .ref q_t_debts) (C := RX11) (T := TX11) (N := 25) hx hb hts iX11 hown hK hP 0 rfl rfl 10 (by decide) k22 (fun _ h9 => h9) rfl dX11_debt_40 ?_
      refine lv_bipush (v := 6) hx hb dX11_debt_43 (by decide) ?_
      refine lv_iload_n hx hb dX11_debt_45 rfl (lv_at hl 2 rfl) ?_
      refine lv_imul hx hb dX11_debt_46 ?_
      refine lv_iload_n hx hb dX11_debt_47 rfl (lv_at hl 3 rfl) ?_
      refine lv_iadd hx hb dX11_debt_48 ?_
      refine lv_iload_n hx hb dX11_debt_49 rfl (lv_at hl 4 rfl) ?_
      refine va_iast hx hb hK hP hD hS 1 0 rfl rfl (inb_of g3) dX11_debt_50 (fun H locs hP hD hS => ?_)
      have hP : va_P D vwCl [(q_t, .inr (10, [.ref q_t_page, .int v_t_pageMany, .ref q_t_readKinds, .ref q_t_readLeaflets, .int v_t_readMany, .int v_t_told, .int v_t_many, .int v_t_lostByHands, .int v_t_lostByMould, .ref q_t_rows, .ref q_t_debts, .int v_t_ringMany, .ref q_t_ring, .ref q_t_line, .ref q_t_groups, .ref q_t_likely, .ref q_t_likelyThen, .int v_t_seedNow, .ref q_t_saved, .int v_t_keptMany, .int v_t_keptByHands, .int v_t_keptByMould, .ref q_t_keptRows, .ref q_t_keptDebts, .long v_t_hash])), (q_t_debts, .inl (cI, 36, .inl (upd v_t_debts ((6 * x1) + x2).toNatClampNeg x3)))] H := hP
      have hD : va_D A0 [(q_t, .inr (10, [.ref q_t_page, .int v_t_pageMany, .ref q_t_readKinds, .ref q_t_readLeaflets, .int v_t_readMany, .int v_t_told, .int v_t_many, .int v_t_lostByHands, .int v_t_lostByMould, .ref q_t_rows, .ref q_t_debts, .int v_t_ringMany, .ref q_t_ring, .ref q_t_line, .ref q_t_groups, .ref q_t_likely, .ref q_t_likelyThen, .int v_t_seedNow, .ref q_t_saved, .int v_t_keptMany, .int v_t_keptByHands, .int v_t_keptByMould, .ref q_t_keptRows, .ref q_t_keptDebts, .long v_t_hash])), (q_t_debts, .inl (cI, 36, .inl (upd v_t_debts ((6 * x1) + x2).toNatClampNeg x3)))] := hD
      refine lv_iload hx hb dX11_debt_51 (lv_at hl 0 rfl) ?_
      obtain rfl := Option.some.inj h
      exact rt_i hA0 hQ0 hx hb hr hlocks hP hS dX11_debt_53
    · skip
      have h := (if_pos c2).symm.trans h
      refine lv_bipush (v := (-102)) hx hb dX11_debt_23 (by decide) ?_
      obtain rfl := Option.some.inj h
      exact rt_i hA0 hQ0 hx hb hr hlocks hP hS dX11_debt_25
  · skip
    have h := (if_pos c1).symm.trans h
    refine lv_bipush (v := (-101)) hx hb dX11_debt_8 (by decide) ?_
    obtain rfl := Option.some.inj h
    exact rt_i hA0 hQ0 hx hb hr hlocks hP hS dX11_debt_10
def fX11_owes (v_t_pageMany : Int32) (v_t_readMany : Int32) (v_t_told : Int32) (v_t_many : Int32) (v_t_lostByHands : Int32) (v_t_lostByMould : Int32) (v_t_ringMany : Int32) (v_t_seedNow : Int32) (v_t_keptMany : Int32) (v_t_keptByHands : Int32) (v_t_keptByMould : Int32) (v_t_hash : Int64) (v_t_debts : Nat → Int32) (x1 : Int32) (x2 : Int32) : Option (Int32) :=
  if (fX11_arePair x1 x2) = 0 then (some (-101)) else (gd (inb ((6 * x1) + x2) 36) (some (v_t_debts ((6 * x1) + x2).toNatClampNeg)))
set_option maxHeartbeats 4000000 in
set_option maxRecDepth 100000 in
theorem c_X11_owes (l : Launch) (D : va_G) (cI cJ : ClassId) (q_t q_t_page q_t_readKinds q_t_readLeaflets q_t_rows q_t_debts q_t_ring q_t_line q_t_groups q_t_likely q_t_likelyThen q_t_saved q_t_keptRows q_t_keptDebts : Nat) (v_t_pageMany : Int32) (v_t_readMany : Int32) (v_t_told : Int32) (v_t_many : Int32) (v_t_lostByHands : Int32) (v_t_lostByMould : Int32) (v_t_ringMany : Int32) (v_t_seedNow : Int32) (v_t_keptMany : Int32) (v_t_keptByHands : Int32) (v_t_keptByMould : Int32) (v_t_hash : Int64) (v_t_debts : Nat → Int32) (x1 : Int32) (x2 : Int32) (z : Int32) (h : fX11_owes v_t_pageMany v_t_readMany v_t_told v_t_many v_t_lostByHands v_t_lostByMould v_t_ringMany v_t_seedNow v_t_keptMany v_t_keptByHands v_t_keptByMould v_t_hash v_t_debts x1 x2 = some z) : Met l yX11_owes wsX11_owes ({ frames := 3, cells := 0, slots := 0, locals := 66 } : Room) (va_Pc [.ref q_t, .int x1, .int x2] (preG D cI cJ [(q_t, .inr (10, [.ref q_t_page, .int v_t_pageMany, .ref q_t_readKinds, .ref q_t_readLeaflets, .int v_t_readMany, .int v_t_told, .int v_t_many, .int v_t_lostByHands, .int v_t_lostByMould, .ref q_t_rows, .ref q_t_debts, .int v_t_ringMany, .ref q_t_ring, .ref q_t_line, .ref q_t_groups, .ref q_t_likely, .ref q_t_likelyThen, .int v_t_seedNow, .ref q_t_saved, .int v_t_keptMany, .int v_t_keptByHands, .int v_t_keptByMould, .ref q_t_keptRows, .ref q_t_keptDebts, .long v_t_hash])), (q_t_debts, .inl (cI, 36, .inl v_t_debts))])) (QG D [(q_t, .inr (10, [.ref q_t_page, .int v_t_pageMany, .ref q_t_readKinds, .ref q_t_readLeaflets, .int v_t_readMany, .int v_t_told, .int v_t_many, .int v_t_lostByHands, .int v_t_lostByMould, .ref q_t_rows, .ref q_t_debts, .int v_t_ringMany, .ref q_t_ring, .ref q_t_line, .ref q_t_groups, .ref q_t_likely, .ref q_t_likelyThen, .int v_t_seedNow, .ref q_t_saved, .int v_t_keptMany, .int v_t_keptByHands, .int v_t_keptByMould, .ref q_t_keptRows, .ref q_t_keptDebts, .long v_t_hash])), (q_t_debts, .inl (cI, 36, .inl v_t_debts))] [(q_t, .inr (10, [.ref q_t_page, .int v_t_pageMany, .ref q_t_readKinds, .ref q_t_readLeaflets, .int v_t_readMany, .int v_t_told, .int v_t_many, .int v_t_lostByHands, .int v_t_lostByMould, .ref q_t_rows, .ref q_t_debts, .int v_t_ringMany, .ref q_t_ring, .ref q_t_line, .ref q_t_groups, .ref q_t_likely, .ref q_t_likelyThen, .int v_t_seedNow, .ref q_t_saved, .int v_t_keptMany, .int v_t_keptByHands, .int v_t_keptByMould, .ref q_t_keptRows, .ref q_t_keptDebts, .long v_t_hash])), (q_t_debts, .inl (cI, 36, .inl v_t_debts))] (some (.int z))) 0 0 (fr [(q_t, .inr (10, [.ref q_t_page, .int v_t_pageMany, .ref q_t_readKinds, .ref q_t_readLeaflets, .int v_t_readMany, .int v_t_told, .int v_t_many, .int v_t_lostByHands, .int v_t_lostByMould, .ref q_t_rows, .ref q_t_debts, .int v_t_ringMany, .ref q_t_ring, .ref q_t_line, .ref q_t_groups, .ref q_t_likely, .ref q_t_likelyThen, .int v_t_seedNow, .ref q_t_saved, .int v_t_keptMany, .int v_t_keptByHands, .int v_t_keptByMould, .ref q_t_keptRows, .ref q_t_keptDebts, .long v_t_hash])), (q_t_debts, .inl (cI, 36, .inl v_t_debts))]) := by
  refine Met.ofW (cc := cX11_owes) (maxL := 3) (ret := (some .int)) (by decide) rfl ?_
  intro p e s m args below meth c s₁ B hml hv
  obtain ⟨hargs, hP, hK, hN, hD0⟩ := hv
  have hx := B.exec
  have hb := B.bytes
  have hr := B.returns
  have hts := atoms_spec (ws := wsX11_owes) B.pre
  have hown : s.vm.findClass RX11 = some m.cls := findClass_of_methodNamed B.named
  have hlocks := B.notSynchronized
  have iX11 : ∀ w ∈ wsX110, w ∈ wsX11_owes := by decide +kernel
  have k22 := hts (.fieldLink RX11 22 "PressedFernsModel" "debts" "[I") (by decide +kernel)
  have hD := fr_D hD0
  have hS : va_S (fr [(q_t, .inr (10, [.ref q_t_page, .int v_t_pageMany, .ref q_t_readKinds, .ref q_t_readLeaflets, .int v_t_readMany, .int v_t_told, .int v_t_many, .int v_t_lostByHands, .int v_t_lostByMould, .ref q_t_rows, .ref q_t_debts, .int v_t_ringMany, .ref q_t_ring, .ref q_t_line, .ref q_t_groups, .ref q_t_likely, .ref q_t_likelyThen, .int v_t_seedNow, .ref q_t_saved, .int v_t_keptMany, .int v_t_keptByHands, .int v_t_keptByMould, .ref q_t_keptRows, .ref q_t_keptDebts, .long v_t_hash])), (q_t_debts, .inl (cI, 36, .inl v_t_debts))]) s.heap s.heap [] := va_S.rf
  have hl := lv_entry ([.ref q_t, .int x1, .int x2]) (n := 3) (Nat.le_of_ble_eq_true rfl)
  refine W.eq (g2 := F0 m 0 ((lg_sl ([.ref q_t, .int x1, .int x2]) ++ List.replicate (3 - (lg_sl ([.ref q_t, .int x1, .int x2])).length) Slot.unset).toArray) []) (by rw [hargs, lg_entry_eq]) ?_
  generalize (lg_sl ([.ref q_t, .int x1, .int x2]) ++ List.replicate (3 - (lg_sl ([.ref q_t, .int x1, .int x2])).length) Slot.unset).toArray = ls at hl ⊢
  have hl : lv_has ls 3 [(0, .ref q_t), (1, .int x1), (2, .int x2)] := hl
  show W p l e ({ frames := 3, cells := 0, slots := 0, locals := 66 } : Room) s m args below meth c s.heap [] 0 0 (MQ below (QG D [(q_t, .inr (10, [.ref q_t_page, .int v_t_pageMany, .ref q_t_readKinds, .ref q_t_readLeaflets, .int v_t_readMany, .int v_t_told, .int v_t_many, .int v_t_lostByHands, .int v_t_lostByMould, .ref q_t_rows, .ref q_t_debts, .int v_t_ringMany, .ref q_t_ring, .ref q_t_line, .ref q_t_groups, .ref q_t_likely, .ref q_t_likelyThen, .int v_t_seedNow, .ref q_t_saved, .int v_t_keptMany, .int v_t_keptByHands, .int v_t_keptByMould, .ref q_t_keptRows, .ref q_t_keptDebts, .long v_t_hash])), (q_t_debts, .inl (cI, 36, .inl v_t_debts))] [(q_t, .inr (10, [.ref q_t_page, .int v_t_pageMany, .ref q_t_readKinds, .ref q_t_readLeaflets, .int v_t_readMany, .int v_t_told, .int v_t_many, .int v_t_lostByHands, .int v_t_lostByMould, .ref q_t_rows, .ref q_t_debts, .int v_t_ringMany, .ref q_t_ring, .ref q_t_line, .ref q_t_groups, .ref q_t_likely, .ref q_t_likelyThen, .int v_t_seedNow, .ref q_t_saved, .int v_t_keptMany, .int v_t_keptByHands, .int v_t_keptByMould, .ref q_t_keptRows, .ref q_t_keptDebts, .long v_t_hash])), (q_t_debts, .inl (cI, 36, .inl v_t_debts))] (some (.int z))) args s 0 0 (fr [(q_t, .inr (10, [.ref q_t_page, .int v_t_pageMany, .ref q_t_readKinds, .ref q_t_readLeaflets, .int v_t_readMany, .int v_t_told, .int v_t_many, .int v_t_lostByHands, .int v_t_lostByMould, .ref q_t_rows, .ref q_t_debts, .int v_t_ringMany, .ref q_t_ring, .ref q_t_line, .ref q_t_groups, .ref q_t_likely, .ref q_t_likelyThen, .int v_t_seedNow, .ref q_t_saved, .int v_t_keptMany, .int v_t_keptByHands, .int v_t_keptByMould, .ref q_t_keptRows, .ref q_t_keptDebts, .long v_t_hash])), (q_t_debts, .inl (cI, 36, .inl v_t_debts))])) (F0 m 0 ls [])
  generalize hQ0 : (MQ below (QG D [(q_t, .inr (10, [.ref q_t_page, .int v_t_pageMany, .ref q_t_readKinds, .ref q_t_readLeaflets, .int v_t_readMany, .int v_t_told, .int v_t_many, .int v_t_lostByHands, .int v_t_lostByMould, .ref q_t_rows, .ref q_t_debts, .int v_t_ringMany, .ref q_t_ring, .ref q_t_line, .ref q_t_groups, .ref q_t_likely, .ref q_t_likelyThen, .int v_t_seedNow, .ref q_t_saved, .int v_t_keptMany, .int v_t_keptByHands, .int v_t_keptByMould, .ref q_t_keptRows, .ref q_t_keptDebts, .long v_t_hash])), (q_t_debts, .inl (cI, 36, .inl v_t_debts))] [(q_t, .inr (10, [.ref q_t_page, .int v_t_pageMany, .ref q_t_readKinds, .ref q_t_readLeaflets, .int v_t_readMany, .int v_t_told, .int v_t_many, .int v_t_lostByHands, .int v_t_lostByMould, .ref q_t_rows, .ref q_t_debts, .int v_t_ringMany, .ref q_t_ring, .ref q_t_line, .ref q_t_groups, .ref q_t_likely, .ref q_t_likelyThen, .int v_t_seedNow, .ref q_t_saved, .int v_t_keptMany, .int v_t_keptByHands, .int v_t_keptByMould, .ref q_t_keptRows, .ref q_t_keptDebts, .long v_t_hash])), (q_t_debts, .inl (cI, 36, .inl v_t_debts))] (some (.int z))) args s 0 0 (fr [(q_t, .inr (10, [.ref q_t_page, .int v_t_pageMany, .ref q_t_readKinds, .ref q_t_readLeaflets, .int v_t_readMany, .int v_t_told, .int v_t_many, .int v_t_lostByHands, .int v_t_lostByMould, .ref q_t_rows, .ref q_t_debts, .int v_t_ringMany, .ref q_t_ring, .ref q_t_line, .ref q_t_groups, .ref q_t_likely, .ref q_t_likelyThen, .int v_t_seedNow, .ref q_t_saved, .int v_t_keptMany, .int v_t_keptByHands, .int v_t_keptByMould, .ref q_t_keptRows, .ref q_t_keptDebts, .long v_t_hash])), (q_t_debts, .inl (cI, 36, .inl v_t_debts))])) = Q0
  generalize hA0 : fr [(q_t, .inr (10, [.ref q_t_page, .int v_t_pageMany, .ref q_t_readKinds, .ref q_t_readLeaflets, .int v_t_readMany, .int v_t_told, .int v_t_many, .int v_t_lostByHands, .int v_t_lostByMould, .ref q_t_rows, .ref q_t_debts, .int v_t_ringMany, .ref q_t_ring, .ref q_t_line, .ref q_t_groups, .ref q_t_likely, .ref q_t_likelyThen, .int v_t_seedNow, .ref q_t_saved, .int v_t_keptMany, .int v_t_keptByHands, .int v_t_keptByMould, .ref q_t_keptRows, .ref q_t_keptDebts, .long v_t_hash])), (q_t_debts, .inl (cI, 36, .inl v_t_debts))] = A0 at hD hS
  unfold fX11_owes at h
  refine lv_iload_n hx hb dX11_owes_0 rfl (lv_at hl 1 rfl) ?_
  refine lv_iload_n hx hb dX11_owes_1 rfl (lv_at hl 2 rfl) ?_
  refine cl_S [(q_t, .inr (10, [.ref q_t_page, .int v_t_pageMany, .ref q_t_readKinds, .ref q_t_readLeaflets, .int v_t_readMany, .int v_t_told, .int v_t_many, .int v_t_lostByHands, .int v_t_lostByMould, .ref q_t_rows, .ref q_t_debts, .int v_t_ringMany, .ref q_t_ring, .ref q_t_line, .ref q_t_groups, .ref q_t_likely, .ref q_t_likelyThen, .int v_t_seedNow, .ref q_t_saved, .int v_t_keptMany, .int v_t_keptByHands, .int v_t_keptByMould, .ref q_t_keptRows, .ref q_t_keptDebts, .long v_t_hash])), (q_t_debts, .inl (cI, 36, .inl v_t_debts))] (As := [.int x1, .int x2]) (rest := []) (rv := (some (.int (fX11_arePair x1 x2)))) (c_X11_arePair l D cI cJ x1 x2) ⟨hx, hb, hml, hown, hts⟩ (va_cwS 2 hts gX11_owes_X11_arePair rfl rfl rfl (by decide +kernel) ⟨(Nat.le_of_ble_eq_true rfl), (Nat.le_of_ble_eq_true rfl)⟩) hK hN hP hD hS [] rfl (by decide) rfl rfl rfl rfl hl.1 rfl (Nat.le_of_ble_eq_true rfl) dX11_owes_2 ⟨Nat.zero_le _, Nat.zero_le _⟩ (fun H locs hP hD hS => ?_)
  show W p l e ({ frames := 3, cells := 0, slots := 0, locals := 66 } : Room) s m args below meth c H locs 0 0 Q0 (F0 m 5 ls [.int (fX11_arePair x1 x2)])
  refine lv_if_eq (tgt := 22) hx hb dX11_owes_5 (by decide) (fun c1 => ?_) (fun c1 => ?_)
  · skip
    have h := (if_pos c1).symm.trans h
    refine lv_bipush (v := (-101)) hx hb dX11_owes_22 (by decide) ?_
    obtain rfl := Option.some.inj h
    exact rt_i hA0 hQ0 hx hb hr hlocks hP hS dX11_owes_24
  · skip
    have h := (if_neg c1).symm.trans h
    refine lv_aload_n hx hb dX11_owes_8 rfl (lv_at hl 0 rfl) ?_
    refine va_get (own := RX11) (ci := 10) (v := .ref q_t_debts) (C := RX11) (T := TX11) (N := 25) hx hb hts iX11 hown hK hP 0 rfl rfl 10 (by decide) k22 (fun _ h9 => h9) rfl dX11_owes_9 ?_
    refine lv_bipush (v := 6) hx hb dX11_owes_12 (by decide) ?_
    refine lv_iload_n hx hb dX11_owes_14 rfl (lv_at hl 1 rfl) ?_
    refine lv_imul hx hb dX11_owes_15 ?_
    refine lv_iload_n hx hb dX11_owes_16 rfl (lv_at hl 2 rfl) ?_
    refine lv_iadd hx hb dX11_owes_17 ?_
    obtain ⟨g2, h⟩ := gd_of h
    refine va_iald hx hb hK hP 1 0 rfl rfl (inb_of g2) dX11_owes_18 ?_
    refine lv_goto (tgt := 24) hx hb dX11_owes_19 (by decide) ?_
    obtain rfl := Option.some.inj h
    exact rt_i hA0 hQ0 hx hb hr hlocks hP hS dX11_owes_24
def fX11_bank (v_t_pageMany : Int32) (v_t_readMany : Int32) (v_t_told : Int32) (v_t_many : Int32) (v_t_lostByHands : Int32) (v_t_lostByMould : Int32) (v_t_ringMany : Int32) (v_t_seedNow : Int32) (v_t_keptMany : Int32) (v_t_keptByHands : Int32) (v_t_keptByMould : Int32) (v_t_hash : Int64) (v_t_rows : Nat → Int32) (x1 : Int32) : Option (Int32 × Int32 × (Nat → Int32)) :=
  if (fX11_isFrond v_t_pageMany v_t_readMany v_t_told v_t_many v_t_lostByHands v_t_lostByMould v_t_ringMany v_t_seedNow v_t_keptMany v_t_keptByHands v_t_keptByMould v_t_hash x1) = 0 then (some ((-101), v_t_lostByHands, v_t_rows)) else (gd (inb ((8 * x1) + 2) 80) (if (v_t_rows ((8 * x1) + 2).toNatClampNeg) = (-1) then (some ((-103), v_t_lostByHands, v_t_rows)) else ((fX11_hand v_t_pageMany v_t_readMany v_t_told v_t_many v_t_lostByHands v_t_lostByMould v_t_ringMany v_t_seedNow v_t_keptMany v_t_keptByHands v_t_keptByMould v_t_hash v_t_rows x1 (-1)).bind (fun u4 => gd (inb ((8 * x1) + 1) 80) (some ((u4.2 ((8 * x1) + 1).toNatClampNeg), (v_t_lostByHands + u4.1), u4.2))))))
set_option maxHeartbeats 4000000 in
set_option maxRecDepth 100000 in
theorem c_X11_bank (l : Launch) (D : va_G) (cI cJ : ClassId) (q_t q_t_page q_t_readKinds q_t_readLeaflets q_t_rows q_t_debts q_t_ring q_t_line q_t_groups q_t_likely q_t_likelyThen q_t_saved q_t_keptRows q_t_keptDebts : Nat) (v_t_pageMany : Int32) (v_t_readMany : Int32) (v_t_told : Int32) (v_t_many : Int32) (v_t_lostByHands : Int32) (v_t_lostByMould : Int32) (v_t_ringMany : Int32) (v_t_seedNow : Int32) (v_t_keptMany : Int32) (v_t_keptByHands : Int32) (v_t_keptByMould : Int32) (v_t_hash : Int64) (v_t_rows : Nat → Int32) (x1 : Int32) (z : Int32 × Int32 × (Nat → Int32)) (h : fX11_bank v_t_pageMany v_t_readMany v_t_told v_t_many v_t_lostByHands v_t_lostByMould v_t_ringMany v_t_seedNow v_t_keptMany v_t_keptByHands v_t_keptByMould v_t_hash v_t_rows x1 = some z) : Met l yX11_bank wsX11_bank ({ frames := 3, cells := 0, slots := 0, locals := 68 } : Room) (va_Pc [.ref q_t, .int x1] (preG D cI cJ [(q_t, .inr (10, [.ref q_t_page, .int v_t_pageMany, .ref q_t_readKinds, .ref q_t_readLeaflets, .int v_t_readMany, .int v_t_told, .int v_t_many, .int v_t_lostByHands, .int v_t_lostByMould, .ref q_t_rows, .ref q_t_debts, .int v_t_ringMany, .ref q_t_ring, .ref q_t_line, .ref q_t_groups, .ref q_t_likely, .ref q_t_likelyThen, .int v_t_seedNow, .ref q_t_saved, .int v_t_keptMany, .int v_t_keptByHands, .int v_t_keptByMould, .ref q_t_keptRows, .ref q_t_keptDebts, .long v_t_hash])), (q_t_rows, .inl (cI, 80, .inl v_t_rows))])) (QG D [(q_t, .inr (10, [.ref q_t_page, .int v_t_pageMany, .ref q_t_readKinds, .ref q_t_readLeaflets, .int v_t_readMany, .int v_t_told, .int v_t_many, .int v_t_lostByHands, .int v_t_lostByMould, .ref q_t_rows, .ref q_t_debts, .int v_t_ringMany, .ref q_t_ring, .ref q_t_line, .ref q_t_groups, .ref q_t_likely, .ref q_t_likelyThen, .int v_t_seedNow, .ref q_t_saved, .int v_t_keptMany, .int v_t_keptByHands, .int v_t_keptByMould, .ref q_t_keptRows, .ref q_t_keptDebts, .long v_t_hash])), (q_t_rows, .inl (cI, 80, .inl v_t_rows))] [(q_t, .inr (10, [.ref q_t_page, .int v_t_pageMany, .ref q_t_readKinds, .ref q_t_readLeaflets, .int v_t_readMany, .int v_t_told, .int v_t_many, .int z.2.1, .int v_t_lostByMould, .ref q_t_rows, .ref q_t_debts, .int v_t_ringMany, .ref q_t_ring, .ref q_t_line, .ref q_t_groups, .ref q_t_likely, .ref q_t_likelyThen, .int v_t_seedNow, .ref q_t_saved, .int v_t_keptMany, .int v_t_keptByHands, .int v_t_keptByMould, .ref q_t_keptRows, .ref q_t_keptDebts, .long v_t_hash])), (q_t_rows, .inl (cI, 80, .inl z.2.2))] (some (.int z.1))) 0 0 (fr [(q_t, .inr (10, [.ref q_t_page, .int v_t_pageMany, .ref q_t_readKinds, .ref q_t_readLeaflets, .int v_t_readMany, .int v_t_told, .int v_t_many, .int v_t_lostByHands, .int v_t_lostByMould, .ref q_t_rows, .ref q_t_debts, .int v_t_ringMany, .ref q_t_ring, .ref q_t_line, .ref q_t_groups, .ref q_t_likely, .ref q_t_likelyThen, .int v_t_seedNow, .ref q_t_saved, .int v_t_keptMany, .int v_t_keptByHands, .int v_t_keptByMould, .ref q_t_keptRows, .ref q_t_keptDebts, .long v_t_hash])), (q_t_rows, .inl (cI, 80, .inl v_t_rows))]) := by
  refine Met.ofW (cc := cX11_bank) (maxL := 3) (ret := (some .int)) (by decide) rfl ?_
  intro p e s m args below meth c s₁ B hml hv
  obtain ⟨hargs, hP, hK, hN, hD0⟩ := hv
  have hx := B.exec
  have hb := B.bytes
  have hr := B.returns
  have hts := atoms_spec (ws := wsX11_bank) B.pre
  have hown : s.vm.findClass RX11 = some m.cls := findClass_of_methodNamed B.named
  have hlocks := B.notSynchronized
  have iX11 : ∀ w ∈ wsX110, w ∈ wsX11_bank := by decide +kernel
  have k19 := hts (.fieldLink RX11 19 "PressedFernsModel" "rows" "[I") (by decide +kernel)
  have k120 := hts (.fieldLink RX11 120 "PressedFernsModel" "lostByHands" "I") (by decide +kernel)
  have hD := fr_D hD0
  have hS : va_S (fr [(q_t, .inr (10, [.ref q_t_page, .int v_t_pageMany, .ref q_t_readKinds, .ref q_t_readLeaflets, .int v_t_readMany, .int v_t_told, .int v_t_many, .int v_t_lostByHands, .int v_t_lostByMould, .ref q_t_rows, .ref q_t_debts, .int v_t_ringMany, .ref q_t_ring, .ref q_t_line, .ref q_t_groups, .ref q_t_likely, .ref q_t_likelyThen, .int v_t_seedNow, .ref q_t_saved, .int v_t_keptMany, .int v_t_keptByHands, .int v_t_keptByMould, .ref q_t_keptRows, .ref q_t_keptDebts, .long v_t_hash])), (q_t_rows, .inl (cI, 80, .inl v_t_rows))]) s.heap s.heap [] := va_S.rf
  have hl := lv_entry ([.ref q_t, .int x1]) (n := 3) (Nat.le_of_ble_eq_true rfl)
  refine W.eq (g2 := F0 m 0 ((lg_sl ([.ref q_t, .int x1]) ++ List.replicate (3 - (lg_sl ([.ref q_t, .int x1])).length) Slot.unset).toArray) []) (by rw [hargs, lg_entry_eq]) ?_
  generalize (lg_sl ([.ref q_t, .int x1]) ++ List.replicate (3 - (lg_sl ([.ref q_t, .int x1])).length) Slot.unset).toArray = ls at hl ⊢
  have hl : lv_has ls 3 [(0, .ref q_t), (1, .int x1)] := hl
  show W p l e ({ frames := 3, cells := 0, slots := 0, locals := 68 } : Room) s m args below meth c s.heap [] 0 0 (MQ below (QG D [(q_t, .inr (10, [.ref q_t_page, .int v_t_pageMany, .ref q_t_readKinds, .ref q_t_readLeaflets, .int v_t_readMany, .int v_t_told, .int v_t_many, .int v_t_lostByHands, .int v_t_lostByMould, .ref q_t_rows, .ref q_t_debts, .int v_t_ringMany, .ref q_t_ring, .ref q_t_line, .ref q_t_groups, .ref q_t_likely, .ref q_t_likelyThen, .int v_t_seedNow, .ref q_t_saved, .int v_t_keptMany, .int v_t_keptByHands, .int v_t_keptByMould, .ref q_t_keptRows, .ref q_t_keptDebts, .long v_t_hash])), (q_t_rows, .inl (cI, 80, .inl v_t_rows))] [(q_t, .inr (10, [.ref q_t_page, .int v_t_pageMany, .ref q_t_readKinds, .ref q_t_readLeaflets, .int v_t_readMany, .int v_t_told, .int v_t_many, .int z.2.1, .int v_t_lostByMould, .ref q_t_rows, .ref q_t_debts, .int v_t_ringMany, .ref q_t_ring, .ref q_t_line, .ref q_t_groups, .ref q_t_likely, .ref q_t_likelyThen, .int v_t_seedNow, .ref q_t_saved, .int v_t_keptMany, .int v_t_keptByHands, .int v_t_keptByMould, .ref q_t_keptRows, .ref q_t_keptDebts, .long v_t_hash])), (q_t_rows, .inl (cI, 80, .inl z.2.2))] (some (.int z.1))) args s 0 0 (fr [(q_t, .inr (10, [.ref q_t_page, .int v_t_pageMany, .ref q_t_readKinds, .ref q_t_readLeaflets, .int v_t_readMany, .int v_t_told, .int v_t_many, .int v_t_lostByHands, .int v_t_lostByMould, .ref q_t_rows, .ref q_t_debts, .int v_t_ringMany, .ref q_t_ring, .ref q_t_line, .ref q_t_groups, .ref q_t_likely, .ref q_t_likelyThen, .int v_t_seedNow, .ref q_t_saved, .int v_t_keptMany, .int v_t_keptByHands, .int v_t_keptByMould, .ref q_t_keptRows, .ref q_t_keptDebts, .long v_t_hash])), (q_t_rows, .inl (cI, 80, .inl v_t_rows))])) (F0 m 0 ls [])
  generalize hQ0 : (MQ below (QG D [(q_t, .inr (10, [.ref q_t_page, .int v_t_pageMany, .ref q_t_readKinds, .ref q_t_readLeaflets, .int v_t_readMany, .int v_t_told, .int v_t_many, .int v_t_lostByHands, .int v_t_lostByMould, .ref q_t_rows, .ref q_t_debts, .int v_t_ringMany, .ref q_t_ring, .ref q_t_line, .ref q_t_groups, .ref q_t_likely, .ref q_t_likelyThen, .int v_t_seedNow, .ref q_t_saved, .int v_t_keptMany, .int v_t_keptByHands, .int v_t_keptByMould, .ref q_t_keptRows, .ref q_t_keptDebts, .long v_t_hash])), (q_t_rows, .inl (cI, 80, .inl v_t_rows))] [(q_t, .inr (10, [.ref q_t_page, .int v_t_pageMany, .ref q_t_readKinds, .ref q_t_readLeaflets, .int v_t_readMany, .int v_t_told, .int v_t_many, .int z.2.1, .int v_t_lostByMould, .ref q_t_rows, .ref q_t_debts, .int v_t_ringMany, .ref q_t_ring, .ref q_t_line, .ref q_t_groups, .ref q_t_likely, .ref q_t_likelyThen, .int v_t_seedNow, .ref q_t_saved, .int v_t_keptMany, .int v_t_keptByHands, .int v_t_keptByMould, .ref q_t_keptRows, .ref q_t_keptDebts, .long v_t_hash])), (q_t_rows, .inl (cI, 80, .inl z.2.2))] (some (.int z.1))) args s 0 0 (fr [(q_t, .inr (10, [.ref q_t_page, .int v_t_pageMany, .ref q_t_readKinds, .ref q_t_readLeaflets, .int v_t_readMany, .int v_t_told, .int v_t_many, .int v_t_lostByHands, .int v_t_lostByMould, .ref q_t_rows, .ref q_t_debts, .int v_t_ringMany, .ref q_t_ring, .ref q_t_line, .ref q_t_groups, .ref q_t_likely, .ref q_t_likelyThen, .int v_t_seedNow, .ref q_t_saved, .int v_t_keptMany, .int v_t_keptByHands, .int v_t_keptByMould, .ref q_t_keptRows, .ref q_t_keptDebts, .long v_t_hash])), (q_t_rows, .inl (cI, 80, .inl v_t_rows))])) = Q0
  generalize hA0 : fr [(q_t, .inr (10, [.ref q_t_page, .int v_t_pageMany, .ref q_t_readKinds, .ref q_t_readLeaflets, .int v_t_readMany, .int v_t_told, .int v_t_many, .int v_t_lostByHands, .int v_t_lostByMould, .ref q_t_rows, .ref q_t_debts, .int v_t_ringMany, .ref q_t_ring, .ref q_t_line, .ref q_t_groups, .ref q_t_likely, .ref q_t_likelyThen, .int v_t_seedNow, .ref q_t_saved, .int v_t_keptMany, .int v_t_keptByHands, .int v_t_keptByMould, .ref q_t_keptRows, .ref q_t_keptDebts, .long v_t_hash])), (q_t_rows, .inl (cI, 80, .inl v_t_rows))] = A0 at hD hS
  unfold fX11_bank at h
  refine lv_aload_n hx hb dX11_bank_0 rfl (lv_at hl 0 rfl) ?_
  refine lv_iload_n hx hb dX11_bank_1 rfl (lv_at hl 1 rfl) ?_
  refine cl_V [(q_t, .inr (10, [.ref q_t_page, .int v_t_pageMany, .ref q_t_readKinds, .ref q_t_readLeaflets, .int v_t_readMany, .int v_t_told, .int v_t_many, .int v_t_lostByHands, .int v_t_lostByMould, .ref q_t_rows, .ref q_t_debts, .int v_t_ringMany, .ref q_t_ring, .ref q_t_line, .ref q_t_groups, .ref q_t_likely, .ref q_t_likelyThen, .int v_t_seedNow, .ref q_t_saved, .int v_t_keptMany, .int v_t_keptByHands, .int v_t_keptByMould, .ref q_t_keptRows, .ref q_t_keptDebts, .long v_t_hash])), (q_t_rows, .inl (cI, 80, .inl v_t_rows))] (As := [.int x1]) (rest := []) (rv := (some (.int (fX11_isFrond v_t_pageMany v_t_readMany v_t_told v_t_many v_t_lostByHands v_t_lostByMould v_t_ringMany v_t_seedNow v_t_keptMany v_t_keptByHands v_t_keptByMould v_t_hash x1)))) (c_X11_isFrond l D cI cJ q_t q_t_page q_t_readKinds q_t_readLeaflets q_t_rows q_t_debts q_t_ring q_t_line q_t_groups q_t_likely q_t_likelyThen q_t_saved q_t_keptRows q_t_keptDebts v_t_pageMany v_t_readMany v_t_told v_t_many v_t_lostByHands v_t_lostByMould v_t_ringMany v_t_seedNow v_t_keptMany v_t_keptByHands v_t_keptByMould v_t_hash x1) ⟨hx, hb, hml, hown, hts⟩ (cwV 1 hts gX11_bank_X11_isFrond rfl rfl rfl (by decide +kernel) ⟨(Nat.le_of_ble_eq_true rfl), (Nat.le_of_ble_eq_true rfl)⟩) hK hN hP hD hS [0] rfl (by decide) rfl rfl rfl (q0 := 0) (ci := 10) rfl rfl rfl rfl hl.1 rfl (Nat.le_of_ble_eq_true rfl) dX11_bank_2 ⟨Nat.zero_le _, Nat.zero_le _⟩ (fun H locs hP hD hS => ?_)
  show W p l e ({ frames := 3, cells := 0, slots := 0, locals := 68 } : Room) s m args below meth c H locs 0 0 Q0 (F0 m 5 ls [.int (fX11_isFrond v_t_pageMany v_t_readMany v_t_told v_t_many v_t_lostByHands v_t_lostByMould v_t_ringMany v_t_seedNow v_t_keptMany v_t_keptByHands v_t_keptByMould v_t_hash x1)])
  refine lv_if_ne (tgt := 11) hx hb dX11_bank_5 (by decide) (fun c1 => ?_) (fun c1 => ?_)
  · skip
    have h := (if_neg c1).symm.trans h
    refine lv_aload_n hx hb dX11_bank_11 rfl (lv_at hl 0 rfl) ?_
    refine va_get (own := RX11) (ci := 10) (v := .ref q_t_rows) (C := RX11) (T := TX11) (N := 25) hx hb hts iX11 hown hK hP 0 rfl rfl 9 (by decide) k19 (fun _ h9 => h9) rfl dX11_bank_12 ?_
    refine lv_bipush (v := 8) hx hb dX11_bank_15 (by decide) ?_
    refine lv_iload_n hx hb dX11_bank_17 rfl (lv_at hl 1 rfl) ?_
    refine lv_imul hx hb dX11_bank_18 ?_
    refine lv_iconst (v := 2) hx hb dX11_bank_19 (by decide) ?_
    refine lv_iadd hx hb dX11_bank_20 ?_
    obtain ⟨g2, h⟩ := gd_of h
    refine va_iald hx hb hK hP 1 0 rfl rfl (inb_of g2) dX11_bank_21 ?_
    refine lv_iconst (v := (-1)) hx hb dX11_bank_22 (by decide) ?_
    refine lv_icmp_ne (tgt := 29) hx hb dX11_bank_23 (by decide) (fun c3 => ?_) (fun c3 => ?_)
    · skip
      have h := (if_neg c3).symm.trans h
      refine lv_aload_n hx hb dX11_bank_29 rfl (lv_at hl 0 rfl) ?_
      refine lv_iload_n hx hb dX11_bank_30 rfl (lv_at hl 1 rfl) ?_
      refine lv_iconst (v := (-1)) hx hb dX11_bank_31 (by decide) ?_
      obtain ⟨u4, g5, h⟩ := bd_of h
      refine cl_V [(q_t, .inr (10, [.ref q_t_page, .int v_t_pageMany, .ref q_t_readKinds, .ref q_t_readLeaflets, .int v_t_readMany, .int v_t_told, .int v_t_many, .int v_t_lostByHands, .int v_t_lostByMould, .ref q_t_rows, .ref q_t_debts, .int v_t_ringMany, .ref q_t_ring, .ref q_t_line, .ref q_t_groups, .ref q_t_likely, .ref q_t_likelyThen, .int v_t_seedNow, .ref q_t_saved, .int v_t_keptMany, .int v_t_keptByHands, .int v_t_keptByMould, .ref q_t_keptRows, .ref q_t_keptDebts, .long v_t_hash])), (q_t_rows, .inl (cI, 80, .inl u4.2))] (As := [.int x1, .int (-1)]) (rest := []) (rv := (some (.int u4.1))) (c_X11_hand l D cI cJ q_t q_t_page q_t_readKinds q_t_readLeaflets q_t_rows q_t_debts q_t_ring q_t_line q_t_groups q_t_likely q_t_likelyThen q_t_saved q_t_keptRows q_t_keptDebts v_t_pageMany v_t_readMany v_t_told v_t_many v_t_lostByHands v_t_lostByMould v_t_ringMany v_t_seedNow v_t_keptMany v_t_keptByHands v_t_keptByMould v_t_hash v_t_rows x1 (-1) u4 g5) ⟨hx, hb, hml, hown, hts⟩ (cwV 2 hts gX11_bank_X11_hand rfl rfl rfl (by decide +kernel) ⟨(Nat.le_of_ble_eq_true rfl), (Nat.le_of_ble_eq_true rfl)⟩) hK hN hP hD hS [0, 1] rfl (by decide) rfl rfl rfl (q0 := 0) (ci := 10) rfl rfl rfl rfl hl.1 rfl (Nat.le_of_ble_eq_true rfl) dX11_bank_32 ⟨Nat.zero_le _, Nat.zero_le _⟩ (fun H locs hP hD hS => ?_)
      show W p l e ({ frames := 3, cells := 0, slots := 0, locals := 68 } : Room) s m args below meth c H locs 0 0 Q0 (F0 m 35 ls [.int u4.1])
      refine lv_istore_n (lv' := [(2, .int u4.1), (0, .ref q_t), (1, .int x1)]) hx hb dX11_bank_35 rfl hl (by decide) rfl (fun ls hl => ?_)
      refine lv_aload_n hx hb dX11_bank_36 rfl (lv_at hl 1 rfl) ?_
      refine lv_dup hx hb dX11_bank_37 rfl ?_
      refine va_get (own := RX11) (ci := 10) (v := .int v_t_lostByHands) (C := RX11) (T := TX11) (N := 25) hx hb hts iX11 hown hK hP 0 rfl rfl 7 (by decide) k120 (fun _ h9 => h9) rfl dX11_bank_38 ?_
      refine lv_iload_n hx hb dX11_bank_41 rfl (lv_at hl 0 rfl) ?_
      refine lv_iadd hx hb dX11_bank_42 ?_
      refine va_put (D := D) (own := RX11) (ci := 10) (v := .int (v_t_lostByHands + u4.1)) (ty := .int) (C := RX11) (T := TX11) (N := 25) hx hb hts iX11 tyX11 tyX11_ok nmX11 hown hK hP hD hS 0 rfl rfl 7 (by decide) k120 (fun _ h9 => h9) rfl (by decide +kernel) rfl rfl (Nat.le_of_ble_eq_true rfl) dX11_bank_43 (fun H locs hP hD hS => ?_)
      have hP : va_P D vwCl [(q_t, .inr (10, [.ref q_t_page, .int v_t_pageMany, .ref q_t_readKinds, .ref q_t_readLeaflets, .int v_t_readMany, .int v_t_told, .int v_t_many, .int (v_t_lostByHands + u4.1), .int v_t_lostByMould, .ref q_t_rows, .ref q_t_debts, .int v_t_ringMany, .ref q_t_ring, .ref q_t_line, .ref q_t_groups, .ref q_t_likely, .ref q_t_likelyThen, .int v_t_seedNow, .ref q_t_saved, .int v_t_keptMany, .int v_t_keptByHands, .int v_t_keptByMould, .ref q_t_keptRows, .ref q_t_keptDebts, .long v_t_hash])), (q_t_rows, .inl (cI, 80, .inl u4.2))] H := hP
      have hD : va_D A0 [(q_t, .inr (10, [.ref q_t_page, .int v_t_pageMany, .ref q_t_readKinds, .ref q_t_readLeaflets, .int v_t_readMany, .int v_t_told, .int v_t_many, .int (v_t_lostByHands + u4.1), .int v_t_lostByMould, .ref q_t_rows, .ref q_t_debts, .int v_t_ringMany, .ref q_t_ring, .ref q_t_line, .ref q_t_groups, .ref q_t_likely, .ref q_t_likelyThen, .int v_t_seedNow, .ref q_t_saved, .int v_t_keptMany, .int v_t_keptByHands, .int v_t_keptByMould, .ref q_t_keptRows, .ref q_t_keptDebts, .long v_t_hash])), (q_t_rows, .inl (cI, 80, .inl u4.2))] := hD
      refine lv_aload_n hx hb dX11_bank_46 rfl (lv_at hl 1 rfl) ?_
      refine va_get (own := RX11) (ci := 10) (v := .ref q_t_rows) (C := RX11) (T := TX11) (N := 25) hx hb hts iX11 hown hK hP 0 rfl rfl 9 (by decide) k19 (fun _ h9 => h9) rfl dX11_bank_47 ?_
      refine lv_bipush (v := 8) hx hb dX11_bank_50 (by decide) ?_
      refine lv_iload_n hx hb dX11_bank_52 rfl (lv_at hl 2 rfl) ?_
      refine lv_imul hx hb dX11_bank_53 ?_
      refine lv_iconst (v := 1) hx hb dX11_bank_54 (by decide) ?_
      refine lv_iadd hx hb dX11_bank_55 ?_
      obtain ⟨g6, h⟩ := gd_of h
      refine va_iald hx hb hK hP 1 0 rfl rfl (inb_of g6) dX11_bank_56 ?_
      obtain rfl := Option.some.inj h
      exact rt_i hA0 hQ0 hx hb hr hlocks hP hS dX11_bank_57
    · skip
      have h := (if_pos c3).symm.trans h
      refine lv_bipush (v := (-103)) hx hb dX11_bank_26 (by decide) ?_
      obtain rfl := Option.some.inj h
      exact rt_i hA0 hQ0 hx hb hr hlocks hP hS dX11_bank_28
  · skip
    have h := (if_pos c1).symm.trans h
    refine lv_bipush (v := (-101)) hx hb dX11_bank_8 (by decide) ?_
    obtain rfl := Option.some.inj h
    exact rt_i hA0 hQ0 hx hb hr hlocks hP hS dX11_bank_10
def fX11_fetch (v_t_pageMany : Int32) (v_t_readMany : Int32) (v_t_told : Int32) (v_t_many : Int32) (v_t_lostByHands : Int32) (v_t_lostByMould : Int32) (v_t_ringMany : Int32) (v_t_seedNow : Int32) (v_t_keptMany : Int32) (v_t_keptByHands : Int32) (v_t_keptByMould : Int32) (v_t_hash : Int64) (v_t_rows : Nat → Int32) (x1 : Int32) (x2 : Int32) : Option (Int32 × (Nat → Int32)) :=
  if (fX11_isFrond v_t_pageMany v_t_readMany v_t_told v_t_many v_t_lostByHands v_t_lostByMould v_t_ringMany v_t_seedNow v_t_keptMany v_t_keptByHands v_t_keptByMould v_t_hash x1) = 0 then (some ((-101), v_t_rows)) else (if (fX11_isPerson x2) = 0 then (some ((-101), v_t_rows)) else (gd (inb ((8 * x1) + 2) 80) (if (v_t_rows ((8 * x1) + 2).toNatClampNeg) = (-1) then (gd (inb ((8 * x1) + 1) 80) (some (((upd v_t_rows ((8 * x1) + 2).toNatClampNeg x2) ((8 * x1) + 1).toNatClampNeg), (upd v_t_rows ((8 * x1) + 2).toNatClampNeg x2)))) else (some ((-103), v_t_rows)))))
set_option maxHeartbeats 4000000 in
set_option maxRecDepth 100000 in
theorem c_X11_fetch (l : Launch) (D : va_G) (cI cJ : ClassId) (q_t q_t_page q_t_readKinds q_t_readLeaflets q_t_rows q_t_debts q_t_ring q_t_line q_t_groups q_t_likely q_t_likelyThen q_t_saved q_t_keptRows q_t_keptDebts : Nat) (v_t_pageMany : Int32) (v_t_readMany : Int32) (v_t_told : Int32) (v_t_many : Int32) (v_t_lostByHands : Int32) (v_t_lostByMould : Int32) (v_t_ringMany : Int32) (v_t_seedNow : Int32) (v_t_keptMany : Int32) (v_t_keptByHands : Int32) (v_t_keptByMould : Int32) (v_t_hash : Int64) (v_t_rows : Nat → Int32) (x1 : Int32) (x2 : Int32) (z : Int32 × (Nat → Int32)) (h : fX11_fetch v_t_pageMany v_t_readMany v_t_told v_t_many v_t_lostByHands v_t_lostByMould v_t_ringMany v_t_seedNow v_t_keptMany v_t_keptByHands v_t_keptByMould v_t_hash v_t_rows x1 x2 = some z) : Met l yX11_fetch wsX11_fetch ({ frames := 2, cells := 0, slots := 0, locals := 46 } : Room) (va_Pc [.ref q_t, .int x1, .int x2] (preG D cI cJ [(q_t, .inr (10, [.ref q_t_page, .int v_t_pageMany, .ref q_t_readKinds, .ref q_t_readLeaflets, .int v_t_readMany, .int v_t_told, .int v_t_many, .int v_t_lostByHands, .int v_t_lostByMould, .ref q_t_rows, .ref q_t_debts, .int v_t_ringMany, .ref q_t_ring, .ref q_t_line, .ref q_t_groups, .ref q_t_likely, .ref q_t_likelyThen, .int v_t_seedNow, .ref q_t_saved, .int v_t_keptMany, .int v_t_keptByHands, .int v_t_keptByMould, .ref q_t_keptRows, .ref q_t_keptDebts, .long v_t_hash])), (q_t_rows, .inl (cI, 80, .inl v_t_rows))])) (QG D [(q_t, .inr (10, [.ref q_t_page, .int v_t_pageMany, .ref q_t_readKinds, .ref q_t_readLeaflets, .int v_t_readMany, .int v_t_told, .int v_t_many, .int v_t_lostByHands, .int v_t_lostByMould, .ref q_t_rows, .ref q_t_debts, .int v_t_ringMany, .ref q_t_ring, .ref q_t_line, .ref q_t_groups, .ref q_t_likely, .ref q_t_likelyThen, .int v_t_seedNow, .ref q_t_saved, .int v_t_keptMany, .int v_t_keptByHands, .int v_t_keptByMould, .ref q_t_keptRows, .ref q_t_keptDebts, .long v_t_hash])), (q_t_rows, .inl (cI, 80, .inl v_t_rows))] [(q_t, .inr (10, [.ref q_t_page, .int v_t_pageMany, .ref q_t_readKinds, .ref q_t_readLeaflets, .int v_t_readMany, .int v_t_told, .int v_t_many, .int v_t_lostByHands, .int v_t_lostByMould, .ref q_t_rows, .ref q_t_debts, .int v_t_ringMany, .ref q_t_ring, .ref q_t_line, .ref q_t_groups, .ref q_t_likely, .ref q_t_likelyThen, .int v_t_seedNow, .ref q_t_saved, .int v_t_keptMany, .int v_t_keptByHands, .int v_t_keptByMould, .ref q_t_keptRows, .ref q_t_keptDebts, .long v_t_hash])), (q_t_rows, .inl (cI, 80, .inl z.2))] (some (.int z.1))) 0 0 (fr [(q_t, .inr (10, [.ref q_t_page, .int v_t_pageMany, .ref q_t_readKinds, .ref q_t_readLeaflets, .int v_t_readMany, .int v_t_told, .int v_t_many, .int v_t_lostByHands, .int v_t_lostByMould, .ref q_t_rows, .ref q_t_debts, .int v_t_ringMany, .ref q_t_ring, .ref q_t_line, .ref q_t_groups, .ref q_t_likely, .ref q_t_likelyThen, .int v_t_seedNow, .ref q_t_saved, .int v_t_keptMany, .int v_t_keptByHands, .int v_t_keptByMould, .ref q_t_keptRows, .ref q_t_keptDebts, .long v_t_hash])), (q_t_rows, .inl (cI, 80, .inl v_t_rows))]) := by
  refine Met.ofW (cc := cX11_fetch) (maxL := 3) (ret := (some .int)) (by decide) rfl ?_
  intro p e s m args below meth c s₁ B hml hv
  obtain ⟨hargs, hP, hK, hN, hD0⟩ := hv
  have hx := B.exec
  have hb := B.bytes
  have hr := B.returns
  have hts := atoms_spec (ws := wsX11_fetch) B.pre
  have hown : s.vm.findClass RX11 = some m.cls := findClass_of_methodNamed B.named
  have hlocks := B.notSynchronized
  have iX11 : ∀ w ∈ wsX110, w ∈ wsX11_fetch := by decide +kernel
  have k19 := hts (.fieldLink RX11 19 "PressedFernsModel" "rows" "[I") (by decide +kernel)
  have hD := fr_D hD0
  have hS : va_S (fr [(q_t, .inr (10, [.ref q_t_page, .int v_t_pageMany, .ref q_t_readKinds, .ref q_t_readLeaflets, .int v_t_readMany, .int v_t_told, .int v_t_many, .int v_t_lostByHands, .int v_t_lostByMould, .ref q_t_rows, .ref q_t_debts, .int v_t_ringMany, .ref q_t_ring, .ref q_t_line, .ref q_t_groups, .ref q_t_likely, .ref q_t_likelyThen, .int v_t_seedNow, .ref q_t_saved, .int v_t_keptMany, .int v_t_keptByHands, .int v_t_keptByMould, .ref q_t_keptRows, .ref q_t_keptDebts, .long v_t_hash])), (q_t_rows, .inl (cI, 80, .inl v_t_rows))]) s.heap s.heap [] := va_S.rf
  have hl := lv_entry ([.ref q_t, .int x1, .int x2]) (n := 3) (Nat.le_of_ble_eq_true rfl)
  refine W.eq (g2 := F0 m 0 ((lg_sl ([.ref q_t, .int x1, .int x2]) ++ List.replicate (3 - (lg_sl ([.ref q_t, .int x1, .int x2])).length) Slot.unset).toArray) []) (by rw [hargs, lg_entry_eq]) ?_
  generalize (lg_sl ([.ref q_t, .int x1, .int x2]) ++ List.replicate (3 - (lg_sl ([.ref q_t, .int x1, .int x2])).length) Slot.unset).toArray = ls at hl ⊢
  have hl : lv_has ls 3 [(0, .ref q_t), (1, .int x1), (2, .int x2)] := hl
  show W p l e ({ frames := 2, cells := 0, slots := 0, locals := 46 } : Room) s m args below meth c s.heap [] 0 0 (MQ below (QG D [(q_t, .inr (10, [.ref q_t_page, .int v_t_pageMany, .ref q_t_readKinds, .ref q_t_readLeaflets, .int v_t_readMany, .int v_t_told, .int v_t_many, .int v_t_lostByHands, .int v_t_lostByMould, .ref q_t_rows, .ref q_t_debts, .int v_t_ringMany, .ref q_t_ring, .ref q_t_line, .ref q_t_groups, .ref q_t_likely, .ref q_t_likelyThen, .int v_t_seedNow, .ref q_t_saved, .int v_t_keptMany, .int v_t_keptByHands, .int v_t_keptByMould, .ref q_t_keptRows, .ref q_t_keptDebts, .long v_t_hash])), (q_t_rows, .inl (cI, 80, .inl v_t_rows))] [(q_t, .inr (10, [.ref q_t_page, .int v_t_pageMany, .ref q_t_readKinds, .ref q_t_readLeaflets, .int v_t_readMany, .int v_t_told, .int v_t_many, .int v_t_lostByHands, .int v_t_lostByMould, .ref q_t_rows, .ref q_t_debts, .int v_t_ringMany, .ref q_t_ring, .ref q_t_line, .ref q_t_groups, .ref q_t_likely, .ref q_t_likelyThen, .int v_t_seedNow, .ref q_t_saved, .int v_t_keptMany, .int v_t_keptByHands, .int v_t_keptByMould, .ref q_t_keptRows, .ref q_t_keptDebts, .long v_t_hash])), (q_t_rows, .inl (cI, 80, .inl z.2))] (some (.int z.1))) args s 0 0 (fr [(q_t, .inr (10, [.ref q_t_page, .int v_t_pageMany, .ref q_t_readKinds, .ref q_t_readLeaflets, .int v_t_readMany, .int v_t_told, .int v_t_many, .int v_t_lostByHands, .int v_t_lostByMould, .ref q_t_rows, .ref q_t_debts, .int v_t_ringMany, .ref q_t_ring, .ref q_t_line, .ref q_t_groups, .ref q_t_likely, .ref q_t_likelyThen, .int v_t_seedNow, .ref q_t_saved, .int v_t_keptMany, .int v_t_keptByHands, .int v_t_keptByMould, .ref q_t_keptRows, .ref q_t_keptDebts, .long v_t_hash])), (q_t_rows, .inl (cI, 80, .inl v_t_rows))])) (F0 m 0 ls [])
  generalize hQ0 : (MQ below (QG D [(q_t, .inr (10, [.ref q_t_page, .int v_t_pageMany, .ref q_t_readKinds, .ref q_t_readLeaflets, .int v_t_readMany, .int v_t_told, .int v_t_many, .int v_t_lostByHands, .int v_t_lostByMould, .ref q_t_rows, .ref q_t_debts, .int v_t_ringMany, .ref q_t_ring, .ref q_t_line, .ref q_t_groups, .ref q_t_likely, .ref q_t_likelyThen, .int v_t_seedNow, .ref q_t_saved, .int v_t_keptMany, .int v_t_keptByHands, .int v_t_keptByMould, .ref q_t_keptRows, .ref q_t_keptDebts, .long v_t_hash])), (q_t_rows, .inl (cI, 80, .inl v_t_rows))] [(q_t, .inr (10, [.ref q_t_page, .int v_t_pageMany, .ref q_t_readKinds, .ref q_t_readLeaflets, .int v_t_readMany, .int v_t_told, .int v_t_many, .int v_t_lostByHands, .int v_t_lostByMould, .ref q_t_rows, .ref q_t_debts, .int v_t_ringMany, .ref q_t_ring, .ref q_t_line, .ref q_t_groups, .ref q_t_likely, .ref q_t_likelyThen, .int v_t_seedNow, .ref q_t_saved, .int v_t_keptMany, .int v_t_keptByHands, .int v_t_keptByMould, .ref q_t_keptRows, .ref q_t_keptDebts, .long v_t_hash])), (q_t_rows, .inl (cI, 80, .inl z.2))] (some (.int z.1))) args s 0 0 (fr [(q_t, .inr (10, [.ref q_t_page, .int v_t_pageMany, .ref q_t_readKinds, .ref q_t_readLeaflets, .int v_t_readMany, .int v_t_told, .int v_t_many, .int v_t_lostByHands, .int v_t_lostByMould, .ref q_t_rows, .ref q_t_debts, .int v_t_ringMany, .ref q_t_ring, .ref q_t_line, .ref q_t_groups, .ref q_t_likely, .ref q_t_likelyThen, .int v_t_seedNow, .ref q_t_saved, .int v_t_keptMany, .int v_t_keptByHands, .int v_t_keptByMould, .ref q_t_keptRows, .ref q_t_keptDebts, .long v_t_hash])), (q_t_rows, .inl (cI, 80, .inl v_t_rows))])) = Q0
  generalize hA0 : fr [(q_t, .inr (10, [.ref q_t_page, .int v_t_pageMany, .ref q_t_readKinds, .ref q_t_readLeaflets, .int v_t_readMany, .int v_t_told, .int v_t_many, .int v_t_lostByHands, .int v_t_lostByMould, .ref q_t_rows, .ref q_t_debts, .int v_t_ringMany, .ref q_t_ring, .ref q_t_line, .ref q_t_groups, .ref q_t_likely, .ref q_t_likelyThen, .int v_t_seedNow, .ref q_t_saved, .int v_t_keptMany, .int v_t_keptByHands, .int v_t_keptByMould, .ref q_t_keptRows, .ref q_t_keptDebts, .long v_t_hash])), (q_t_rows, .inl (cI, 80, .inl v_t_rows))] = A0 at hD hS
  unfold fX11_fetch at h
  refine lv_aload_n hx hb dX11_fetch_0 rfl (lv_at hl 0 rfl) ?_
  refine lv_iload_n hx hb dX11_fetch_1 rfl (lv_at hl 1 rfl) ?_
  refine cl_V [(q_t, .inr (10, [.ref q_t_page, .int v_t_pageMany, .ref q_t_readKinds, .ref q_t_readLeaflets, .int v_t_readMany, .int v_t_told, .int v_t_many, .int v_t_lostByHands, .int v_t_lostByMould, .ref q_t_rows, .ref q_t_debts, .int v_t_ringMany, .ref q_t_ring, .ref q_t_line, .ref q_t_groups, .ref q_t_likely, .ref q_t_likelyThen, .int v_t_seedNow, .ref q_t_saved, .int v_t_keptMany, .int v_t_keptByHands, .int v_t_keptByMould, .ref q_t_keptRows, .ref q_t_keptDebts, .long v_t_hash])), (q_t_rows, .inl (cI, 80, .inl v_t_rows))] (As := [.int x1]) (rest := []) (rv := (some (.int (fX11_isFrond v_t_pageMany v_t_readMany v_t_told v_t_many v_t_lostByHands v_t_lostByMould v_t_ringMany v_t_seedNow v_t_keptMany v_t_keptByHands v_t_keptByMould v_t_hash x1)))) (c_X11_isFrond l D cI cJ q_t q_t_page q_t_readKinds q_t_readLeaflets q_t_rows q_t_debts q_t_ring q_t_line q_t_groups q_t_likely q_t_likelyThen q_t_saved q_t_keptRows q_t_keptDebts v_t_pageMany v_t_readMany v_t_told v_t_many v_t_lostByHands v_t_lostByMould v_t_ringMany v_t_seedNow v_t_keptMany v_t_keptByHands v_t_keptByMould v_t_hash x1) ⟨hx, hb, hml, hown, hts⟩ (cwV 1 hts gX11_fetch_X11_isFrond rfl rfl rfl (by decide +kernel) ⟨(Nat.le_of_ble_eq_true rfl), (Nat.le_of_ble_eq_true rfl)⟩) hK hN hP hD hS [0] rfl (by decide) rfl rfl rfl (q0 := 0) (ci := 10) rfl rfl rfl rfl hl.1 rfl (Nat.le_of_ble_eq_true rfl) dX11_fetch_2 ⟨Nat.zero_le _, Nat.zero_le _⟩ (fun H locs hP hD hS => ?_)
  show W p l e ({ frames := 2, cells := 0, slots := 0, locals := 46 } : Room) s m args below meth c H locs 0 0 Q0 (F0 m 5 ls [.int (fX11_isFrond v_t_pageMany v_t_readMany v_t_told v_t_many v_t_lostByHands v_t_lostByMould v_t_ringMany v_t_seedNow v_t_keptMany v_t_keptByHands v_t_keptByMould v_t_hash x1)])
  refine lv_if_eq (tgt := 15) hx hb dX11_fetch_5 (by decide) (fun c1 => ?_) (fun c1 => ?_)
  · skip
    have h := (if_pos c1).symm.trans h
    refine lv_bipush (v := (-101)) hx hb dX11_fetch_15 (by decide) ?_
    obtain rfl := Option.some.inj h
    exact rt_i hA0 hQ0 hx hb hr hlocks hP hS dX11_fetch_17
  · skip
    have h := (if_neg c1).symm.trans h
    refine lv_iload_n hx hb dX11_fetch_8 rfl (lv_at hl 2 rfl) ?_
    refine cl_S [(q_t, .inr (10, [.ref q_t_page, .int v_t_pageMany, .ref q_t_readKinds, .ref q_t_readLeaflets, .int v_t_readMany, .int v_t_told, .int v_t_many, .int v_t_lostByHands, .int v_t_lostByMould, .ref q_t_rows, .ref q_t_debts, .int v_t_ringMany, .ref q_t_ring, .ref q_t_line, .ref q_t_groups, .ref q_t_likely, .ref q_t_likelyThen, .int v_t_seedNow, .ref q_t_saved, .int v_t_keptMany, .int v_t_keptByHands, .int v_t_keptByMould, .ref q_t_keptRows, .ref q_t_keptDebts, .long v_t_hash])), (q_t_rows, .inl (cI, 80, .inl v_t_rows))] (As := [.int x2]) (rest := []) (rv := (some (.int (fX11_isPerson x2)))) (c_X11_isPerson l D cI cJ x2) ⟨hx, hb, hml, hown, hts⟩ (va_cwS 1 hts gX11_fetch_X11_isPerson rfl rfl rfl (by decide +kernel) ⟨(Nat.le_of_ble_eq_true rfl), (Nat.le_of_ble_eq_true rfl)⟩) hK hN hP hD hS [] rfl (by decide) rfl rfl rfl rfl hl.1 rfl (Nat.le_of_ble_eq_true rfl) dX11_fetch_9 ⟨Nat.zero_le _, Nat.zero_le _⟩ (fun H locs hP hD hS => ?_)
    show W p l e ({ frames := 2, cells := 0, slots := 0, locals := 46 } : Room) s m args below meth c H locs 0 0 Q0 (F0 m 12 ls [.int (fX11_isPerson x2)])
    refine lv_if_ne (tgt := 18) hx hb dX11_fetch_12 (by decide) (fun c2 => ?_) (fun c2 => ?_)
    · skip
      have h := (if_neg c2).symm.trans h
      refine lv_aload_n hx hb dX11_fetch_18 rfl (lv_at hl 0 rfl) ?_
      refine va_get (own := RX11) (ci := 10) (v := .ref q_t_rows) (C := RX11) (T := TX11) (N := 25) hx hb hts iX11 hown hK hP 0 rfl rfl 9 (by decide) k19 (fun _ h9 => h9) rfl dX11_fetch_19 ?_
      refine lv_bipush (v := 8) hx hb dX11_fetch_22 (by decide) ?_
      refine lv_iload_n hx hb dX11_fetch_24 rfl (lv_at hl 1 rfl) ?_
      refine lv_imul hx hb dX11_fetch_25 ?_
      refine lv_iconst (v := 2) hx hb dX11_fetch_26 (by decide) ?_
      refine lv_iadd hx hb dX11_fetch_27 ?_
      obtain ⟨g3, h⟩ := gd_of h
      refine va_iald hx hb hK hP 1 0 rfl rfl (inb_of g3) dX11_fetch_28 ?_
      refine lv_iconst (v := (-1)) hx hb dX11_fetch_29 (by decide) ?_
      refine lv_icmp_eq (tgt := 36) hx hb dX11_fetch_30 (by decide) (fun c4 => ?_) (fun c4 => ?_)
      · skip
        have h := (if_pos c4).symm.trans h
        refine lv_aload_n hx hb dX11_fetch_36 rfl (lv_at hl 0 rfl) ?_
        refine va_get (own := RX11) (ci := 10) (v := .ref q_t_rows) (C := RX11) (T := TX11) (N := 25) hx hb hts iX11 hown hK hP 0 rfl rfl 9 (by decide) k19 (fun _ h9 => h9) rfl dX11_fetch_37 ?_
        refine lv_bipush (v := 8) hx hb dX11_fetch_40 (by decide) ?_
        refine lv_iload_n hx hb dX11_fetch_42 rfl (lv_at hl 1 rfl) ?_
        refine lv_imul hx hb dX11_fetch_43 ?_
        refine lv_iconst (v := 2) hx hb dX11_fetch_44 (by decide) ?_
        refine lv_iadd hx hb dX11_fetch_45 ?_
        refine lv_iload_n hx hb dX11_fetch_46 rfl (lv_at hl 2 rfl) ?_
        refine va_iast hx hb hK hP hD hS 1 0 rfl rfl (inb_of g3) dX11_fetch_47 (fun H locs hP hD hS => ?_)
        have hP : va_P D vwCl [(q_t, .inr (10, [.ref q_t_page, .int v_t_pageMany, .ref q_t_readKinds, .ref q_t_readLeaflets, .int v_t_readMany, .int v_t_told, .int v_t_many, .int v_t_lostByHands, .int v_t_lostByMould, .ref q_t_rows, .ref q_t_debts, .int v_t_ringMany, .ref q_t_ring, .ref q_t_line, .ref q_t_groups, .ref q_t_likely, .ref q_t_likelyThen, .int v_t_seedNow, .ref q_t_saved, .int v_t_keptMany, .int v_t_keptByHands, .int v_t_keptByMould, .ref q_t_keptRows, .ref q_t_keptDebts, .long v_t_hash])), (q_t_rows, .inl (cI, 80, .inl (upd v_t_rows ((8 * x1) + 2).toNatClampNeg x2)))] H := hP
        have hD : va_D A0 [(q_t, .inr (10, [.ref q_t_page, .int v_t_pageMany, .ref q_t_readKinds, .ref q_t_readLeaflets, .int v_t_readMany, .int v_t_told, .int v_t_many, .int v_t_lostByHands, .int v_t_lostByMould, .ref q_t_rows, .ref q_t_debts, .int v_t_ringMany, .ref q_t_ring, .ref q_t_line, .ref q_t_groups, .ref q_t_likely, .ref q_t_likelyThen, .int v_t_seedNow, .ref q_t_saved, .int v_t_keptMany, .int v_t_keptByHands, .int v_t_keptByMould, .ref q_t_keptRows, .ref q_t_keptDebts, .long v_t_hash])), (q_t_rows, .inl (cI, 80, .inl (upd v_t_rows ((8 * x1) + 2).toNatClampNeg x2)))] := hD
        refine lv_aload_n hx hb dX11_fetch_48 rfl (lv_at hl 0 rfl) ?_
        refine va_get (own := RX11) (ci := 10) (v := .ref q_t_rows) (C := RX11) (T := TX11) (N := 25) hx hb hts iX11 hown hK hP 0 rfl rfl 9 (by decide) k19 (fun _ h9 => h9) rfl dX11_fetch_49 ?_
        refine lv_bipush (v := 8) hx hb dX11_fetch_52 (by decide) ?_
        refine lv_iload_n hx hb dX11_fetch_54 rfl (lv_at hl 1 rfl) ?_
        refine lv_imul hx hb dX11_fetch_55 ?_
        refine lv_iconst (v := 1) hx hb dX11_fetch_56 (by decide) ?_
        refine lv_iadd hx hb dX11_fetch_57 ?_
        obtain ⟨g5, h⟩ := gd_of h
        refine va_iald hx hb hK hP 1 0 rfl rfl (inb_of g5) dX11_fetch_58 ?_
        obtain rfl := Option.some.inj h
        exact rt_i hA0 hQ0 hx hb hr hlocks hP hS dX11_fetch_59
      · skip
        have h := (if_neg c4).symm.trans h
        refine lv_bipush (v := (-103)) hx hb dX11_fetch_33 (by decide) ?_
        obtain rfl := Option.some.inj h
        exact rt_i hA0 hQ0 hx hb hr hlocks hP hS dX11_fetch_35
    · skip
      have h := (if_pos c2).symm.trans h
      refine lv_bipush (v := (-101)) hx hb dX11_fetch_15 (by decide) ?_
      obtain rfl := Option.some.inj h
      exact rt_i hA0 hQ0 hx hb hr hlocks hP hS dX11_fetch_17
def fX11_mould_X4_89  (a3 : Int32 × (Nat → Int32)) : Option (Int32 × (Nat → Int32)) :=
  some (a3.1, a3.2)
def fX11_mould_J66 (z1 : Int32 × Int32 × (Nat → Int32)) (a9 : Int32) : Option ((Int32 × Int32 × (Nat → Int32)) ⊕ (Int32 × (Nat → Int32))) :=
  some (Sum.inl ((z1.1 + ((z1.2.2 ((8 * z1.2.1) + 1).toNatClampNeg) - ((upd z1.2.2 ((8 * z1.2.1) + 1).toNatClampNeg a9) ((8 * z1.2.1) + 1).toNatClampNeg))), (z1.2.1 + 1), (upd z1.2.2 ((8 * z1.2.1) + 1).toNatClampNeg a9)))
def fX11_mould_L4 (v_t_many : Int32) (z1 : Int32 × Int32 × (Nat → Int32)) : Option ((Int32 × Int32 × (Nat → Int32)) ⊕ (Int32 × (Nat → Int32))) :=
  if v_t_many ≤ z1.2.1 then (some (Sum.inr (z1.1, z1.2.2))) else (gd (inb ((8 * z1.2.1) + 1) 80) (gd (inb ((8 * z1.2.1) + 2) 80) (if (z1.2.2 ((8 * z1.2.1) + 2).toNatClampNeg) = (-1) then (fX11_mould_J66 z1 (z1.2.2 ((8 * z1.2.1) + 1).toNatClampNeg)) else (gd (inb (8 * z1.2.1) 80) (fX11_mould_J66 z1 (fX11_byMould (z1.2.2 (8 * z1.2.1).toNatClampNeg) (z1.2.2 ((8 * z1.2.1) + 1).toNatClampNeg)))))))
def fX11_mould (v_t_pageMany : Int32) (v_t_readMany : Int32) (v_t_told : Int32) (v_t_many : Int32) (v_t_lostByHands : Int32) (v_t_lostByMould : Int32) (v_t_ringMany : Int32) (v_t_seedNow : Int32) (v_t_keptMany : Int32) (v_t_keptByHands : Int32) (v_t_keptByMould : Int32) (v_t_hash : Int64) (v_t_rows : Nat → Int32) : Option (Int32 × (Nat → Int32)) :=
  (iter (fX11_mould_L4 v_t_many) FU (0, 0, v_t_rows)).bind (fX11_mould_X4_89)
set_option maxHeartbeats 4000000 in
set_option maxRecDepth 100000 in
theorem c_X11_mould (l : Launch) (D : va_G) (cI cJ : ClassId) (q_t q_t_page q_t_readKinds q_t_readLeaflets q_t_rows q_t_debts q_t_ring q_t_line q_t_groups q_t_likely q_t_likelyThen q_t_saved q_t_keptRows q_t_keptDebts : Nat) (v_t_pageMany : Int32) (v_t_readMany : Int32) (v_t_told : Int32) (v_t_many : Int32) (v_t_lostByHands : Int32) (v_t_lostByMould : Int32) (v_t_ringMany : Int32) (v_t_seedNow : Int32) (v_t_keptMany : Int32) (v_t_keptByHands : Int32) (v_t_keptByMould : Int32) (v_t_hash : Int64) (v_t_rows : Nat → Int32) (z : Int32 × (Nat → Int32)) (h : fX11_mould v_t_pageMany v_t_readMany v_t_told v_t_many v_t_lostByHands v_t_lostByMould v_t_ringMany v_t_seedNow v_t_keptMany v_t_keptByHands v_t_keptByMould v_t_hash v_t_rows = some z) : Met l yX11_mould wsX11_mould ({ frames := 1, cells := 0, slots := 0, locals := 22 } : Room) (va_Pc [.ref q_t] (preG D cI cJ [(q_t, .inr (10, [.ref q_t_page, .int v_t_pageMany, .ref q_t_readKinds, .ref q_t_readLeaflets, .int v_t_readMany, .int v_t_told, .int v_t_many, .int v_t_lostByHands, .int v_t_lostByMould, .ref q_t_rows, .ref q_t_debts, .int v_t_ringMany, .ref q_t_ring, .ref q_t_line, .ref q_t_groups, .ref q_t_likely, .ref q_t_likelyThen, .int v_t_seedNow, .ref q_t_saved, .int v_t_keptMany, .int v_t_keptByHands, .int v_t_keptByMould, .ref q_t_keptRows, .ref q_t_keptDebts, .long v_t_hash])), (q_t_rows, .inl (cI, 80, .inl v_t_rows))])) (QG D [(q_t, .inr (10, [.ref q_t_page, .int v_t_pageMany, .ref q_t_readKinds, .ref q_t_readLeaflets, .int v_t_readMany, .int v_t_told, .int v_t_many, .int v_t_lostByHands, .int v_t_lostByMould, .ref q_t_rows, .ref q_t_debts, .int v_t_ringMany, .ref q_t_ring, .ref q_t_line, .ref q_t_groups, .ref q_t_likely, .ref q_t_likelyThen, .int v_t_seedNow, .ref q_t_saved, .int v_t_keptMany, .int v_t_keptByHands, .int v_t_keptByMould, .ref q_t_keptRows, .ref q_t_keptDebts, .long v_t_hash])), (q_t_rows, .inl (cI, 80, .inl v_t_rows))] [(q_t, .inr (10, [.ref q_t_page, .int v_t_pageMany, .ref q_t_readKinds, .ref q_t_readLeaflets, .int v_t_readMany, .int v_t_told, .int v_t_many, .int v_t_lostByHands, .int v_t_lostByMould, .ref q_t_rows, .ref q_t_debts, .int v_t_ringMany, .ref q_t_ring, .ref q_t_line, .ref q_t_groups, .ref q_t_likely, .ref q_t_likelyThen, .int v_t_seedNow, .ref q_t_saved, .int v_t_keptMany, .int v_t_keptByHands, .int v_t_keptByMould, .ref q_t_keptRows, .ref q_t_keptDebts, .long v_t_hash])), (q_t_rows, .inl (cI, 80, .inl z.2))] (some (.int z.1))) 0 0 (fr [(q_t, .inr (10, [.ref q_t_page, .int v_t_pageMany, .ref q_t_readKinds, .ref q_t_readLeaflets, .int v_t_readMany, .int v_t_told, .int v_t_many, .int v_t_lostByHands, .int v_t_lostByMould, .ref q_t_rows, .ref q_t_debts, .int v_t_ringMany, .ref q_t_ring, .ref q_t_line, .ref q_t_groups, .ref q_t_likely, .ref q_t_likelyThen, .int v_t_seedNow, .ref q_t_saved, .int v_t_keptMany, .int v_t_keptByHands, .int v_t_keptByMould, .ref q_t_keptRows, .ref q_t_keptDebts, .long v_t_hash])), (q_t_rows, .inl (cI, 80, .inl v_t_rows))]) := by
  refine Met.ofW (cc := cX11_mould) (maxL := 4) (ret := (some .int)) (by decide) rfl ?_
  intro p e s m args below meth c s₁ B hml hv
  obtain ⟨hargs, hP, hK, hN, hD0⟩ := hv
  have hx := B.exec
  have hb := B.bytes
  have hr := B.returns
  have hts := atoms_spec (ws := wsX11_mould) B.pre
  have hown : s.vm.findClass RX11 = some m.cls := findClass_of_methodNamed B.named
  have hlocks := B.notSynchronized
  have iX11 : ∀ w ∈ wsX110, w ∈ wsX11_mould := by decide +kernel
  have k19 := hts (.fieldLink RX11 19 "PressedFernsModel" "rows" "[I") (by decide +kernel)
  have k88 := hts (.fieldLink RX11 88 "PressedFernsModel" "many" "I") (by decide +kernel)
  have hD := fr_D hD0
  have hS : va_S (fr [(q_t, .inr (10, [.ref q_t_page, .int v_t_pageMany, .ref q_t_readKinds, .ref q_t_readLeaflets, .int v_t_readMany, .int v_t_told, .int v_t_many, .int v_t_lostByHands, .int v_t_lostByMould, .ref q_t_rows, .ref q_t_debts, .int v_t_ringMany, .ref q_t_ring, .ref q_t_line, .ref q_t_groups, .ref q_t_likely, .ref q_t_likelyThen, .int v_t_seedNow, .ref q_t_saved, .int v_t_keptMany, .int v_t_keptByHands, .int v_t_keptByMould, .ref q_t_keptRows, .ref q_t_keptDebts, .long v_t_hash])), (q_t_rows, .inl (cI, 80, .inl v_t_rows))]) s.heap s.heap [] := va_S.rf
  have hl := lv_entry ([.ref q_t]) (n := 4) (Nat.le_of_ble_eq_true rfl)
  refine W.eq (g2 := F0 m 0 ((lg_sl ([.ref q_t]) ++ List.replicate (4 - (lg_sl ([.ref q_t])).length) Slot.unset).toArray) []) (by rw [hargs, lg_entry_eq]) ?_
  generalize (lg_sl ([.ref q_t]) ++ List.replicate (4 - (lg_sl ([.ref q_t])).length) Slot.unset).toArray = ls at hl ⊢
  have hl : lv_has ls 4 [(0, .ref q_t)] := hl
  show W p l e ({ frames := 1, cells := 0, slots := 0, locals := 22 } : Room) s m args below meth c s.heap [] 0 0 (MQ below (QG D [(q_t, .inr (10, [.ref q_t_page, .int v_t_pageMany, .ref q_t_readKinds, .ref q_t_readLeaflets, .int v_t_readMany, .int v_t_told, .int v_t_many, .int v_t_lostByHands, .int v_t_lostByMould, .ref q_t_rows, .ref q_t_debts, .int v_t_ringMany, .ref q_t_ring, .ref q_t_line, .ref q_t_groups, .ref q_t_likely, .ref q_t_likelyThen, .int v_t_seedNow, .ref q_t_saved, .int v_t_keptMany, .int v_t_keptByHands, .int v_t_keptByMould, .ref q_t_keptRows, .ref q_t_keptDebts, .long v_t_hash])), (q_t_rows, .inl (cI, 80, .inl v_t_rows))] [(q_t, .inr (10, [.ref q_t_page, .int v_t_pageMany, .ref q_t_readKinds, .ref q_t_readLeaflets, .int v_t_readMany, .int v_t_told, .int v_t_many, .int v_t_lostByHands, .int v_t_lostByMould, .ref q_t_rows, .ref q_t_debts, .int v_t_ringMany, .ref q_t_ring, .ref q_t_line, .ref q_t_groups, .ref q_t_likely, .ref q_t_likelyThen, .int v_t_seedNow, .ref q_t_saved, .int v_t_keptMany, .int v_t_keptByHands, .int v_t_keptByMould, .ref q_t_keptRows, .ref q_t_keptDebts, .long v_t_hash])), (q_t_rows, .inl (cI, 80, .inl z.2))] (some (.int z.1))) args s 0 0 (fr [(q_t, .inr (10, [.ref q_t_page, .int v_t_pageMany, .ref q_t_readKinds, .ref q_t_readLeaflets, .int v_t_readMany, .int v_t_told, .int v_t_many, .int v_t_lostByHands, .int v_t_lostByMould, .ref q_t_rows, .ref q_t_debts, .int v_t_ringMany, .ref q_t_ring, .ref q_t_line, .ref q_t_groups, .ref q_t_likely, .ref q_t_likelyThen, .int v_t_seedNow, .ref q_t_saved, .int v_t_keptMany, .int v_t_keptByHands, .int v_t_keptByMould, .ref q_t_keptRows, .ref q_t_keptDebts, .long v_t_hash])), (q_t_rows, .inl (cI, 80, .inl v_t_rows))])) (F0 m 0 ls [])
  generalize hQ0 : (MQ below (QG D [(q_t, .inr (10, [.ref q_t_page, .int v_t_pageMany, .ref q_t_readKinds, .ref q_t_readLeaflets, .int v_t_readMany, .int v_t_told, .int v_t_many, .int v_t_lostByHands, .int v_t_lostByMould, .ref q_t_rows, .ref q_t_debts, .int v_t_ringMany, .ref q_t_ring, .ref q_t_line, .ref q_t_groups, .ref q_t_likely, .ref q_t_likelyThen, .int v_t_seedNow, .ref q_t_saved, .int v_t_keptMany, .int v_t_keptByHands, .int v_t_keptByMould, .ref q_t_keptRows, .ref q_t_keptDebts, .long v_t_hash])), (q_t_rows, .inl (cI, 80, .inl v_t_rows))] [(q_t, .inr (10, [.ref q_t_page, .int v_t_pageMany, .ref q_t_readKinds, .ref q_t_readLeaflets, .int v_t_readMany, .int v_t_told, .int v_t_many, .int v_t_lostByHands, .int v_t_lostByMould, .ref q_t_rows, .ref q_t_debts, .int v_t_ringMany, .ref q_t_ring, .ref q_t_line, .ref q_t_groups, .ref q_t_likely, .ref q_t_likelyThen, .int v_t_seedNow, .ref q_t_saved, .int v_t_keptMany, .int v_t_keptByHands, .int v_t_keptByMould, .ref q_t_keptRows, .ref q_t_keptDebts, .long v_t_hash])), (q_t_rows, .inl (cI, 80, .inl z.2))] (some (.int z.1))) args s 0 0 (fr [(q_t, .inr (10, [.ref q_t_page, .int v_t_pageMany, .ref q_t_readKinds, .ref q_t_readLeaflets, .int v_t_readMany, .int v_t_told, .int v_t_many, .int v_t_lostByHands, .int v_t_lostByMould, .ref q_t_rows, .ref q_t_debts, .int v_t_ringMany, .ref q_t_ring, .ref q_t_line, .ref q_t_groups, .ref q_t_likely, .ref q_t_likelyThen, .int v_t_seedNow, .ref q_t_saved, .int v_t_keptMany, .int v_t_keptByHands, .int v_t_keptByMould, .ref q_t_keptRows, .ref q_t_keptDebts, .long v_t_hash])), (q_t_rows, .inl (cI, 80, .inl v_t_rows))])) = Q0
  generalize hA0 : fr [(q_t, .inr (10, [.ref q_t_page, .int v_t_pageMany, .ref q_t_readKinds, .ref q_t_readLeaflets, .int v_t_readMany, .int v_t_told, .int v_t_many, .int v_t_lostByHands, .int v_t_lostByMould, .ref q_t_rows, .ref q_t_debts, .int v_t_ringMany, .ref q_t_ring, .ref q_t_line, .ref q_t_groups, .ref q_t_likely, .ref q_t_likelyThen, .int v_t_seedNow, .ref q_t_saved, .int v_t_keptMany, .int v_t_keptByHands, .int v_t_keptByMould, .ref q_t_keptRows, .ref q_t_keptDebts, .long v_t_hash])), (q_t_rows, .inl (cI, 80, .inl v_t_rows))] = A0 at hD hS
  unfold fX11_mould at h
  refine lv_iconst (v := 0) hx hb dX11_mould_0 (by decide) ?_
  refine lv_istore_n (lv' := [(1, .int 0), (0, .ref q_t)]) hx hb dX11_mould_1 rfl hl (by decide) rfl (fun ls hl => ?_)
  refine lv_iconst (v := 0) hx hb dX11_mould_2 (by decide) ?_
  refine lv_istore_n (lv' := [(2, .int 0), (1, .int 0), (0, .ref q_t)]) hx hb dX11_mould_3 rfl hl (by decide) rfl (fun ls hl => ?_)
  obtain ⟨e2, he_e2, hc_e2⟩ := bd_of h
  have X89_4 : ∀ (a3 : Int32 × (Nat → Int32)) (H : Heap) (locs : List Loc) (ls : Array Slot), fX11_mould_X4_89 a3 = some z → va_P D vwCl [(q_t, .inr (10, [.ref q_t_page, .int v_t_pageMany, .ref q_t_readKinds, .ref q_t_readLeaflets, .int v_t_readMany, .int v_t_told, .int v_t_many, .int v_t_lostByHands, .int v_t_lostByMould, .ref q_t_rows, .ref q_t_debts, .int v_t_ringMany, .ref q_t_ring, .ref q_t_line, .ref q_t_groups, .ref q_t_likely, .ref q_t_likelyThen, .int v_t_seedNow, .ref q_t_saved, .int v_t_keptMany, .int v_t_keptByHands, .int v_t_keptByMould, .ref q_t_keptRows, .ref q_t_keptDebts, .long v_t_hash])), (q_t_rows, .inl (cI, 80, .inl a3.2))] H → va_D A0 [(q_t, .inr (10, [.ref q_t_page, .int v_t_pageMany, .ref q_t_readKinds, .ref q_t_readLeaflets, .int v_t_readMany, .int v_t_told, .int v_t_many, .int v_t_lostByHands, .int v_t_lostByMould, .ref q_t_rows, .ref q_t_debts, .int v_t_ringMany, .ref q_t_ring, .ref q_t_line, .ref q_t_groups, .ref q_t_likely, .ref q_t_likelyThen, .int v_t_seedNow, .ref q_t_saved, .int v_t_keptMany, .int v_t_keptByHands, .int v_t_keptByMould, .ref q_t_keptRows, .ref q_t_keptDebts, .long v_t_hash])), (q_t_rows, .inl (cI, 80, .inl a3.2))] → va_S A0 s.heap H locs → lv_has ls 4 [(1, .int a3.1)] → W p l e ({ frames := 1, cells := 0, slots := 0, locals := 22 } : Room) s m args below meth c H locs 0 0 Q0 (F0 m 89 ls []) := by
    intro a3 H locs ls h hP hD hS hl
    unfold fX11_mould_X4_89 at h
    refine lv_iload_n hx hb dX11_mould_89 rfl (lv_at hl 0 rfl) ?_
    obtain rfl := Option.some.inj h
    exact rt_i hA0 hQ0 hx hb hr hlocks hP hS dX11_mould_90
  have L4_5 : ∀ (n : Nat) (z1 : Int32 × Int32 × (Nat → Int32)) (H : Heap) (locs : List Loc) (ls : Array Slot), iter (fX11_mould_L4 v_t_many) n z1 = some e2 → va_P D vwCl [(q_t, .inr (10, [.ref q_t_page, .int v_t_pageMany, .ref q_t_readKinds, .ref q_t_readLeaflets, .int v_t_readMany, .int v_t_told, .int v_t_many, .int v_t_lostByHands, .int v_t_lostByMould, .ref q_t_rows, .ref q_t_debts, .int v_t_ringMany, .ref q_t_ring, .ref q_t_line, .ref q_t_groups, .ref q_t_likely, .ref q_t_likelyThen, .int v_t_seedNow, .ref q_t_saved, .int v_t_keptMany, .int v_t_keptByHands, .int v_t_keptByMould, .ref q_t_keptRows, .ref q_t_keptDebts, .long v_t_hash])), (q_t_rows, .inl (cI, 80, .inl z1.2.2))] H → va_D A0 [(q_t, .inr (10, [.ref q_t_page, .int v_t_pageMany, .ref q_t_readKinds, .ref q_t_readLeaflets, .int v_t_readMany, .int v_t_told, .int v_t_many, .int v_t_lostByHands, .int v_t_lostByMould, .ref q_t_rows, .ref q_t_debts, .int v_t_ringMany, .ref q_t_ring, .ref q_t_line, .ref q_t_groups, .ref q_t_likely, .ref q_t_likelyThen, .int v_t_seedNow, .ref q_t_saved, .int v_t_keptMany, .int v_t_keptByHands, .int v_t_keptByMould, .ref q_t_keptRows, .ref q_t_keptDebts, .long v_t_hash])), (q_t_rows, .inl (cI, 80, .inl z1.2.2))] → va_S A0 s.heap H locs → lv_has ls 4 [(0, .ref q_t), (1, .int z1.1), (2, .int z1.2.1)] → W p l e ({ frames := 1, cells := 0, slots := 0, locals := 22 } : Room) s m args below meth c H locs 0 0 Q0 (F0 m 4 ls []) := by
    intro n
    induction n with
    | zero => exact fun _ _ _ _ h => (iter_z h).elim
    | succ n ih =>
      intro z1 H locs ls h hP hD hS hl
      obtain ⟨r_e2, h, hn_e2⟩ := iter_s h
      unfold fX11_mould_L4 at h
      refine lv_iload_n hx hb dX11_mould_4 rfl (lv_at hl 2 rfl) ?_
      refine lv_aload_n hx hb dX11_mould_5 rfl (lv_at hl 0 rfl) ?_
      refine va_get (own := RX11) (ci := 10) (v := .int v_t_many) (C := RX11) (T := TX11) (N := 25) hx hb hts iX11 hown hK hP 0 rfl rfl 6 (by decide) k88 (fun _ h9 => h9) rfl dX11_mould_6 ?_
      refine lv_icmp_ge (tgt := 89) hx hb dX11_mould_9 (by decide) (fun c6 => ?_) (fun c6 => ?_)
      · skip
        have h := (if_pos c6).symm.trans h
        obtain rfl := Option.some.inj h
        obtain rfl := Option.some.inj hn_e2
        exact X89_4 (z1.1, z1.2.2) _ _ _ hc_e2 hP hD hS (lv_sub hl [1] rfl)
      · skip
        have h := (if_neg c6).symm.trans h
        refine lv_aload_n hx hb dX11_mould_12 rfl (lv_at hl 0 rfl) ?_
        refine va_get (own := RX11) (ci := 10) (v := .ref q_t_rows) (C := RX11) (T := TX11) (N := 25) hx hb hts iX11 hown hK hP 0 rfl rfl 9 (by decide) k19 (fun _ h9 => h9) rfl dX11_mould_13 ?_
        refine lv_bipush (v := 8) hx hb dX11_mould_16 (by decide) ?_
        refine lv_iload_n hx hb dX11_mould_18 rfl (lv_at hl 2 rfl) ?_
        refine lv_imul hx hb dX11_mould_19 ?_
        refine lv_iconst (v := 1) hx hb dX11_mould_20 (by decide) ?_
        refine lv_iadd hx hb dX11_mould_21 ?_
        obtain ⟨g7, h⟩ := gd_of h
        refine va_iald hx hb hK hP 1 0 rfl rfl (inb_of g7) dX11_mould_22 ?_
        refine lv_istore_n (lv' := [(3, .int (z1.2.2 ((8 * z1.2.1) + 1).toNatClampNeg)), (0, .ref q_t), (1, .int z1.1), (2, .int z1.2.1)]) hx hb dX11_mould_23 rfl hl (by decide) rfl (fun ls hl => ?_)
        refine lv_aload_n hx hb dX11_mould_24 rfl (lv_at hl 1 rfl) ?_
        refine va_get (own := RX11) (ci := 10) (v := .ref q_t_rows) (C := RX11) (T := TX11) (N := 25) hx hb hts iX11 hown hK hP 0 rfl rfl 9 (by decide) k19 (fun _ h9 => h9) rfl dX11_mould_25 ?_
        refine lv_bipush (v := 8) hx hb dX11_mould_28 (by decide) ?_
        refine lv_iload_n hx hb dX11_mould_30 rfl (lv_at hl 3 rfl) ?_
        refine lv_imul hx hb dX11_mould_31 ?_
        refine lv_iconst (v := 1) hx hb dX11_mould_32 (by decide) ?_
        refine lv_iadd hx hb dX11_mould_33 ?_
        refine lv_aload_n hx hb dX11_mould_34 rfl (lv_at hl 1 rfl) ?_
        refine va_get (own := RX11) (ci := 10) (v := .ref q_t_rows) (C := RX11) (T := TX11) (N := 25) hx hb hts iX11 hown hK hP 0 rfl rfl 9 (by decide) k19 (fun _ h9 => h9) rfl dX11_mould_35 ?_
        refine lv_bipush (v := 8) hx hb dX11_mould_38 (by decide) ?_
        refine lv_iload_n hx hb dX11_mould_40 rfl (lv_at hl 3 rfl) ?_
        refine lv_imul hx hb dX11_mould_41 ?_
        refine lv_iconst (v := 2) hx hb dX11_mould_42 (by decide) ?_
        refine lv_iadd hx hb dX11_mould_43 ?_
        obtain ⟨g8, h⟩ := gd_of h
        refine va_iald hx hb hK hP 1 0 rfl rfl (inb_of g8) dX11_mould_44 ?_
        refine lv_iconst (v := (-1)) hx hb dX11_mould_45 (by decide) ?_
        have J66_10 : ∀ (a9 : Int32) (H : Heap) (locs : List Loc) (ls : Array Slot), fX11_mould_J66 z1 a9 = some r_e2 → va_P D vwCl [(q_t, .inr (10, [.ref q_t_page, .int v_t_pageMany, .ref q_t_readKinds, .ref q_t_readLeaflets, .int v_t_readMany, .int v_t_told, .int v_t_many, .int v_t_lostByHands, .int v_t_lostByMould, .ref q_t_rows, .ref q_t_debts, .int v_t_ringMany, .ref q_t_ring, .ref q_t_line, .ref q_t_groups, .ref q_t_likely, .ref q_t_likelyThen, .int v_t_seedNow, .ref q_t_saved, .int v_t_keptMany, .int v_t_keptByHands, .int v_t_keptByMould, .ref q_t_keptRows, .ref q_t_keptDebts, .long v_t_hash])), (q_t_rows, .inl (cI, 80, .inl z1.2.2))] H → va_D A0 [(q_t, .inr (10, [.ref q_t_page, .int v_t_pageMany, .ref q_t_readKinds, .ref q_t_readLeaflets, .int v_t_readMany, .int v_t_told, .int v_t_many, .int v_t_lostByHands, .int v_t_lostByMould, .ref q_t_rows, .ref q_t_debts, .int v_t_ringMany, .ref q_t_ring, .ref q_t_line, .ref q_t_groups, .ref q_t_likely, .ref q_t_likelyThen, .int v_t_seedNow, .ref q_t_saved, .int v_t_keptMany, .int v_t_keptByHands, .int v_t_keptByMould, .ref q_t_keptRows, .ref q_t_keptDebts, .long v_t_hash])), (q_t_rows, .inl (cI, 80, .inl z1.2.2))] → va_S A0 s.heap H locs → lv_has ls 4 [(0, .ref q_t), (1, .int z1.1), (2, .int z1.2.1), (3, .int (z1.2.2 ((8 * z1.2.1) + 1).toNatClampNeg))] → W p l e ({ frames := 1, cells := 0, slots := 0, locals := 22 } : Room) s m args below meth c H locs 0 0 Q0 (F0 m 66 ls [.int a9, .int ((8 * z1.2.1) + 1), .ref q_t_rows]) := by
          intro a9 H locs ls h hP hD hS hl
          unfold fX11_mould_J66 at h
          refine va_iast hx hb hK hP hD hS 1 0 rfl rfl (inb_of g7) dX11_mould_66 (fun H locs hP hD hS => ?_)
          have hP : va_P D vwCl [(q_t, .inr (10, [.ref q_t_page, .int v_t_pageMany, .ref q_t_readKinds, .ref q_t_readLeaflets, .int v_t_readMany, .int v_t_told, .int v_t_many, .int v_t_lostByHands, .int v_t_lostByMould, .ref q_t_rows, .ref q_t_debts, .int v_t_ringMany, .ref q_t_ring, .ref q_t_line, .ref q_t_groups, .ref q_t_likely, .ref q_t_likelyThen, .int v_t_seedNow, .ref q_t_saved, .int v_t_keptMany, .int v_t_keptByHands, .int v_t_keptByMould, .ref q_t_keptRows, .ref q_t_keptDebts, .long v_t_hash])), (q_t_rows, .inl (cI, 80, .inl (upd z1.2.2 ((8 * z1.2.1) + 1).toNatClampNeg a9)))] H := hP
          have hD : va_D A0 [(q_t, .inr (10, [.ref q_t_page, .int v_t_pageMany, .ref q_t_readKinds, .ref q_t_readLeaflets, .int v_t_readMany, .int v_t_told, .int v_t_many, .int v_t_lostByHands, .int v_t_lostByMould, .ref q_t_rows, .ref q_t_debts, .int v_t_ringMany, .ref q_t_ring, .ref q_t_line, .ref q_t_groups, .ref q_t_likely, .ref q_t_likelyThen, .int v_t_seedNow, .ref q_t_saved, .int v_t_keptMany, .int v_t_keptByHands, .int v_t_keptByMould, .ref q_t_keptRows, .ref q_t_keptDebts, .long v_t_hash])), (q_t_rows, .inl (cI, 80, .inl (upd z1.2.2 ((8 * z1.2.1) + 1).toNatClampNeg a9)))] := hD
          refine lv_iload_n hx hb dX11_mould_67 rfl (lv_at hl 1 rfl) ?_
          refine lv_iload_n hx hb dX11_mould_68 rfl (lv_at hl 3 rfl) ?_
          refine lv_aload_n hx hb dX11_mould_69 rfl (lv_at hl 0 rfl) ?_
          refine va_get (own := RX11) (ci := 10) (v := .ref q_t_rows) (C := RX11) (T := TX11) (N := 25) hx hb hts iX11 hown hK hP 0 rfl rfl 9 (by decide) k19 (fun _ h9 => h9) rfl dX11_mould_70 ?_
          refine lv_bipush (v := 8) hx hb dX11_mould_73 (by decide) ?_
          refine lv_iload_n hx hb dX11_mould_75 rfl (lv_at hl 2 rfl) ?_
          refine lv_imul hx hb dX11_mould_76 ?_
          refine lv_iconst (v := 1) hx hb dX11_mould_77 (by decide) ?_
          refine lv_iadd hx hb dX11_mould_78 ?_
          refine va_iald hx hb hK hP 1 0 rfl rfl (inb_of g7) dX11_mould_79 ?_
          refine lv_isub hx hb dX11_mould_80 ?_
          refine lv_iadd hx hb dX11_mould_81 ?_
          refine lv_istore_n (lv' := [(1, .int (z1.1 + ((z1.2.2 ((8 * z1.2.1) + 1).toNatClampNeg) - ((upd z1.2.2 ((8 * z1.2.1) + 1).toNatClampNeg a9) ((8 * z1.2.1) + 1).toNatClampNeg)))), (0, .ref q_t), (2, .int z1.2.1), (3, .int (z1.2.2 ((8 * z1.2.1) + 1).toNatClampNeg))]) hx hb dX11_mould_82 rfl hl (by decide) rfl (fun ls hl => ?_)
          refine lv_iinc (v := (z1.2.1 + 1)) (lv' := [(2, .int (z1.2.1 + 1)), (1, .int (z1.1 + ((z1.2.2 ((8 * z1.2.1) + 1).toNatClampNeg) - ((upd z1.2.2 ((8 * z1.2.1) + 1).toNatClampNeg a9) ((8 * z1.2.1) + 1).toNatClampNeg)))), (0, .ref q_t), (3, .int (z1.2.2 ((8 * z1.2.1) + 1).toNatClampNeg))]) hx hb dX11_mould_83 hl (k := 2) rfl rfl (by decide) rfl (fun ls hl => ?_)
          refine lv_goto (tgt := 4) hx hb dX11_mould_86 (by decide) ?_
          obtain rfl := Option.some.inj h
          exact ih ((z1.1 + ((z1.2.2 ((8 * z1.2.1) + 1).toNatClampNeg) - ((upd z1.2.2 ((8 * z1.2.1) + 1).toNatClampNeg a9) ((8 * z1.2.1) + 1).toNatClampNeg))), (z1.2.1 + 1), (upd z1.2.2 ((8 * z1.2.1) + 1).toNatClampNeg a9)) _ _ _ hn_e2 hP hD hS (lv_sub hl [2, 1, 0] rfl)
        refine lv_icmp_ne (tgt := 53) hx hb dX11_mould_46 (by decide) (fun c11 => ?_) (fun c11 => ?_)
        · skip
          have h := (if_neg c11).symm.trans h
          refine lv_aload_n hx hb dX11_mould_53 rfl (lv_at hl 1 rfl) ?_
          refine va_get (own := RX11) (ci := 10) (v := .ref q_t_rows) (C := RX11) (T := TX11) (N := 25) hx hb hts iX11 hown hK hP 0 rfl rfl 9 (by decide) k19 (fun _ h9 => h9) rfl dX11_mould_54 ?_
          refine lv_bipush (v := 8) hx hb dX11_mould_57 (by decide) ?_
          refine lv_iload_n hx hb dX11_mould_59 rfl (lv_at hl 3 rfl) ?_
          refine lv_imul hx hb dX11_mould_60 ?_
          obtain ⟨g12, h⟩ := gd_of h
          refine va_iald hx hb hK hP 1 0 rfl rfl (inb_of g12) dX11_mould_61 ?_
          refine lv_iload_n hx hb dX11_mould_62 rfl (lv_at hl 0 rfl) ?_
          refine cl_S [(q_t, .inr (10, [.ref q_t_page, .int v_t_pageMany, .ref q_t_readKinds, .ref q_t_readLeaflets, .int v_t_readMany, .int v_t_told, .int v_t_many, .int v_t_lostByHands, .int v_t_lostByMould, .ref q_t_rows, .ref q_t_debts, .int v_t_ringMany, .ref q_t_ring, .ref q_t_line, .ref q_t_groups, .ref q_t_likely, .ref q_t_likelyThen, .int v_t_seedNow, .ref q_t_saved, .int v_t_keptMany, .int v_t_keptByHands, .int v_t_keptByMould, .ref q_t_keptRows, .ref q_t_keptDebts, .long v_t_hash])), (q_t_rows, .inl (cI, 80, .inl z1.2.2))] (As := [.int (z1.2.2 (8 * z1.2.1).toNatClampNeg), .int (z1.2.2 ((8 * z1.2.1) + 1).toNatClampNeg)]) (rest := [.int ((8 * z1.2.1) + 1), .ref q_t_rows]) (rv := (some (.int (fX11_byMould (z1.2.2 (8 * z1.2.1).toNatClampNeg) (z1.2.2 ((8 * z1.2.1) + 1).toNatClampNeg))))) (c_X11_byMould l D cI cJ (z1.2.2 (8 * z1.2.1).toNatClampNeg) (z1.2.2 ((8 * z1.2.1) + 1).toNatClampNeg)) ⟨hx, hb, hml, hown, hts⟩ (va_cwS 2 hts gX11_mould_X11_byMould rfl rfl rfl (by decide +kernel) ⟨(Nat.le_of_ble_eq_true rfl), (Nat.le_of_ble_eq_true rfl)⟩) hK hN hP hD hS [] rfl (by decide) rfl rfl rfl rfl hl.1 rfl (Nat.le_of_ble_eq_true rfl) dX11_mould_63 ⟨Nat.zero_le _, Nat.zero_le _⟩ (fun H locs hP hD hS => ?_)
          show W p l e ({ frames := 1, cells := 0, slots := 0, locals := 22 } : Room) s m args below meth c H locs 0 0 Q0 (F0 m 66 ls [.int (fX11_byMould (z1.2.2 (8 * z1.2.1).toNatClampNeg) (z1.2.2 ((8 * z1.2.1) + 1).toNatClampNeg)), .int ((8 * z1.2.1) + 1), .ref q_t_rows])
          exact J66_10 (fX11_byMould (z1.2.2 (8 * z1.2.1).toNatClampNeg) (z1.2.2 ((8 * z1.2.1) + 1).toNatClampNeg)) _ _ _ h hP hD hS (lv_sub hl [1, 2, 3, 0] rfl)
        · skip
          have h := (if_pos c11).symm.trans h
          refine lv_iload_n hx hb dX11_mould_49 rfl (lv_at hl 0 rfl) ?_
          refine lv_goto (tgt := 66) hx hb dX11_mould_50 (by decide) ?_
          exact J66_10 (z1.2.2 ((8 * z1.2.1) + 1).toNatClampNeg) _ _ _ h hP hD hS (lv_sub hl [1, 2, 3, 0] rfl)
  exact L4_5 FU (0, 0, v_t_rows) _ _ _ he_e2 hP hD hS (lv_sub hl [2, 1, 0] rfl)
def fX11_month_J11 (v_t_lostByMould : Int32) (a1 : Int32 × (Nat → Int32)) : Option (Int32 × Int32 × (Nat → Int32)) :=
  some (a1.1, (v_t_lostByMould + a1.1), a1.2)
def fX11_month (v_t_pageMany : Int32) (v_t_readMany : Int32) (v_t_told : Int32) (v_t_many : Int32) (v_t_lostByHands : Int32) (v_t_lostByMould : Int32) (v_t_ringMany : Int32) (v_t_seedNow : Int32) (v_t_keptMany : Int32) (v_t_keptByHands : Int32) (v_t_keptByMould : Int32) (v_t_hash : Int64) (v_t_rows : Nat → Int32) (x1 : Int32) : Option (Int32 × Int32 × (Nat → Int32)) :=
  if x1 = 0 then (fX11_month_J11 v_t_lostByMould (0, v_t_rows)) else ((fX11_mould v_t_pageMany v_t_readMany v_t_told v_t_many v_t_lostByHands v_t_lostByMould v_t_ringMany v_t_seedNow v_t_keptMany v_t_keptByHands v_t_keptByMould v_t_hash v_t_rows).bind (fun u4 => fX11_month_J11 v_t_lostByMould (u4.1, u4.2)))
set_option maxHeartbeats 4000000 in
set_option maxRecDepth 100000 in
theorem c_X11_month (l : Launch) (D : va_G) (cI cJ : ClassId) (q_t q_t_page q_t_readKinds q_t_readLeaflets q_t_rows q_t_debts q_t_ring q_t_line q_t_groups q_t_likely q_t_likelyThen q_t_saved q_t_keptRows q_t_keptDebts : Nat) (v_t_pageMany : Int32) (v_t_readMany : Int32) (v_t_told : Int32) (v_t_many : Int32) (v_t_lostByHands : Int32) (v_t_lostByMould : Int32) (v_t_ringMany : Int32) (v_t_seedNow : Int32) (v_t_keptMany : Int32) (v_t_keptByHands : Int32) (v_t_keptByMould : Int32) (v_t_hash : Int64) (v_t_rows : Nat → Int32) (x1 : Int32) (z : Int32 × Int32 × (Nat → Int32)) (h : fX11_month v_t_pageMany v_t_readMany v_t_told v_t_many v_t_lostByHands v_t_lostByMould v_t_ringMany v_t_seedNow v_t_keptMany v_t_keptByHands v_t_keptByMould v_t_hash v_t_rows x1 = some z) : Met l yX11_month wsX11_month ({ frames := 2, cells := 0, slots := 0, locals := 45 } : Room) (va_Pc [.ref q_t, .int x1] (preG D cI cJ [(q_t, .inr (10, [.ref q_t_page, .int v_t_pageMany, .ref q_t_readKinds, .ref q_t_readLeaflets, .int v_t_readMany, .int v_t_told, .int v_t_many, .int v_t_lostByHands, .int v_t_lostByMould, .ref q_t_rows, .ref q_t_debts, .int v_t_ringMany, .ref q_t_ring, .ref q_t_line, .ref q_t_groups, .ref q_t_likely, .ref q_t_likelyThen, .int v_t_seedNow, .ref q_t_saved, .int v_t_keptMany, .int v_t_keptByHands, .int v_t_keptByMould, .ref q_t_keptRows, .ref q_t_keptDebts, .long v_t_hash])), (q_t_rows, .inl (cI, 80, .inl v_t_rows))])) (QG D [(q_t, .inr (10, [.ref q_t_page, .int v_t_pageMany, .ref q_t_readKinds, .ref q_t_readLeaflets, .int v_t_readMany, .int v_t_told, .int v_t_many, .int v_t_lostByHands, .int v_t_lostByMould, .ref q_t_rows, .ref q_t_debts, .int v_t_ringMany, .ref q_t_ring, .ref q_t_line, .ref q_t_groups, .ref q_t_likely, .ref q_t_likelyThen, .int v_t_seedNow, .ref q_t_saved, .int v_t_keptMany, .int v_t_keptByHands, .int v_t_keptByMould, .ref q_t_keptRows, .ref q_t_keptDebts, .long v_t_hash])), (q_t_rows, .inl (cI, 80, .inl v_t_rows))] [(q_t, .inr (10, [.ref q_t_page, .int v_t_pageMany, .ref q_t_readKinds, .ref q_t_readLeaflets, .int v_t_readMany, .int v_t_told, .int v_t_many, .int v_t_lostByHands, .int z.2.1, .ref q_t_rows, .ref q_t_debts, .int v_t_ringMany, .ref q_t_ring, .ref q_t_line, .ref q_t_groups, .ref q_t_likely, .ref q_t_likelyThen, .int v_t_seedNow, .ref q_t_saved, .int v_t_keptMany, .int v_t_keptByHands, .int v_t_keptByMould, .ref q_t_keptRows, .ref q_t_keptDebts, .long v_t_hash])), (q_t_rows, .inl (cI, 80, .inl z.2.2))] (some (.int z.1))) 0 0 (fr [(q_t, .inr (10, [.ref q_t_page, .int v_t_pageMany, .ref q_t_readKinds, .ref q_t_readLeaflets, .int v_t_readMany, .int v_t_told, .int v_t_many, .int v_t_lostByHands, .int v_t_lostByMould, .ref q_t_rows, .ref q_t_debts, .int v_t_ringMany, .ref q_t_ring, .ref q_t_line, .ref q_t_groups, .ref q_t_likely, .ref q_t_likelyThen, .int v_t_seedNow, .ref q_t_saved, .int v_t_keptMany, .int v_t_keptByHands, .int v_t_keptByMould, .ref q_t_keptRows, .ref q_t_keptDebts, .long v_t_hash])), (q_t_rows, .inl (cI, 80, .inl v_t_rows))]) := by
  refine Met.ofW (cc := cX11_month) (maxL := 3) (ret := (some .int)) (by decide) rfl ?_
  intro p e s m args below meth c s₁ B hml hv
  obtain ⟨hargs, hP, hK, hN, hD0⟩ := hv
  have hx := B.exec
  have hb := B.bytes
  have hr := B.returns
  have hts := atoms_spec (ws := wsX11_month) B.pre
  have hown : s.vm.findClass RX11 = some m.cls := findClass_of_methodNamed B.named
  have hlocks := B.notSynchronized
  have iX11 : ∀ w ∈ wsX110, w ∈ wsX11_month := by decide +kernel
  have k135 := hts (.fieldLink RX11 135 "PressedFernsModel" "lostByMould" "I") (by decide +kernel)
  have hD := fr_D hD0
  have hS : va_S (fr [(q_t, .inr (10, [.ref q_t_page, .int v_t_pageMany, .ref q_t_readKinds, .ref q_t_readLeaflets, .int v_t_readMany, .int v_t_told, .int v_t_many, .int v_t_lostByHands, .int v_t_lostByMould, .ref q_t_rows, .ref q_t_debts, .int v_t_ringMany, .ref q_t_ring, .ref q_t_line, .ref q_t_groups, .ref q_t_likely, .ref q_t_likelyThen, .int v_t_seedNow, .ref q_t_saved, .int v_t_keptMany, .int v_t_keptByHands, .int v_t_keptByMould, .ref q_t_keptRows, .ref q_t_keptDebts, .long v_t_hash])), (q_t_rows, .inl (cI, 80, .inl v_t_rows))]) s.heap s.heap [] := va_S.rf
  have hl := lv_entry ([.ref q_t, .int x1]) (n := 3) (Nat.le_of_ble_eq_true rfl)
  refine W.eq (g2 := F0 m 0 ((lg_sl ([.ref q_t, .int x1]) ++ List.replicate (3 - (lg_sl ([.ref q_t, .int x1])).length) Slot.unset).toArray) []) (by rw [hargs, lg_entry_eq]) ?_
  generalize (lg_sl ([.ref q_t, .int x1]) ++ List.replicate (3 - (lg_sl ([.ref q_t, .int x1])).length) Slot.unset).toArray = ls at hl ⊢
  have hl : lv_has ls 3 [(0, .ref q_t), (1, .int x1)] := hl
  show W p l e ({ frames := 2, cells := 0, slots := 0, locals := 45 } : Room) s m args below meth c s.heap [] 0 0 (MQ below (QG D [(q_t, .inr (10, [.ref q_t_page, .int v_t_pageMany, .ref q_t_readKinds, .ref q_t_readLeaflets, .int v_t_readMany, .int v_t_told, .int v_t_many, .int v_t_lostByHands, .int v_t_lostByMould, .ref q_t_rows, .ref q_t_debts, .int v_t_ringMany, .ref q_t_ring, .ref q_t_line, .ref q_t_groups, .ref q_t_likely, .ref q_t_likelyThen, .int v_t_seedNow, .ref q_t_saved, .int v_t_keptMany, .int v_t_keptByHands, .int v_t_keptByMould, .ref q_t_keptRows, .ref q_t_keptDebts, .long v_t_hash])), (q_t_rows, .inl (cI, 80, .inl v_t_rows))] [(q_t, .inr (10, [.ref q_t_page, .int v_t_pageMany, .ref q_t_readKinds, .ref q_t_readLeaflets, .int v_t_readMany, .int v_t_told, .int v_t_many, .int v_t_lostByHands, .int z.2.1, .ref q_t_rows, .ref q_t_debts, .int v_t_ringMany, .ref q_t_ring, .ref q_t_line, .ref q_t_groups, .ref q_t_likely, .ref q_t_likelyThen, .int v_t_seedNow, .ref q_t_saved, .int v_t_keptMany, .int v_t_keptByHands, .int v_t_keptByMould, .ref q_t_keptRows, .ref q_t_keptDebts, .long v_t_hash])), (q_t_rows, .inl (cI, 80, .inl z.2.2))] (some (.int z.1))) args s 0 0 (fr [(q_t, .inr (10, [.ref q_t_page, .int v_t_pageMany, .ref q_t_readKinds, .ref q_t_readLeaflets, .int v_t_readMany, .int v_t_told, .int v_t_many, .int v_t_lostByHands, .int v_t_lostByMould, .ref q_t_rows, .ref q_t_debts, .int v_t_ringMany, .ref q_t_ring, .ref q_t_line, .ref q_t_groups, .ref q_t_likely, .ref q_t_likelyThen, .int v_t_seedNow, .ref q_t_saved, .int v_t_keptMany, .int v_t_keptByHands, .int v_t_keptByMould, .ref q_t_keptRows, .ref q_t_keptDebts, .long v_t_hash])), (q_t_rows, .inl (cI, 80, .inl v_t_rows))])) (F0 m 0 ls [])
  generalize hQ0 : (MQ below (QG D [(q_t, .inr (10, [.ref q_t_page, .int v_t_pageMany, .ref q_t_readKinds, .ref q_t_readLeaflets, .int v_t_readMany, .int v_t_told, .int v_t_many, .int v_t_lostByHands, .int v_t_lostByMould, .ref q_t_rows, .ref q_t_debts, .int v_t_ringMany, .ref q_t_ring, .ref q_t_line, .ref q_t_groups, .ref q_t_likely, .ref q_t_likelyThen, .int v_t_seedNow, .ref q_t_saved, .int v_t_keptMany, .int v_t_keptByHands, .int v_t_keptByMould, .ref q_t_keptRows, .ref q_t_keptDebts, .long v_t_hash])), (q_t_rows, .inl (cI, 80, .inl v_t_rows))] [(q_t, .inr (10, [.ref q_t_page, .int v_t_pageMany, .ref q_t_readKinds, .ref q_t_readLeaflets, .int v_t_readMany, .int v_t_told, .int v_t_many, .int v_t_lostByHands, .int z.2.1, .ref q_t_rows, .ref q_t_debts, .int v_t_ringMany, .ref q_t_ring, .ref q_t_line, .ref q_t_groups, .ref q_t_likely, .ref q_t_likelyThen, .int v_t_seedNow, .ref q_t_saved, .int v_t_keptMany, .int v_t_keptByHands, .int v_t_keptByMould, .ref q_t_keptRows, .ref q_t_keptDebts, .long v_t_hash])), (q_t_rows, .inl (cI, 80, .inl z.2.2))] (some (.int z.1))) args s 0 0 (fr [(q_t, .inr (10, [.ref q_t_page, .int v_t_pageMany, .ref q_t_readKinds, .ref q_t_readLeaflets, .int v_t_readMany, .int v_t_told, .int v_t_many, .int v_t_lostByHands, .int v_t_lostByMould, .ref q_t_rows, .ref q_t_debts, .int v_t_ringMany, .ref q_t_ring, .ref q_t_line, .ref q_t_groups, .ref q_t_likely, .ref q_t_likelyThen, .int v_t_seedNow, .ref q_t_saved, .int v_t_keptMany, .int v_t_keptByHands, .int v_t_keptByMould, .ref q_t_keptRows, .ref q_t_keptDebts, .long v_t_hash])), (q_t_rows, .inl (cI, 80, .inl v_t_rows))])) = Q0
  generalize hA0 : fr [(q_t, .inr (10, [.ref q_t_page, .int v_t_pageMany, .ref q_t_readKinds, .ref q_t_readLeaflets, .int v_t_readMany, .int v_t_told, .int v_t_many, .int v_t_lostByHands, .int v_t_lostByMould, .ref q_t_rows, .ref q_t_debts, .int v_t_ringMany, .ref q_t_ring, .ref q_t_line, .ref q_t_groups, .ref q_t_likely, .ref q_t_likelyThen, .int v_t_seedNow, .ref q_t_saved, .int v_t_keptMany, .int v_t_keptByHands, .int v_t_keptByMould, .ref q_t_keptRows, .ref q_t_keptDebts, .long v_t_hash])), (q_t_rows, .inl (cI, 80, .inl v_t_rows))] = A0 at hD hS
  unfold fX11_month at h
  refine lv_iconst (v := 0) hx hb dX11_month_0 (by decide) ?_
  refine lv_istore_n (lv' := [(2, .int 0), (0, .ref q_t), (1, .int x1)]) hx hb dX11_month_1 rfl hl (by decide) rfl (fun ls hl => ?_)
  refine lv_iload_n hx hb dX11_month_2 rfl (lv_at hl 2 rfl) ?_
  have J11_2 : ∀ (a1 : Int32 × (Nat → Int32)) (H : Heap) (locs : List Loc) (ls : Array Slot), fX11_month_J11 v_t_lostByMould a1 = some z → va_P D vwCl [(q_t, .inr (10, [.ref q_t_page, .int v_t_pageMany, .ref q_t_readKinds, .ref q_t_readLeaflets, .int v_t_readMany, .int v_t_told, .int v_t_many, .int v_t_lostByHands, .int v_t_lostByMould, .ref q_t_rows, .ref q_t_debts, .int v_t_ringMany, .ref q_t_ring, .ref q_t_line, .ref q_t_groups, .ref q_t_likely, .ref q_t_likelyThen, .int v_t_seedNow, .ref q_t_saved, .int v_t_keptMany, .int v_t_keptByHands, .int v_t_keptByMould, .ref q_t_keptRows, .ref q_t_keptDebts, .long v_t_hash])), (q_t_rows, .inl (cI, 80, .inl a1.2))] H → va_D A0 [(q_t, .inr (10, [.ref q_t_page, .int v_t_pageMany, .ref q_t_readKinds, .ref q_t_readLeaflets, .int v_t_readMany, .int v_t_told, .int v_t_many, .int v_t_lostByHands, .int v_t_lostByMould, .ref q_t_rows, .ref q_t_debts, .int v_t_ringMany, .ref q_t_ring, .ref q_t_line, .ref q_t_groups, .ref q_t_likely, .ref q_t_likelyThen, .int v_t_seedNow, .ref q_t_saved, .int v_t_keptMany, .int v_t_keptByHands, .int v_t_keptByMould, .ref q_t_keptRows, .ref q_t_keptDebts, .long v_t_hash])), (q_t_rows, .inl (cI, 80, .inl a1.2))] → va_S A0 s.heap H locs → lv_has ls 3 [(0, .ref q_t), (2, .int a1.1)] → W p l e ({ frames := 2, cells := 0, slots := 0, locals := 45 } : Room) s m args below meth c H locs 0 0 Q0 (F0 m 11 ls []) := by
    intro a1 H locs ls h hP hD hS hl
    unfold fX11_month_J11 at h
    refine lv_aload_n hx hb dX11_month_11 rfl (lv_at hl 0 rfl) ?_
    refine lv_dup hx hb dX11_month_12 rfl ?_
    refine va_get (own := RX11) (ci := 10) (v := .int v_t_lostByMould) (C := RX11) (T := TX11) (N := 25) hx hb hts iX11 hown hK hP 0 rfl rfl 8 (by decide) k135 (fun _ h9 => h9) rfl dX11_month_13 ?_
    refine lv_iload_n hx hb dX11_month_16 rfl (lv_at hl 1 rfl) ?_
    refine lv_iadd hx hb dX11_month_17 ?_
    refine va_put (D := D) (own := RX11) (ci := 10) (v := .int (v_t_lostByMould + a1.1)) (ty := .int) (C := RX11) (T := TX11) (N := 25) hx hb hts iX11 tyX11 tyX11_ok nmX11 hown hK hP hD hS 0 rfl rfl 8 (by decide) k135 (fun _ h9 => h9) rfl (by decide +kernel) rfl rfl (Nat.le_of_ble_eq_true rfl) dX11_month_18 (fun H locs hP hD hS => ?_)
    have hP : va_P D vwCl [(q_t, .inr (10, [.ref q_t_page, .int v_t_pageMany, .ref q_t_readKinds, .ref q_t_readLeaflets, .int v_t_readMany, .int v_t_told, .int v_t_many, .int v_t_lostByHands, .int (v_t_lostByMould + a1.1), .ref q_t_rows, .ref q_t_debts, .int v_t_ringMany, .ref q_t_ring, .ref q_t_line, .ref q_t_groups, .ref q_t_likely, .ref q_t_likelyThen, .int v_t_seedNow, .ref q_t_saved, .int v_t_keptMany, .int v_t_keptByHands, .int v_t_keptByMould, .ref q_t_keptRows, .ref q_t_keptDebts, .long v_t_hash])), (q_t_rows, .inl (cI, 80, .inl a1.2))] H := hP
    have hD : va_D A0 [(q_t, .inr (10, [.ref q_t_page, .int v_t_pageMany, .ref q_t_readKinds, .ref q_t_readLeaflets, .int v_t_readMany, .int v_t_told, .int v_t_many, .int v_t_lostByHands, .int (v_t_lostByMould + a1.1), .ref q_t_rows, .ref q_t_debts, .int v_t_ringMany, .ref q_t_ring, .ref q_t_line, .ref q_t_groups, .ref q_t_likely, .ref q_t_likelyThen, .int v_t_seedNow, .ref q_t_saved, .int v_t_keptMany, .int v_t_keptByHands, .int v_t_keptByMould, .ref q_t_keptRows, .ref q_t_keptDebts, .long v_t_hash])), (q_t_rows, .inl (cI, 80, .inl a1.2))] := hD
    refine lv_iload_n hx hb dX11_month_21 rfl (lv_at hl 1 rfl) ?_
    obtain rfl := Option.some.inj h
    exact rt_i hA0 hQ0 hx hb hr hlocks hP hS dX11_month_22
  refine lv_if_eq (tgt := 11) hx hb dX11_month_3 (by decide) (fun c3 => ?_) (fun c3 => ?_)
  · skip
    have h := (if_pos c3).symm.trans h
    exact J11_2 (0, v_t_rows) _ _ _ h hP hD hS (lv_sub hl [1, 0] rfl)
  · skip
    have h := (if_neg c3).symm.trans h
    refine lv_aload_n hx hb dX11_month_6 rfl (lv_at hl 1 rfl) ?_
    obtain ⟨u4, g5, h⟩ := bd_of h
    refine cl_V [(q_t, .inr (10, [.ref q_t_page, .int v_t_pageMany, .ref q_t_readKinds, .ref q_t_readLeaflets, .int v_t_readMany, .int v_t_told, .int v_t_many, .int v_t_lostByHands, .int v_t_lostByMould, .ref q_t_rows, .ref q_t_debts, .int v_t_ringMany, .ref q_t_ring, .ref q_t_line, .ref q_t_groups, .ref q_t_likely, .ref q_t_likelyThen, .int v_t_seedNow, .ref q_t_saved, .int v_t_keptMany, .int v_t_keptByHands, .int v_t_keptByMould, .ref q_t_keptRows, .ref q_t_keptDebts, .long v_t_hash])), (q_t_rows, .inl (cI, 80, .inl u4.2))] (As := []) (rest := []) (rv := (some (.int u4.1))) (c_X11_mould l D cI cJ q_t q_t_page q_t_readKinds q_t_readLeaflets q_t_rows q_t_debts q_t_ring q_t_line q_t_groups q_t_likely q_t_likelyThen q_t_saved q_t_keptRows q_t_keptDebts v_t_pageMany v_t_readMany v_t_told v_t_many v_t_lostByHands v_t_lostByMould v_t_ringMany v_t_seedNow v_t_keptMany v_t_keptByHands v_t_keptByMould v_t_hash v_t_rows u4 g5) ⟨hx, hb, hml, hown, hts⟩ (cwV 0 hts gX11_month_X11_mould rfl rfl rfl (by decide +kernel) ⟨(Nat.le_of_ble_eq_true rfl), (Nat.le_of_ble_eq_true rfl)⟩) hK hN hP hD hS [0, 1] rfl (by decide) rfl rfl rfl (q0 := 0) (ci := 10) rfl rfl rfl rfl hl.1 rfl (Nat.le_of_ble_eq_true rfl) dX11_month_7 ⟨Nat.zero_le _, Nat.zero_le _⟩ (fun H locs hP hD hS => ?_)
    show W p l e ({ frames := 2, cells := 0, slots := 0, locals := 45 } : Room) s m args below meth c H locs 0 0 Q0 (F0 m 10 ls [.int u4.1])
    refine lv_istore_n (lv' := [(2, .int u4.1), (0, .ref q_t), (1, .int x1)]) hx hb dX11_month_10 rfl hl (by decide) rfl (fun ls hl => ?_)
    exact J11_2 (u4.1, u4.2) _ _ _ h hP hD hS (lv_sub hl [1, 0] rfl)
def fX11_june_X7_102 (v_t_many : Int32) (a3 : Int32 × (Nat → Int32)) : Option (Int32 × Int32 × (Nat → Int32)) :=
  some ((a3.1 - v_t_many), a3.1, a3.2)
def fX11_june_J96 (z1 : Int32 × Int32 × (Nat → Int32)) (a11 : Int32 × (Nat → Int32)) : Option ((Int32 × Int32 × (Nat → Int32)) ⊕ (Int32 × (Nat → Int32))) :=
  some (Sum.inl ((z1.1 + 1), a11.1, a11.2))
def fX11_june_X18_73 (v_t_pageMany : Int32) (v_t_readMany : Int32) (v_t_told : Int32) (v_t_lostByHands : Int32) (v_t_lostByMould : Int32) (v_t_ringMany : Int32) (v_t_seedNow : Int32) (v_t_keptMany : Int32) (v_t_keptByHands : Int32) (v_t_keptByMould : Int32) (v_t_hash : Int64) (z1 : Int32 × Int32 × (Nat → Int32)) (a9 : Int32) : Option ((Int32 × Int32 × (Nat → Int32)) ⊕ (Int32 × (Nat → Int32))) :=
  if a9 = 0 then (fX11_june_J96 z1 (z1.2.1, z1.2.2)) else (if 10 ≤ z1.2.1 then (fX11_june_J96 z1 (z1.2.1, z1.2.2)) else ((fX11_begin v_t_pageMany v_t_readMany v_t_told z1.2.1 v_t_lostByHands v_t_lostByMould v_t_ringMany v_t_seedNow v_t_keptMany v_t_keptByHands v_t_keptByMould v_t_hash z1.2.2 0 9 z1.1).bind (fun u15 => fX11_june_J96 z1 (u15.2.1, u15.2.2))))
def fX11_june_J61 (z7 : Int32 × Int32) (a19 : Unit) : Option ((Int32 × Int32) ⊕ (Int32)) :=
  some (Sum.inl (1, (z7.2 + 1)))
def fX11_june_J66 (z7 : Int32 × Int32) (a21 : Int32) : Option ((Int32 × Int32) ⊕ (Int32)) :=
  some (Sum.inl (a21, (z7.2 + 1)))
def fX11_june_J65 (z7 : Int32 × Int32) (a25 : Unit) : Option ((Int32 × Int32) ⊕ (Int32)) :=
  fX11_june_J66 z7 0
def fX11_june_L18 (v_t_many : Int32) (z1 : Int32 × Int32 × (Nat → Int32)) (z7 : Int32 × Int32) : Option ((Int32 × Int32) ⊕ (Int32)) :=
  if v_t_many ≤ z7.2 then (some (Sum.inr z7.1)) else (if z7.1 = 0 then (gd (inb ((8 * z7.2) + 2) 80) (if (z1.2.2 ((8 * z7.2) + 2).toNatClampNeg) = z1.1 then (gd (inb ((8 * z7.2) + 1) 80) (if (z1.2.2 ((8 * z7.2) + 1).toNatClampNeg) = 9 then (fX11_june_J61 z7 ()) else (fX11_june_J65 z7 ()))) else (fX11_june_J65 z7 ()))) else (fX11_june_J61 z7 ()))
def fX11_june_L7 (v_t_pageMany : Int32) (v_t_readMany : Int32) (v_t_told : Int32) (v_t_many : Int32) (v_t_lostByHands : Int32) (v_t_lostByMould : Int32) (v_t_ringMany : Int32) (v_t_seedNow : Int32) (v_t_keptMany : Int32) (v_t_keptByHands : Int32) (v_t_keptByMould : Int32) (v_t_hash : Int64) (z1 : Int32 × Int32 × (Nat → Int32)) : Option ((Int32 × Int32 × (Nat → Int32)) ⊕ (Int32 × (Nat → Int32))) :=
  if 6 ≤ z1.1 then (some (Sum.inr (z1.2.1, z1.2.2))) else ((iter (fX11_june_L18 v_t_many z1) FU (0, 0)).bind (fX11_june_X18_73 v_t_pageMany v_t_readMany v_t_told v_t_lostByHands v_t_lostByMould v_t_ringMany v_t_seedNow v_t_keptMany v_t_keptByHands v_t_keptByMould v_t_hash z1))
def fX11_june (v_t_pageMany : Int32) (v_t_readMany : Int32) (v_t_told : Int32) (v_t_many : Int32) (v_t_lostByHands : Int32) (v_t_lostByMould : Int32) (v_t_ringMany : Int32) (v_t_seedNow : Int32) (v_t_keptMany : Int32) (v_t_keptByHands : Int32) (v_t_keptByMould : Int32) (v_t_hash : Int64) (v_t_rows : Nat → Int32) : Option (Int32 × Int32 × (Nat → Int32)) :=
  (iter (fX11_june_L7 v_t_pageMany v_t_readMany v_t_told v_t_many v_t_lostByHands v_t_lostByMould v_t_ringMany v_t_seedNow v_t_keptMany v_t_keptByHands v_t_keptByMould v_t_hash) FU (0, v_t_many, v_t_rows)).bind (fX11_june_X7_102 v_t_many)
set_option maxHeartbeats 4000000 in
set_option maxRecDepth 100000 in
theorem c_X11_june (l : Launch) (D : va_G) (cI cJ : ClassId) (q_t q_t_page q_t_readKinds q_t_readLeaflets q_t_rows q_t_debts q_t_ring q_t_line q_t_groups q_t_likely q_t_likelyThen q_t_saved q_t_keptRows q_t_keptDebts : Nat) (v_t_pageMany : Int32) (v_t_readMany : Int32) (v_t_told : Int32) (v_t_many : Int32) (v_t_lostByHands : Int32) (v_t_lostByMould : Int32) (v_t_ringMany : Int32) (v_t_seedNow : Int32) (v_t_keptMany : Int32) (v_t_keptByHands : Int32) (v_t_keptByMould : Int32) (v_t_hash : Int64) (v_t_rows : Nat → Int32) (z : Int32 × Int32 × (Nat → Int32)) (h : fX11_june v_t_pageMany v_t_readMany v_t_told v_t_many v_t_lostByHands v_t_lostByMould v_t_ringMany v_t_seedNow v_t_keptMany v_t_keptByHands v_t_keptByMould v_t_hash v_t_rows = some z) : Met l yX11_june wsX11_june ({ frames := 1, cells := 0, slots := 0, locals := 25 } : Room) (va_Pc [.ref q_t] (preG D cI cJ [(q_t, .inr (10, [.ref q_t_page, .int v_t_pageMany, .ref q_t_readKinds, .ref q_t_readLeaflets, .int v_t_readMany, .int v_t_told, .int v_t_many, .int v_t_lostByHands, .int v_t_lostByMould, .ref q_t_rows, .ref q_t_debts, .int v_t_ringMany, .ref q_t_ring, .ref q_t_line, .ref q_t_groups, .ref q_t_likely, .ref q_t_likelyThen, .int v_t_seedNow, .ref q_t_saved, .int v_t_keptMany, .int v_t_keptByHands, .int v_t_keptByMould, .ref q_t_keptRows, .ref q_t_keptDebts, .long v_t_hash])), (q_t_rows, .inl (cI, 80, .inl v_t_rows))])) (QG D [(q_t, .inr (10, [.ref q_t_page, .int v_t_pageMany, .ref q_t_readKinds, .ref q_t_readLeaflets, .int v_t_readMany, .int v_t_told, .int v_t_many, .int v_t_lostByHands, .int v_t_lostByMould, .ref q_t_rows, .ref q_t_debts, .int v_t_ringMany, .ref q_t_ring, .ref q_t_line, .ref q_t_groups, .ref q_t_likely, .ref q_t_likelyThen, .int v_t_seedNow, .ref q_t_saved, .int v_t_keptMany, .int v_t_keptByHands, .int v_t_keptByMould, .ref q_t_keptRows, .ref q_t_keptDebts, .long v_t_hash])), (q_t_rows, .inl (cI, 80, .inl v_t_rows))] [(q_t, .inr (10, [.ref q_t_page, .int v_t_pageMany, .ref q_t_readKinds, .ref q_t_readLeaflets, .int v_t_readMany, .int v_t_told, .int z.2.1, .int v_t_lostByHands, .int v_t_lostByMould, .ref q_t_rows, .ref q_t_debts, .int v_t_ringMany, .ref q_t_ring, .ref q_t_line, .ref q_t_groups, .ref q_t_likely, .ref q_t_likelyThen, .int v_t_seedNow, .ref q_t_saved, .int v_t_keptMany, .int v_t_keptByHands, .int v_t_keptByMould, .ref q_t_keptRows, .ref q_t_keptDebts, .long v_t_hash])), (q_t_rows, .inl (cI, 80, .inl z.2.2))] (some (.int z.1))) 0 0 (fr [(q_t, .inr (10, [.ref q_t_page, .int v_t_pageMany, .ref q_t_readKinds, .ref q_t_readLeaflets, .int v_t_readMany, .int v_t_told, .int v_t_many, .int v_t_lostByHands, .int v_t_lostByMould, .ref q_t_rows, .ref q_t_debts, .int v_t_ringMany, .ref q_t_ring, .ref q_t_line, .ref q_t_groups, .ref q_t_likely, .ref q_t_likelyThen, .int v_t_seedNow, .ref q_t_saved, .int v_t_keptMany, .int v_t_keptByHands, .int v_t_keptByMould, .ref q_t_keptRows, .ref q_t_keptDebts, .long v_t_hash])), (q_t_rows, .inl (cI, 80, .inl v_t_rows))]) := by
  refine Met.ofW (cc := cX11_june) (maxL := 5) (ret := (some .int)) (by decide) rfl ?_
  intro p e s m args below meth c s₁ B hml hv
  obtain ⟨hargs, hP, hK, hN, hD0⟩ := hv
  have hx := B.exec
  have hb := B.bytes
  have hr := B.returns
  have hts := atoms_spec (ws := wsX11_june) B.pre
  have hown : s.vm.findClass RX11 = some m.cls := findClass_of_methodNamed B.named
  have hlocks := B.notSynchronized
  have iX11 : ∀ w ∈ wsX110, w ∈ wsX11_june := by decide +kernel
  have k19 := hts (.fieldLink RX11 19 "PressedFernsModel" "rows" "[I") (by decide +kernel)
  have k88 := hts (.fieldLink RX11 88 "PressedFernsModel" "many" "I") (by decide +kernel)
  have hD := fr_D hD0
  have hS : va_S (fr [(q_t, .inr (10, [.ref q_t_page, .int v_t_pageMany, .ref q_t_readKinds, .ref q_t_readLeaflets, .int v_t_readMany, .int v_t_told, .int v_t_many, .int v_t_lostByHands, .int v_t_lostByMould, .ref q_t_rows, .ref q_t_debts, .int v_t_ringMany, .ref q_t_ring, .ref q_t_line, .ref q_t_groups, .ref q_t_likely, .ref q_t_likelyThen, .int v_t_seedNow, .ref q_t_saved, .int v_t_keptMany, .int v_t_keptByHands, .int v_t_keptByMould, .ref q_t_keptRows, .ref q_t_keptDebts, .long v_t_hash])), (q_t_rows, .inl (cI, 80, .inl v_t_rows))]) s.heap s.heap [] := va_S.rf
  have hl := lv_entry ([.ref q_t]) (n := 5) (Nat.le_of_ble_eq_true rfl)
  refine W.eq (g2 := F0 m 0 ((lg_sl ([.ref q_t]) ++ List.replicate (5 - (lg_sl ([.ref q_t])).length) Slot.unset).toArray) []) (by rw [hargs, lg_entry_eq]) ?_
  generalize (lg_sl ([.ref q_t]) ++ List.replicate (5 - (lg_sl ([.ref q_t])).length) Slot.unset).toArray = ls at hl ⊢
  have hl : lv_has ls 5 [(0, .ref q_t)] := hl
  show W p l e ({ frames := 1, cells := 0, slots := 0, locals := 25 } : Room) s m args below meth c s.heap [] 0 0 (MQ below (QG D [(q_t, .inr (10, [.ref q_t_page, .int v_t_pageMany, .ref q_t_readKinds, .ref q_t_readLeaflets, .int v_t_readMany, .int v_t_told, .int v_t_many, .int v_t_lostByHands, .int v_t_lostByMould, .ref q_t_rows, .ref q_t_debts, .int v_t_ringMany, .ref q_t_ring, .ref q_t_line, .ref q_t_groups, .ref q_t_likely, .ref q_t_likelyThen, .int v_t_seedNow, .ref q_t_saved, .int v_t_keptMany, .int v_t_keptByHands, .int v_t_keptByMould, .ref q_t_keptRows, .ref q_t_keptDebts, .long v_t_hash])), (q_t_rows, .inl (cI, 80, .inl v_t_rows))] [(q_t, .inr (10, [.ref q_t_page, .int v_t_pageMany, .ref q_t_readKinds, .ref q_t_readLeaflets, .int v_t_readMany, .int v_t_told, .int z.2.1, .int v_t_lostByHands, .int v_t_lostByMould, .ref q_t_rows, .ref q_t_debts, .int v_t_ringMany, .ref q_t_ring, .ref q_t_line, .ref q_t_groups, .ref q_t_likely, .ref q_t_likelyThen, .int v_t_seedNow, .ref q_t_saved, .int v_t_keptMany, .int v_t_keptByHands, .int v_t_keptByMould, .ref q_t_keptRows, .ref q_t_keptDebts, .long v_t_hash])), (q_t_rows, .inl (cI, 80, .inl z.2.2))] (some (.int z.1))) args s 0 0 (fr [(q_t, .inr (10, [.ref q_t_page, .int v_t_pageMany, .ref q_t_readKinds, .ref q_t_readLeaflets, .int v_t_readMany, .int v_t_told, .int v_t_many, .int v_t_lostByHands, .int v_t_lostByMould, .ref q_t_rows, .ref q_t_debts, .int v_t_ringMany, .ref q_t_ring, .ref q_t_line, .ref q_t_groups, .ref q_t_likely, .ref q_t_likelyThen, .int v_t_seedNow, .ref q_t_saved, .int v_t_keptMany, .int v_t_keptByHands, .int v_t_keptByMould, .ref q_t_keptRows, .ref q_t_keptDebts, .long v_t_hash])), (q_t_rows, .inl (cI, 80, .inl v_t_rows))])) (F0 m 0 ls [])
  generalize hQ0 : (MQ below (QG D [(q_t, .inr (10, [.ref q_t_page, .int v_t_pageMany, .ref q_t_readKinds, .ref q_t_readLeaflets, .int v_t_readMany, .int v_t_told, .int v_t_many, .int v_t_lostByHands, .int v_t_lostByMould, .ref q_t_rows, .ref q_t_debts, .int v_t_ringMany, .ref q_t_ring, .ref q_t_line, .ref q_t_groups, .ref q_t_likely, .ref q_t_likelyThen, .int v_t_seedNow, .ref q_t_saved, .int v_t_keptMany, .int v_t_keptByHands, .int v_t_keptByMould, .ref q_t_keptRows, .ref q_t_keptDebts, .long v_t_hash])), (q_t_rows, .inl (cI, 80, .inl v_t_rows))] [(q_t, .inr (10, [.ref q_t_page, .int v_t_pageMany, .ref q_t_readKinds, .ref q_t_readLeaflets, .int v_t_readMany, .int v_t_told, .int z.2.1, .int v_t_lostByHands, .int v_t_lostByMould, .ref q_t_rows, .ref q_t_debts, .int v_t_ringMany, .ref q_t_ring, .ref q_t_line, .ref q_t_groups, .ref q_t_likely, .ref q_t_likelyThen, .int v_t_seedNow, .ref q_t_saved, .int v_t_keptMany, .int v_t_keptByHands, .int v_t_keptByMould, .ref q_t_keptRows, .ref q_t_keptDebts, .long v_t_hash])), (q_t_rows, .inl (cI, 80, .inl z.2.2))] (some (.int z.1))) args s 0 0 (fr [(q_t, .inr (10, [.ref q_t_page, .int v_t_pageMany, .ref q_t_readKinds, .ref q_t_readLeaflets, .int v_t_readMany, .int v_t_told, .int v_t_many, .int v_t_lostByHands, .int v_t_lostByMould, .ref q_t_rows, .ref q_t_debts, .int v_t_ringMany, .ref q_t_ring, .ref q_t_line, .ref q_t_groups, .ref q_t_likely, .ref q_t_likelyThen, .int v_t_seedNow, .ref q_t_saved, .int v_t_keptMany, .int v_t_keptByHands, .int v_t_keptByMould, .ref q_t_keptRows, .ref q_t_keptDebts, .long v_t_hash])), (q_t_rows, .inl (cI, 80, .inl v_t_rows))])) = Q0
  generalize hA0 : fr [(q_t, .inr (10, [.ref q_t_page, .int v_t_pageMany, .ref q_t_readKinds, .ref q_t_readLeaflets, .int v_t_readMany, .int v_t_told, .int v_t_many, .int v_t_lostByHands, .int v_t_lostByMould, .ref q_t_rows, .ref q_t_debts, .int v_t_ringMany, .ref q_t_ring, .ref q_t_line, .ref q_t_groups, .ref q_t_likely, .ref q_t_likelyThen, .int v_t_seedNow, .ref q_t_saved, .int v_t_keptMany, .int v_t_keptByHands, .int v_t_keptByMould, .ref q_t_keptRows, .ref q_t_keptDebts, .long v_t_hash])), (q_t_rows, .inl (cI, 80, .inl v_t_rows))] = A0 at hD hS
  unfold fX11_june at h
  refine lv_aload_n hx hb dX11_june_0 rfl (lv_at hl 0 rfl) ?_
  refine va_get (own := RX11) (ci := 10) (v := .int v_t_many) (C := RX11) (T := TX11) (N := 25) hx hb hts iX11 hown hK hP 0 rfl rfl 6 (by decide) k88 (fun _ h9 => h9) rfl dX11_june_1 ?_
  refine lv_istore_n (lv' := [(1, .int v_t_many), (0, .ref q_t)]) hx hb dX11_june_4 rfl hl (by decide) rfl (fun ls hl => ?_)
  refine lv_iconst (v := 0) hx hb dX11_june_5 (by decide) ?_
  refine lv_istore_n (lv' := [(2, .int 0), (1, .int v_t_many), (0, .ref q_t)]) hx hb dX11_june_6 rfl hl (by decide) rfl (fun ls hl => ?_)
  obtain ⟨e2, he_e2, hc_e2⟩ := bd_of h
  have X102_4 : ∀ (a3 : Int32 × (Nat → Int32)) (H : Heap) (locs : List Loc) (ls : Array Slot), fX11_june_X7_102 v_t_many a3 = some z → va_P D vwCl [(q_t, .inr (10, [.ref q_t_page, .int v_t_pageMany, .ref q_t_readKinds, .ref q_t_readLeaflets, .int v_t_readMany, .int v_t_told, .int a3.1, .int v_t_lostByHands, .int v_t_lostByMould, .ref q_t_rows, .ref q_t_debts, .int v_t_ringMany, .ref q_t_ring, .ref q_t_line, .ref q_t_groups, .ref q_t_likely, .ref q_t_likelyThen, .int v_t_seedNow, .ref q_t_saved, .int v_t_keptMany, .int v_t_keptByHands, .int v_t_keptByMould, .ref q_t_keptRows, .ref q_t_keptDebts, .long v_t_hash])), (q_t_rows, .inl (cI, 80, .inl a3.2))] H → va_D A0 [(q_t, .inr (10, [.ref q_t_page, .int v_t_pageMany, .ref q_t_readKinds, .ref q_t_readLeaflets, .int v_t_readMany, .int v_t_told, .int a3.1, .int v_t_lostByHands, .int v_t_lostByMould, .ref q_t_rows, .ref q_t_debts, .int v_t_ringMany, .ref q_t_ring, .ref q_t_line, .ref q_t_groups, .ref q_t_likely, .ref q_t_likelyThen, .int v_t_seedNow, .ref q_t_saved, .int v_t_keptMany, .int v_t_keptByHands, .int v_t_keptByMould, .ref q_t_keptRows, .ref q_t_keptDebts, .long v_t_hash])), (q_t_rows, .inl (cI, 80, .inl a3.2))] → va_S A0 s.heap H locs → lv_has ls 5 [(0, .ref q_t), (1, .int v_t_many)] → W p l e ({ frames := 1, cells := 0, slots := 0, locals := 25 } : Room) s m args below meth c H locs 0 0 Q0 (F0 m 102 ls []) := by
    intro a3 H locs ls h hP hD hS hl
    unfold fX11_june_X7_102 at h
    refine lv_aload_n hx hb dX11_june_102 rfl (lv_at hl 0 rfl) ?_
    refine va_get (own := RX11) (ci := 10) (v := .int a3.1) (C := RX11) (T := TX11) (N := 25) hx hb hts iX11 hown hK hP 0 rfl rfl 6 (by decide) k88 (fun _ h9 => h9) rfl dX11_june_103 ?_
    refine lv_iload_n hx hb dX11_june_106 rfl (lv_at hl 1 rfl) ?_
    refine lv_isub hx hb dX11_june_107 ?_
    obtain rfl := Option.some.inj h
    exact rt_i hA0 hQ0 hx hb hr hlocks hP hS dX11_june_108
  have L7_5 : ∀ (n : Nat) (z1 : Int32 × Int32 × (Nat → Int32)) (H : Heap) (locs : List Loc) (ls : Array Slot), iter (fX11_june_L7 v_t_pageMany v_t_readMany v_t_told v_t_many v_t_lostByHands v_t_lostByMould v_t_ringMany v_t_seedNow v_t_keptMany v_t_keptByHands v_t_keptByMould v_t_hash) n z1 = some e2 → va_P D vwCl [(q_t, .inr (10, [.ref q_t_page, .int v_t_pageMany, .ref q_t_readKinds, .ref q_t_readLeaflets, .int v_t_readMany, .int v_t_told, .int z1.2.1, .int v_t_lostByHands, .int v_t_lostByMould, .ref q_t_rows, .ref q_t_debts, .int v_t_ringMany, .ref q_t_ring, .ref q_t_line, .ref q_t_groups, .ref q_t_likely, .ref q_t_likelyThen, .int v_t_seedNow, .ref q_t_saved, .int v_t_keptMany, .int v_t_keptByHands, .int v_t_keptByMould, .ref q_t_keptRows, .ref q_t_keptDebts, .long v_t_hash])), (q_t_rows, .inl (cI, 80, .inl z1.2.2))] H → va_D A0 [(q_t, .inr (10, [.ref q_t_page, .int v_t_pageMany, .ref q_t_readKinds, .ref q_t_readLeaflets, .int v_t_readMany, .int v_t_told, .int z1.2.1, .int v_t_lostByHands, .int v_t_lostByMould, .ref q_t_rows, .ref q_t_debts, .int v_t_ringMany, .ref q_t_ring, .ref q_t_line, .ref q_t_groups, .ref q_t_likely, .ref q_t_likelyThen, .int v_t_seedNow, .ref q_t_saved, .int v_t_keptMany, .int v_t_keptByHands, .int v_t_keptByMould, .ref q_t_keptRows, .ref q_t_keptDebts, .long v_t_hash])), (q_t_rows, .inl (cI, 80, .inl z1.2.2))] → va_S A0 s.heap H locs → lv_has ls 5 [(0, .ref q_t), (1, .int v_t_many), (2, .int z1.1)] → W p l e ({ frames := 1, cells := 0, slots := 0, locals := 25 } : Room) s m args below meth c H locs 0 0 Q0 (F0 m 7 ls []) := by
    intro n
    induction n with
    | zero => exact fun _ _ _ _ h => (iter_z h).elim
    | succ n ih =>
      intro z1 H locs ls h hP hD hS hl
      obtain ⟨r_e2, h, hn_e2⟩ := iter_s h
      unfold fX11_june_L7 at h
      refine lv_iload_n hx hb dX11_june_7 rfl (lv_at hl 2 rfl) ?_
      refine lv_bipush (v := 6) hx hb dX11_june_8 (by decide) ?_
      refine lv_icmp_ge (tgt := 102) hx hb dX11_june_10 (by decide) (fun c6 => ?_) (fun c6 => ?_)
      · skip
        have h := (if_pos c6).symm.trans h
        obtain rfl := Option.some.inj h
        obtain rfl := Option.some.inj hn_e2
        exact X102_4 (z1.2.1, z1.2.2) _ _ _ hc_e2 hP hD hS (lv_sub hl [0, 1] rfl)
      · skip
        have h := (if_neg c6).symm.trans h
        refine lv_iconst (v := 0) hx hb dX11_june_13 (by decide) ?_
        refine lv_istore_n (lv' := [(3, .int 0), (0, .ref q_t), (1, .int v_t_many), (2, .int z1.1)]) hx hb dX11_june_14 rfl hl (by decide) rfl (fun ls hl => ?_)
        refine lv_iconst (v := 0) hx hb dX11_june_15 (by decide) ?_
        refine lv_istore (lv' := [(4, .int 0), (3, .int 0), (0, .ref q_t), (1, .int v_t_many), (2, .int z1.1)]) hx hb dX11_june_16 hl (by decide) rfl (fun ls hl => ?_)
        obtain ⟨e8, he_e8, hc_e8⟩ := bd_of h
        have X73_10 : ∀ (a9 : Int32) (H : Heap) (locs : List Loc) (ls : Array Slot), fX11_june_X18_73 v_t_pageMany v_t_readMany v_t_told v_t_lostByHands v_t_lostByMould v_t_ringMany v_t_seedNow v_t_keptMany v_t_keptByHands v_t_keptByMould v_t_hash z1 a9 = some r_e2 → va_P D vwCl [(q_t, .inr (10, [.ref q_t_page, .int v_t_pageMany, .ref q_t_readKinds, .ref q_t_readLeaflets, .int v_t_readMany, .int v_t_told, .int z1.2.1, .int v_t_lostByHands, .int v_t_lostByMould, .ref q_t_rows, .ref q_t_debts, .int v_t_ringMany, .ref q_t_ring, .ref q_t_line, .ref q_t_groups, .ref q_t_likely, .ref q_t_likelyThen, .int v_t_seedNow, .ref q_t_saved, .int v_t_keptMany, .int v_t_keptByHands, .int v_t_keptByMould, .ref q_t_keptRows, .ref q_t_keptDebts, .long v_t_hash])), (q_t_rows, .inl (cI, 80, .inl z1.2.2))] H → va_D A0 [(q_t, .inr (10, [.ref q_t_page, .int v_t_pageMany, .ref q_t_readKinds, .ref q_t_readLeaflets, .int v_t_readMany, .int v_t_told, .int z1.2.1, .int v_t_lostByHands, .int v_t_lostByMould, .ref q_t_rows, .ref q_t_debts, .int v_t_ringMany, .ref q_t_ring, .ref q_t_line, .ref q_t_groups, .ref q_t_likely, .ref q_t_likelyThen, .int v_t_seedNow, .ref q_t_saved, .int v_t_keptMany, .int v_t_keptByHands, .int v_t_keptByMould, .ref q_t_keptRows, .ref q_t_keptDebts, .long v_t_hash])), (q_t_rows, .inl (cI, 80, .inl z1.2.2))] → va_S A0 s.heap H locs → lv_has ls 5 [(0, .ref q_t), (1, .int v_t_many), (2, .int z1.1), (3, .int a9)] → W p l e ({ frames := 1, cells := 0, slots := 0, locals := 25 } : Room) s m args below meth c H locs 0 0 Q0 (F0 m 73 ls []) := by
          intro a9 H locs ls h hP hD hS hl
          unfold fX11_june_X18_73 at h
          refine lv_iload_n hx hb dX11_june_73 rfl (lv_at hl 3 rfl) ?_
          have J96_12 : ∀ (a11 : Int32 × (Nat → Int32)) (H : Heap) (locs : List Loc) (ls : Array Slot), fX11_june_J96 z1 a11 = some r_e2 → va_P D vwCl [(q_t, .inr (10, [.ref q_t_page, .int v_t_pageMany, .ref q_t_readKinds, .ref q_t_readLeaflets, .int v_t_readMany, .int v_t_told, .int a11.1, .int v_t_lostByHands, .int v_t_lostByMould, .ref q_t_rows, .ref q_t_debts, .int v_t_ringMany, .ref q_t_ring, .ref q_t_line, .ref q_t_groups, .ref q_t_likely, .ref q_t_likelyThen, .int v_t_seedNow, .ref q_t_saved, .int v_t_keptMany, .int v_t_keptByHands, .int v_t_keptByMould, .ref q_t_keptRows, .ref q_t_keptDebts, .long v_t_hash])), (q_t_rows, .inl (cI, 80, .inl a11.2))] H → va_D A0 [(q_t, .inr (10, [.ref q_t_page, .int v_t_pageMany, .ref q_t_readKinds, .ref q_t_readLeaflets, .int v_t_readMany, .int v_t_told, .int a11.1, .int v_t_lostByHands, .int v_t_lostByMould, .ref q_t_rows, .ref q_t_debts, .int v_t_ringMany, .ref q_t_ring, .ref q_t_line, .ref q_t_groups, .ref q_t_likely, .ref q_t_likelyThen, .int v_t_seedNow, .ref q_t_saved, .int v_t_keptMany, .int v_t_keptByHands, .int v_t_keptByMould, .ref q_t_keptRows, .ref q_t_keptDebts, .long v_t_hash])), (q_t_rows, .inl (cI, 80, .inl a11.2))] → va_S A0 s.heap H locs → lv_has ls 5 [(0, .ref q_t), (1, .int v_t_many), (2, .int z1.1)] → W p l e ({ frames := 1, cells := 0, slots := 0, locals := 25 } : Room) s m args below meth c H locs 0 0 Q0 (F0 m 96 ls []) := by
            intro a11 H locs ls h hP hD hS hl
            unfold fX11_june_J96 at h
            refine lv_iinc (v := (z1.1 + 1)) (lv' := [(2, .int (z1.1 + 1)), (0, .ref q_t), (1, .int v_t_many)]) hx hb dX11_june_96 hl (k := 2) rfl rfl (by decide) rfl (fun ls hl => ?_)
            refine lv_goto (tgt := 7) hx hb dX11_june_99 (by decide) ?_
            obtain rfl := Option.some.inj h
            exact ih ((z1.1 + 1), a11.1, a11.2) _ _ _ hn_e2 hP hD hS (lv_sub hl [1, 2, 0] rfl)
          refine lv_if_eq (tgt := 96) hx hb dX11_june_74 (by decide) (fun c13 => ?_) (fun c13 => ?_)
          · skip
            have h := (if_pos c13).symm.trans h
            exact J96_12 (z1.2.1, z1.2.2) _ _ _ h hP hD hS (lv_sub hl [0, 1, 2] rfl)
          · skip
            have h := (if_neg c13).symm.trans h
            refine lv_aload_n hx hb dX11_june_77 rfl (lv_at hl 0 rfl) ?_
            refine va_get (own := RX11) (ci := 10) (v := .int z1.2.1) (C := RX11) (T := TX11) (N := 25) hx hb hts iX11 hown hK hP 0 rfl rfl 6 (by decide) k88 (fun _ h9 => h9) rfl dX11_june_78 ?_
            refine lv_bipush (v := 10) hx hb dX11_june_81 (by decide) ?_
            refine lv_icmp_ge (tgt := 96) hx hb dX11_june_83 (by decide) (fun c14 => ?_) (fun c14 => ?_)
            · skip
              have h := (if_pos c14).symm.trans h
              exact J96_12 (z1.2.1, z1.2.2) _ _ _ h hP hD hS (lv_sub hl [0, 1, 2] rfl)
            · skip
              have h := (if_neg c14).symm.trans h
              refine lv_aload_n hx hb dX11_june_86 rfl (lv_at hl 0 rfl) ?_
              refine lv_iconst (v := 0) hx hb dX11_june_87 (by decide) ?_
              refine lv_bipush (v := 9) hx hb dX11_june_88 (by decide) ?_
              refine lv_iload_n hx hb dX11_june_90 rfl (lv_at hl 2 rfl) ?_
              obtain ⟨u15, g16, h⟩ := bd_of h
              refine cl_V [(q_t, .inr (10, [.ref q_t_page, .int v_t_pageMany, .ref q_t_readKinds, .ref q_t_readLeaflets, .int v_t_readMany, .int v_t_told, .int u15.2.1, .int v_t_lostByHands, .int v_t_lostByMould, .ref q_t_rows, .ref q_t_debts, .int v_t_ringMany, .ref q_t_ring, .ref q_t_line, .ref q_t_groups, .ref q_t_likely, .ref q_t_likelyThen, .int v_t_seedNow, .ref q_t_saved, .int v_t_keptMany, .int v_t_keptByHands, .int v_t_keptByMould, .ref q_t_keptRows, .ref q_t_keptDebts, .long v_t_hash])), (q_t_rows, .inl (cI, 80, .inl u15.2.2))] (As := [.int 0, .int 9, .int z1.1]) (rest := []) (rv := (some (.int u15.1))) (c_X11_begin l D cI cJ q_t q_t_page q_t_readKinds q_t_readLeaflets q_t_rows q_t_debts q_t_ring q_t_line q_t_groups q_t_likely q_t_likelyThen q_t_saved q_t_keptRows q_t_keptDebts v_t_pageMany v_t_readMany v_t_told z1.2.1 v_t_lostByHands v_t_lostByMould v_t_ringMany v_t_seedNow v_t_keptMany v_t_keptByHands v_t_keptByMould v_t_hash z1.2.2 0 9 z1.1 u15 g16) ⟨hx, hb, hml, hown, hts⟩ (cwV 3 hts gX11_june_X11_begin rfl rfl rfl (by decide +kernel) ⟨(Nat.le_of_ble_eq_true rfl), (Nat.le_of_ble_eq_true rfl)⟩) hK hN hP hD hS [0, 1] rfl (by decide) rfl rfl rfl (q0 := 0) (ci := 10) rfl rfl rfl rfl hl.1 rfl (Nat.le_of_ble_eq_true rfl) dX11_june_91 ⟨Nat.zero_le _, Nat.zero_le _⟩ (fun H locs hP hD hS => ?_)
              show W p l e ({ frames := 1, cells := 0, slots := 0, locals := 25 } : Room) s m args below meth c H locs 0 0 Q0 (F0 m 94 ls [.int u15.1])
              refine lv_istore (lv' := [(4, .int u15.1), (0, .ref q_t), (1, .int v_t_many), (2, .int z1.1), (3, .int a9)]) hx hb dX11_june_94 hl (by decide) rfl (fun ls hl => ?_)
              exact J96_12 (u15.2.1, u15.2.2) _ _ _ h hP hD hS (lv_sub hl [1, 2, 3] rfl)
        have L18_17 : ∀ (n : Nat) (z7 : Int32 × Int32) (H : Heap) (locs : List Loc) (ls : Array Slot), iter (fX11_june_L18 v_t_many z1) n z7 = some e8 → va_P D vwCl [(q_t, .inr (10, [.ref q_t_page, .int v_t_pageMany, .ref q_t_readKinds, .ref q_t_readLeaflets, .int v_t_readMany, .int v_t_told, .int z1.2.1, .int v_t_lostByHands, .int v_t_lostByMould, .ref q_t_rows, .ref q_t_debts, .int v_t_ringMany, .ref q_t_ring, .ref q_t_line, .ref q_t_groups, .ref q_t_likely, .ref q_t_likelyThen, .int v_t_seedNow, .ref q_t_saved, .int v_t_keptMany, .int v_t_keptByHands, .int v_t_keptByMould, .ref q_t_keptRows, .ref q_t_keptDebts, .long v_t_hash])), (q_t_rows, .inl (cI, 80, .inl z1.2.2))] H → va_D A0 [(q_t, .inr (10, [.ref q_t_page, .int v_t_pageMany, .ref q_t_readKinds, .ref q_t_readLeaflets, .int v_t_readMany, .int v_t_told, .int z1.2.1, .int v_t_lostByHands, .int v_t_lostByMould, .ref q_t_rows, .ref q_t_debts, .int v_t_ringMany, .ref q_t_ring, .ref q_t_line, .ref q_t_groups, .ref q_t_likely, .ref q_t_likelyThen, .int v_t_seedNow, .ref q_t_saved, .int v_t_keptMany, .int v_t_keptByHands, .int v_t_keptByMould, .ref q_t_keptRows, .ref q_t_keptDebts, .long v_t_hash])), (q_t_rows, .inl (cI, 80, .inl z1.2.2))] → va_S A0 s.heap H locs → lv_has ls 5 [(0, .ref q_t), (1, .int v_t_many), (2, .int z1.1), (3, .int z7.1), (4, .int z7.2)] → W p l e ({ frames := 1, cells := 0, slots := 0, locals := 25 } : Room) s m args below meth c H locs 0 0 Q0 (F0 m 18 ls []) := by
          intro n
          induction n with
          | zero => exact fun _ _ _ _ h => (iter_z h).elim
          | succ n ih =>
            intro z7 H locs ls h hP hD hS hl
            obtain ⟨r_e8, h, hn_e8⟩ := iter_s h
            unfold fX11_june_L18 at h
            refine lv_iload hx hb dX11_june_18 (lv_at hl 4 rfl) ?_
            refine lv_iload_n hx hb dX11_june_20 rfl (lv_at hl 1 rfl) ?_
            refine lv_icmp_ge (tgt := 73) hx hb dX11_june_21 (by decide) (fun c18 => ?_) (fun c18 => ?_)
            · skip
              have h := (if_pos c18).symm.trans h
              obtain rfl := Option.some.inj h
              obtain rfl := Option.some.inj hn_e8
              exact X73_10 z7.1 _ _ _ hc_e8 hP hD hS (lv_sub hl [0, 1, 2, 3] rfl)
            · skip
              have h := (if_neg c18).symm.trans h
              refine lv_iload_n hx hb dX11_june_24 rfl (lv_at hl 3 rfl) ?_
              have J61_20 : ∀ (a19 : Unit) (H : Heap) (locs : List Loc) (ls : Array Slot), fX11_june_J61 z7 a19 = some r_e8 → va_P D vwCl [(q_t, .inr (10, [.ref q_t_page, .int v_t_pageMany, .ref q_t_readKinds, .ref q_t_readLeaflets, .int v_t_readMany, .int v_t_told, .int z1.2.1, .int v_t_lostByHands, .int v_t_lostByMould, .ref q_t_rows, .ref q_t_debts, .int v_t_ringMany, .ref q_t_ring, .ref q_t_line, .ref q_t_groups, .ref q_t_likely, .ref q_t_likelyThen, .int v_t_seedNow, .ref q_t_saved, .int v_t_keptMany, .int v_t_keptByHands, .int v_t_keptByMould, .ref q_t_keptRows, .ref q_t_keptDebts, .long v_t_hash])), (q_t_rows, .inl (cI, 80, .inl z1.2.2))] H → va_D A0 [(q_t, .inr (10, [.ref q_t_page, .int v_t_pageMany, .ref q_t_readKinds, .ref q_t_readLeaflets, .int v_t_readMany, .int v_t_told, .int z1.2.1, .int v_t_lostByHands, .int v_t_lostByMould, .ref q_t_rows, .ref q_t_debts, .int v_t_ringMany, .ref q_t_ring, .ref q_t_line, .ref q_t_groups, .ref q_t_likely, .ref q_t_likelyThen, .int v_t_seedNow, .ref q_t_saved, .int v_t_keptMany, .int v_t_keptByHands, .int v_t_keptByMould, .ref q_t_keptRows, .ref q_t_keptDebts, .long v_t_hash])), (q_t_rows, .inl (cI, 80, .inl z1.2.2))] → va_S A0 s.heap H locs → lv_has ls 5 [(0, .ref q_t), (1, .int v_t_many), (2, .int z1.1), (4, .int z7.2)] → W p l e ({ frames := 1, cells := 0, slots := 0, locals := 25 } : Room) s m args below meth c H locs 0 0 Q0 (F0 m 61 ls []) := by
                intro a19 H locs ls h hP hD hS hl
                unfold fX11_june_J61 at h
                refine lv_iconst (v := 1) hx hb dX11_june_61 (by decide) ?_
                refine lv_goto (tgt := 66) hx hb dX11_june_62 (by decide) ?_
                refine lv_istore_n (lv' := [(3, .int 1), (0, .ref q_t), (1, .int v_t_many), (2, .int z1.1), (4, .int z7.2)]) hx hb dX11_june_66 rfl hl (by decide) rfl (fun ls hl => ?_)
                refine lv_iinc (v := (z7.2 + 1)) (lv' := [(4, .int (z7.2 + 1)), (3, .int 1), (0, .ref q_t), (1, .int v_t_many), (2, .int z1.1)]) hx hb dX11_june_67 hl (k := 4) rfl rfl (by decide) rfl (fun ls hl => ?_)
                refine lv_goto (tgt := 18) hx hb dX11_june_70 (by decide) ?_
                obtain rfl := Option.some.inj h
                exact ih (1, (z7.2 + 1)) _ _ _ hn_e8 hP hD hS (lv_sub hl [2, 3, 4, 1, 0] rfl)
              have J66_22 : ∀ (a21 : Int32) (H : Heap) (locs : List Loc) (ls : Array Slot), fX11_june_J66 z7 a21 = some r_e8 → va_P D vwCl [(q_t, .inr (10, [.ref q_t_page, .int v_t_pageMany, .ref q_t_readKinds, .ref q_t_readLeaflets, .int v_t_readMany, .int v_t_told, .int z1.2.1, .int v_t_lostByHands, .int v_t_lostByMould, .ref q_t_rows, .ref q_t_debts, .int v_t_ringMany, .ref q_t_ring, .ref q_t_line, .ref q_t_groups, .ref q_t_likely, .ref q_t_likelyThen, .int v_t_seedNow, .ref q_t_saved, .int v_t_keptMany, .int v_t_keptByHands, .int v_t_keptByMould, .ref q_t_keptRows, .ref q_t_keptDebts, .long v_t_hash])), (q_t_rows, .inl (cI, 80, .inl z1.2.2))] H → va_D A0 [(q_t, .inr (10, [.ref q_t_page, .int v_t_pageMany, .ref q_t_readKinds, .ref q_t_readLeaflets, .int v_t_readMany, .int v_t_told, .int z1.2.1, .int v_t_lostByHands, .int v_t_lostByMould, .ref q_t_rows, .ref q_t_debts, .int v_t_ringMany, .ref q_t_ring, .ref q_t_line, .ref q_t_groups, .ref q_t_likely, .ref q_t_likelyThen, .int v_t_seedNow, .ref q_t_saved, .int v_t_keptMany, .int v_t_keptByHands, .int v_t_keptByMould, .ref q_t_keptRows, .ref q_t_keptDebts, .long v_t_hash])), (q_t_rows, .inl (cI, 80, .inl z1.2.2))] → va_S A0 s.heap H locs → lv_has ls 5 [(0, .ref q_t), (1, .int v_t_many), (2, .int z1.1), (4, .int z7.2)] → W p l e ({ frames := 1, cells := 0, slots := 0, locals := 25 } : Room) s m args below meth c H locs 0 0 Q0 (F0 m 66 ls [.int a21]) := by
                intro a21 H locs ls h hP hD hS hl
                unfold fX11_june_J66 at h
                refine lv_istore_n (lv' := [(3, .int a21), (0, .ref q_t), (1, .int v_t_many), (2, .int z1.1), (4, .int z7.2)]) hx hb dX11_june_66 rfl hl (by decide) rfl (fun ls hl => ?_)
                refine lv_iinc (v := (z7.2 + 1)) (lv' := [(4, .int (z7.2 + 1)), (3, .int a21), (0, .ref q_t), (1, .int v_t_many), (2, .int z1.1)]) hx hb dX11_june_67 hl (k := 4) rfl rfl (by decide) rfl (fun ls hl => ?_)
                refine lv_goto (tgt := 18) hx hb dX11_june_70 (by decide) ?_
                obtain rfl := Option.some.inj h
                exact ih (a21, (z7.2 + 1)) _ _ _ hn_e8 hP hD hS (lv_sub hl [2, 3, 4, 1, 0] rfl)
              refine lv_if_ne (tgt := 61) hx hb dX11_june_25 (by decide) (fun c23 => ?_) (fun c23 => ?_)
              · skip
                have h := (if_neg c23).symm.trans h
                exact J61_20 () _ _ _ h hP hD hS (lv_sub hl [0, 1, 2, 4] rfl)
              · skip
                have h := (if_pos c23).symm.trans h
                refine lv_aload_n hx hb dX11_june_28 rfl (lv_at hl 0 rfl) ?_
                refine va_get (own := RX11) (ci := 10) (v := .ref q_t_rows) (C := RX11) (T := TX11) (N := 25) hx hb hts iX11 hown hK hP 0 rfl rfl 9 (by decide) k19 (fun _ h9 => h9) rfl dX11_june_29 ?_
                refine lv_bipush (v := 8) hx hb dX11_june_32 (by decide) ?_
                refine lv_iload hx hb dX11_june_34 (lv_at hl 4 rfl) ?_
                refine lv_imul hx hb dX11_june_36 ?_
                refine lv_iconst (v := 2) hx hb dX11_june_37 (by decide) ?_
                refine lv_iadd hx hb dX11_june_38 ?_
                obtain ⟨g24, h⟩ := gd_of h
                refine va_iald hx hb hK hP 1 0 rfl rfl (inb_of g24) dX11_june_39 ?_
                refine lv_iload_n hx hb dX11_june_40 rfl (lv_at hl 2 rfl) ?_
                have J65_26 : ∀ (a25 : Unit) (H : Heap) (locs : List Loc) (ls : Array Slot), fX11_june_J65 z7 a25 = some r_e8 → va_P D vwCl [(q_t, .inr (10, [.ref q_t_page, .int v_t_pageMany, .ref q_t_readKinds, .ref q_t_readLeaflets, .int v_t_readMany, .int v_t_told, .int z1.2.1, .int v_t_lostByHands, .int v_t_lostByMould, .ref q_t_rows, .ref q_t_debts, .int v_t_ringMany, .ref q_t_ring, .ref q_t_line, .ref q_t_groups, .ref q_t_likely, .ref q_t_likelyThen, .int v_t_seedNow, .ref q_t_saved, .int v_t_keptMany, .int v_t_keptByHands, .int v_t_keptByMould, .ref q_t_keptRows, .ref q_t_keptDebts, .long v_t_hash])), (q_t_rows, .inl (cI, 80, .inl z1.2.2))] H → va_D A0 [(q_t, .inr (10, [.ref q_t_page, .int v_t_pageMany, .ref q_t_readKinds, .ref q_t_readLeaflets, .int v_t_readMany, .int v_t_told, .int z1.2.1, .int v_t_lostByHands, .int v_t_lostByMould, .ref q_t_rows, .ref q_t_debts, .int v_t_ringMany, .ref q_t_ring, .ref q_t_line, .ref q_t_groups, .ref q_t_likely, .ref q_t_likelyThen, .int v_t_seedNow, .ref q_t_saved, .int v_t_keptMany, .int v_t_keptByHands, .int v_t_keptByMould, .ref q_t_keptRows, .ref q_t_keptDebts, .long v_t_hash])), (q_t_rows, .inl (cI, 80, .inl z1.2.2))] → va_S A0 s.heap H locs → lv_has ls 5 [(0, .ref q_t), (1, .int v_t_many), (2, .int z1.1), (4, .int z7.2)] → W p l e ({ frames := 1, cells := 0, slots := 0, locals := 25 } : Room) s m args below meth c H locs 0 0 Q0 (F0 m 65 ls []) := by
                  intro a25 H locs ls h hP hD hS hl
                  unfold fX11_june_J65 at h
                  refine lv_iconst (v := 0) hx hb dX11_june_65 (by decide) ?_
                  exact J66_22 0 _ _ _ h hP hD hS (lv_sub hl [0, 1, 2, 3] rfl)
                refine lv_icmp_ne (tgt := 65) hx hb dX11_june_41 (by decide) (fun c27 => ?_) (fun c27 => ?_)
                · skip
                  have h := (if_neg c27).symm.trans h
                  exact J65_26 () _ _ _ h hP hD hS (lv_sub hl [0, 1, 2, 4] rfl)
                · skip
                  have h := (if_pos c27).symm.trans h
                  refine lv_aload_n hx hb dX11_june_44 rfl (lv_at hl 0 rfl) ?_
                  refine va_get (own := RX11) (ci := 10) (v := .ref q_t_rows) (C := RX11) (T := TX11) (N := 25) hx hb hts iX11 hown hK hP 0 rfl rfl 9 (by decide) k19 (fun _ h9 => h9) rfl dX11_june_45 ?_
                  refine lv_bipush (v := 8) hx hb dX11_june_48 (by decide) ?_
                  refine lv_iload hx hb dX11_june_50 (lv_at hl 4 rfl) ?_
                  refine lv_imul hx hb dX11_june_52 ?_
                  refine lv_iconst (v := 1) hx hb dX11_june_53 (by decide) ?_
                  refine lv_iadd hx hb dX11_june_54 ?_
                  obtain ⟨g28, h⟩ := gd_of h
                  refine va_iald hx hb hK hP 1 0 rfl rfl (inb_of g28) dX11_june_55 ?_
                  refine lv_bipush (v := 9) hx hb dX11_june_56 (by decide) ?_
                  refine lv_icmp_ne (tgt := 65) hx hb dX11_june_58 (by decide) (fun c29 => ?_) (fun c29 => ?_)
                  · skip
                    have h := (if_neg c29).symm.trans h
                    exact J65_26 () _ _ _ h hP hD hS (lv_sub hl [0, 1, 2, 4] rfl)
                  · skip
                    have h := (if_pos c29).symm.trans h
                    exact J61_20 () _ _ _ h hP hD hS (lv_sub hl [0, 1, 2, 4] rfl)
        exact L18_17 FU (0, 0) _ _ _ he_e8 hP hD hS (lv_sub hl [2, 3, 4, 1, 0] rfl)
  exact L7_5 FU (0, v_t_many, v_t_rows) _ _ _ he_e2 hP hD hS (lv_sub hl [2, 1, 0] rfl)
def fX11_ones_X4_24  (a3 : Int32) : Option (Int32) :=
  some a3
def fX11_ones_L4 (x0 : Int32) (z1 : Int32 × Int32) : Option ((Int32 × Int32) ⊕ (Int32)) :=
  if 10 ≤ z1.2 then (some (Sum.inr z1.1)) else (some (Sum.inl ((z1.1 + ((x0 >>> (z1.2 &&& 31)) &&& 1)), (z1.2 + 1))))
def fX11_ones (x0 : Int32) : Option (Int32) :=
  (iter (fX11_ones_L4 x0) FU (0, 0)).bind (fX11_ones_X4_24)
set_option maxHeartbeats 4000000 in
set_option maxRecDepth 100000 in
theorem c_X11_ones (l : Launch) (D : va_G) (cI cJ : ClassId) (x0 : Int32) (z : Int32) (h : fX11_ones x0 = some z) : Met l yX11_ones wsX11_ones ({ frames := 0, cells := 0, slots := 0, locals := 0 } : Room) (va_Pc [.int x0] (preG D cI cJ [])) (QG D [] [] (some (.int z))) 0 0 (fr []) := by
  refine Met.ofW (cc := cX11_ones) (maxL := 3) (ret := (some .int)) (by decide) rfl ?_
  intro p e s m args below meth c s₁ B hml hv
  obtain ⟨hargs, hP, hK, hN, hD0⟩ := hv
  have hx := B.exec
  have hb := B.bytes
  have hr := B.returns
  have hts := atoms_spec (ws := wsX11_ones) B.pre
  have hown : s.vm.findClass RX11 = some m.cls := findClass_of_methodNamed B.named
  have hlocks := B.notSynchronized
  have hD := fr_D hD0
  have hS : va_S (fr []) s.heap s.heap [] := va_S.rf
  have hl := lv_entry ([.int x0]) (n := 3) (Nat.le_of_ble_eq_true rfl)
  refine W.eq (g2 := F0 m 0 ((lg_sl ([.int x0]) ++ List.replicate (3 - (lg_sl ([.int x0])).length) Slot.unset).toArray) []) (by rw [hargs, lg_entry_eq]) ?_
  generalize (lg_sl ([.int x0]) ++ List.replicate (3 - (lg_sl ([.int x0])).length) Slot.unset).toArray = ls at hl ⊢
  have hl : lv_has ls 3 [(0, .int x0)] := hl
  show W p l e ({ frames := 0, cells := 0, slots := 0, locals := 0 } : Room) s m args below meth c s.heap [] 0 0 (MQ below (QG D [] [] (some (.int z))) args s 0 0 (fr [])) (F0 m 0 ls [])
  generalize hQ0 : (MQ below (QG D [] [] (some (.int z))) args s 0 0 (fr [])) = Q0
  generalize hA0 : fr [] = A0 at hD hS
  unfold fX11_ones at h
  refine lv_iconst (v := 0) hx hb dX11_ones_0 (by decide) ?_
  refine lv_istore_n (lv' := [(1, .int 0), (0, .int x0)]) hx hb dX11_ones_1 rfl hl (by decide) rfl (fun ls hl => ?_)
  refine lv_iconst (v := 0) hx hb dX11_ones_2 (by decide) ?_
  refine lv_istore_n (lv' := [(2, .int 0), (1, .int 0), (0, .int x0)]) hx hb dX11_ones_3 rfl hl (by decide) rfl (fun ls hl => ?_)
  obtain ⟨e2, he_e2, hc_e2⟩ := bd_of h
  have X24_4 : ∀ (a3 : Int32) (H : Heap) (locs : List Loc) (ls : Array Slot), fX11_ones_X4_24 a3 = some z → va_P D vwCl [] H → va_D A0 [] → va_S A0 s.heap H locs → lv_has ls 3 [(1, .int a3)] → W p l e ({ frames := 0, cells := 0, slots := 0, locals := 0 } : Room) s m args below meth c H locs 0 0 Q0 (F0 m 24 ls []) := by
    intro a3 H locs ls h hP hD hS hl
    unfold fX11_ones_X4_24 at h
    refine lv_iload_n hx hb dX11_ones_24 rfl (lv_at hl 0 rfl) ?_
    obtain rfl := Option.some.inj h
    exact rt_i hA0 hQ0 hx hb hr hlocks hP hS dX11_ones_25
  have L4_5 : ∀ (n : Nat) (z1 : Int32 × Int32) (H : Heap) (locs : List Loc) (ls : Array Slot), iter (fX11_ones_L4 x0) n z1 = some e2 → va_P D vwCl [] H → va_D A0 [] → va_S A0 s.heap H locs → lv_has ls 3 [(0, .int x0), (1, .int z1.1), (2, .int z1.2)] → W p l e ({ frames := 0, cells := 0, slots := 0, locals := 0 } : Room) s m args below meth c H locs 0 0 Q0 (F0 m 4 ls []) := by
    intro n
    induction n with
    | zero => exact fun _ _ _ _ h => (iter_z h).elim
    | succ n ih =>
      intro z1 H locs ls h hP hD hS hl
      obtain ⟨r_e2, h, hn_e2⟩ := iter_s h
      unfold fX11_ones_L4 at h
      refine lv_iload_n hx hb dX11_ones_4 rfl (lv_at hl 2 rfl) ?_
      refine lv_bipush (v := 10) hx hb dX11_ones_5 (by decide) ?_
      refine lv_icmp_ge (tgt := 24) hx hb dX11_ones_7 (by decide) (fun c6 => ?_) (fun c6 => ?_)
      · skip
        have h := (if_pos c6).symm.trans h
        obtain rfl := Option.some.inj h
        obtain rfl := Option.some.inj hn_e2
        exact X24_4 z1.1 _ _ _ hc_e2 hP hD hS (lv_sub hl [1] rfl)
      · skip
        have h := (if_neg c6).symm.trans h
        refine lv_iload_n hx hb dX11_ones_10 rfl (lv_at hl 1 rfl) ?_
        refine lv_iload_n hx hb dX11_ones_11 rfl (lv_at hl 0 rfl) ?_
        refine lv_iload_n hx hb dX11_ones_12 rfl (lv_at hl 2 rfl) ?_
        refine lv_ishr hx hb dX11_ones_13 ?_
        refine lv_iconst (v := 1) hx hb dX11_ones_14 (by decide) ?_
        refine lv_iand hx hb dX11_ones_15 ?_
        refine lv_iadd hx hb dX11_ones_16 ?_
        refine lv_istore_n (lv' := [(1, .int (z1.1 + ((x0 >>> (z1.2 &&& 31)) &&& 1))), (0, .int x0), (2, .int z1.2)]) hx hb dX11_ones_17 rfl hl (by decide) rfl (fun ls hl => ?_)
        refine lv_iinc (v := (z1.2 + 1)) (lv' := [(2, .int (z1.2 + 1)), (1, .int (z1.1 + ((x0 >>> (z1.2 &&& 31)) &&& 1))), (0, .int x0)]) hx hb dX11_ones_18 hl (k := 2) rfl rfl (by decide) rfl (fun ls hl => ?_)
        refine lv_goto (tgt := 4) hx hb dX11_ones_21 (by decide) ?_
        obtain rfl := Option.some.inj h
        exact ih ((z1.1 + ((x0 >>> (z1.2 &&& 31)) &&& 1)), (z1.2 + 1)) _ _ _ hn_e2 hP hD hS (lv_sub hl [2, 1, 0] rfl)
  exact L4_5 FU (0, 0) _ _ _ he_e2 hP hD hS (lv_sub hl [2, 1, 0] rfl)
