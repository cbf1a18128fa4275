def fX0_begin_X3_39 (v_p0_size : Int32) (v_p0_lostByHands : Int32) (v_p0_lostByMould : Int32) (v_p0_kinds : Nat → Int32) (v_p0_owners : Nat → Int32) (x2 : Int32) (x3 : Int32) (a3 : (Nat → Int64)) : Option (Int64 × Int32 × Int32 × (Nat → Int64)) :=
  gd (inb x2 10) ((fX4_isAtBank v_p0_size v_p0_lostByHands v_p0_lostByMould v_p0_owners x2).bind (fun u6 => some (1, (v_p0_kinds x2.toNatClampNeg), (if u6 = 0 then x3 else 0 : Int32), a3)))
def fX0_begin_L3 (v_p0_leaflets : Nat → Int32) (x2 : Int32) (z1 : Int32 × (Nat → Int64)) : Option ((Int32 × (Nat → Int64)) ⊕ ((Nat → Int64))) :=
  if 9 < z1.1 then (some (Sum.inr z1.2)) else (gd (inb x2 10) (gd (inb z1.1 10) (some (Sum.inl ((z1.1 + 1), (vp_updL z1.2 z1.1.toNatClampNeg (if z1.1 = (v_p0_leaflets x2.toNatClampNeg) then 1 else 0 : Int64)))))))
def fX0_begin (v_t_all : Int64) (v_t_kind : Int32) (v_t_tenths : Int32) (v_t_byLeaflets : Nat → Int64) (v_p0_size : Int32) (v_p0_lostByHands : Int32) (v_p0_lostByMould : Int32) (v_p0_kinds : Nat → Int32) (v_p0_leaflets : Nat → Int32) (v_p0_owners : Nat → Int32) (x2 : Int32) (x3 : Int32) : Option (Int64 × Int32 × Int32 × (Nat → Int64)) :=
  (iter (fX0_begin_L3 v_p0_leaflets x2) FU (0, v_t_byLeaflets)).bind (fX0_begin_X3_39 v_p0_size v_p0_lostByHands v_p0_lostByMould v_p0_kinds v_p0_owners x2 x3)
set_option maxHeartbeats 4000000 in
set_option maxRecDepth 100000 in
theorem c_X0_begin (l : Launch) (D : va_G) (cI cJ : ClassId) (q_t q_t_byLeaflets q_p0 q_p0_kinds q_p0_leaflets q_p0_owners q_p0_tears q_p0_debts : Nat) (v_t_all : Int64) (v_t_kind : Int32) (v_t_tenths : Int32) (v_t_byLeaflets : Nat → Int64) (v_p0_size : Int32) (v_p0_lostByHands : Int32) (v_p0_lostByMould : Int32) (v_p0_kinds : Nat → Int32) (v_p0_leaflets : Nat → Int32) (v_p0_owners : Nat → Int32) (x2 : Int32) (x3 : Int32) (z : Int64 × Int32 × Int32 × (Nat → Int64)) (h : fX0_begin v_t_all v_t_kind v_t_tenths v_t_byLeaflets v_p0_size v_p0_lostByHands v_p0_lostByMould v_p0_kinds v_p0_leaflets v_p0_owners x2 x3 = some z) : Met l yX0_begin wsX0_begin ({ frames := 1, cells := 0, slots := 0, locals := 21 } : Room) (va_Pc [.ref q_t, .ref q_p0, .int x2, .int x3] (preG D cI cJ [(q_t, .inr (0, [.ref q_t_byLeaflets, .long v_t_all, .int v_t_kind, .int v_t_tenths])), (q_t_byLeaflets, .inl (cJ, 10, .inr (.inl v_t_byLeaflets))), (q_p0, .inr (4, [.ref q_p0_kinds, .ref q_p0_leaflets, .ref q_p0_owners, .ref q_p0_tears, .ref q_p0_debts, .int v_p0_size, .int v_p0_lostByHands, .int v_p0_lostByMould])), (q_p0_kinds, .inl (cI, 10, .inl v_p0_kinds)), (q_p0_leaflets, .inl (cI, 10, .inl v_p0_leaflets)), (q_p0_owners, .inl (cI, 10, .inl v_p0_owners))])) (QG D [(q_t, .inr (0, [.ref q_t_byLeaflets, .long v_t_all, .int v_t_kind, .int v_t_tenths])), (q_t_byLeaflets, .inl (cJ, 10, .inr (.inl v_t_byLeaflets))), (q_p0, .inr (4, [.ref q_p0_kinds, .ref q_p0_leaflets, .ref q_p0_owners, .ref q_p0_tears, .ref q_p0_debts, .int v_p0_size, .int v_p0_lostByHands, .int v_p0_lostByMould])), (q_p0_kinds, .inl (cI, 10, .inl v_p0_kinds)), (q_p0_leaflets, .inl (cI, 10, .inl v_p0_leaflets)), (q_p0_owners, .inl (cI, 10, .inl v_p0_owners))] [(q_t, .inr (0, [.ref q_t_byLeaflets, .long z.1, .int z.2.1, .int z.2.2.1])), (q_t_byLeaflets, .inl (cJ, 10, .inr (.inl z.2.2.2))), (q_p0, .inr (4, [.ref q_p0_kinds, .ref q_p0_leaflets, .ref q_p0_owners, .ref q_p0_tears, .ref q_p0_debts, .int v_p0_size, .int v_p0_lostByHands, .int v_p0_lostByMould])), (q_p0_kinds, .inl (cI, 10, .inl v_p0_kinds)), (q_p0_leaflets, .inl (cI, 10, .inl v_p0_leaflets)), (q_p0_owners, .inl (cI, 10, .inl v_p0_owners))] none) 0 0 (fr [(q_t, .inr (0, [.ref q_t_byLeaflets, .long v_t_all, .int v_t_kind, .int v_t_tenths])), (q_t_byLeaflets, .inl (cJ, 10, .inr (.inl v_t_byLeaflets))), (q_p0, .inr (4, [.ref q_p0_kinds, .ref q_p0_leaflets, .ref q_p0_owners, .ref q_p0_tears, .ref q_p0_debts, .int v_p0_size, .int v_p0_lostByHands, .int v_p0_lostByMould])), (q_p0_kinds, .inl (cI, 10, .inl v_p0_kinds)), (q_p0_leaflets, .inl (cI, 10, .inl v_p0_leaflets)), (q_p0_owners, .inl (cI, 10, .inl v_p0_owners))]) := by
  refine Met.ofW (cc := cX0_begin) (maxL := 5) (ret := none) (by decide) rfl ?_
  intro p e s m args below meth c s₁ B hml hv
  obtain ⟨hargs, hP, hK, hN, hD0⟩ := hv
  have hx := B.exec
  have hb := B.bytes
  have hr := B.returns
  have hts := atoms_spec (ws := wsX0_begin) B.pre
  have hown : s.vm.findClass RX0 = some m.cls := findClass_of_methodNamed B.named
  have hlocks := B.notSynchronized
  have iX0 : ∀ w ∈ wsX00, w ∈ wsX0_begin := by decide +kernel
  have iX4 : ∀ w ∈ wsX40, w ∈ wsX0_begin := by decide +kernel
  have k9 := hts (.fieldLink RX0 9 "PressedFerns$Chances" "byLeaflets" "[J") (by decide +kernel)
  have k15 := hts (.fieldLink RX0 15 "PressedFerns$Herbarium" "leaflets" "[I") (by decide +kernel)
  have k21 := hts (.fieldLink RX0 21 "PressedFerns$Chances" "all" "J") (by decide +kernel)
  have k25 := hts (.fieldLink RX0 25 "PressedFerns$Herbarium" "kinds" "[I") (by decide +kernel)
  have k28 := hts (.fieldLink RX0 28 "PressedFerns$Chances" "kind" "I") (by decide +kernel)
  have k36 := hts (.fieldLink RX0 36 "PressedFerns$Chances" "tenths" "I") (by decide +kernel)
  have hD := fr_D hD0
  have hS : va_S (fr [(q_t, .inr (0, [.ref q_t_byLeaflets, .long v_t_all, .int v_t_kind, .int v_t_tenths])), (q_t_byLeaflets, .inl (cJ, 10, .inr (.inl v_t_byLeaflets))), (q_p0, .inr (4, [.ref q_p0_kinds, .ref q_p0_leaflets, .ref q_p0_owners, .ref q_p0_tears, .ref q_p0_debts, .int v_p0_size, .int v_p0_lostByHands, .int v_p0_lostByMould])), (q_p0_kinds, .inl (cI, 10, .inl v_p0_kinds)), (q_p0_leaflets, .inl (cI, 10, .inl v_p0_leaflets)), (q_p0_owners, .inl (cI, 10, .inl v_p0_owners))]) s.heap s.heap [] := va_S.rf
  have hl := lv_entry ([.ref q_t, .ref q_p0, .int x2, .int x3]) (n := 5) (Nat.le_of_ble_eq_true rfl)
  refine W.eq (g2 := F0 m 0 ((lg_sl ([.ref q_t, .ref q_p0, .int x2, .int x3]) ++ List.replicate (5 - (lg_sl ([.ref q_t, .ref q_p0, .int x2, .int x3])).length) Slot.unset).toArray) []) (by rw [hargs, lg_entry_eq]) ?_
  generalize (lg_sl ([.ref q_t, .ref q_p0, .int x2, .int x3]) ++ List.replicate (5 - (lg_sl ([.ref q_t, .ref q_p0, .int x2, .int x3])).length) Slot.unset).toArray = ls at hl ⊢
  have hl : lv_has ls 5 [(0, .ref q_t), (1, .ref q_p0), (2, .int x2), (3, .int x3)] := hl
  show W p l e ({ frames := 1, cells := 0, slots := 0, locals := 21 } : Room) s m args below meth c s.heap [] 0 0 (MQ below (QG D [(q_t, .inr (0, [.ref q_t_byLeaflets, .long v_t_all, .int v_t_kind, .int v_t_tenths])), (q_t_byLeaflets, .inl (cJ, 10, .inr (.inl v_t_byLeaflets))), (q_p0, .inr (4, [.ref q_p0_kinds, .ref q_p0_leaflets, .ref q_p0_owners, .ref q_p0_tears, .ref q_p0_debts, .int v_p0_size, .int v_p0_lostByHands, .int v_p0_lostByMould])), (q_p0_kinds, .inl (cI, 10, .inl v_p0_kinds)), (q_p0_leaflets, .inl (cI, 10, .inl v_p0_leaflets)), (q_p0_owners, .inl (cI, 10, .inl v_p0_owners))] [(q_t, .inr (0, [.ref q_t_byLeaflets, .long z.1, .int z.2.1, .int z.2.2.1])), (q_t_byLeaflets, .inl (cJ, 10, .inr (.inl z.2.2.2))), (q_p0, .inr (4, [.ref q_p0_kinds, .ref q_p0_leaflets, .ref q_p0_owners, .ref q_p0_tears, .ref q_p0_debts, .int v_p0_size, .int v_p0_lostByHands, .int v_p0_lostByMould])), (q_p0_kinds, .inl (cI, 10, .inl v_p0_kinds)), (q_p0_leaflets, .inl (cI, 10, .inl v_p0_leaflets)), (q_p0_owners, .inl (cI, 10, .inl v_p0_owners))] none) args s 0 0 (fr [(q_t, .inr (0, [.ref q_t_byLeaflets, .long v_t_all, .int v_t_kind, .int v_t_tenths])), (q_t_byLeaflets, .inl (cJ, 10, .inr (.inl v_t_byLeaflets))), (q_p0, .inr (4, [.ref q_p0_kinds, .ref q_p0_leaflets, .ref q_p0_owners, .ref q_p0_tears, .ref q_p0_debts, .int v_p0_size, .int v_p0_lostByHands, .int v_p0_lostByMould])), (q_p0_kinds, .inl (cI, 10, .inl v_p0_kinds)), (q_p0_leaflets, .inl (cI, 10, .inl v_p0_leaflets)), (q_p0_owners, .inl (cI, 10, .inl v_p0_owners))])) (F0 m 0 ls [])
  generalize hQ0 : (MQ below (QG D [(q_t, .inr (0, [.ref q_t_byLeaflets, .long v_t_all, .int v_t_kind, .int v_t_tenths])), (q_t_byLeaflets, .inl (cJ, 10, .inr (.inl v_t_byLeaflets))), (q_p0, .inr (4, [.ref q_p0_kinds, .ref q_p0_leaflets, .ref q_p0_owners, .ref q_p0_tears, .ref q_p0_debts, .int v_p0_size, .int v_p0_lostByHands, .int v_p0_lostByMould])), (q_p0_kinds, .inl (cI, 10, .inl v_p0_kinds)), (q_p0_leaflets, .inl (cI, 10, .inl v_p0_leaflets)), (q_p0_owners, .inl (cI, 10, .inl v_p0_owners))] [(q_t, .inr (0, [.ref q_t_byLeaflets, .long z.1, .int z.2.1, .int z.2.2.1])), (q_t_byLeaflets, .inl (cJ, 10, .inr (.inl z.2.2.2))), (q_p0, .inr (4, [.ref q_p0_kinds, .ref q_p0_leaflets, .ref q_p0_owners, .ref q_p0_tears, .ref q_p0_debts, .int v_p0_size, .int v_p0_lostByHands, .int v_p0_lostByMould])), (q_p0_kinds, .inl (cI, 10, .inl v_p0_kinds)), (q_p0_leaflets, .inl (cI, 10, .inl v_p0_leaflets)), (q_p0_owners, .inl (cI, 10, .inl v_p0_owners))] none) args s 0 0 (fr [(q_t, .inr (0, [.ref q_t_byLeaflets, .long v_t_all, .int v_t_kind, .int v_t_tenths])), (q_t_byLeaflets, .inl (cJ, 10, .inr (.inl v_t_byLeaflets))), (q_p0, .inr (4, [.ref q_p0_kinds, .ref q_p0_leaflets, .ref q_p0_owners, .ref q_p0_tears, .ref q_p0_debts, .int v_p0_size, .int v_p0_lostByHands, .int v_p0_lostByMould])), (q_p0_kinds, .inl (cI, 10, .inl v_p0_kinds)), (q_p0_leaflets, .inl (cI, 10, .inl v_p0_leaflets)), (q_p0_owners, .inl (cI, 10, .inl v_p0_owners))])) = Q0
  generalize hA0 : fr [(q_t, .inr (0, [.ref q_t_byLeaflets, .long v_t_all, .int v_t_kind, .int v_t_tenths])), (q_t_byLeaflets, .inl (cJ, 10, .inr (.inl v_t_byLeaflets))), (q_p0, .inr (4, [.ref q_p0_kinds, .ref q_p0_leaflets, .ref q_p0_owners, .ref q_p0_tears, .ref q_p0_debts, .int v_p0_size, .int v_p0_lostByHands, .int v_p0_lostByMould])), (q_p0_kinds, .inl (cI, 10, .inl v_p0_kinds)), (q_p0_leaflets, .inl (cI, 10, .inl v_p0_leaflets)), (q_p0_owners, .inl (cI, 10, .inl v_p0_owners))] = A0 at hD hS
  unfold fX0_begin at h
  refine lv_iconst (v := 0) hx hb dX0_begin_0 (by decide) ?_
  refine lv_istore (lv' := [(4, .int 0), (0, .ref q_t), (1, .ref q_p0), (2, .int x2), (3, .int x3)]) hx hb dX0_begin_1 hl (by decide) rfl (fun ls hl => ?_)
  obtain ⟨e2, he_e2, hc_e2⟩ := bd_of h
  have X39_4 : ∀ (a3 : (Nat → Int64)) (H : Heap) (locs : List Loc) (ls : Array Slot), fX0_begin_X3_39 v_p0_size v_p0_lostByHands v_p0_lostByMould v_p0_kinds v_p0_owners x2 x3 a3 = some z → va_P D vwCl [(q_t, .inr (0, [.ref q_t_byLeaflets, .long v_t_all, .int v_t_kind, .int v_t_tenths])), (q_t_byLeaflets, .inl (cJ, 10, .inr (.inl a3))), (q_p0, .inr (4, [.ref q_p0_kinds, .ref q_p0_leaflets, .ref q_p0_owners, .ref q_p0_tears, .ref q_p0_debts, .int v_p0_size, .int v_p0_lostByHands, .int v_p0_lostByMould])), (q_p0_kinds, .inl (cI, 10, .inl v_p0_kinds)), (q_p0_leaflets, .inl (cI, 10, .inl v_p0_leaflets)), (q_p0_owners, .inl (cI, 10, .inl v_p0_owners))] H → va_D A0 [(q_t, .inr (0, [.ref q_t_byLeaflets, .long v_t_all, .int v_t_kind, .int v_t_tenths])), (q_t_byLeaflets, .inl (cJ, 10, .inr (.inl a3))), (q_p0, .inr (4, [.ref q_p0_kinds, .ref q_p0_leaflets, .ref q_p0_owners, .ref q_p0_tears, .ref q_p0_debts, .int v_p0_size, .int v_p0_lostByHands, .int v_p0_lostByMould])), (q_p0_kinds, .inl (cI, 10, .inl v_p0_kinds)), (q_p0_leaflets, .inl (cI, 10, .inl v_p0_leaflets)), (q_p0_owners, .inl (cI, 10, .inl v_p0_owners))] → va_S A0 s.heap H locs → lv_has ls 5 [(0, .ref q_t), (1, .ref q_p0), (2, .int x2), (3, .int x3)] → W p l e ({ frames := 1, cells := 0, slots := 0, locals := 21 } : Room) s m args below meth c H locs 0 0 Q0 (F0 m 39 ls []) := by
    intro a3 H locs ls h hP hD hS hl
    unfold fX0_begin_X3_39 at h
    refine lv_aload_n hx hb dX0_begin_39 rfl (lv_at hl 0 rfl) ?_
    refine lv_lconst (v := 1) hx hb dX0_begin_40 (by decide) ?_
    refine va_put (D := D) (own := RX0) (ci := 0) (v := .long 1) (ty := .long) (C := RX0) (T := TX0) (N := 4) hx hb hts iX0 tyX0 tyX0_ok nmX0 hown hK hP hD hS 0 rfl rfl 1 (by decide) k21 (fun _ h9 => h9) rfl (by decide +kernel) rfl rfl (Nat.le_of_ble_eq_true rfl) dX0_begin_41 (fun H locs hP hD hS => ?_)
    have hP : va_P D vwCl [(q_t, .inr (0, [.ref q_t_byLeaflets, .long 1, .int v_t_kind, .int v_t_tenths])), (q_t_byLeaflets, .inl (cJ, 10, .inr (.inl a3))), (q_p0, .inr (4, [.ref q_p0_kinds, .ref q_p0_leaflets, .ref q_p0_owners, .ref q_p0_tears, .ref q_p0_debts, .int v_p0_size, .int v_p0_lostByHands, .int v_p0_lostByMould])), (q_p0_kinds, .inl (cI, 10, .inl v_p0_kinds)), (q_p0_leaflets, .inl (cI, 10, .inl v_p0_leaflets)), (q_p0_owners, .inl (cI, 10, .inl v_p0_owners))] H := hP
    have hD : va_D A0 [(q_t, .inr (0, [.ref q_t_byLeaflets, .long 1, .int v_t_kind, .int v_t_tenths])), (q_t_byLeaflets, .inl (cJ, 10, .inr (.inl a3))), (q_p0, .inr (4, [.ref q_p0_kinds, .ref q_p0_leaflets, .ref q_p0_owners, .ref q_p0_tears, .ref q_p0_debts, .int v_p0_size, .int v_p0_lostByHands, .int v_p0_lostByMould])), (q_p0_kinds, .inl (cI, 10, .inl v_p0_kinds)), (q_p0_leaflets, .inl (cI, 10, .inl v_p0_leaflets)), (q_p0_owners, .inl (cI, 10, .inl v_p0_owners))] := hD
    refine lv_aload_n hx hb dX0_begin_44 rfl (lv_at hl 0 rfl) ?_
    refine lv_aload_n hx hb dX0_begin_45 rfl (lv_at hl 1 rfl) ?_
    refine va_get (own := RX0) (ci := 4) (v := .ref q_p0_kinds) (C := RX4) (T := TX4) (N := 8) hx hb hts iX4 hown hK hP 2 rfl rfl 0 (by decide) k25 (fun _ h9 => h9) rfl dX0_begin_46 ?_
    refine lv_iload_n hx hb dX0_begin_49 rfl (lv_at hl 2 rfl) ?_
    obtain ⟨g5, h⟩ := gd_of h
    refine va_iald hx hb hK hP 3 0 rfl rfl (inb_of g5) dX0_begin_50 ?_
    refine va_put (D := D) (own := RX0) (ci := 0) (v := .int (v_p0_kinds x2.toNatClampNeg)) (ty := .int) (C := RX0) (T := TX0) (N := 4) hx hb hts iX0 tyX0 tyX0_ok nmX0 hown hK hP hD hS 0 rfl rfl 2 (by decide) k28 (fun _ h9 => h9) rfl (by decide +kernel) rfl rfl (Nat.le_of_ble_eq_true rfl) dX0_begin_51 (fun H locs hP hD hS => ?_)
    have hP : va_P D vwCl [(q_t, .inr (0, [.ref q_t_byLeaflets, .long 1, .int (v_p0_kinds x2.toNatClampNeg), .int v_t_tenths])), (q_t_byLeaflets, .inl (cJ, 10, .inr (.inl a3))), (q_p0, .inr (4, [.ref q_p0_kinds, .ref q_p0_leaflets, .ref q_p0_owners, .ref q_p0_tears, .ref q_p0_debts, .int v_p0_size, .int v_p0_lostByHands, .int v_p0_lostByMould])), (q_p0_kinds, .inl (cI, 10, .inl v_p0_kinds)), (q_p0_leaflets, .inl (cI, 10, .inl v_p0_leaflets)), (q_p0_owners, .inl (cI, 10, .inl v_p0_owners))] H := hP
    have hD : va_D A0 [(q_t, .inr (0, [.ref q_t_byLeaflets, .long 1, .int (v_p0_kinds x2.toNatClampNeg), .int v_t_tenths])), (q_t_byLeaflets, .inl (cJ, 10, .inr (.inl a3))), (q_p0, .inr (4, [.ref q_p0_kinds, .ref q_p0_leaflets, .ref q_p0_owners, .ref q_p0_tears, .ref q_p0_debts, .int v_p0_size, .int v_p0_lostByHands, .int v_p0_lostByMould])), (q_p0_kinds, .inl (cI, 10, .inl v_p0_kinds)), (q_p0_leaflets, .inl (cI, 10, .inl v_p0_leaflets)), (q_p0_owners, .inl (cI, 10, .inl v_p0_owners))] := hD
    refine lv_aload_n hx hb dX0_begin_54 rfl (lv_at hl 0 rfl) ?_
    refine lv_aload_n hx hb dX0_begin_55 rfl (lv_at hl 1 rfl) ?_
    refine lv_iload_n hx hb dX0_begin_56 rfl (lv_at hl 2 rfl) ?_
    obtain ⟨u6, g7, h⟩ := bd_of h
    refine cl_V [(q_t, .inr (0, [.ref q_t_byLeaflets, .long 1, .int (v_p0_kinds x2.toNatClampNeg), .int v_t_tenths])), (q_t_byLeaflets, .inl (cJ, 10, .inr (.inl a3))), (q_p0, .inr (4, [.ref q_p0_kinds, .ref q_p0_leaflets, .ref q_p0_owners, .ref q_p0_tears, .ref q_p0_debts, .int v_p0_size, .int v_p0_lostByHands, .int v_p0_lostByMould])), (q_p0_kinds, .inl (cI, 10, .inl v_p0_kinds)), (q_p0_leaflets, .inl (cI, 10, .inl v_p0_leaflets)), (q_p0_owners, .inl (cI, 10, .inl v_p0_owners))] (As := [.int x2]) (rest := [.ref q_t]) (rv := (some (.int u6))) (c_X4_isAtBank l D cI cJ q_p0 q_p0_kinds q_p0_leaflets q_p0_owners q_p0_tears q_p0_debts v_p0_size v_p0_lostByHands v_p0_lostByMould v_p0_owners x2 u6 g7) ⟨hx, hb, hml, hown, hts⟩ (cwV 1 hts gX0_begin_X4_isAtBank rfl rfl rfl (by decide +kernel) ⟨(Nat.le_of_ble_eq_true rfl), (Nat.le_of_ble_eq_true rfl)⟩) hK hN hP hD hS [2, 5] rfl (by decide) rfl rfl rfl (q0 := 2) (ci := 4) rfl rfl rfl rfl hl.1 rfl (Nat.le_of_ble_eq_true rfl) dX0_begin_57 ⟨Nat.zero_le _, Nat.zero_le _⟩ (fun H locs hP hD hS => ?_)
    show W p l e ({ frames := 1, cells := 0, slots := 0, locals := 21 } : Room) s m args below meth c H locs 0 0 Q0 (F0 m 60 ls [.int u6, .ref q_t])
    have K68_8 : ∀ (w9 : Int32) (H : Heap) (locs : List Loc) (ls : Array Slot), w9 = (if u6 = 0 then x3 else 0 : Int32) → va_P D vwCl [(q_t, .inr (0, [.ref q_t_byLeaflets, .long 1, .int (v_p0_kinds x2.toNatClampNeg), .int v_t_tenths])), (q_t_byLeaflets, .inl (cJ, 10, .inr (.inl a3))), (q_p0, .inr (4, [.ref q_p0_kinds, .ref q_p0_leaflets, .ref q_p0_owners, .ref q_p0_tears, .ref q_p0_debts, .int v_p0_size, .int v_p0_lostByHands, .int v_p0_lostByMould])), (q_p0_kinds, .inl (cI, 10, .inl v_p0_kinds)), (q_p0_leaflets, .inl (cI, 10, .inl v_p0_leaflets)), (q_p0_owners, .inl (cI, 10, .inl v_p0_owners))] H → va_D A0 [(q_t, .inr (0, [.ref q_t_byLeaflets, .long 1, .int (v_p0_kinds x2.toNatClampNeg), .int v_t_tenths])), (q_t_byLeaflets, .inl (cJ, 10, .inr (.inl a3))), (q_p0, .inr (4, [.ref q_p0_kinds, .ref q_p0_leaflets, .ref q_p0_owners, .ref q_p0_tears, .ref q_p0_debts, .int v_p0_size, .int v_p0_lostByHands, .int v_p0_lostByMould])), (q_p0_kinds, .inl (cI, 10, .inl v_p0_kinds)), (q_p0_leaflets, .inl (cI, 10, .inl v_p0_leaflets)), (q_p0_owners, .inl (cI, 10, .inl v_p0_owners))] → va_S A0 s.heap H locs → lv_has ls 5 [] → W p l e ({ frames := 1, cells := 0, slots := 0, locals := 21 } : Room) s m args below meth c H locs 0 0 Q0 (F0 m 68 ls [.int w9, .ref q_t]) := by
      intro w9 H locs ls e_w9 hP hD hS hl
      subst e_w9
      refine va_put (D := D) (own := RX0) (ci := 0) (v := .int (if u6 = 0 then x3 else 0 : Int32)) (ty := .int) (C := RX0) (T := TX0) (N := 4) hx hb hts iX0 tyX0 tyX0_ok nmX0 hown hK hP hD hS 0 rfl rfl 3 (by decide) k36 (fun _ h9 => h9) rfl (by decide +kernel) rfl rfl (Nat.le_of_ble_eq_true rfl) dX0_begin_68 (fun H locs hP hD hS => ?_)
      have hP : va_P D vwCl [(q_t, .inr (0, [.ref q_t_byLeaflets, .long 1, .int (v_p0_kinds x2.toNatClampNeg), .int (if u6 = 0 then x3 else 0 : Int32)])), (q_t_byLeaflets, .inl (cJ, 10, .inr (.inl a3))), (q_p0, .inr (4, [.ref q_p0_kinds, .ref q_p0_leaflets, .ref q_p0_owners, .ref q_p0_tears, .ref q_p0_debts, .int v_p0_size, .int v_p0_lostByHands, .int v_p0_lostByMould])), (q_p0_kinds, .inl (cI, 10, .inl v_p0_kinds)), (q_p0_leaflets, .inl (cI, 10, .inl v_p0_leaflets)), (q_p0_owners, .inl (cI, 10, .inl v_p0_owners))] H := hP
      have hD : va_D A0 [(q_t, .inr (0, [.ref q_t_byLeaflets, .long 1, .int (v_p0_kinds x2.toNatClampNeg), .int (if u6 = 0 then x3 else 0 : Int32)])), (q_t_byLeaflets, .inl (cJ, 10, .inr (.inl a3))), (q_p0, .inr (4, [.ref q_p0_kinds, .ref q_p0_leaflets, .ref q_p0_owners, .ref q_p0_tears, .ref q_p0_debts, .int v_p0_size, .int v_p0_lostByHands, .int v_p0_lostByMould])), (q_p0_kinds, .inl (cI, 10, .inl v_p0_kinds)), (q_p0_leaflets, .inl (cI, 10, .inl v_p0_leaflets)), (q_p0_owners, .inl (cI, 10, .inl v_p0_owners))] := hD
      obtain rfl := Option.some.inj h
      exact rt_v hA0 hQ0 hx hb hr hlocks hP hS dX0_begin_71
    refine lv_if_eq (tgt := 67) hx hb dX0_begin_60 (by decide) (fun c10 => ?_) (fun c10 => ?_)
    · skip
      refine lv_iload_n hx hb dX0_begin_67 rfl (lv_at hl 3 rfl) ?_
      exact K68_8 x3 _ _ _ (by rw [if_pos c10]) hP hD hS (lv_sub hl [] rfl)
    · skip
      refine lv_iconst (v := 0) hx hb dX0_begin_63 (by decide) ?_
      refine lv_goto (tgt := 68) hx hb dX0_begin_64 (by decide) ?_
      exact K68_8 0 _ _ _ (by rw [if_neg c10]) hP hD hS (lv_sub hl [] rfl)
  have L3_11 : ∀ (n : Nat) (z1 : Int32 × (Nat → Int64)) (H : Heap) (locs : List Loc) (ls : Array Slot), iter (fX0_begin_L3 v_p0_leaflets x2) n z1 = some e2 → va_P D vwCl [(q_t, .inr (0, [.ref q_t_byLeaflets, .long v_t_all, .int v_t_kind, .int v_t_tenths])), (q_t_byLeaflets, .inl (cJ, 10, .inr (.inl z1.2))), (q_p0, .inr (4, [.ref q_p0_kinds, .ref q_p0_leaflets, .ref q_p0_owners, .ref q_p0_tears, .ref q_p0_debts, .int v_p0_size, .int v_p0_lostByHands, .int v_p0_lostByMould])), (q_p0_kinds, .inl (cI, 10, .inl v_p0_kinds)), (q_p0_leaflets, .inl (cI, 10, .inl v_p0_leaflets)), (q_p0_owners, .inl (cI, 10, .inl v_p0_owners))] H → va_D A0 [(q_t, .inr (0, [.ref q_t_byLeaflets, .long v_t_all, .int v_t_kind, .int v_t_tenths])), (q_t_byLeaflets, .inl (cJ, 10, .inr (.inl z1.2))), (q_p0, .inr (4, [.ref q_p0_kinds, .ref q_p0_leaflets, .ref q_p0_owners, .ref q_p0_tears, .ref q_p0_debts, .int v_p0_size, .int v_p0_lostByHands, .int v_p0_lostByMould])), (q_p0_kinds, .inl (cI, 10, .inl v_p0_kinds)), (q_p0_leaflets, .inl (cI, 10, .inl v_p0_leaflets)), (q_p0_owners, .inl (cI, 10, .inl v_p0_owners))] → va_S A0 s.heap H locs → lv_has ls 5 [(0, .ref q_t), (1, .ref q_p0), (2, .int x2), (3, .int x3), (4, .int z1.1)] → W p l e ({ frames := 1, cells := 0, slots := 0, locals := 21 } : Room) s m args below meth c H locs 0 0 Q0 (F0 m 3 ls []) := by
    intro n
    induction n with
    | zero => exact fun _ _ _ _ h => (iter_z h).elim
    | succ n ih =>
      intro z1 H locs ls h hP hD hS hl
      obtain ⟨r_e2, h, hn_e2⟩ := iter_s h
      unfold fX0_begin_L3 at h
      refine lv_iload hx hb dX0_begin_3 (lv_at hl 4 rfl) ?_
      refine lv_bipush (v := 9) hx hb dX0_begin_5 (by decide) ?_
      refine lv_icmp_gt (tgt := 39) hx hb dX0_begin_7 (by decide) (fun c12 => ?_) (fun c12 => ?_)
      · skip
        have h := (if_pos c12).symm.trans h
        obtain rfl := Option.some.inj h
        obtain rfl := Option.some.inj hn_e2
        exact X39_4 z1.2 _ _ _ hc_e2 hP hD hS (lv_sub hl [0, 1, 2, 3] rfl)
      · skip
        have h := (if_neg c12).symm.trans h
        refine lv_aload_n hx hb dX0_begin_10 rfl (lv_at hl 0 rfl) ?_
        refine va_get (own := RX0) (ci := 0) (v := .ref q_t_byLeaflets) (C := RX0) (T := TX0) (N := 4) hx hb hts iX0 hown hK hP 0 rfl rfl 0 (by decide) k9 (fun _ h9 => h9) rfl dX0_begin_11 ?_
        refine lv_iload hx hb dX0_begin_14 (lv_at hl 4 rfl) ?_
        refine lv_iload hx hb dX0_begin_16 (lv_at hl 4 rfl) ?_
        refine lv_aload_n hx hb dX0_begin_18 rfl (lv_at hl 1 rfl) ?_
        refine va_get (own := RX0) (ci := 4) (v := .ref q_p0_leaflets) (C := RX4) (T := TX4) (N := 8) hx hb hts iX4 hown hK hP 2 rfl rfl 1 (by decide) k15 (fun _ h9 => h9) rfl dX0_begin_19 ?_
        refine lv_iload_n hx hb dX0_begin_22 rfl (lv_at hl 2 rfl) ?_
        obtain ⟨g13, h⟩ := gd_of h
        refine va_iald hx hb hK hP 4 0 rfl rfl (inb_of g13) dX0_begin_23 ?_
        have K32_14 : ∀ (w15 : Int64) (H : Heap) (locs : List Loc) (ls : Array Slot), w15 = (if z1.1 = (v_p0_leaflets x2.toNatClampNeg) then 1 else 0 : Int64) → va_P D vwCl [(q_t, .inr (0, [.ref q_t_byLeaflets, .long v_t_all, .int v_t_kind, .int v_t_tenths])), (q_t_byLeaflets, .inl (cJ, 10, .inr (.inl z1.2))), (q_p0, .inr (4, [.ref q_p0_kinds, .ref q_p0_leaflets, .ref q_p0_owners, .ref q_p0_tears, .ref q_p0_debts, .int v_p0_size, .int v_p0_lostByHands, .int v_p0_lostByMould])), (q_p0_kinds, .inl (cI, 10, .inl v_p0_kinds)), (q_p0_leaflets, .inl (cI, 10, .inl v_p0_leaflets)), (q_p0_owners, .inl (cI, 10, .inl v_p0_owners))] H → va_D A0 [(q_t, .inr (0, [.ref q_t_byLeaflets, .long v_t_all, .int v_t_kind, .int v_t_tenths])), (q_t_byLeaflets, .inl (cJ, 10, .inr (.inl z1.2))), (q_p0, .inr (4, [.ref q_p0_kinds, .ref q_p0_leaflets, .ref q_p0_owners, .ref q_p0_tears, .ref q_p0_debts, .int v_p0_size, .int v_p0_lostByHands, .int v_p0_lostByMould])), (q_p0_kinds, .inl (cI, 10, .inl v_p0_kinds)), (q_p0_leaflets, .inl (cI, 10, .inl v_p0_leaflets)), (q_p0_owners, .inl (cI, 10, .inl v_p0_owners))] → va_S A0 s.heap H locs → lv_has ls 5 [(0, .ref q_t), (1, .ref q_p0), (2, .int x2), (3, .int x3), (4, .int z1.1)] → W p l e ({ frames := 1, cells := 0, slots := 0, locals := 21 } : Room) s m args below meth c H locs 0 0 Q0 (F0 m 32 ls [.long w15, .int z1.1, .ref q_t_byLeaflets]) := by
          intro w15 H locs ls e_w15 hP hD hS hl
          subst e_w15
          obtain ⟨g16, h⟩ := gd_of h
          refine va_last hx hb hK hP hD hS 1 1 rfl rfl (inb_of g16) dX0_begin_32 (fun H locs hP hD hS => ?_)
          have hP : va_P D vwCl [(q_t, .inr (0, [.ref q_t_byLeaflets, .long v_t_all, .int v_t_kind, .int v_t_tenths])), (q_t_byLeaflets, .inl (cJ, 10, .inr (.inl (vp_updL z1.2 z1.1.toNatClampNeg (if z1.1 = (v_p0_leaflets x2.toNatClampNeg) then 1 else 0 : Int64))))), (q_p0, .inr (4, [.ref q_p0_kinds, .ref q_p0_leaflets, .ref q_p0_owners, .ref q_p0_tears, .ref q_p0_debts, .int v_p0_size, .int v_p0_lostByHands, .int v_p0_lostByMould])), (q_p0_kinds, .inl (cI, 10, .inl v_p0_kinds)), (q_p0_leaflets, .inl (cI, 10, .inl v_p0_leaflets)), (q_p0_owners, .inl (cI, 10, .inl v_p0_owners))] H := hP
          have hD : va_D A0 [(q_t, .inr (0, [.ref q_t_byLeaflets, .long v_t_all, .int v_t_kind, .int v_t_tenths])), (q_t_byLeaflets, .inl (cJ, 10, .inr (.inl (vp_updL z1.2 z1.1.toNatClampNeg (if z1.1 = (v_p0_leaflets x2.toNatClampNeg) then 1 else 0 : Int64))))), (q_p0, .inr (4, [.ref q_p0_kinds, .ref q_p0_leaflets, .ref q_p0_owners, .ref q_p0_tears, .ref q_p0_debts, .int v_p0_size, .int v_p0_lostByHands, .int v_p0_lostByMould])), (q_p0_kinds, .inl (cI, 10, .inl v_p0_kinds)), (q_p0_leaflets, .inl (cI, 10, .inl v_p0_leaflets)), (q_p0_owners, .inl (cI, 10, .inl v_p0_owners))] := hD
          refine lv_iinc (v := (z1.1 + 1)) (lv' := [(4, .int (z1.1 + 1)), (0, .ref q_t), (1, .ref q_p0), (2, .int x2), (3, .int x3)]) hx hb dX0_begin_33 hl (k := 4) rfl rfl (by decide) rfl (fun ls hl => ?_)
          refine lv_goto (tgt := 3) hx hb dX0_begin_36 (by decide) ?_
          obtain rfl := Option.some.inj h
          exact ih ((z1.1 + 1), (vp_updL z1.2 z1.1.toNatClampNeg (if z1.1 = (v_p0_leaflets x2.toNatClampNeg) then 1 else 0 : Int64))) _ _ _ hn_e2 hP hD hS (lv_sub hl [1, 2, 3, 4, 0] rfl)
        refine lv_icmp_ne (tgt := 31) hx hb dX0_begin_24 (by decide) (fun c17 => ?_) (fun c17 => ?_)
        · skip
          refine lv_lconst (v := 0) hx hb dX0_begin_31 (by decide) ?_
          exact K32_14 0 _ _ _ (by rw [if_neg c17]) hP hD hS (lv_sub hl [0, 1, 2, 3, 4] rfl)
        · skip
          refine lv_lconst (v := 1) hx hb dX0_begin_27 (by decide) ?_
          refine lv_goto (tgt := 32) hx hb dX0_begin_28 (by decide) ?_
          exact K32_14 1 _ _ _ (by rw [if_pos c17]) hP hD hS (lv_sub hl [0, 1, 2, 3, 4] rfl)
  exact L3_11 FU (0, v_t_byLeaflets) _ _ _ he_e2 hP hD hS (lv_sub hl [1, 2, 3, 4, 0] rfl)
def fX0_passMonth_X14_72 (v_t_all : Int64) (a3 : (Nat → Int64)) : Option (Int64 × (Nat → Int64)) :=
  some ((v_t_all * 10), a3)
def fX0_passMonth_L14 (v_t_kind : Int32) (v_t_tenths : Int32) (z1 : Int32 × (Nat → Int64)) : Option ((Int32 × (Nat → Int64)) ⊕ ((Nat → Int64))) :=
  if 9 < z1.1 then (some (Sum.inr z1.2)) else (gd (inb z1.1 10) (gd (inb (fX5_behindDamp v_t_kind z1.1) 10) (some (Sum.inl ((z1.1 + 1), (vp_updL (vp_updL z1.2 z1.1.toNatClampNeg ((z1.2 z1.1.toNatClampNeg) * (((10 - v_t_tenths) : Int32).toInt64))) (fX5_behindDamp v_t_kind z1.1).toNatClampNeg (((vp_updL z1.2 z1.1.toNatClampNeg ((z1.2 z1.1.toNatClampNeg) * (((10 - v_t_tenths) : Int32).toInt64))) (fX5_behindDamp v_t_kind z1.1).toNatClampNeg) + ((z1.2 z1.1.toNatClampNeg) * ((v_t_tenths : Int32).toInt64)))))))))
def fX0_passMonth (v_t_all : Int64) (v_t_kind : Int32) (v_t_tenths : Int32) (v_t_byLeaflets : Nat → Int64) : Option (Int64 × (Nat → Int64)) :=
  (iter (fX0_passMonth_L14 v_t_kind v_t_tenths) FU (0, v_t_byLeaflets)).bind (fX0_passMonth_X14_72 v_t_all)
set_option maxHeartbeats 4000000 in
set_option maxRecDepth 100000 in
theorem c_X0_passMonth (l : Launch) (D : va_G) (cI cJ : ClassId) (q_t q_t_byLeaflets : Nat) (v_t_all : Int64) (v_t_kind : Int32) (v_t_tenths : Int32) (v_t_byLeaflets : Nat → Int64) (z : Int64 × (Nat → Int64)) (h : fX0_passMonth v_t_all v_t_kind v_t_tenths v_t_byLeaflets = some z) : Met l yX0_passMonth wsX0_passMonth ({ frames := 2, cells := 0, slots := 0, locals := 45 } : Room) (va_Pc [.ref q_t] (preG D cI cJ [(q_t, .inr (0, [.ref q_t_byLeaflets, .long v_t_all, .int v_t_kind, .int v_t_tenths])), (q_t_byLeaflets, .inl (cJ, 10, .inr (.inl v_t_byLeaflets)))])) (QG D [(q_t, .inr (0, [.ref q_t_byLeaflets, .long v_t_all, .int v_t_kind, .int v_t_tenths])), (q_t_byLeaflets, .inl (cJ, 10, .inr (.inl v_t_byLeaflets)))] [(q_t, .inr (0, [.ref q_t_byLeaflets, .long z.1, .int v_t_kind, .int v_t_tenths])), (q_t_byLeaflets, .inl (cJ, 10, .inr (.inl z.2)))] none) 0 0 (fr [(q_t, .inr (0, [.ref q_t_byLeaflets, .long v_t_all, .int v_t_kind, .int v_t_tenths])), (q_t_byLeaflets, .inl (cJ, 10, .inr (.inl v_t_byLeaflets)))]) := by
  refine Met.ofW (cc := cX0_passMonth) (maxL := 4) (ret := none) (by decide) rfl ?_
  intro p e s m args below meth c s₁ B hml hv
  obtain ⟨hargs, hP, hK, hN, hD0⟩ := hv
  have hx := B.exec
  have hb := B.bytes
  have hr := B.returns
  have hts := atoms_spec (ws := wsX0_passMonth) B.pre
  have hown : s.vm.findClass RX0 = some m.cls := findClass_of_methodNamed B.named
  have hlocks := B.notSynchronized
  have iX0 : ∀ w ∈ wsX00, w ∈ wsX0_passMonth := by decide +kernel
  have k9 := hts (.fieldLink RX0 9 "PressedFerns$Chances" "byLeaflets" "[J") (by decide +kernel)
  have k21 := hts (.fieldLink RX0 21 "PressedFerns$Chances" "all" "J") (by decide +kernel)
  have k28 := hts (.fieldLink RX0 28 "PressedFerns$Chances" "kind" "I") (by decide +kernel)
  have k36 := hts (.fieldLink RX0 36 "PressedFerns$Chances" "tenths" "I") (by decide +kernel)
  have hD := fr_D hD0
  have hS : va_S (fr [(q_t, .inr (0, [.ref q_t_byLeaflets, .long v_t_all, .int v_t_kind, .int v_t_tenths])), (q_t_byLeaflets, .inl (cJ, 10, .inr (.inl v_t_byLeaflets)))]) s.heap s.heap [] := va_S.rf
  have hl := lv_entry ([.ref q_t]) (n := 4) (Nat.le_of_ble_eq_true rfl)
  refine W.eq (g2 := F0 m 0 ((lg_sl ([.ref q_t]) ++ List.replicate (4 - (lg_sl ([.ref q_t])).length) Slot.unset).toArray) []) (by rw [hargs, lg_entry_eq]) ?_
  generalize (lg_sl ([.ref q_t]) ++ List.replicate (4 - (lg_sl ([.ref q_t])).length) Slot.unset).toArray = ls at hl ⊢
  have hl : lv_has ls 4 [(0, .ref q_t)] := hl
  show W p l e ({ frames := 2, cells := 0, slots := 0, locals := 45 } : Room) s m args below meth c s.heap [] 0 0 (MQ below (QG D [(q_t, .inr (0, [.ref q_t_byLeaflets, .long v_t_all, .int v_t_kind, .int v_t_tenths])), (q_t_byLeaflets, .inl (cJ, 10, .inr (.inl v_t_byLeaflets)))] [(q_t, .inr (0, [.ref q_t_byLeaflets, .long z.1, .int v_t_kind, .int v_t_tenths])), (q_t_byLeaflets, .inl (cJ, 10, .inr (.inl z.2)))] none) args s 0 0 (fr [(q_t, .inr (0, [.ref q_t_byLeaflets, .long v_t_all, .int v_t_kind, .int v_t_tenths])), (q_t_byLeaflets, .inl (cJ, 10, .inr (.inl v_t_byLeaflets)))])) (F0 m 0 ls [])
  generalize hQ0 : (MQ below (QG D [(q_t, .inr (0, [.ref q_t_byLeaflets, .long v_t_all, .int v_t_kind, .int v_t_tenths])), (q_t_byLeaflets, .inl (cJ, 10, .inr (.inl v_t_byLeaflets)))] [(q_t, .inr (0, [.ref q_t_byLeaflets, .long z.1, .int v_t_kind, .int v_t_tenths])), (q_t_byLeaflets, .inl (cJ, 10, .inr (.inl z.2)))] none) args s 0 0 (fr [(q_t, .inr (0, [.ref q_t_byLeaflets, .long v_t_all, .int v_t_kind, .int v_t_tenths])), (q_t_byLeaflets, .inl (cJ, 10, .inr (.inl v_t_byLeaflets)))])) = Q0
  generalize hA0 : fr [(q_t, .inr (0, [.ref q_t_byLeaflets, .long v_t_all, .int v_t_kind, .int v_t_tenths])), (q_t_byLeaflets, .inl (cJ, 10, .inr (.inl v_t_byLeaflets)))] = A0 at hD hS
  unfold fX0_passMonth at h
  refine lv_aload_n hx hb dX0_passMonth_0 rfl (lv_at hl 0 rfl) ?_
  refine lv_dup hx hb dX0_passMonth_1 rfl ?_
  refine va_get (own := RX0) (ci := 0) (v := .long v_t_all) (C := RX0) (T := TX0) (N := 4) hx hb hts iX0 hown hK hP 0 rfl rfl 1 (by decide) k21 (fun _ h9 => h9) rfl dX0_passMonth_2 ?_
  refine lv_ldc2 (own := RX0) (v := 10) hx hb hown (hts (.constantLong RX0 39 (10)) (by decide +kernel)) dX0_passMonth_5 ?_
  refine lv_lmul hx hb dX0_passMonth_8 ?_
  refine va_put (D := D) (own := RX0) (ci := 0) (v := .long (v_t_all * 10)) (ty := .long) (C := RX0) (T := TX0) (N := 4) hx hb hts iX0 tyX0 tyX0_ok nmX0 hown hK hP hD hS 0 rfl rfl 1 (by decide) k21 (fun _ h9 => h9) rfl (by decide +kernel) rfl rfl (Nat.le_of_ble_eq_true rfl) dX0_passMonth_9 (fun H locs hP hD hS => ?_)
  have hP : va_P D vwCl [(q_t, .inr (0, [.ref q_t_byLeaflets, .long (v_t_all * 10), .int v_t_kind, .int v_t_tenths])), (q_t_byLeaflets, .inl (cJ, 10, .inr (.inl v_t_byLeaflets)))] H := hP
  have hD : va_D A0 [(q_t, .inr (0, [.ref q_t_byLeaflets, .long (v_t_all * 10), .int v_t_kind, .int v_t_tenths])), (q_t_byLeaflets, .inl (cJ, 10, .inr (.inl v_t_byLeaflets)))] := hD
  refine lv_iconst (v := 0) hx hb dX0_passMonth_12 (by decide) ?_
  refine lv_istore_n (lv' := [(1, .int 0), (0, .ref q_t)]) hx hb dX0_passMonth_13 rfl hl (by decide) rfl (fun ls hl => ?_)
  obtain ⟨e2, he_e2, hc_e2⟩ := bd_of h
  have X72_4 : ∀ (a3 : (Nat → Int64)) (H : Heap) (locs : List Loc) (ls : Array Slot), fX0_passMonth_X14_72 v_t_all a3 = some z → va_P D vwCl [(q_t, .inr (0, [.ref q_t_byLeaflets, .long (v_t_all * 10), .int v_t_kind, .int v_t_tenths])), (q_t_byLeaflets, .inl (cJ, 10, .inr (.inl a3)))] H → va_D A0 [(q_t, .inr (0, [.ref q_t_byLeaflets, .long (v_t_all * 10), .int v_t_kind, .int v_t_tenths])), (q_t_byLeaflets, .inl (cJ, 10, .inr (.inl a3)))] → va_S A0 s.heap H locs → lv_has ls 4 [] → W p l e ({ frames := 2, cells := 0, slots := 0, locals := 45 } : Room) s m args below meth c H locs 0 0 Q0 (F0 m 72 ls []) := by
    intro a3 H locs ls h hP hD hS hl
    unfold fX0_passMonth_X14_72 at h
    obtain rfl := Option.some.inj h
    exact rt_v hA0 hQ0 hx hb hr hlocks hP hS dX0_passMonth_72
  have L14_5 : ∀ (n : Nat) (z1 : Int32 × (Nat → Int64)) (H : Heap) (locs : List Loc) (ls : Array Slot), iter (fX0_passMonth_L14 v_t_kind v_t_tenths) n z1 = some e2 → va_P D vwCl [(q_t, .inr (0, [.ref q_t_byLeaflets, .long (v_t_all * 10), .int v_t_kind, .int v_t_tenths])), (q_t_byLeaflets, .inl (cJ, 10, .inr (.inl z1.2)))] H → va_D A0 [(q_t, .inr (0, [.ref q_t_byLeaflets, .long (v_t_all * 10), .int v_t_kind, .int v_t_tenths])), (q_t_byLeaflets, .inl (cJ, 10, .inr (.inl z1.2)))] → va_S A0 s.heap H locs → lv_has ls 4 [(0, .ref q_t), (1, .int z1.1)] → W p l e ({ frames := 2, cells := 0, slots := 0, locals := 45 } : Room) s m args below meth c H locs 0 0 Q0 (F0 m 14 ls []) := by
    intro n
    induction n with
    | zero => exact fun _ _ _ _ h => (iter_z h).elim
    | succ n ih =>
      intro z1 H locs ls h hP hD hS hl
      obtain ⟨r_e2, h, hn_e2⟩ := iter_s h
      unfold fX0_passMonth_L14 at h
      refine lv_iload_n hx hb dX0_passMonth_14 rfl (lv_at hl 1 rfl) ?_
      refine lv_bipush (v := 9) hx hb dX0_passMonth_15 (by decide) ?_
      refine lv_icmp_gt (tgt := 72) hx hb dX0_passMonth_17 (by decide) (fun c6 => ?_) (fun c6 => ?_)
      · skip
        have h := (if_pos c6).symm.trans h
        obtain rfl := Option.some.inj h
        obtain rfl := Option.some.inj hn_e2
        exact X72_4 z1.2 _ _ _ hc_e2 hP hD hS (lv_sub hl [] rfl)
      · skip
        have h := (if_neg c6).symm.trans h
        refine lv_aload_n hx hb dX0_passMonth_20 rfl (lv_at hl 0 rfl) ?_
        refine va_get (own := RX0) (ci := 0) (v := .ref q_t_byLeaflets) (C := RX0) (T := TX0) (N := 4) hx hb hts iX0 hown hK hP 0 rfl rfl 0 (by decide) k9 (fun _ h9 => h9) rfl dX0_passMonth_21 ?_
        refine lv_iload_n hx hb dX0_passMonth_24 rfl (lv_at hl 1 rfl) ?_
        obtain ⟨g7, h⟩ := gd_of h
        refine va_lald hx hb hK hP 1 1 rfl rfl (inb_of g7) dX0_passMonth_25 ?_
        refine lv_lstore_n (lv' := [(2, .long (z1.2 z1.1.toNatClampNeg)), (0, .ref q_t), (1, .int z1.1)]) hx hb dX0_passMonth_26 rfl hl (by decide) rfl (fun ls hl => ?_)
        refine lv_aload_n hx hb dX0_passMonth_27 rfl (lv_at hl 1 rfl) ?_
        refine va_get (own := RX0) (ci := 0) (v := .ref q_t_byLeaflets) (C := RX0) (T := TX0) (N := 4) hx hb hts iX0 hown hK hP 0 rfl rfl 0 (by decide) k9 (fun _ h9 => h9) rfl dX0_passMonth_28 ?_
        refine lv_iload_n hx hb dX0_passMonth_31 rfl (lv_at hl 2 rfl) ?_
        refine lv_lload_n hx hb dX0_passMonth_32 rfl (lv_at hl 0 rfl) ?_
        refine lv_bipush (v := 10) hx hb dX0_passMonth_33 (by decide) ?_
        refine lv_aload_n hx hb dX0_passMonth_35 rfl (lv_at hl 1 rfl) ?_
        refine va_get (own := RX0) (ci := 0) (v := .int v_t_tenths) (C := RX0) (T := TX0) (N := 4) hx hb hts iX0 hown hK hP 0 rfl rfl 3 (by decide) k36 (fun _ h9 => h9) rfl dX0_passMonth_36 ?_
        refine lv_isub hx hb dX0_passMonth_39 ?_
        refine lv_i2l hx hb dX0_passMonth_40 rfl ?_
        refine lv_lmul hx hb dX0_passMonth_41 ?_
        refine va_last hx hb hK hP hD hS 1 1 rfl rfl (inb_of g7) dX0_passMonth_42 (fun H locs hP hD hS => ?_)
        have hP : va_P D vwCl [(q_t, .inr (0, [.ref q_t_byLeaflets, .long (v_t_all * 10), .int v_t_kind, .int v_t_tenths])), (q_t_byLeaflets, .inl (cJ, 10, .inr (.inl (vp_updL z1.2 z1.1.toNatClampNeg ((z1.2 z1.1.toNatClampNeg) * (((10 - v_t_tenths) : Int32).toInt64))))))] H := hP
        have hD : va_D A0 [(q_t, .inr (0, [.ref q_t_byLeaflets, .long (v_t_all * 10), .int v_t_kind, .int v_t_tenths])), (q_t_byLeaflets, .inl (cJ, 10, .inr (.inl (vp_updL z1.2 z1.1.toNatClampNeg ((z1.2 z1.1.toNatClampNeg) * (((10 - v_t_tenths) : Int32).toInt64))))))] := hD
        refine lv_aload_n hx hb dX0_passMonth_43 rfl (lv_at hl 1 rfl) ?_
        refine va_get (own := RX0) (ci := 0) (v := .ref q_t_byLeaflets) (C := RX0) (T := TX0) (N := 4) hx hb hts iX0 hown hK hP 0 rfl rfl 0 (by decide) k9 (fun _ h9 => h9) rfl dX0_passMonth_44 ?_
        refine lv_aload_n hx hb dX0_passMonth_47 rfl (lv_at hl 1 rfl) ?_
        refine va_get (own := RX0) (ci := 0) (v := .int v_t_kind) (C := RX0) (T := TX0) (N := 4) hx hb hts iX0 hown hK hP 0 rfl rfl 2 (by decide) k28 (fun _ h9 => h9) rfl dX0_passMonth_48 ?_
        refine lv_iload_n hx hb dX0_passMonth_51 rfl (lv_at hl 2 rfl) ?_
        refine cl_S [(q_t, .inr (0, [.ref q_t_byLeaflets, .long (v_t_all * 10), .int v_t_kind, .int v_t_tenths])), (q_t_byLeaflets, .inl (cJ, 10, .inr (.inl (vp_updL z1.2 z1.1.toNatClampNeg ((z1.2 z1.1.toNatClampNeg) * (((10 - v_t_tenths) : Int32).toInt64))))))] (As := [.int v_t_kind, .int z1.1]) (rest := [.ref q_t_byLeaflets]) (rv := (some (.int (fX5_behindDamp v_t_kind z1.1)))) (c_X5_behindDamp l D cI cJ v_t_kind z1.1) ⟨hx, hb, hml, hown, hts⟩ (va_cwS 2 hts gX0_passMonth_X5_behindDamp rfl rfl rfl (by decide +kernel) ⟨(Nat.le_of_ble_eq_true rfl), (Nat.le_of_ble_eq_true rfl)⟩) hK hN hP hD hS [] rfl (by decide) rfl rfl rfl rfl hl.1 rfl (Nat.le_of_ble_eq_true rfl) dX0_passMonth_52 ⟨Nat.zero_le _, Nat.zero_le _⟩ (fun H locs hP hD hS => ?_)
        show W p l e ({ frames := 2, cells := 0, slots := 0, locals := 45 } : Room) s m args below meth c H locs 0 0 Q0 (F0 m 55 ls [.int (fX5_behindDamp v_t_kind z1.1), .ref q_t_byLeaflets])
        refine lv_dup2_11 hx hb dX0_passMonth_55 rfl rfl ?_
        obtain ⟨g8, h⟩ := gd_of h
        refine va_lald hx hb hK hP 1 1 rfl rfl (inb_of g8) dX0_passMonth_56 ?_
        refine lv_lload_n hx hb dX0_passMonth_57 rfl (lv_at hl 0 rfl) ?_
        refine lv_aload_n hx hb dX0_passMonth_58 rfl (lv_at hl 1 rfl) ?_
        refine va_get (own := RX0) (ci := 0) (v := .int v_t_tenths) (C := RX0) (T := TX0) (N := 4) hx hb hts iX0 hown hK hP 0 rfl rfl 3 (by decide) k36 (fun _ h9 => h9) rfl dX0_passMonth_59 ?_
        refine lv_i2l hx hb dX0_passMonth_62 rfl ?_
        refine lv_lmul hx hb dX0_passMonth_63 ?_
        refine lv_ladd hx hb dX0_passMonth_64 ?_
        refine va_last hx hb hK hP hD hS 1 1 rfl rfl (inb_of g8) dX0_passMonth_65 (fun H locs hP hD hS => ?_)
        have hP : va_P D vwCl [(q_t, .inr (0, [.ref q_t_byLeaflets, .long (v_t_all * 10), .int v_t_kind, .int v_t_tenths])), (q_t_byLeaflets, .inl (cJ, 10, .inr (.inl (vp_updL (vp_updL z1.2 z1.1.toNatClampNeg ((z1.2 z1.1.toNatClampNeg) * (((10 - v_t_tenths) : Int32).toInt64))) (fX5_behindDamp v_t_kind z1.1).toNatClampNeg (((vp_updL z1.2 z1.1.toNatClampNeg ((z1.2 z1.1.toNatClampNeg) * (((10 - v_t_tenths) : Int32).toInt64))) (fX5_behindDamp v_t_kind z1.1).toNatClampNeg) + ((z1.2 z1.1.toNatClampNeg) * ((v_t_tenths : Int32).toInt64)))))))] H := hP
        have hD : va_D A0 [(q_t, .inr (0, [.ref q_t_byLeaflets, .long (v_t_all * 10), .int v_t_kind, .int v_t_tenths])), (q_t_byLeaflets, .inl (cJ, 10, .inr (.inl (vp_updL (vp_updL z1.2 z1.1.toNatClampNeg ((z1.2 z1.1.toNatClampNeg) * (((10 - v_t_tenths) : Int32).toInt64))) (fX5_behindDamp v_t_kind z1.1).toNatClampNeg (((vp_updL z1.2 z1.1.toNatClampNeg ((z1.2 z1.1.toNatClampNeg) * (((10 - v_t_tenths) : Int32).toInt64))) (fX5_behindDamp v_t_kind z1.1).toNatClampNeg) + ((z1.2 z1.1.toNatClampNeg) * ((v_t_tenths : Int32).toInt64)))))))] := hD
        refine lv_iinc (v := (z1.1 + 1)) (lv' := [(1, .int (z1.1 + 1)), (2, .long (z1.2 z1.1.toNatClampNeg)), (0, .ref q_t)]) hx hb dX0_passMonth_66 hl (k := 2) rfl rfl (by decide) rfl (fun ls hl => ?_)
        refine lv_goto (tgt := 14) hx hb dX0_passMonth_69 (by decide) ?_
        obtain rfl := Option.some.inj h
        exact ih ((z1.1 + 1), (vp_updL (vp_updL z1.2 z1.1.toNatClampNeg ((z1.2 z1.1.toNatClampNeg) * (((10 - v_t_tenths) : Int32).toInt64))) (fX5_behindDamp v_t_kind z1.1).toNatClampNeg (((vp_updL z1.2 z1.1.toNatClampNeg ((z1.2 z1.1.toNatClampNeg) * (((10 - v_t_tenths) : Int32).toInt64))) (fX5_behindDamp v_t_kind z1.1).toNatClampNeg) + ((z1.2 z1.1.toNatClampNeg) * ((v_t_tenths : Int32).toInt64))))) _ _ _ hn_e2 hP hD hS (lv_sub hl [2, 0] rfl)
  exact L14_5 FU (0, v_t_byLeaflets) _ _ _ he_e2 hP hD hS (lv_sub hl [1, 0] rfl)
def fX0_commonDivisor_X9_44  (a3 : Int64) : Option (Int64) :=
  some a3
def fX0_commonDivisor_L9  (z1 : Int64 × Int64 × Int32) : Option ((Int64 × Int64 × Int32) ⊕ (Int64)) :=
  if 100 ≤ z1.2.2 then (some (Sum.inr z1.1)) else (if (lg_cmp z1.2.1 0) = 0 then (some (Sum.inr z1.1)) else (gd (nzl z1.2.1) (some (Sum.inl (z1.2.1, (z1.1 - z1.1 / z1.2.1 * z1.2.1), (z1.2.2 + 1))))))
def fX0_commonDivisor (x0 : Int64) (x2 : Int64) : Option (Int64) :=
  (iter (fX0_commonDivisor_L9) FU (x0, x2, 0)).bind (fX0_commonDivisor_X9_44)
set_option maxHeartbeats 4000000 in
set_option maxRecDepth 100000 in
theorem c_X0_commonDivisor (l : Launch) (D : va_G) (cI cJ : ClassId) (x0 : Int64) (x2 : Int64) (z : Int64) (h : fX0_commonDivisor x0 x2 = some z) : Met l yX0_commonDivisor wsX0_commonDivisor ({ frames := 0, cells := 0, slots := 0, locals := 0 } : Room) (va_Pc [.long x0, .long x2] (preG D cI cJ [])) (QG D [] [] (some (.long z))) 0 0 (fr []) := by
  refine Met.ofW (cc := cX0_commonDivisor) (maxL := 11) (ret := (some .long)) (by decide) rfl ?_
  intro p e s m args below meth c s₁ B hml hv
  obtain ⟨hargs, hP, hK, hN, hD0⟩ := hv
  have hx := B.exec
  have hb := B.bytes
  have hr := B.returns
  have hts := atoms_spec (ws := wsX0_commonDivisor) B.pre
  have hown : s.vm.findClass RX0 = some m.cls := findClass_of_methodNamed B.named
  have hlocks := B.notSynchronized
  have hD := fr_D hD0
  have hS : va_S (fr []) s.heap s.heap [] := va_S.rf
  have hl := lv_entry ([.long x0, .long x2]) (n := 11) (Nat.le_of_ble_eq_true rfl)
  refine W.eq (g2 := F0 m 0 ((lg_sl ([.long x0, .long x2]) ++ List.replicate (11 - (lg_sl ([.long x0, .long x2])).length) Slot.unset).toArray) []) (by rw [hargs, lg_entry_eq]) ?_
  generalize (lg_sl ([.long x0, .long x2]) ++ List.replicate (11 - (lg_sl ([.long x0, .long x2])).length) Slot.unset).toArray = ls at hl ⊢
  have hl : lv_has ls 11 [(0, .long x0), (2, .long x2)] := hl
  show W p l e ({ frames := 0, cells := 0, slots := 0, locals := 0 } : Room) s m args below meth c s.heap [] 0 0 (MQ below (QG D [] [] (some (.long z))) args s 0 0 (fr [])) (F0 m 0 ls [])
  generalize hQ0 : (MQ below (QG D [] [] (some (.long z))) args s 0 0 (fr [])) = Q0
  generalize hA0 : fr [] = A0 at hD hS
  unfold fX0_commonDivisor at h
  refine lv_lload_n hx hb dX0_commonDivisor_0 rfl (lv_at hl 0 rfl) ?_
  refine lv_lstore (lv' := [(4, .long x0), (0, .long x0), (2, .long x2)]) hx hb dX0_commonDivisor_1 hl (by decide) rfl (fun ls hl => ?_)
  refine lv_lload_n hx hb dX0_commonDivisor_3 rfl (lv_at hl 2 rfl) ?_
  refine lv_lstore (lv' := [(6, .long x2), (4, .long x0), (0, .long x0), (2, .long x2)]) hx hb dX0_commonDivisor_4 hl (by decide) rfl (fun ls hl => ?_)
  refine lv_iconst (v := 0) hx hb dX0_commonDivisor_6 (by decide) ?_
  refine lv_istore (lv' := [(8, .int 0), (6, .long x2), (4, .long x0), (0, .long x0), (2, .long x2)]) hx hb dX0_commonDivisor_7 hl (by decide) rfl (fun ls hl => ?_)
  obtain ⟨e2, he_e2, hc_e2⟩ := bd_of h
  have X44_4 : ∀ (a3 : Int64) (H : Heap) (locs : List Loc) (ls : Array Slot), fX0_commonDivisor_X9_44 a3 = some z → va_P D vwCl [] H → va_D A0 [] → va_S A0 s.heap H locs → lv_has ls 11 [(4, .long a3)] → W p l e ({ frames := 0, cells := 0, slots := 0, locals := 0 } : Room) s m args below meth c H locs 0 0 Q0 (F0 m 44 ls []) := by
    intro a3 H locs ls h hP hD hS hl
    unfold fX0_commonDivisor_X9_44 at h
    refine lv_lload hx hb dX0_commonDivisor_44 (lv_at hl 0 rfl) ?_
    obtain rfl := Option.some.inj h
    exact rt_l hA0 hQ0 hx hb hr hlocks hP hS dX0_commonDivisor_46
  have L9_5 : ∀ (n : Nat) (z1 : Int64 × Int64 × Int32) (H : Heap) (locs : List Loc) (ls : Array Slot), iter (fX0_commonDivisor_L9) n z1 = some e2 → va_P D vwCl [] H → va_D A0 [] → va_S A0 s.heap H locs → lv_has ls 11 [(4, .long z1.1), (6, .long z1.2.1), (8, .int z1.2.2)] → W p l e ({ frames := 0, cells := 0, slots := 0, locals := 0 } : Room) s m args below meth c H locs 0 0 Q0 (F0 m 9 ls []) := by
    intro n
    induction n with
    | zero => exact fun _ _ _ _ h => (iter_z h).elim
    | succ n ih =>
      intro z1 H locs ls h hP hD hS hl
      obtain ⟨r_e2, h, hn_e2⟩ := iter_s h
      unfold fX0_commonDivisor_L9 at h
      refine lv_iload hx hb dX0_commonDivisor_9 (lv_at hl 2 rfl) ?_
      refine lv_bipush (v := 100) hx hb dX0_commonDivisor_11 (by decide) ?_
      refine lv_icmp_ge (tgt := 44) hx hb dX0_commonDivisor_13 (by decide) (fun c6 => ?_) (fun c6 => ?_)
      · skip
        have h := (if_pos c6).symm.trans h
        obtain rfl := Option.some.inj h
        obtain rfl := Option.some.inj hn_e2
        exact X44_4 z1.1 _ _ _ hc_e2 hP hD hS (lv_sub hl [0] rfl)
      · skip
        have h := (if_neg c6).symm.trans h
        refine lv_lload hx hb dX0_commonDivisor_16 (lv_at hl 1 rfl) ?_
        refine lv_lconst (v := 0) hx hb dX0_commonDivisor_18 (by decide) ?_
        refine W.lcmp hx hb dX0_commonDivisor_19 ?_
        refine lv_if_eq (tgt := 44) hx hb dX0_commonDivisor_20 (by decide) (fun c7 => ?_) (fun c7 => ?_)
        · skip
          have h := (if_pos c7).symm.trans h
          obtain rfl := Option.some.inj h
          obtain rfl := Option.some.inj hn_e2
          exact X44_4 z1.1 _ _ _ hc_e2 hP hD hS (lv_sub hl [0] rfl)
        · skip
          have h := (if_neg c7).symm.trans h
          refine lv_lload hx hb dX0_commonDivisor_23 (lv_at hl 0 rfl) ?_
          refine lv_lload hx hb dX0_commonDivisor_25 (lv_at hl 1 rfl) ?_
          obtain ⟨g8, h⟩ := gd_of h
          refine lv_lrem hx hb dX0_commonDivisor_27 (nzl_of g8) ?_
          refine lv_lstore (lv' := [(9, .long (z1.1 - z1.1 / z1.2.1 * z1.2.1)), (4, .long z1.1), (6, .long z1.2.1), (8, .int z1.2.2)]) hx hb dX0_commonDivisor_28 hl (by decide) rfl (fun ls hl => ?_)
          refine lv_lload hx hb dX0_commonDivisor_30 (lv_at hl 2 rfl) ?_
          refine lv_lstore (lv' := [(4, .long z1.2.1), (9, .long (z1.1 - z1.1 / z1.2.1 * z1.2.1)), (6, .long z1.2.1), (8, .int z1.2.2)]) hx hb dX0_commonDivisor_32 hl (by decide) rfl (fun ls hl => ?_)
          refine lv_lload hx hb dX0_commonDivisor_34 (lv_at hl 1 rfl) ?_
          refine lv_lstore (lv' := [(6, .long (z1.1 - z1.1 / z1.2.1 * z1.2.1)), (4, .long z1.2.1), (9, .long (z1.1 - z1.1 / z1.2.1 * z1.2.1)), (8, .int z1.2.2)]) hx hb dX0_commonDivisor_36 hl (by decide) rfl (fun ls hl => ?_)
          refine lv_iinc (v := (z1.2.2 + 1)) (lv' := [(8, .int (z1.2.2 + 1)), (6, .long (z1.1 - z1.1 / z1.2.1 * z1.2.1)), (4, .long z1.2.1), (9, .long (z1.1 - z1.1 / z1.2.1 * z1.2.1))]) hx hb dX0_commonDivisor_38 hl (k := 3) rfl rfl (by decide) rfl (fun ls hl => ?_)
          refine lv_goto (tgt := 9) hx hb dX0_commonDivisor_41 (by decide) ?_
          obtain rfl := Option.some.inj h
          exact ih (z1.2.1, (z1.1 - z1.1 / z1.2.1 * z1.2.1), (z1.2.2 + 1)) _ _ _ hn_e2 hP hD hS (lv_sub hl [2, 1, 0] rfl)
  exact L9_5 FU (x0, x2, 0) _ _ _ he_e2 hP hD hS (lv_sub hl [2, 1, 0] rfl)
def fX0_worthOfAll_X4_35  (a3 : Int64) : Option (Int64) :=
  some a3
def fX0_worthOfAll_L4 (v_t_kind : Int32) (v_t_byLeaflets : Nat → Int64) (z1 : Int64 × Int32) : Option ((Int64 × Int32) ⊕ (Int64)) :=
  if 9 < z1.2 then (some (Sum.inr z1.1)) else (gd (inb z1.2 10) (some (Sum.inl ((z1.1 + ((v_t_byLeaflets z1.2.toNatClampNeg) * (((fX5_behindHand v_t_kind z1.2) : Int32).toInt64))), (z1.2 + 1)))))
def fX0_worthOfAll (v_t_all : Int64) (v_t_kind : Int32) (v_t_tenths : Int32) (v_t_byLeaflets : Nat → Int64) : Option (Int64) :=
  (iter (fX0_worthOfAll_L4 v_t_kind v_t_byLeaflets) FU (0, 0)).bind (fX0_worthOfAll_X4_35)
set_option maxHeartbeats 4000000 in
set_option maxRecDepth 100000 in
theorem c_X0_worthOfAll (l : Launch) (D : va_G) (cI cJ : ClassId) (q_t q_t_byLeaflets : Nat) (v_t_all : Int64) (v_t_kind : Int32) (v_t_tenths : Int32) (v_t_byLeaflets : Nat → Int64) (z : Int64) (h : fX0_worthOfAll v_t_all v_t_kind v_t_tenths v_t_byLeaflets = some z) : Met l yX0_worthOfAll wsX0_worthOfAll ({ frames := 2, cells := 0, slots := 0, locals := 45 } : Room) (va_Pc [.ref q_t] (preG D cI cJ [(q_t, .inr (0, [.ref q_t_byLeaflets, .long v_t_all, .int v_t_kind, .int v_t_tenths])), (q_t_byLeaflets, .inl (cJ, 10, .inr (.inl v_t_byLeaflets)))])) (QG D [(q_t, .inr (0, [.ref q_t_byLeaflets, .long v_t_all, .int v_t_kind, .int v_t_tenths])), (q_t_byLeaflets, .inl (cJ, 10, .inr (.inl v_t_byLeaflets)))] [(q_t, .inr (0, [.ref q_t_byLeaflets, .long v_t_all, .int v_t_kind, .int v_t_tenths])), (q_t_byLeaflets, .inl (cJ, 10, .inr (.inl v_t_byLeaflets)))] (some (.long z))) 0 0 (fr [(q_t, .inr (0, [.ref q_t_byLeaflets, .long v_t_all, .int v_t_kind, .int v_t_tenths])), (q_t_byLeaflets, .inl (cJ, 10, .inr (.inl v_t_byLeaflets)))]) := by
  refine Met.ofW (cc := cX0_worthOfAll) (maxL := 4) (ret := (some .long)) (by decide) rfl ?_
  intro p e s m args below meth c s₁ B hml hv
  obtain ⟨hargs, hP, hK, hN, hD0⟩ := hv
  have hx := B.exec
  have hb := B.bytes
  have hr := B.returns
  have hts := atoms_spec (ws := wsX0_worthOfAll) B.pre
  have hown : s.vm.findClass RX0 = some m.cls := findClass_of_methodNamed B.named
  have hlocks := B.notSynchronized
  have iX0 : ∀ w ∈ wsX00, w ∈ wsX0_worthOfAll := by decide +kernel
  have k9 := hts (.fieldLink RX0 9 "PressedFerns$Chances" "byLeaflets" "[J") (by decide +kernel)
  have k28 := hts (.fieldLink RX0 28 "PressedFerns$Chances" "kind" "I") (by decide +kernel)
  have hD := fr_D hD0
  have hS : va_S (fr [(q_t, .inr (0, [.ref q_t_byLeaflets, .long v_t_all, .int v_t_kind, .int v_t_tenths])), (q_t_byLeaflets, .inl (cJ, 10, .inr (.inl v_t_byLeaflets)))]) s.heap s.heap [] := va_S.rf
  have hl := lv_entry ([.ref q_t]) (n := 4) (Nat.le_of_ble_eq_true rfl)
  refine W.eq (g2 := F0 m 0 ((lg_sl ([.ref q_t]) ++ List.replicate (4 - (lg_sl ([.ref q_t])).length) Slot.unset).toArray) []) (by rw [hargs, lg_entry_eq]) ?_
  generalize (lg_sl ([.ref q_t]) ++ List.replicate (4 - (lg_sl ([.ref q_t])).length) Slot.unset).toArray = ls at hl ⊢
  have hl : lv_has ls 4 [(0, .ref q_t)] := hl
  show W p l e ({ frames := 2, cells := 0, slots := 0, locals := 45 } : Room) s m args below meth c s.heap [] 0 0 (MQ below (QG D [(q_t, .inr (0, [.ref q_t_byLeaflets, .long v_t_all, .int v_t_kind, .int v_t_tenths])), (q_t_byLeaflets, .inl (cJ, 10, .inr (.inl v_t_byLeaflets)))] [(q_t, .inr (0, [.ref q_t_byLeaflets, .long v_t_all, .int v_t_kind, .int v_t_tenths])), (q_t_byLeaflets, .inl (cJ, 10, .inr (.inl v_t_byLeaflets)))] (some (.long z))) args s 0 0 (fr [(q_t, .inr (0, [.ref q_t_byLeaflets, .long v_t_all, .int v_t_kind, .int v_t_tenths])), (q_t_byLeaflets, .inl (cJ, 10, .inr (.inl v_t_byLeaflets)))])) (F0 m 0 ls [])
  generalize hQ0 : (MQ below (QG D [(q_t, .inr (0, [.ref q_t_byLeaflets, .long v_t_all, .int v_t_kind, .int v_t_tenths])), (q_t_byLeaflets, .inl (cJ, 10, .inr (.inl v_t_byLeaflets)))] [(q_t, .inr (0, [.ref q_t_byLeaflets, .long v_t_all, .int v_t_kind, .int v_t_tenths])), (q_t_byLeaflets, .inl (cJ, 10, .inr (.inl v_t_byLeaflets)))] (some (.long z))) args s 0 0 (fr [(q_t, .inr (0, [.ref q_t_byLeaflets, .long v_t_all, .int v_t_kind, .int v_t_tenths])), (q_t_byLeaflets, .inl (cJ, 10, .inr (.inl v_t_byLeaflets)))])) = Q0
  generalize hA0 : fr [(q_t, .inr (0, [.ref q_t_byLeaflets, .long v_t_all, .int v_t_kind, .int v_t_tenths])), (q_t_byLeaflets, .inl (cJ, 10, .inr (.inl v_t_byLeaflets)))] = A0 at hD hS
  unfold fX0_worthOfAll at h
  refine lv_lconst (v := 0) hx hb dX0_worthOfAll_0 (by decide) ?_
  refine lv_lstore_n (lv' := [(1, .long 0), (0, .ref q_t)]) hx hb dX0_worthOfAll_1 rfl hl (by decide) rfl (fun ls hl => ?_)
  refine lv_iconst (v := 0) hx hb dX0_worthOfAll_2 (by decide) ?_
  refine lv_istore_n (lv' := [(3, .int 0), (1, .long 0), (0, .ref q_t)]) hx hb dX0_worthOfAll_3 rfl hl (by decide) rfl (fun ls hl => ?_)
  obtain ⟨e2, he_e2, hc_e2⟩ := bd_of h
  have X35_4 : ∀ (a3 : Int64) (H : Heap) (locs : List Loc) (ls : Array Slot), fX0_worthOfAll_X4_35 a3 = some z → va_P D vwCl [(q_t, .inr (0, [.ref q_t_byLeaflets, .long v_t_all, .int v_t_kind, .int v_t_tenths])), (q_t_byLeaflets, .inl (cJ, 10, .inr (.inl v_t_byLeaflets)))] H → va_D A0 [(q_t, .inr (0, [.ref q_t_byLeaflets, .long v_t_all, .int v_t_kind, .int v_t_tenths])), (q_t_byLeaflets, .inl (cJ, 10, .inr (.inl v_t_byLeaflets)))] → va_S A0 s.heap H locs → lv_has ls 4 [(1, .long a3)] → W p l e ({ frames := 2, cells := 0, slots := 0, locals := 45 } : Room) s m args below meth c H locs 0 0 Q0 (F0 m 35 ls []) := by
    intro a3 H locs ls h hP hD hS hl
    unfold fX0_worthOfAll_X4_35 at h
    refine lv_lload_n hx hb dX0_worthOfAll_35 rfl (lv_at hl 0 rfl) ?_
    obtain rfl := Option.some.inj h
    exact rt_l hA0 hQ0 hx hb hr hlocks hP hS dX0_worthOfAll_36
  have L4_5 : ∀ (n : Nat) (z1 : Int64 × Int32) (H : Heap) (locs : List Loc) (ls : Array Slot), iter (fX0_worthOfAll_L4 v_t_kind v_t_byLeaflets) n z1 = some e2 → va_P D vwCl [(q_t, .inr (0, [.ref q_t_byLeaflets, .long v_t_all, .int v_t_kind, .int v_t_tenths])), (q_t_byLeaflets, .inl (cJ, 10, .inr (.inl v_t_byLeaflets)))] H → va_D A0 [(q_t, .inr (0, [.ref q_t_byLeaflets, .long v_t_all, .int v_t_kind, .int v_t_tenths])), (q_t_byLeaflets, .inl (cJ, 10, .inr (.inl v_t_byLeaflets)))] → va_S A0 s.heap H locs → lv_has ls 4 [(0, .ref q_t), (1, .long z1.1), (3, .int z1.2)] → W p l e ({ frames := 2, cells := 0, slots := 0, locals := 45 } : Room) s m args below meth c H locs 0 0 Q0 (F0 m 4 ls []) := by
    intro n
    induction n with
    | zero => exact fun _ _ _ _ h => (iter_z h).elim
    | succ n ih =>
      intro z1 H locs ls h hP hD hS hl
      obtain ⟨r_e2, h, hn_e2⟩ := iter_s h
      unfold fX0_worthOfAll_L4 at h
      refine lv_iload_n hx hb dX0_worthOfAll_4 rfl (lv_at hl 2 rfl) ?_
      refine lv_bipush (v := 9) hx hb dX0_worthOfAll_5 (by decide) ?_
      refine lv_icmp_gt (tgt := 35) hx hb dX0_worthOfAll_7 (by decide) (fun c6 => ?_) (fun c6 => ?_)
      · skip
        have h := (if_pos c6).symm.trans h
        obtain rfl := Option.some.inj h
        obtain rfl := Option.some.inj hn_e2
        exact X35_4 z1.1 _ _ _ hc_e2 hP hD hS (lv_sub hl [1] rfl)
      · skip
        have h := (if_neg c6).symm.trans h
        refine lv_lload_n hx hb dX0_worthOfAll_10 rfl (lv_at hl 1 rfl) ?_
        refine lv_aload_n hx hb dX0_worthOfAll_11 rfl (lv_at hl 0 rfl) ?_
        refine va_get (own := RX0) (ci := 0) (v := .ref q_t_byLeaflets) (C := RX0) (T := TX0) (N := 4) hx hb hts iX0 hown hK hP 0 rfl rfl 0 (by decide) k9 (fun _ h9 => h9) rfl dX0_worthOfAll_12 ?_
        refine lv_iload_n hx hb dX0_worthOfAll_15 rfl (lv_at hl 2 rfl) ?_
        obtain ⟨g7, h⟩ := gd_of h
        refine va_lald hx hb hK hP 1 1 rfl rfl (inb_of g7) dX0_worthOfAll_16 ?_
        refine lv_aload_n hx hb dX0_worthOfAll_17 rfl (lv_at hl 0 rfl) ?_
        refine va_get (own := RX0) (ci := 0) (v := .int v_t_kind) (C := RX0) (T := TX0) (N := 4) hx hb hts iX0 hown hK hP 0 rfl rfl 2 (by decide) k28 (fun _ h9 => h9) rfl dX0_worthOfAll_18 ?_
        refine lv_iload_n hx hb dX0_worthOfAll_21 rfl (lv_at hl 2 rfl) ?_
        refine cl_S [(q_t, .inr (0, [.ref q_t_byLeaflets, .long v_t_all, .int v_t_kind, .int v_t_tenths])), (q_t_byLeaflets, .inl (cJ, 10, .inr (.inl v_t_byLeaflets)))] (As := [.int v_t_kind, .int z1.2]) (rest := [.long (v_t_byLeaflets z1.2.toNatClampNeg), .long z1.1]) (rv := (some (.int (fX5_behindHand v_t_kind z1.2)))) (c_X5_behindHand l D cI cJ v_t_kind z1.2) ⟨hx, hb, hml, hown, hts⟩ (va_cwS 2 hts gX0_worthOfAll_X5_behindHand rfl rfl rfl (by decide +kernel) ⟨(Nat.le_of_ble_eq_true rfl), (Nat.le_of_ble_eq_true rfl)⟩) hK hN hP hD hS [] rfl (by decide) rfl rfl rfl rfl hl.1 rfl (Nat.le_of_ble_eq_true rfl) dX0_worthOfAll_22 ⟨Nat.zero_le _, Nat.zero_le _⟩ (fun H locs hP hD hS => ?_)
        show W p l e ({ frames := 2, cells := 0, slots := 0, locals := 45 } : Room) s m args below meth c H locs 0 0 Q0 (F0 m 25 ls [.int (fX5_behindHand v_t_kind z1.2), .long (v_t_byLeaflets z1.2.toNatClampNeg), .long z1.1])
        refine lv_i2l hx hb dX0_worthOfAll_25 rfl ?_
        refine lv_lmul hx hb dX0_worthOfAll_26 ?_
        refine lv_ladd hx hb dX0_worthOfAll_27 ?_
        refine lv_lstore_n (lv' := [(1, .long (z1.1 + ((v_t_byLeaflets z1.2.toNatClampNeg) * (((fX5_behindHand v_t_kind z1.2) : Int32).toInt64)))), (0, .ref q_t), (3, .int z1.2)]) hx hb dX0_worthOfAll_28 rfl hl (by decide) rfl (fun ls hl => ?_)
        refine lv_iinc (v := (z1.2 + 1)) (lv' := [(3, .int (z1.2 + 1)), (1, .long (z1.1 + ((v_t_byLeaflets z1.2.toNatClampNeg) * (((fX5_behindHand v_t_kind z1.2) : Int32).toInt64)))), (0, .ref q_t)]) hx hb dX0_worthOfAll_29 hl (k := 2) rfl rfl (by decide) rfl (fun ls hl => ?_)
        refine lv_goto (tgt := 4) hx hb dX0_worthOfAll_32 (by decide) ?_
        obtain rfl := Option.some.inj h
        exact ih ((z1.1 + ((v_t_byLeaflets z1.2.toNatClampNeg) * (((fX5_behindHand v_t_kind z1.2) : Int32).toInt64))), (z1.2 + 1)) _ _ _ hn_e2 hP hD hS (lv_sub hl [2, 1, 0] rfl)
  exact L4_5 FU (0, 0) _ _ _ he_e2 hP hD hS (lv_sub hl [2, 1, 0] rfl)
def fX0_meanInLowestTerms (v_t_all : Int64) (v_t_kind : Int32) (v_t_tenths : Int32) (v_t_byLeaflets : Nat → Int64) (x1 : Int32) : Option (Int64) :=
  (fX0_worthOfAll v_t_all v_t_kind v_t_tenths v_t_byLeaflets).bind (fun u1 => (fX0_commonDivisor u1 v_t_all).bind (fun u3 => if (lg_cmp u3 0) = 0 then (some 0) else (if x1 = 0 then (gd (nzl u3) (some (u1 / u3))) else (gd (nzl u3) (some (v_t_all / u3))))))
set_option maxHeartbeats 4000000 in
set_option maxRecDepth 100000 in
theorem c_X0_meanInLowestTerms (l : Launch) (D : va_G) (cI cJ : ClassId) (q_t q_t_byLeaflets : Nat) (v_t_all : Int64) (v_t_kind : Int32) (v_t_tenths : Int32) (v_t_byLeaflets : Nat → Int64) (x1 : Int32) (z : Int64) (h : fX0_meanInLowestTerms v_t_all v_t_kind v_t_tenths v_t_byLeaflets x1 = some z) : Met l yX0_meanInLowestTerms wsX0_meanInLowestTerms ({ frames := 3, cells := 0, slots := 0, locals := 68 } : Room) (va_Pc [.ref q_t, .int x1] (preG D cI cJ [(q_t, .inr (0, [.ref q_t_byLeaflets, .long v_t_all, .int v_t_kind, .int v_t_tenths])), (q_t_byLeaflets, .inl (cJ, 10, .inr (.inl v_t_byLeaflets)))])) (QG D [(q_t, .inr (0, [.ref q_t_byLeaflets, .long v_t_all, .int v_t_kind, .int v_t_tenths])), (q_t_byLeaflets, .inl (cJ, 10, .inr (.inl v_t_byLeaflets)))] [(q_t, .inr (0, [.ref q_t_byLeaflets, .long v_t_all, .int v_t_kind, .int v_t_tenths])), (q_t_byLeaflets, .inl (cJ, 10, .inr (.inl v_t_byLeaflets)))] (some (.long z))) 0 0 (fr [(q_t, .inr (0, [.ref q_t_byLeaflets, .long v_t_all, .int v_t_kind, .int v_t_tenths])), (q_t_byLeaflets, .inl (cJ, 10, .inr (.inl v_t_byLeaflets)))]) := by
  refine Met.ofW (cc := cX0_meanInLowestTerms) (maxL := 6) (ret := (some .long)) (by decide) rfl ?_
  intro p e s m args below meth c s₁ B hml hv
  obtain ⟨hargs, hP, hK, hN, hD0⟩ := hv
  have hx := B.exec
  have hb := B.bytes
  have hr := B.returns
  have hts := atoms_spec (ws := wsX0_meanInLowestTerms) B.pre
  have hown : s.vm.findClass RX0 = some m.cls := findClass_of_methodNamed B.named
  have hlocks := B.notSynchronized
  have iX0 : ∀ w ∈ wsX00, w ∈ wsX0_meanInLowestTerms := by decide +kernel
  have k21 := hts (.fieldLink RX0 21 "PressedFerns$Chances" "all" "J") (by decide +kernel)
  have hD := fr_D hD0
  have hS : va_S (fr [(q_t, .inr (0, [.ref q_t_byLeaflets, .long v_t_all, .int v_t_kind, .int v_t_tenths])), (q_t_byLeaflets, .inl (cJ, 10, .inr (.inl v_t_byLeaflets)))]) s.heap s.heap [] := va_S.rf
  have hl := lv_entry ([.ref q_t, .int x1]) (n := 6) (Nat.le_of_ble_eq_true rfl)
  refine W.eq (g2 := F0 m 0 ((lg_sl ([.ref q_t, .int x1]) ++ List.replicate (6 - (lg_sl ([.ref q_t, .int x1])).length) Slot.unset).toArray) []) (by rw [hargs, lg_entry_eq]) ?_
  generalize (lg_sl ([.ref q_t, .int x1]) ++ List.replicate (6 - (lg_sl ([.ref q_t, .int x1])).length) Slot.unset).toArray = ls at hl ⊢
  have hl : lv_has ls 6 [(0, .ref q_t), (1, .int x1)] := hl
  show W p l e ({ frames := 3, cells := 0, slots := 0, locals := 68 } : Room) s m args below meth c s.heap [] 0 0 (MQ below (QG D [(q_t, .inr (0, [.ref q_t_byLeaflets, .long v_t_all, .int v_t_kind, .int v_t_tenths])), (q_t_byLeaflets, .inl (cJ, 10, .inr (.inl v_t_byLeaflets)))] [(q_t, .inr (0, [.ref q_t_byLeaflets, .long v_t_all, .int v_t_kind, .int v_t_tenths])), (q_t_byLeaflets, .inl (cJ, 10, .inr (.inl v_t_byLeaflets)))] (some (.long z))) args s 0 0 (fr [(q_t, .inr (0, [.ref q_t_byLeaflets, .long v_t_all, .int v_t_kind, .int v_t_tenths])), (q_t_byLeaflets, .inl (cJ, 10, .inr (.inl v_t_byLeaflets)))])) (F0 m 0 ls [])
  generalize hQ0 : (MQ below (QG D [(q_t, .inr (0, [.ref q_t_byLeaflets, .long v_t_all, .int v_t_kind, .int v_t_tenths])), (q_t_byLeaflets, .inl (cJ, 10, .inr (.inl v_t_byLeaflets)))] [(q_t, .inr (0, [.ref q_t_byLeaflets, .long v_t_all, .int v_t_kind, .int v_t_tenths])), (q_t_byLeaflets, .inl (cJ, 10, .inr (.inl v_t_byLeaflets)))] (some (.long z))) args s 0 0 (fr [(q_t, .inr (0, [.ref q_t_byLeaflets, .long v_t_all, .int v_t_kind, .int v_t_tenths])), (q_t_byLeaflets, .inl (cJ, 10, .inr (.inl v_t_byLeaflets)))])) = Q0
  generalize hA0 : fr [(q_t, .inr (0, [.ref q_t_byLeaflets, .long v_t_all, .int v_t_kind, .int v_t_tenths])), (q_t_byLeaflets, .inl (cJ, 10, .inr (.inl v_t_byLeaflets)))] = A0 at hD hS
  unfold fX0_meanInLowestTerms at h
  refine lv_aload_n hx hb dX0_meanInLowestTerms_0 rfl (lv_at hl 0 rfl) ?_
  obtain ⟨u1, g2, h⟩ := bd_of h
  refine cl_V [(q_t, .inr (0, [.ref q_t_byLeaflets, .long v_t_all, .int v_t_kind, .int v_t_tenths])), (q_t_byLeaflets, .inl (cJ, 10, .inr (.inl v_t_byLeaflets)))] (As := []) (rest := []) (rv := (some (.long u1))) (c_X0_worthOfAll l D cI cJ q_t q_t_byLeaflets v_t_all v_t_kind v_t_tenths v_t_byLeaflets u1 g2) ⟨hx, hb, hml, hown, hts⟩ (cwV 0 hts gX0_meanInLowestTerms_X0_worthOfAll rfl rfl rfl (by decide +kernel) ⟨(Nat.le_of_ble_eq_true rfl), (Nat.le_of_ble_eq_true rfl)⟩) hK hN hP hD hS [0, 1] rfl (by decide) rfl rfl rfl (q0 := 0) (ci := 0) rfl rfl rfl rfl hl.1 rfl (Nat.le_of_ble_eq_true rfl) dX0_meanInLowestTerms_1 ⟨Nat.zero_le _, Nat.zero_le _⟩ (fun H locs hP hD hS => ?_)
  show W p l e ({ frames := 3, cells := 0, slots := 0, locals := 68 } : Room) s m args below meth c H locs 0 0 Q0 (F0 m 4 ls [.long u1])
  refine lv_lstore_n (lv' := [(2, .long u1), (0, .ref q_t), (1, .int x1)]) hx hb dX0_meanInLowestTerms_4 rfl hl (by decide) rfl (fun ls hl => ?_)
  refine lv_lload_n hx hb dX0_meanInLowestTerms_5 rfl (lv_at hl 0 rfl) ?_
  refine lv_aload_n hx hb dX0_meanInLowestTerms_6 rfl (lv_at hl 1 rfl) ?_
  refine va_get (own := RX0) (ci := 0) (v := .long v_t_all) (C := RX0) (T := TX0) (N := 4) hx hb hts iX0 hown hK hP 0 rfl rfl 1 (by decide) k21 (fun _ h9 => h9) rfl dX0_meanInLowestTerms_7 ?_
  obtain ⟨u3, g4, h⟩ := bd_of h
  refine cl_S [(q_t, .inr (0, [.ref q_t_byLeaflets, .long v_t_all, .int v_t_kind, .int v_t_tenths])), (q_t_byLeaflets, .inl (cJ, 10, .inr (.inl v_t_byLeaflets)))] (As := [.long u1, .long v_t_all]) (rest := []) (rv := (some (.long u3))) (c_X0_commonDivisor l D cI cJ u1 v_t_all u3 g4) ⟨hx, hb, hml, hown, hts⟩ (va_cwS 2 hts gX0_meanInLowestTerms_X0_commonDivisor rfl rfl rfl (by decide +kernel) ⟨(Nat.le_of_ble_eq_true rfl), (Nat.le_of_ble_eq_true rfl)⟩) hK hN hP hD hS [] rfl (by decide) rfl rfl rfl rfl hl.1 rfl (Nat.le_of_ble_eq_true rfl) dX0_meanInLowestTerms_10 ⟨Nat.zero_le _, Nat.zero_le _⟩ (fun H locs hP hD hS => ?_)
  show W p l e ({ frames := 3, cells := 0, slots := 0, locals := 68 } : Room) s m args below meth c H locs 0 0 Q0 (F0 m 13 ls [.long u3])
  refine lv_lstore (lv' := [(4, .long u3), (2, .long u1), (0, .ref q_t), (1, .int x1)]) hx hb dX0_meanInLowestTerms_13 hl (by decide) rfl (fun ls hl => ?_)
  refine lv_lload hx hb dX0_meanInLowestTerms_15 (lv_at hl 0 rfl) ?_
  refine lv_lconst (v := 0) hx hb dX0_meanInLowestTerms_17 (by decide) ?_
  refine W.lcmp hx hb dX0_meanInLowestTerms_18 ?_
  refine lv_if_ne (tgt := 24) hx hb dX0_meanInLowestTerms_19 (by decide) (fun c5 => ?_) (fun c5 => ?_)
  · skip
    have h := (if_neg c5).symm.trans h
    refine lv_iload_n hx hb dX0_meanInLowestTerms_24 rfl (lv_at hl 3 rfl) ?_
    refine lv_if_ne (tgt := 35) hx hb dX0_meanInLowestTerms_25 (by decide) (fun c6 => ?_) (fun c6 => ?_)
    · skip
      have h := (if_neg c6).symm.trans h
      refine lv_aload_n hx hb dX0_meanInLowestTerms_35 rfl (lv_at hl 2 rfl) ?_
      refine va_get (own := RX0) (ci := 0) (v := .long v_t_all) (C := RX0) (T := TX0) (N := 4) hx hb hts iX0 hown hK hP 0 rfl rfl 1 (by decide) k21 (fun _ h9 => h9) rfl dX0_meanInLowestTerms_36 ?_
      refine lv_lload hx hb dX0_meanInLowestTerms_39 (lv_at hl 0 rfl) ?_
      obtain ⟨g7, h⟩ := gd_of h
      refine lv_ldiv hx hb dX0_meanInLowestTerms_41 (nzl_of g7) ?_
      obtain rfl := Option.some.inj h
      exact rt_l hA0 hQ0 hx hb hr hlocks hP hS dX0_meanInLowestTerms_42
    · skip
      have h := (if_pos c6).symm.trans h
      refine lv_lload_n hx hb dX0_meanInLowestTerms_28 rfl (lv_at hl 1 rfl) ?_
      refine lv_lload hx hb dX0_meanInLowestTerms_29 (lv_at hl 0 rfl) ?_
      obtain ⟨g8, h⟩ := gd_of h
      refine lv_ldiv hx hb dX0_meanInLowestTerms_31 (nzl_of g8) ?_
      refine lv_goto (tgt := 42) hx hb dX0_meanInLowestTerms_32 (by decide) ?_
      obtain rfl := Option.some.inj h
      exact rt_l hA0 hQ0 hx hb hr hlocks hP hS dX0_meanInLowestTerms_42
  · skip
    have h := (if_pos c5).symm.trans h
    refine lv_lconst (v := 0) hx hb dX0_meanInLowestTerms_22 (by decide) ?_
    obtain rfl := Option.some.inj h
    exact rt_l hA0 hQ0 hx hb hr hlocks hP hS dX0_meanInLowestTerms_23
def fX0_lastMonthOfNoLess_X11_45  (a5 : Int32 × Int64 × (Nat → Int64)) : Option (Int32 × Int64 × (Nat → Int64)) :=
  some (a5.1, a5.2.1, a5.2.2)
def fX0_lastMonthOfNoLess_L11 (v_t_kind : Int32) (v_t_tenths : Int32) (x1 : Int32) (u1 : Int64) (z3 : Int32 × Int32 × Int64 × (Nat → Int64)) : Option ((Int32 × Int32 × Int64 × (Nat → Int64)) ⊕ (Int32 × Int64 × (Nat → Int64))) :=
  if x1 < z3.2.1 then (some (Sum.inr (z3.1, z3.2.2.1, z3.2.2.2))) else ((fX0_passMonth z3.2.2.1 v_t_kind v_t_tenths z3.2.2.2).bind (fun u9 => (fX0_worthOfAll u9.1 v_t_kind v_t_tenths u9.2).bind (fun u11 => some (Sum.inl ((if (lg_cmp u11 (u1 * u9.1)) < 0 then z3.1 else z3.2.1 : Int32), (z3.2.1 + 1), u9.1, u9.2)))))
def fX0_lastMonthOfNoLess (v_t_all : Int64) (v_t_kind : Int32) (v_t_tenths : Int32) (v_t_byLeaflets : Nat → Int64) (x1 : Int32) : Option (Int32 × Int64 × (Nat → Int64)) :=
  (fX0_worthOfAll v_t_all v_t_kind v_t_tenths v_t_byLeaflets).bind (fun u1 => (iter (fX0_lastMonthOfNoLess_L11 v_t_kind v_t_tenths x1 u1) FU (0, 1, v_t_all, v_t_byLeaflets)).bind (fX0_lastMonthOfNoLess_X11_45))
set_option maxHeartbeats 4000000 in
set_option maxRecDepth 100000 in
theorem c_X0_lastMonthOfNoLess (l : Launch) (D : va_G) (cI cJ : ClassId) (q_t q_t_byLeaflets : Nat) (v_t_all : Int64) (v_t_kind : Int32) (v_t_tenths : Int32) (v_t_byLeaflets : Nat → Int64) (x1 : Int32) (z : Int32 × Int64 × (Nat → Int64)) (h : fX0_lastMonthOfNoLess v_t_all v_t_kind v_t_tenths v_t_byLeaflets x1 = some z) : Met l yX0_lastMonthOfNoLess wsX0_lastMonthOfNoLess ({ frames := 3, cells := 0, slots := 0, locals := 68 } : Room) (va_Pc [.ref q_t, .int x1] (preG D cI cJ [(q_t, .inr (0, [.ref q_t_byLeaflets, .long v_t_all, .int v_t_kind, .int v_t_tenths])), (q_t_byLeaflets, .inl (cJ, 10, .inr (.inl v_t_byLeaflets)))])) (QG D [(q_t, .inr (0, [.ref q_t_byLeaflets, .long v_t_all, .int v_t_kind, .int v_t_tenths])), (q_t_byLeaflets, .inl (cJ, 10, .inr (.inl v_t_byLeaflets)))] [(q_t, .inr (0, [.ref q_t_byLeaflets, .long z.2.1, .int v_t_kind, .int v_t_tenths])), (q_t_byLeaflets, .inl (cJ, 10, .inr (.inl z.2.2)))] (some (.int z.1))) 0 0 (fr [(q_t, .inr (0, [.ref q_t_byLeaflets, .long v_t_all, .int v_t_kind, .int v_t_tenths])), (q_t_byLeaflets, .inl (cJ, 10, .inr (.inl v_t_byLeaflets)))]) := by
  refine Met.ofW (cc := cX0_lastMonthOfNoLess) (maxL := 6) (ret := (some .int)) (by decide) rfl ?_
  intro p e s m args below meth c s₁ B hml hv
  obtain ⟨hargs, hP, hK, hN, hD0⟩ := hv
  have hx := B.exec
  have hb := B.bytes
  have hr := B.returns
  have hts := atoms_spec (ws := wsX0_lastMonthOfNoLess) B.pre
  have hown : s.vm.findClass RX0 = some m.cls := findClass_of_methodNamed B.named
  have hlocks := B.notSynchronized
  have iX0 : ∀ w ∈ wsX00, w ∈ wsX0_lastMonthOfNoLess := by decide +kernel
  have k21 := hts (.fieldLink RX0 21 "PressedFerns$Chances" "all" "J") (by decide +kernel)
  have hD := fr_D hD0
  have hS : va_S (fr [(q_t, .inr (0, [.ref q_t_byLeaflets, .long v_t_all, .int v_t_kind, .int v_t_tenths])), (q_t_byLeaflets, .inl (cJ, 10, .inr (.inl v_t_byLeaflets)))]) s.heap s.heap [] := va_S.rf
  have hl := lv_entry ([.ref q_t, .int x1]) (n := 6) (Nat.le_of_ble_eq_true rfl)
  refine W.eq (g2 := F0 m 0 ((lg_sl ([.ref q_t, .int x1]) ++ List.replicate (6 - (lg_sl ([.ref q_t, .int x1])).length) Slot.unset).toArray) []) (by rw [hargs, lg_entry_eq]) ?_
  generalize (lg_sl ([.ref q_t, .int x1]) ++ List.replicate (6 - (lg_sl ([.ref q_t, .int x1])).length) Slot.unset).toArray = ls at hl ⊢
  have hl : lv_has ls 6 [(0, .ref q_t), (1, .int x1)] := hl
  show W p l e ({ frames := 3, cells := 0, slots := 0, locals := 68 } : Room) s m args below meth c s.heap [] 0 0 (MQ below (QG D [(q_t, .inr (0, [.ref q_t_byLeaflets, .long v_t_all, .int v_t_kind, .int v_t_tenths])), (q_t_byLeaflets, .inl (cJ, 10, .inr (.inl v_t_byLeaflets)))] [(q_t, .inr (0, [.ref q_t_byLeaflets, .long z.2.1, .int v_t_kind, .int v_t_tenths])), (q_t_byLeaflets, .inl (cJ, 10, .inr (.inl z.2.2)))] (some (.int z.1))) args s 0 0 (fr [(q_t, .inr (0, [.ref q_t_byLeaflets, .long v_t_all, .int v_t_kind, .int v_t_tenths])), (q_t_byLeaflets, .inl (cJ, 10, .inr (.inl v_t_byLeaflets)))])) (F0 m 0 ls [])
  generalize hQ0 : (MQ below (QG D [(q_t, .inr (0, [.ref q_t_byLeaflets, .long v_t_all, .int v_t_kind, .int v_t_tenths])), (q_t_byLeaflets, .inl (cJ, 10, .inr (.inl v_t_byLeaflets)))] [(q_t, .inr (0, [.ref q_t_byLeaflets, .long z.2.1, .int v_t_kind, .int v_t_tenths])), (q_t_byLeaflets, .inl (cJ, 10, .inr (.inl z.2.2)))] (some (.int z.1))) args s 0 0 (fr [(q_t, .inr (0, [.ref q_t_byLeaflets, .long v_t_all, .int v_t_kind, .int v_t_tenths])), (q_t_byLeaflets, .inl (cJ, 10, .inr (.inl v_t_byLeaflets)))])) = Q0
  generalize hA0 : fr [(q_t, .inr (0, [.ref q_t_byLeaflets, .long v_t_all, .int v_t_kind, .int v_t_tenths])), (q_t_byLeaflets, .inl (cJ, 10, .inr (.inl v_t_byLeaflets)))] = A0 at hD hS
  unfold fX0_lastMonthOfNoLess at h
  refine lv_aload_n hx hb dX0_lastMonthOfNoLess_0 rfl (lv_at hl 0 rfl) ?_
  obtain ⟨u1, g2, h⟩ := bd_of h
  refine cl_V [(q_t, .inr (0, [.ref q_t_byLeaflets, .long v_t_all, .int v_t_kind, .int v_t_tenths])), (q_t_byLeaflets, .inl (cJ, 10, .inr (.inl v_t_byLeaflets)))] (As := []) (rest := []) (rv := (some (.long u1))) (c_X0_worthOfAll l D cI cJ q_t q_t_byLeaflets v_t_all v_t_kind v_t_tenths v_t_byLeaflets u1 g2) ⟨hx, hb, hml, hown, hts⟩ (cwV 0 hts gX0_lastMonthOfNoLess_X0_worthOfAll rfl rfl rfl (by decide +kernel) ⟨(Nat.le_of_ble_eq_true rfl), (Nat.le_of_ble_eq_true rfl)⟩) hK hN hP hD hS [0, 1] rfl (by decide) rfl rfl rfl (q0 := 0) (ci := 0) rfl rfl rfl rfl hl.1 rfl (Nat.le_of_ble_eq_true rfl) dX0_lastMonthOfNoLess_1 ⟨Nat.zero_le _, Nat.zero_le _⟩ (fun H locs hP hD hS => ?_)
  show W p l e ({ frames := 3, cells := 0, slots := 0, locals := 68 } : Room) s m args below meth c H locs 0 0 Q0 (F0 m 4 ls [.long u1])
  refine lv_lstore_n (lv' := [(2, .long u1), (0, .ref q_t), (1, .int x1)]) hx hb dX0_lastMonthOfNoLess_4 rfl hl (by decide) rfl (fun ls hl => ?_)
  refine lv_iconst (v := 0) hx hb dX0_lastMonthOfNoLess_5 (by decide) ?_
  refine lv_istore (lv' := [(4, .int 0), (2, .long u1), (0, .ref q_t), (1, .int x1)]) hx hb dX0_lastMonthOfNoLess_6 hl (by decide) rfl (fun ls hl => ?_)
  refine lv_iconst (v := 1) hx hb dX0_lastMonthOfNoLess_8 (by decide) ?_
  refine lv_istore (lv' := [(5, .int 1), (4, .int 0), (2, .long u1), (0, .ref q_t), (1, .int x1)]) hx hb dX0_lastMonthOfNoLess_9 hl (by decide) rfl (fun ls hl => ?_)
  obtain ⟨e4, he_e4, hc_e4⟩ := bd_of h
  have X45_6 : ∀ (a5 : Int32 × Int64 × (Nat → Int64)) (H : Heap) (locs : List Loc) (ls : Array Slot), fX0_lastMonthOfNoLess_X11_45 a5 = some z → va_P D vwCl [(q_t, .inr (0, [.ref q_t_byLeaflets, .long a5.2.1, .int v_t_kind, .int v_t_tenths])), (q_t_byLeaflets, .inl (cJ, 10, .inr (.inl a5.2.2)))] H → va_D A0 [(q_t, .inr (0, [.ref q_t_byLeaflets, .long a5.2.1, .int v_t_kind, .int v_t_tenths])), (q_t_byLeaflets, .inl (cJ, 10, .inr (.inl a5.2.2)))] → va_S A0 s.heap H locs → lv_has ls 6 [(4, .int a5.1)] → W p l e ({ frames := 3, cells := 0, slots := 0, locals := 68 } : Room) s m args below meth c H locs 0 0 Q0 (F0 m 45 ls []) := by
    intro a5 H locs ls h hP hD hS hl
    unfold fX0_lastMonthOfNoLess_X11_45 at h
    refine lv_iload hx hb dX0_lastMonthOfNoLess_45 (lv_at hl 0 rfl) ?_
    obtain rfl := Option.some.inj h
    exact rt_i hA0 hQ0 hx hb hr hlocks hP hS dX0_lastMonthOfNoLess_47
  have L11_7 : ∀ (n : Nat) (z3 : Int32 × Int32 × Int64 × (Nat → Int64)) (H : Heap) (locs : List Loc) (ls : Array Slot), iter (fX0_lastMonthOfNoLess_L11 v_t_kind v_t_tenths x1 u1) n z3 = some e4 → va_P D vwCl [(q_t, .inr (0, [.ref q_t_byLeaflets, .long z3.2.2.1, .int v_t_kind, .int v_t_tenths])), (q_t_byLeaflets, .inl (cJ, 10, .inr (.inl z3.2.2.2)))] H → va_D A0 [(q_t, .inr (0, [.ref q_t_byLeaflets, .long z3.2.2.1, .int v_t_kind, .int v_t_tenths])), (q_t_byLeaflets, .inl (cJ, 10, .inr (.inl z3.2.2.2)))] → va_S A0 s.heap H locs → lv_has ls 6 [(0, .ref q_t), (1, .int x1), (2, .long u1), (4, .int z3.1), (5, .int z3.2.1)] → W p l e ({ frames := 3, cells := 0, slots := 0, locals := 68 } : Room) s m args below meth c H locs 0 0 Q0 (F0 m 11 ls []) := by
    intro n
    induction n with
    | zero => exact fun _ _ _ _ h => (iter_z h).elim
    | succ n ih =>
      intro z3 H locs ls h hP hD hS hl
      obtain ⟨r_e4, h, hn_e4⟩ := iter_s h
      unfold fX0_lastMonthOfNoLess_L11 at h
      refine lv_iload hx hb dX0_lastMonthOfNoLess_11 (lv_at hl 4 rfl) ?_
      refine lv_iload_n hx hb dX0_lastMonthOfNoLess_13 rfl (lv_at hl 1 rfl) ?_
      refine lv_icmp_gt (tgt := 45) hx hb dX0_lastMonthOfNoLess_14 (by decide) (fun c8 => ?_) (fun c8 => ?_)
      · skip
        have h := (if_pos c8).symm.trans h
        obtain rfl := Option.some.inj h
        obtain rfl := Option.some.inj hn_e4
        exact X45_6 (z3.1, z3.2.2.1, z3.2.2.2) _ _ _ hc_e4 hP hD hS (lv_sub hl [3] rfl)
      · skip
        have h := (if_neg c8).symm.trans h
        refine lv_aload_n hx hb dX0_lastMonthOfNoLess_17 rfl (lv_at hl 0 rfl) ?_
        obtain ⟨u9, g10, h⟩ := bd_of h
        refine cl_V [(q_t, .inr (0, [.ref q_t_byLeaflets, .long u9.1, .int v_t_kind, .int v_t_tenths])), (q_t_byLeaflets, .inl (cJ, 10, .inr (.inl u9.2)))] (As := []) (rest := []) (rv := none) (c_X0_passMonth l D cI cJ q_t q_t_byLeaflets z3.2.2.1 v_t_kind v_t_tenths z3.2.2.2 u9 g10) ⟨hx, hb, hml, hown, hts⟩ (cwV 0 hts gX0_lastMonthOfNoLess_X0_passMonth rfl rfl rfl (by decide +kernel) ⟨(Nat.le_of_ble_eq_true rfl), (Nat.le_of_ble_eq_true rfl)⟩) hK hN hP hD hS [0, 1] rfl (by decide) rfl rfl rfl (q0 := 0) (ci := 0) rfl rfl rfl rfl hl.1 rfl (Nat.le_of_ble_eq_true rfl) dX0_lastMonthOfNoLess_18 ⟨Nat.zero_le _, Nat.zero_le _⟩ (fun H locs hP hD hS => ?_)
        show W p l e ({ frames := 3, cells := 0, slots := 0, locals := 68 } : Room) s m args below meth c H locs 0 0 Q0 (F0 m 21 ls [])
        refine lv_aload_n hx hb dX0_lastMonthOfNoLess_21 rfl (lv_at hl 0 rfl) ?_
        obtain ⟨u11, g12, h⟩ := bd_of h
        refine cl_V [(q_t, .inr (0, [.ref q_t_byLeaflets, .long u9.1, .int v_t_kind, .int v_t_tenths])), (q_t_byLeaflets, .inl (cJ, 10, .inr (.inl u9.2)))] (As := []) (rest := []) (rv := (some (.long u11))) (c_X0_worthOfAll l D cI cJ q_t q_t_byLeaflets u9.1 v_t_kind v_t_tenths u9.2 u11 g12) ⟨hx, hb, hml, hown, hts⟩ (cwV 0 hts gX0_lastMonthOfNoLess_X0_worthOfAll rfl rfl rfl (by decide +kernel) ⟨(Nat.le_of_ble_eq_true rfl), (Nat.le_of_ble_eq_true rfl)⟩) hK hN hP hD hS [0, 1] rfl (by decide) rfl rfl rfl (q0 := 0) (ci := 0) rfl rfl rfl rfl hl.1 rfl (Nat.le_of_ble_eq_true rfl) dX0_lastMonthOfNoLess_22 ⟨Nat.zero_le _, Nat.zero_le _⟩ (fun H locs hP hD hS => ?_)
        show W p l e ({ frames := 3, cells := 0, slots := 0, locals := 68 } : Room) s m args below meth c H locs 0 0 Q0 (F0 m 25 ls [.long u11])
        refine lv_lload_n hx hb dX0_lastMonthOfNoLess_25 rfl (lv_at hl 2 rfl) ?_
        refine lv_aload_n hx hb dX0_lastMonthOfNoLess_26 rfl (lv_at hl 0 rfl) ?_
        refine va_get (own := RX0) (ci := 0) (v := .long u9.1) (C := RX0) (T := TX0) (N := 4) hx hb hts iX0 hown hK hP 0 rfl rfl 1 (by decide) k21 (fun _ h9 => h9) rfl dX0_lastMonthOfNoLess_27 ?_
        refine lv_lmul hx hb dX0_lastMonthOfNoLess_30 ?_
        refine W.lcmp hx hb dX0_lastMonthOfNoLess_31 ?_
        have K39_13 : ∀ (w14 : Int32) (H : Heap) (locs : List Loc) (ls : Array Slot), w14 = (if (lg_cmp u11 (u1 * u9.1)) < 0 then z3.1 else z3.2.1 : Int32) → va_P D vwCl [(q_t, .inr (0, [.ref q_t_byLeaflets, .long u9.1, .int v_t_kind, .int v_t_tenths])), (q_t_byLeaflets, .inl (cJ, 10, .inr (.inl u9.2)))] H → va_D A0 [(q_t, .inr (0, [.ref q_t_byLeaflets, .long u9.1, .int v_t_kind, .int v_t_tenths])), (q_t_byLeaflets, .inl (cJ, 10, .inr (.inl u9.2)))] → va_S A0 s.heap H locs → lv_has ls 6 [(0, .ref q_t), (1, .int x1), (2, .long u1), (4, .int w14), (5, .int z3.2.1)] → W p l e ({ frames := 3, cells := 0, slots := 0, locals := 68 } : Room) s m args below meth c H locs 0 0 Q0 (F0 m 39 ls []) := by
          intro w14 H locs ls e_w14 hP hD hS hl
          subst e_w14
          refine lv_iinc (v := (z3.2.1 + 1)) (lv' := [(5, .int (z3.2.1 + 1)), (0, .ref q_t), (1, .int x1), (2, .long u1), (4, .int (if (lg_cmp u11 (u1 * u9.1)) < 0 then z3.1 else z3.2.1 : Int32))]) hx hb dX0_lastMonthOfNoLess_39 hl (k := 4) rfl rfl (by decide) rfl (fun ls hl => ?_)
          refine lv_goto (tgt := 11) hx hb dX0_lastMonthOfNoLess_42 (by decide) ?_
          obtain rfl := Option.some.inj h
          exact ih ((if (lg_cmp u11 (u1 * u9.1)) < 0 then z3.1 else z3.2.1 : Int32), (z3.2.1 + 1), u9.1, u9.2) _ _ _ hn_e4 hP hD hS (lv_sub hl [1, 2, 3, 4, 0] rfl)
        refine lv_if_lt (tgt := 39) hx hb dX0_lastMonthOfNoLess_32 (by decide) (fun c15 => ?_) (fun c15 => ?_)
        · skip
          exact K39_13 z3.1 _ _ _ (by rw [if_pos c15]) hP hD hS (lv_sub hl [0, 1, 2, 3, 4] rfl)
        · skip
          refine lv_iload hx hb dX0_lastMonthOfNoLess_35 (lv_at hl 4 rfl) ?_
          refine lv_istore (lv' := [(4, .int z3.2.1), (0, .ref q_t), (1, .int x1), (2, .long u1), (5, .int z3.2.1)]) hx hb dX0_lastMonthOfNoLess_37 hl (by decide) rfl (fun ls hl => ?_)
          exact K39_13 z3.2.1 _ _ _ (by rw [if_neg c15]) hP hD hS (lv_sub hl [1, 2, 3, 0, 4] rfl)
  exact L11_7 FU (0, 1, v_t_all, v_t_byLeaflets) _ _ _ he_e4 hP hD hS (lv_sub hl [3, 4, 2, 1, 0] rfl)
