def fX4_isAtBank (v_t_size : Int32) (v_t_lostByHands : Int32) (v_t_lostByMould : Int32) (v_t_owners : Nat → Int32) (x1 : Int32) : Option (Int32) :=
  gd (inb x1 10) (if (v_t_owners x1.toNatClampNeg) = (-1) then (some 1) else (some 0))
set_option maxHeartbeats 4000000 in
set_option maxRecDepth 100000 in
theorem c_X4_isAtBank (l : Launch) (D : va_G) (cI cJ : ClassId) (q_t q_t_kinds q_t_leaflets q_t_owners q_t_tears q_t_debts : Nat) (v_t_size : Int32) (v_t_lostByHands : Int32) (v_t_lostByMould : Int32) (v_t_owners : Nat → Int32) (x1 : Int32) (z : Int32) (h : fX4_isAtBank v_t_size v_t_lostByHands v_t_lostByMould v_t_owners x1 = some z) : Met l yX4_isAtBank wsX4_isAtBank ({ frames := 0, cells := 0, slots := 0, locals := 0 } : Room) (va_Pc [.ref q_t, .int x1] (preG D cI cJ [(q_t, .inr (4, [.ref q_t_kinds, .ref q_t_leaflets, .ref q_t_owners, .ref q_t_tears, .ref q_t_debts, .int v_t_size, .int v_t_lostByHands, .int v_t_lostByMould])), (q_t_owners, .inl (cI, 10, .inl v_t_owners))])) (QG D [(q_t, .inr (4, [.ref q_t_kinds, .ref q_t_leaflets, .ref q_t_owners, .ref q_t_tears, .ref q_t_debts, .int v_t_size, .int v_t_lostByHands, .int v_t_lostByMould])), (q_t_owners, .inl (cI, 10, .inl v_t_owners))] [(q_t, .inr (4, [.ref q_t_kinds, .ref q_t_leaflets, .ref q_t_owners, .ref q_t_tears, .ref q_t_debts, .int v_t_size, .int v_t_lostByHands, .int v_t_lostByMould])), (q_t_owners, .inl (cI, 10, .inl v_t_owners))] (some (.int z))) 0 0 (fr [(q_t, .inr (4, [.ref q_t_kinds, .ref q_t_leaflets, .ref q_t_owners, .ref q_t_tears, .ref q_t_debts, .int v_t_size, .int v_t_lostByHands, .int v_t_lostByMould])), (q_t_owners, .inl (cI, 10, .inl v_t_owners))]) := by
  refine Met.ofW (cc := cX4_isAtBank) (maxL := 2) (ret := (some .boolean)) (by decide) rfl ?_
  intro p e s m args below meth c s₁ B hml hv
  obtain ⟨hargs, hP, hK, hN, hD0⟩ := hv
  have hx := B.exec
  have hb := B.bytes
  have hr := B.returns
  have hts := atoms_spec (ws := wsX4_isAtBank) B.pre
  have hown : s.vm.findClass RX4 = some m.cls := findClass_of_methodNamed B.named
  have hlocks := B.notSynchronized
  have iX4 : ∀ w ∈ wsX40, w ∈ wsX4_isAtBank := by decide +kernel
  have k18 := hts (.fieldLink RX4 18 "PressedFerns$Herbarium" "owners" "[I") (by decide +kernel)
  have hD := fr_D hD0
  have hS : va_S (fr [(q_t, .inr (4, [.ref q_t_kinds, .ref q_t_leaflets, .ref q_t_owners, .ref q_t_tears, .ref q_t_debts, .int v_t_size, .int v_t_lostByHands, .int v_t_lostByMould])), (q_t_owners, .inl (cI, 10, .inl v_t_owners))]) s.heap s.heap [] := va_S.rf
  have hl := lv_entry ([.ref q_t, .int x1]) (n := 2) (Nat.le_of_ble_eq_true rfl)
  refine W.eq (g2 := F0 m 0 ((lg_sl ([.ref q_t, .int x1]) ++ List.replicate (2 - (lg_sl ([.ref q_t, .int x1])).length) Slot.unset).toArray) []) (by rw [hargs, lg_entry_eq]) ?_
  generalize (lg_sl ([.ref q_t, .int x1]) ++ List.replicate (2 - (lg_sl ([.ref q_t, .int x1])).length) Slot.unset).toArray = ls at hl ⊢
  have hl : lv_has ls 2 [(0, .ref q_t), (1, .int x1)] := hl
  show W p l e ({ frames := 0, cells := 0, slots := 0, locals := 0 } : Room) s m args below meth c s.heap [] 0 0 (MQ below (QG D [(q_t, .inr (4, [.ref q_t_kinds, .ref q_t_leaflets, .ref q_t_owners, .ref q_t_tears, .ref q_t_debts, .int v_t_size, .int v_t_lostByHands, .int v_t_lostByMould])), (q_t_owners, .inl (cI, 10, .inl v_t_owners))] [(q_t, .inr (4, [.ref q_t_kinds, .ref q_t_leaflets, .ref q_t_owners, .ref q_t_tears, .ref q_t_debts, .int v_t_size, .int v_t_lostByHands, .int v_t_lostByMould])), (q_t_owners, .inl (cI, 10, .inl v_t_owners))] (some (.int z))) args s 0 0 (fr [(q_t, .inr (4, [.ref q_t_kinds, .ref q_t_leaflets, .ref q_t_owners, .ref q_t_tears, .ref q_t_debts, .int v_t_size, .int v_t_lostByHands, .int v_t_lostByMould])), (q_t_owners, .inl (cI, 10, .inl v_t_owners))])) (F0 m 0 ls [])
  generalize hQ0 : (MQ below (QG D [(q_t, .inr (4, [.ref q_t_kinds, .ref q_t_leaflets, .ref q_t_owners, .ref q_t_tears, .ref q_t_debts, .int v_t_size, .int v_t_lostByHands, .int v_t_lostByMould])), (q_t_owners, .inl (cI, 10, .inl v_t_owners))] [(q_t, .inr (4, [.ref q_t_kinds, .ref q_t_leaflets, .ref q_t_owners, .ref q_t_tears, .ref q_t_debts, .int v_t_size, .int v_t_lostByHands, .int v_t_lostByMould])), (q_t_owners, .inl (cI, 10, .inl v_t_owners))] (some (.int z))) args s 0 0 (fr [(q_t, .inr (4, [.ref q_t_kinds, .ref q_t_leaflets, .ref q_t_owners, .ref q_t_tears, .ref q_t_debts, .int v_t_size, .int v_t_lostByHands, .int v_t_lostByMould])), (q_t_owners, .inl (cI, 10, .inl v_t_owners))])) = Q0
  generalize hA0 : fr [(q_t, .inr (4, [.ref q_t_kinds, .ref q_t_leaflets, .ref q_t_owners, .ref q_t_tears, .ref q_t_debts, .int v_t_size, .int v_t_lostByHands, .int v_t_lostByMould])), (q_t_owners, .inl (cI, 10, .inl v_t_owners))] = A0 at hD hS
  unfold fX4_isAtBank at h
  refine lv_aload_n hx hb dX4_isAtBank_0 rfl (lv_at hl 0 rfl) ?_
  refine va_get (own := RX4) (ci := 4) (v := .ref q_t_owners) (C := RX4) (T := TX4) (N := 8) hx hb hts iX4 hown hK hP 0 rfl rfl 2 (by decide) k18 (fun _ h9 => h9) rfl dX4_isAtBank_1 ?_
  refine lv_iload_n hx hb dX4_isAtBank_4 rfl (lv_at hl 1 rfl) ?_
  obtain ⟨g1, h⟩ := gd_of h
  refine va_iald hx hb hK hP 1 0 rfl rfl (inb_of g1) dX4_isAtBank_5 ?_
  refine lv_iconst (v := (-1)) hx hb dX4_isAtBank_6 (by decide) ?_
  refine lv_icmp_ne (tgt := 14) hx hb dX4_isAtBank_7 (by decide) (fun c2 => ?_) (fun c2 => ?_)
  · skip
    have h := (if_neg c2).symm.trans h
    refine lv_iconst (v := 0) hx hb dX4_isAtBank_14 (by decide) ?_
    obtain rfl := Option.some.inj h
    exact rt_z hA0 hQ0 hx hb hr hlocks rfl hP hS dX4_isAtBank_15
  · skip
    have h := (if_pos c2).symm.trans h
    refine lv_iconst (v := 1) hx hb dX4_isAtBank_10 (by decide) ?_
    refine lv_goto (tgt := 15) hx hb dX4_isAtBank_11 (by decide) ?_
    obtain rfl := Option.some.inj h
    exact rt_z hA0 hQ0 hx hb hr hlocks rfl hP hS dX4_isAtBank_15
def fX4_tearOff_X7_38 (x1 : Int32) (x2 : Int32) (a3 : (Nat → Int32)) : Option ((Nat → Int32)) :=
  gd (inb (x1 * 4) 40) (some (upd a3 (x1 * 4).toNatClampNeg x2))
def fX4_tearOff_L7 (x1 : Int32) (z1 : Int32 × (Nat → Int32)) : Option ((Int32 × (Nat → Int32)) ⊕ ((Nat → Int32))) :=
  if z1.1 ≤ 0 then (some (Sum.inr z1.2)) else (gd (inb (((x1 * 4) + z1.1) - 1) 40) (gd (inb ((x1 * 4) + z1.1) 40) (some (Sum.inl ((z1.1 + (-1)), (upd z1.2 ((x1 * 4) + z1.1).toNatClampNeg (z1.2 (((x1 * 4) + z1.1) - 1).toNatClampNeg)))))))
def fX4_tearOff (v_t_size : Int32) (v_t_lostByHands : Int32) (v_t_lostByMould : Int32) (v_t_tears : Nat → Int32) (x1 : Int32) (x2 : Int32) : Option ((Nat → Int32)) :=
  (iter (fX4_tearOff_L7 x1) FU (3, v_t_tears)).bind (fX4_tearOff_X7_38 x1 x2)
set_option maxHeartbeats 4000000 in
set_option maxRecDepth 100000 in
theorem c_X4_tearOff (l : Launch) (D : va_G) (cI cJ : ClassId) (q_t q_t_kinds q_t_leaflets q_t_owners q_t_tears q_t_debts : Nat) (v_t_size : Int32) (v_t_lostByHands : Int32) (v_t_lostByMould : Int32) (v_t_tears : Nat → Int32) (x1 : Int32) (x2 : Int32) (z : (Nat → Int32)) (h : fX4_tearOff v_t_size v_t_lostByHands v_t_lostByMould v_t_tears x1 x2 = some z) : Met l yX4_tearOff wsX4_tearOff ({ frames := 0, cells := 0, slots := 0, locals := 0 } : Room) (va_Pc [.ref q_t, .int x1, .int x2] (preG D cI cJ [(q_t, .inr (4, [.ref q_t_kinds, .ref q_t_leaflets, .ref q_t_owners, .ref q_t_tears, .ref q_t_debts, .int v_t_size, .int v_t_lostByHands, .int v_t_lostByMould])), (q_t_tears, .inl (cI, 40, .inl v_t_tears))])) (QG D [(q_t, .inr (4, [.ref q_t_kinds, .ref q_t_leaflets, .ref q_t_owners, .ref q_t_tears, .ref q_t_debts, .int v_t_size, .int v_t_lostByHands, .int v_t_lostByMould])), (q_t_tears, .inl (cI, 40, .inl v_t_tears))] [(q_t, .inr (4, [.ref q_t_kinds, .ref q_t_leaflets, .ref q_t_owners, .ref q_t_tears, .ref q_t_debts, .int v_t_size, .int v_t_lostByHands, .int v_t_lostByMould])), (q_t_tears, .inl (cI, 40, .inl z))] none) 0 0 (fr [(q_t, .inr (4, [.ref q_t_kinds, .ref q_t_leaflets, .ref q_t_owners, .ref q_t_tears, .ref q_t_debts, .int v_t_size, .int v_t_lostByHands, .int v_t_lostByMould])), (q_t_tears, .inl (cI, 40, .inl v_t_tears))]) := by
  refine Met.ofW (cc := cX4_tearOff) (maxL := 5) (ret := none) (by decide) rfl ?_
  intro p e s m args below meth c s₁ B hml hv
  obtain ⟨hargs, hP, hK, hN, hD0⟩ := hv
  have hx := B.exec
  have hb := B.bytes
  have hr := B.returns
  have hts := atoms_spec (ws := wsX4_tearOff) B.pre
  have hown : s.vm.findClass RX4 = some m.cls := findClass_of_methodNamed B.named
  have hlocks := B.notSynchronized
  have iX4 : ∀ w ∈ wsX40, w ∈ wsX4_tearOff := by decide +kernel
  have k21 := hts (.fieldLink RX4 21 "PressedFerns$Herbarium" "tears" "[I") (by decide +kernel)
  have hD := fr_D hD0
  have hS : va_S (fr [(q_t, .inr (4, [.ref q_t_kinds, .ref q_t_leaflets, .ref q_t_owners, .ref q_t_tears, .ref q_t_debts, .int v_t_size, .int v_t_lostByHands, .int v_t_lostByMould])), (q_t_tears, .inl (cI, 40, .inl v_t_tears))]) s.heap s.heap [] := va_S.rf
  have hl := lv_entry ([.ref q_t, .int x1, .int x2]) (n := 5) (Nat.le_of_ble_eq_true rfl)
  refine W.eq (g2 := F0 m 0 ((lg_sl ([.ref q_t, .int x1, .int x2]) ++ List.replicate (5 - (lg_sl ([.ref q_t, .int x1, .int x2])).length) Slot.unset).toArray) []) (by rw [hargs, lg_entry_eq]) ?_
  generalize (lg_sl ([.ref q_t, .int x1, .int x2]) ++ List.replicate (5 - (lg_sl ([.ref q_t, .int x1, .int x2])).length) Slot.unset).toArray = ls at hl ⊢
  have hl : lv_has ls 5 [(0, .ref q_t), (1, .int x1), (2, .int x2)] := hl
  show W p l e ({ frames := 0, cells := 0, slots := 0, locals := 0 } : Room) s m args below meth c s.heap [] 0 0 (MQ below (QG D [(q_t, .inr (4, [.ref q_t_kinds, .ref q_t_leaflets, .ref q_t_owners, .ref q_t_tears, .ref q_t_debts, .int v_t_size, .int v_t_lostByHands, .int v_t_lostByMould])), (q_t_tears, .inl (cI, 40, .inl v_t_tears))] [(q_t, .inr (4, [.ref q_t_kinds, .ref q_t_leaflets, .ref q_t_owners, .ref q_t_tears, .ref q_t_debts, .int v_t_size, .int v_t_lostByHands, .int v_t_lostByMould])), (q_t_tears, .inl (cI, 40, .inl z))] none) args s 0 0 (fr [(q_t, .inr (4, [.ref q_t_kinds, .ref q_t_leaflets, .ref q_t_owners, .ref q_t_tears, .ref q_t_debts, .int v_t_size, .int v_t_lostByHands, .int v_t_lostByMould])), (q_t_tears, .inl (cI, 40, .inl v_t_tears))])) (F0 m 0 ls [])
  generalize hQ0 : (MQ below (QG D [(q_t, .inr (4, [.ref q_t_kinds, .ref q_t_leaflets, .ref q_t_owners, .ref q_t_tears, .ref q_t_debts, .int v_t_size, .int v_t_lostByHands, .int v_t_lostByMould])), (q_t_tears, .inl (cI, 40, .inl v_t_tears))] [(q_t, .inr (4, [.ref q_t_kinds, .ref q_t_leaflets, .ref q_t_owners, .ref q_t_tears, .ref q_t_debts, .int v_t_size, .int v_t_lostByHands, .int v_t_lostByMould])), (q_t_tears, .inl (cI, 40, .inl z))] none) args s 0 0 (fr [(q_t, .inr (4, [.ref q_t_kinds, .ref q_t_leaflets, .ref q_t_owners, .ref q_t_tears, .ref q_t_debts, .int v_t_size, .int v_t_lostByHands, .int v_t_lostByMould])), (q_t_tears, .inl (cI, 40, .inl v_t_tears))])) = Q0
  generalize hA0 : fr [(q_t, .inr (4, [.ref q_t_kinds, .ref q_t_leaflets, .ref q_t_owners, .ref q_t_tears, .ref q_t_debts, .int v_t_size, .int v_t_lostByHands, .int v_t_lostByMould])), (q_t_tears, .inl (cI, 40, .inl v_t_tears))] = A0 at hD hS
  unfold fX4_tearOff at h
  refine lv_iload_n hx hb dX4_tearOff_0 rfl (lv_at hl 1 rfl) ?_
  refine lv_iconst (v := 4) hx hb dX4_tearOff_1 (by decide) ?_
  refine lv_imul hx hb dX4_tearOff_2 ?_
  refine lv_istore_n (lv' := [(3, .int (x1 * 4)), (0, .ref q_t), (1, .int x1), (2, .int x2)]) hx hb dX4_tearOff_3 rfl hl (by decide) rfl (fun ls hl => ?_)
  refine lv_iconst (v := 3) hx hb dX4_tearOff_4 (by decide) ?_
  refine lv_istore (lv' := [(4, .int 3), (3, .int (x1 * 4)), (0, .ref q_t), (1, .int x1), (2, .int x2)]) hx hb dX4_tearOff_5 hl (by decide) rfl (fun ls hl => ?_)
  obtain ⟨e2, he_e2, hc_e2⟩ := bd_of h
  have X38_4 : ∀ (a3 : (Nat → Int32)) (H : Heap) (locs : List Loc) (ls : Array Slot), fX4_tearOff_X7_38 x1 x2 a3 = some z → va_P D vwCl [(q_t, .inr (4, [.ref q_t_kinds, .ref q_t_leaflets, .ref q_t_owners, .ref q_t_tears, .ref q_t_debts, .int v_t_size, .int v_t_lostByHands, .int v_t_lostByMould])), (q_t_tears, .inl (cI, 40, .inl a3))] H → va_D A0 [(q_t, .inr (4, [.ref q_t_kinds, .ref q_t_leaflets, .ref q_t_owners, .ref q_t_tears, .ref q_t_debts, .int v_t_size, .int v_t_lostByHands, .int v_t_lostByMould])), (q_t_tears, .inl (cI, 40, .inl a3))] → va_S A0 s.heap H locs → lv_has ls 5 [(0, .ref q_t), (2, .int x2), (3, .int (x1 * 4))] → W p l e ({ frames := 0, cells := 0, slots := 0, locals := 0 } : Room) s m args below meth c H locs 0 0 Q0 (F0 m 38 ls []) := by
    intro a3 H locs ls h hP hD hS hl
    unfold fX4_tearOff_X7_38 at h
    refine lv_aload_n hx hb dX4_tearOff_38 rfl (lv_at hl 0 rfl) ?_
    refine va_get (own := RX4) (ci := 4) (v := .ref q_t_tears) (C := RX4) (T := TX4) (N := 8) hx hb hts iX4 hown hK hP 0 rfl rfl 3 (by decide) k21 (fun _ h9 => h9) rfl dX4_tearOff_39 ?_
    refine lv_iload_n hx hb dX4_tearOff_42 rfl (lv_at hl 2 rfl) ?_
    refine lv_iload_n hx hb dX4_tearOff_43 rfl (lv_at hl 1 rfl) ?_
    obtain ⟨g5, h⟩ := gd_of h
    refine va_iast hx hb hK hP hD hS 1 0 rfl rfl (inb_of g5) dX4_tearOff_44 (fun H locs hP hD hS => ?_)
    have hP : va_P D vwCl [(q_t, .inr (4, [.ref q_t_kinds, .ref q_t_leaflets, .ref q_t_owners, .ref q_t_tears, .ref q_t_debts, .int v_t_size, .int v_t_lostByHands, .int v_t_lostByMould])), (q_t_tears, .inl (cI, 40, .inl (upd a3 (x1 * 4).toNatClampNeg x2)))] H := hP
    have hD : va_D A0 [(q_t, .inr (4, [.ref q_t_kinds, .ref q_t_leaflets, .ref q_t_owners, .ref q_t_tears, .ref q_t_debts, .int v_t_size, .int v_t_lostByHands, .int v_t_lostByMould])), (q_t_tears, .inl (cI, 40, .inl (upd a3 (x1 * 4).toNatClampNeg x2)))] := hD
    obtain rfl := Option.some.inj h
    exact rt_v hA0 hQ0 hx hb hr hlocks hP hS dX4_tearOff_45
  have L7_6 : ∀ (n : Nat) (z1 : Int32 × (Nat → Int32)) (H : Heap) (locs : List Loc) (ls : Array Slot), iter (fX4_tearOff_L7 x1) n z1 = some e2 → va_P D vwCl [(q_t, .inr (4, [.ref q_t_kinds, .ref q_t_leaflets, .ref q_t_owners, .ref q_t_tears, .ref q_t_debts, .int v_t_size, .int v_t_lostByHands, .int v_t_lostByMould])), (q_t_tears, .inl (cI, 40, .inl z1.2))] H → va_D A0 [(q_t, .inr (4, [.ref q_t_kinds, .ref q_t_leaflets, .ref q_t_owners, .ref q_t_tears, .ref q_t_debts, .int v_t_size, .int v_t_lostByHands, .int v_t_lostByMould])), (q_t_tears, .inl (cI, 40, .inl z1.2))] → va_S A0 s.heap H locs → lv_has ls 5 [(0, .ref q_t), (2, .int x2), (3, .int (x1 * 4)), (4, .int z1.1)] → W p l e ({ frames := 0, cells := 0, slots := 0, locals := 0 } : Room) s m args below meth c H locs 0 0 Q0 (F0 m 7 ls []) := by
    intro n
    induction n with
    | zero => exact fun _ _ _ _ h => (iter_z h).elim
    | succ n ih =>
      intro z1 H locs ls h hP hD hS hl
      obtain ⟨r_e2, h, hn_e2⟩ := iter_s h
      unfold fX4_tearOff_L7 at h
      refine lv_iload hx hb dX4_tearOff_7 (lv_at hl 3 rfl) ?_
      refine lv_if_le (tgt := 38) hx hb dX4_tearOff_9 (by decide) (fun c7 => ?_) (fun c7 => ?_)
      · skip
        have h := (if_pos c7).symm.trans h
        obtain rfl := Option.some.inj h
        obtain rfl := Option.some.inj hn_e2
        exact X38_4 z1.2 _ _ _ hc_e2 hP hD hS (lv_sub hl [0, 1, 2] rfl)
      · skip
        have h := (if_neg c7).symm.trans h
        refine lv_aload_n hx hb dX4_tearOff_12 rfl (lv_at hl 0 rfl) ?_
        refine va_get (own := RX4) (ci := 4) (v := .ref q_t_tears) (C := RX4) (T := TX4) (N := 8) hx hb hts iX4 hown hK hP 0 rfl rfl 3 (by decide) k21 (fun _ h9 => h9) rfl dX4_tearOff_13 ?_
        refine lv_iload_n hx hb dX4_tearOff_16 rfl (lv_at hl 2 rfl) ?_
        refine lv_iload hx hb dX4_tearOff_17 (lv_at hl 3 rfl) ?_
        refine lv_iadd hx hb dX4_tearOff_19 ?_
        refine lv_aload_n hx hb dX4_tearOff_20 rfl (lv_at hl 0 rfl) ?_
        refine va_get (own := RX4) (ci := 4) (v := .ref q_t_tears) (C := RX4) (T := TX4) (N := 8) hx hb hts iX4 hown hK hP 0 rfl rfl 3 (by decide) k21 (fun _ h9 => h9) rfl dX4_tearOff_21 ?_
        refine lv_iload_n hx hb dX4_tearOff_24 rfl (lv_at hl 2 rfl) ?_
        refine lv_iload hx hb dX4_tearOff_25 (lv_at hl 3 rfl) ?_
        refine lv_iadd hx hb dX4_tearOff_27 ?_
        refine lv_iconst (v := 1) hx hb dX4_tearOff_28 (by decide) ?_
        refine lv_isub hx hb dX4_tearOff_29 ?_
        obtain ⟨g8, h⟩ := gd_of h
        refine va_iald hx hb hK hP 1 0 rfl rfl (inb_of g8) dX4_tearOff_30 ?_
        obtain ⟨g9, h⟩ := gd_of h
        refine va_iast hx hb hK hP hD hS 1 0 rfl rfl (inb_of g9) dX4_tearOff_31 (fun H locs hP hD hS => ?_)
        have hP : va_P D vwCl [(q_t, .inr (4, [.ref q_t_kinds, .ref q_t_leaflets, .ref q_t_owners, .ref q_t_tears, .ref q_t_debts, .int v_t_size, .int v_t_lostByHands, .int v_t_lostByMould])), (q_t_tears, .inl (cI, 40, .inl (upd z1.2 ((x1 * 4) + z1.1).toNatClampNeg (z1.2 (((x1 * 4) + z1.1) - 1).toNatClampNeg))))] H := hP
        have hD : va_D A0 [(q_t, .inr (4, [.ref q_t_kinds, .ref q_t_leaflets, .ref q_t_owners, .ref q_t_tears, .ref q_t_debts, .int v_t_size, .int v_t_lostByHands, .int v_t_lostByMould])), (q_t_tears, .inl (cI, 40, .inl (upd z1.2 ((x1 * 4) + z1.1).toNatClampNeg (z1.2 (((x1 * 4) + z1.1) - 1).toNatClampNeg))))] := hD
        refine lv_iinc (v := (z1.1 + (-1))) (lv' := [(4, .int (z1.1 + (-1))), (0, .ref q_t), (2, .int x2), (3, .int (x1 * 4))]) hx hb dX4_tearOff_32 hl (k := 3) rfl rfl (by decide) rfl (fun ls hl => ?_)
        refine lv_goto (tgt := 7) hx hb dX4_tearOff_35 (by decide) ?_
        obtain rfl := Option.some.inj h
        exact ih ((z1.1 + (-1)), (upd z1.2 ((x1 * 4) + z1.1).toNatClampNeg (z1.2 (((x1 * 4) + z1.1) - 1).toNatClampNeg))) _ _ _ hn_e2 hP hD hS (lv_sub hl [1, 2, 3, 0] rfl)
  exact L7_6 FU (3, v_t_tears) _ _ _ he_e2 hP hD hS (lv_sub hl [2, 4, 1, 0] rfl)
def fX4_worthBehindHand (v_t_size : Int32) (v_t_lostByHands : Int32) (v_t_lostByMould : Int32) (v_t_kinds : Nat → Int32) (v_t_leaflets : Nat → Int32) (x1 : Int32) : Option (Int32) :=
  gd (inb x1 10) (some (fX5_behindHand (v_t_kinds x1.toNatClampNeg) (v_t_leaflets x1.toNatClampNeg)))
set_option maxHeartbeats 4000000 in
set_option maxRecDepth 100000 in
theorem c_X4_worthBehindHand (l : Launch) (D : va_G) (cI cJ : ClassId) (q_t q_t_kinds q_t_leaflets q_t_owners q_t_tears q_t_debts : Nat) (v_t_size : Int32) (v_t_lostByHands : Int32) (v_t_lostByMould : Int32) (v_t_kinds : Nat → Int32) (v_t_leaflets : Nat → Int32) (x1 : Int32) (z : Int32) (h : fX4_worthBehindHand v_t_size v_t_lostByHands v_t_lostByMould v_t_kinds v_t_leaflets x1 = some z) : Met l yX4_worthBehindHand wsX4_worthBehindHand ({ frames := 2, cells := 0, slots := 0, locals := 45 } : Room) (va_Pc [.ref q_t, .int x1] (preG D cI cJ [(q_t, .inr (4, [.ref q_t_kinds, .ref q_t_leaflets, .ref q_t_owners, .ref q_t_tears, .ref q_t_debts, .int v_t_size, .int v_t_lostByHands, .int v_t_lostByMould])), (q_t_kinds, .inl (cI, 10, .inl v_t_kinds)), (q_t_leaflets, .inl (cI, 10, .inl v_t_leaflets))])) (QG D [(q_t, .inr (4, [.ref q_t_kinds, .ref q_t_leaflets, .ref q_t_owners, .ref q_t_tears, .ref q_t_debts, .int v_t_size, .int v_t_lostByHands, .int v_t_lostByMould])), (q_t_kinds, .inl (cI, 10, .inl v_t_kinds)), (q_t_leaflets, .inl (cI, 10, .inl v_t_leaflets))] [(q_t, .inr (4, [.ref q_t_kinds, .ref q_t_leaflets, .ref q_t_owners, .ref q_t_tears, .ref q_t_debts, .int v_t_size, .int v_t_lostByHands, .int v_t_lostByMould])), (q_t_kinds, .inl (cI, 10, .inl v_t_kinds)), (q_t_leaflets, .inl (cI, 10, .inl v_t_leaflets))] (some (.int z))) 0 0 (fr [(q_t, .inr (4, [.ref q_t_kinds, .ref q_t_leaflets, .ref q_t_owners, .ref q_t_tears, .ref q_t_debts, .int v_t_size, .int v_t_lostByHands, .int v_t_lostByMould])), (q_t_kinds, .inl (cI, 10, .inl v_t_kinds)), (q_t_leaflets, .inl (cI, 10, .inl v_t_leaflets))]) := by
  refine Met.ofW (cc := cX4_worthBehindHand) (maxL := 2) (ret := (some .int)) (by decide) rfl ?_
  intro p e s m args below meth c s₁ B hml hv
  obtain ⟨hargs, hP, hK, hN, hD0⟩ := hv
  have hx := B.exec
  have hb := B.bytes
  have hr := B.returns
  have hts := atoms_spec (ws := wsX4_worthBehindHand) B.pre
  have hown : s.vm.findClass RX4 = some m.cls := findClass_of_methodNamed B.named
  have hlocks := B.notSynchronized
  have iX4 : ∀ w ∈ wsX40, w ∈ wsX4_worthBehindHand := by decide +kernel
  have k9 := hts (.fieldLink RX4 9 "PressedFerns$Herbarium" "kinds" "[I") (by decide +kernel)
  have k15 := hts (.fieldLink RX4 15 "PressedFerns$Herbarium" "leaflets" "[I") (by decide +kernel)
  have hD := fr_D hD0
  have hS : va_S (fr [(q_t, .inr (4, [.ref q_t_kinds, .ref q_t_leaflets, .ref q_t_owners, .ref q_t_tears, .ref q_t_debts, .int v_t_size, .int v_t_lostByHands, .int v_t_lostByMould])), (q_t_kinds, .inl (cI, 10, .inl v_t_kinds)), (q_t_leaflets, .inl (cI, 10, .inl v_t_leaflets))]) s.heap s.heap [] := va_S.rf
  have hl := lv_entry ([.ref q_t, .int x1]) (n := 2) (Nat.le_of_ble_eq_true rfl)
  refine W.eq (g2 := F0 m 0 ((lg_sl ([.ref q_t, .int x1]) ++ List.replicate (2 - (lg_sl ([.ref q_t, .int x1])).length) Slot.unset).toArray) []) (by rw [hargs, lg_entry_eq]) ?_
  generalize (lg_sl ([.ref q_t, .int x1]) ++ List.replicate (2 - (lg_sl ([.ref q_t, .int x1])).length) Slot.unset).toArray = ls at hl ⊢
  have hl : lv_has ls 2 [(0, .ref q_t), (1, .int x1)] := hl
  show W p l e ({ frames := 2, cells := 0, slots := 0, locals := 45 } : Room) s m args below meth c s.heap [] 0 0 (MQ below (QG D [(q_t, .inr (4, [.ref q_t_kinds, .ref q_t_leaflets, .ref q_t_owners, .ref q_t_tears, .ref q_t_debts, .int v_t_size, .int v_t_lostByHands, .int v_t_lostByMould])), (q_t_kinds, .inl (cI, 10, .inl v_t_kinds)), (q_t_leaflets, .inl (cI, 10, .inl v_t_leaflets))] [(q_t, .inr (4, [.ref q_t_kinds, .ref q_t_leaflets, .ref q_t_owners, .ref q_t_tears, .ref q_t_debts, .int v_t_size, .int v_t_lostByHands, .int v_t_lostByMould])), (q_t_kinds, .inl (cI, 10, .inl v_t_kinds)), (q_t_leaflets, .inl (cI, 10, .inl v_t_leaflets))] (some (.int z))) args s 0 0 (fr [(q_t, .inr (4, [.ref q_t_kinds, .ref q_t_leaflets, .ref q_t_owners, .ref q_t_tears, .ref q_t_debts, .int v_t_size, .int v_t_lostByHands, .int v_t_lostByMould])), (q_t_kinds, .inl (cI, 10, .inl v_t_kinds)), (q_t_leaflets, .inl (cI, 10, .inl v_t_leaflets))])) (F0 m 0 ls [])
  generalize hQ0 : (MQ below (QG D [(q_t, .inr (4, [.ref q_t_kinds, .ref q_t_leaflets, .ref q_t_owners, .ref q_t_tears, .ref q_t_debts, .int v_t_size, .int v_t_lostByHands, .int v_t_lostByMould])), (q_t_kinds, .inl (cI, 10, .inl v_t_kinds)), (q_t_leaflets, .inl (cI, 10, .inl v_t_leaflets))] [(q_t, .inr (4, [.ref q_t_kinds, .ref q_t_leaflets, .ref q_t_owners, .ref q_t_tears, .ref q_t_debts, .int v_t_size, .int v_t_lostByHands, .int v_t_lostByMould])), (q_t_kinds, .inl (cI, 10, .inl v_t_kinds)), (q_t_leaflets, .inl (cI, 10, .inl v_t_leaflets))] (some (.int z))) args s 0 0 (fr [(q_t, .inr (4, [.ref q_t_kinds, .ref q_t_leaflets, .ref q_t_owners, .ref q_t_tears, .ref q_t_debts, .int v_t_size, .int v_t_lostByHands, .int v_t_lostByMould])), (q_t_kinds, .inl (cI, 10, .inl v_t_kinds)), (q_t_leaflets, .inl (cI, 10, .inl v_t_leaflets))])) = Q0
  generalize hA0 : fr [(q_t, .inr (4, [.ref q_t_kinds, .ref q_t_leaflets, .ref q_t_owners, .ref q_t_tears, .ref q_t_debts, .int v_t_size, .int v_t_lostByHands, .int v_t_lostByMould])), (q_t_kinds, .inl (cI, 10, .inl v_t_kinds)), (q_t_leaflets, .inl (cI, 10, .inl v_t_leaflets))] = A0 at hD hS
  unfold fX4_worthBehindHand at h
  refine lv_aload_n hx hb dX4_worthBehindHand_0 rfl (lv_at hl 0 rfl) ?_
  refine va_get (own := RX4) (ci := 4) (v := .ref q_t_kinds) (C := RX4) (T := TX4) (N := 8) hx hb hts iX4 hown hK hP 0 rfl rfl 0 (by decide) k9 (fun _ h9 => h9) rfl dX4_worthBehindHand_1 ?_
  refine lv_iload_n hx hb dX4_worthBehindHand_4 rfl (lv_at hl 1 rfl) ?_
  obtain ⟨g1, h⟩ := gd_of h
  refine va_iald hx hb hK hP 1 0 rfl rfl (inb_of g1) dX4_worthBehindHand_5 ?_
  refine lv_aload_n hx hb dX4_worthBehindHand_6 rfl (lv_at hl 0 rfl) ?_
  refine va_get (own := RX4) (ci := 4) (v := .ref q_t_leaflets) (C := RX4) (T := TX4) (N := 8) hx hb hts iX4 hown hK hP 0 rfl rfl 1 (by decide) k15 (fun _ h9 => h9) rfl dX4_worthBehindHand_7 ?_
  refine lv_iload_n hx hb dX4_worthBehindHand_10 rfl (lv_at hl 1 rfl) ?_
  refine va_iald hx hb hK hP 2 0 rfl rfl (inb_of g1) dX4_worthBehindHand_11 ?_
  refine cl_S [(q_t, .inr (4, [.ref q_t_kinds, .ref q_t_leaflets, .ref q_t_owners, .ref q_t_tears, .ref q_t_debts, .int v_t_size, .int v_t_lostByHands, .int v_t_lostByMould])), (q_t_kinds, .inl (cI, 10, .inl v_t_kinds)), (q_t_leaflets, .inl (cI, 10, .inl v_t_leaflets))] (As := [.int (v_t_kinds x1.toNatClampNeg), .int (v_t_leaflets x1.toNatClampNeg)]) (rest := []) (rv := (some (.int (fX5_behindHand (v_t_kinds x1.toNatClampNeg) (v_t_leaflets x1.toNatClampNeg))))) (c_X5_behindHand l D cI cJ (v_t_kinds x1.toNatClampNeg) (v_t_leaflets x1.toNatClampNeg)) ⟨hx, hb, hml, hown, hts⟩ (va_cwS 2 hts gX4_worthBehindHand_X5_behindHand rfl rfl rfl (by decide +kernel) ⟨(Nat.le_of_ble_eq_true rfl), (Nat.le_of_ble_eq_true rfl)⟩) hK hN hP hD hS [] rfl (by decide) rfl rfl rfl rfl hl.1 rfl (Nat.le_of_ble_eq_true rfl) dX4_worthBehindHand_12 ⟨Nat.zero_le _, Nat.zero_le _⟩ (fun H locs hP hD hS => ?_)
  show W p l e ({ frames := 2, cells := 0, slots := 0, locals := 45 } : Room) s m args below meth c H locs 0 0 Q0 (F0 m 15 ls [.int (fX5_behindHand (v_t_kinds x1.toNatClampNeg) (v_t_leaflets x1.toNatClampNeg))])
  obtain rfl := Option.some.inj h
  exact rt_i hA0 hQ0 hx hb hr hlocks hP hS dX4_worthBehindHand_15
def fX4_goByHand (v_t_size : Int32) (v_t_lostByHands : Int32) (v_t_lostByMould : Int32) (v_t_kinds : Nat → Int32) (v_t_leaflets : Nat → Int32) (v_t_owners : Nat → Int32) (v_t_tears : Nat → Int32) (x1 : Int32) (x2 : Int32) : Option (Int32 × Int32 × (Nat → Int32) × (Nat → Int32) × (Nat → Int32)) :=
  (fX4_worthBehindHand v_t_size v_t_lostByHands v_t_lostByMould v_t_kinds v_t_leaflets x1).bind (fun u1 => gd (inb x1 10) ((fX4_tearOff v_t_size (v_t_lostByHands + ((v_t_leaflets x1.toNatClampNeg) - u1)) v_t_lostByMould v_t_tears x1 (v_t_owners x1.toNatClampNeg)).bind (fun u4 => some (u1, (v_t_lostByHands + ((v_t_leaflets x1.toNatClampNeg) - u1)), (upd v_t_leaflets x1.toNatClampNeg u1), (upd v_t_owners x1.toNatClampNeg x2), u4))))
set_option maxHeartbeats 4000000 in
set_option maxRecDepth 100000 in
theorem c_X4_goByHand (l : Launch) (D : va_G) (cI cJ : ClassId) (q_t q_t_kinds q_t_leaflets q_t_owners q_t_tears q_t_debts : Nat) (v_t_size : Int32) (v_t_lostByHands : Int32) (v_t_lostByMould : Int32) (v_t_kinds : Nat → Int32) (v_t_leaflets : Nat → Int32) (v_t_owners : Nat → Int32) (v_t_tears : Nat → Int32) (x1 : Int32) (x2 : Int32) (z : Int32 × Int32 × (Nat → Int32) × (Nat → Int32) × (Nat → Int32)) (h : fX4_goByHand v_t_size v_t_lostByHands v_t_lostByMould v_t_kinds v_t_leaflets v_t_owners v_t_tears x1 x2 = some z) : Met l yX4_goByHand wsX4_goByHand ({ frames := 3, cells := 0, slots := 0, locals := 66 } : Room) (va_Pc [.ref q_t, .int x1, .int x2] (preG D cI cJ [(q_t, .inr (4, [.ref q_t_kinds, .ref q_t_leaflets, .ref q_t_owners, .ref q_t_tears, .ref q_t_debts, .int v_t_size, .int v_t_lostByHands, .int v_t_lostByMould])), (q_t_kinds, .inl (cI, 10, .inl v_t_kinds)), (q_t_leaflets, .inl (cI, 10, .inl v_t_leaflets)), (q_t_owners, .inl (cI, 10, .inl v_t_owners)), (q_t_tears, .inl (cI, 40, .inl v_t_tears))])) (QG D [(q_t, .inr (4, [.ref q_t_kinds, .ref q_t_leaflets, .ref q_t_owners, .ref q_t_tears, .ref q_t_debts, .int v_t_size, .int v_t_lostByHands, .int v_t_lostByMould])), (q_t_kinds, .inl (cI, 10, .inl v_t_kinds)), (q_t_leaflets, .inl (cI, 10, .inl v_t_leaflets)), (q_t_owners, .inl (cI, 10, .inl v_t_owners)), (q_t_tears, .inl (cI, 40, .inl v_t_tears))] [(q_t, .inr (4, [.ref q_t_kinds, .ref q_t_leaflets, .ref q_t_owners, .ref q_t_tears, .ref q_t_debts, .int v_t_size, .int z.2.1, .int v_t_lostByMould])), (q_t_kinds, .inl (cI, 10, .inl v_t_kinds)), (q_t_leaflets, .inl (cI, 10, .inl z.2.2.1)), (q_t_owners, .inl (cI, 10, .inl z.2.2.2.1)), (q_t_tears, .inl (cI, 40, .inl z.2.2.2.2))] (some (.int z.1))) 0 0 (fr [(q_t, .inr (4, [.ref q_t_kinds, .ref q_t_leaflets, .ref q_t_owners, .ref q_t_tears, .ref q_t_debts, .int v_t_size, .int v_t_lostByHands, .int v_t_lostByMould])), (q_t_kinds, .inl (cI, 10, .inl v_t_kinds)), (q_t_leaflets, .inl (cI, 10, .inl v_t_leaflets)), (q_t_owners, .inl (cI, 10, .inl v_t_owners)), (q_t_tears, .inl (cI, 40, .inl v_t_tears))]) := by
  refine Met.ofW (cc := cX4_goByHand) (maxL := 4) (ret := (some .int)) (by decide) rfl ?_
  intro p e s m args below meth c s₁ B hml hv
  obtain ⟨hargs, hP, hK, hN, hD0⟩ := hv
  have hx := B.exec
  have hb := B.bytes
  have hr := B.returns
  have hts := atoms_spec (ws := wsX4_goByHand) B.pre
  have hown : s.vm.findClass RX4 = some m.cls := findClass_of_methodNamed B.named
  have hlocks := B.notSynchronized
  have iX4 : ∀ w ∈ wsX40, w ∈ wsX4_goByHand := by decide +kernel
  have k15 := hts (.fieldLink RX4 15 "PressedFerns$Herbarium" "leaflets" "[I") (by decide +kernel)
  have k18 := hts (.fieldLink RX4 18 "PressedFerns$Herbarium" "owners" "[I") (by decide +kernel)
  have k45 := hts (.fieldLink RX4 45 "PressedFerns$Herbarium" "lostByHands" "I") (by decide +kernel)
  have hD := fr_D hD0
  have hS : va_S (fr [(q_t, .inr (4, [.ref q_t_kinds, .ref q_t_leaflets, .ref q_t_owners, .ref q_t_tears, .ref q_t_debts, .int v_t_size, .int v_t_lostByHands, .int v_t_lostByMould])), (q_t_kinds, .inl (cI, 10, .inl v_t_kinds)), (q_t_leaflets, .inl (cI, 10, .inl v_t_leaflets)), (q_t_owners, .inl (cI, 10, .inl v_t_owners)), (q_t_tears, .inl (cI, 40, .inl v_t_tears))]) s.heap s.heap [] := va_S.rf
  have hl := lv_entry ([.ref q_t, .int x1, .int x2]) (n := 4) (Nat.le_of_ble_eq_true rfl)
  refine W.eq (g2 := F0 m 0 ((lg_sl ([.ref q_t, .int x1, .int x2]) ++ List.replicate (4 - (lg_sl ([.ref q_t, .int x1, .int x2])).length) Slot.unset).toArray) []) (by rw [hargs, lg_entry_eq]) ?_
  generalize (lg_sl ([.ref q_t, .int x1, .int x2]) ++ List.replicate (4 - (lg_sl ([.ref q_t, .int x1, .int x2])).length) Slot.unset).toArray = ls at hl ⊢
  have hl : lv_has ls 4 [(0, .ref q_t), (1, .int x1), (2, .int x2)] := hl
  show W p l e ({ frames := 3, cells := 0, slots := 0, locals := 66 } : Room) s m args below meth c s.heap [] 0 0 (MQ below (QG D [(q_t, .inr (4, [.ref q_t_kinds, .ref q_t_leaflets, .ref q_t_owners, .ref q_t_tears, .ref q_t_debts, .int v_t_size, .int v_t_lostByHands, .int v_t_lostByMould])), (q_t_kinds, .inl (cI, 10, .inl v_t_kinds)), (q_t_leaflets, .inl (cI, 10, .inl v_t_leaflets)), (q_t_owners, .inl (cI, 10, .inl v_t_owners)), (q_t_tears, .inl (cI, 40, .inl v_t_tears))] [(q_t, .inr (4, [.ref q_t_kinds, .ref q_t_leaflets, .ref q_t_owners, .ref q_t_tears, .ref q_t_debts, .int v_t_size, .int z.2.1, .int v_t_lostByMould])), (q_t_kinds, .inl (cI, 10, .inl v_t_kinds)), (q_t_leaflets, .inl (cI, 10, .inl z.2.2.1)), (q_t_owners, .inl (cI, 10, .inl z.2.2.2.1)), (q_t_tears, .inl (cI, 40, .inl z.2.2.2.2))] (some (.int z.1))) args s 0 0 (fr [(q_t, .inr (4, [.ref q_t_kinds, .ref q_t_leaflets, .ref q_t_owners, .ref q_t_tears, .ref q_t_debts, .int v_t_size, .int v_t_lostByHands, .int v_t_lostByMould])), (q_t_kinds, .inl (cI, 10, .inl v_t_kinds)), (q_t_leaflets, .inl (cI, 10, .inl v_t_leaflets)), (q_t_owners, .inl (cI, 10, .inl v_t_owners)), (q_t_tears, .inl (cI, 40, .inl v_t_tears))])) (F0 m 0 ls [])
  generalize hQ0 : (MQ below (QG D [(q_t, .inr (4, [.ref q_t_kinds, .ref q_t_leaflets, .ref q_t_owners, .ref q_t_tears, .ref q_t_debts, .int v_t_size, .int v_t_lostByHands, .int v_t_lostByMould])), (q_t_kinds, .inl (cI, 10, .inl v_t_kinds)), (q_t_leaflets, .inl (cI, 10, .inl v_t_leaflets)), (q_t_owners, .inl (cI, 10, .inl v_t_owners)), (q_t_tears, .inl (cI, 40, .inl v_t_tears))] [(q_t, .inr (4, [.ref q_t_kinds, .ref q_t_leaflets, .ref q_t_owners, .ref q_t_tears, .ref q_t_debts, .int v_t_size, .int z.2.1, .int v_t_lostByMould])), (q_t_kinds, .inl (cI, 10, .inl v_t_kinds)), (q_t_leaflets, .inl (cI, 10, .inl z.2.2.1)), (q_t_owners, .inl (cI, 10, .inl z.2.2.2.1)), (q_t_tears, .inl (cI, 40, .inl z.2.2.2.2))] (some (.int z.1))) args s 0 0 (fr [(q_t, .inr (4, [.ref q_t_kinds, .ref q_t_leaflets, .ref q_t_owners, .ref q_t_tears, .ref q_t_debts, .int v_t_size, .int v_t_lostByHands, .int v_t_lostByMould])), (q_t_kinds, .inl (cI, 10, .inl v_t_kinds)), (q_t_leaflets, .inl (cI, 10, .inl v_t_leaflets)), (q_t_owners, .inl (cI, 10, .inl v_t_owners)), (q_t_tears, .inl (cI, 40, .inl v_t_tears))])) = Q0
  generalize hA0 : fr [(q_t, .inr (4, [.ref q_t_kinds, .ref q_t_leaflets, .ref q_t_owners, .ref q_t_tears, .ref q_t_debts, .int v_t_size, .int v_t_lostByHands, .int v_t_lostByMould])), (q_t_kinds, .inl (cI, 10, .inl v_t_kinds)), (q_t_leaflets, .inl (cI, 10, .inl v_t_leaflets)), (q_t_owners, .inl (cI, 10, .inl v_t_owners)), (q_t_tears, .inl (cI, 40, .inl v_t_tears))] = A0 at hD hS
  unfold fX4_goByHand at h
  refine lv_aload_n hx hb dX4_goByHand_0 rfl (lv_at hl 0 rfl) ?_
  refine lv_iload_n hx hb dX4_goByHand_1 rfl (lv_at hl 1 rfl) ?_
  obtain ⟨u1, g2, h⟩ := bd_of h
  refine cl_V [(q_t, .inr (4, [.ref q_t_kinds, .ref q_t_leaflets, .ref q_t_owners, .ref q_t_tears, .ref q_t_debts, .int v_t_size, .int v_t_lostByHands, .int v_t_lostByMould])), (q_t_kinds, .inl (cI, 10, .inl v_t_kinds)), (q_t_leaflets, .inl (cI, 10, .inl v_t_leaflets)), (q_t_owners, .inl (cI, 10, .inl v_t_owners)), (q_t_tears, .inl (cI, 40, .inl v_t_tears))] (As := [.int x1]) (rest := []) (rv := (some (.int u1))) (c_X4_worthBehindHand l D cI cJ q_t q_t_kinds q_t_leaflets q_t_owners q_t_tears q_t_debts v_t_size v_t_lostByHands v_t_lostByMould v_t_kinds v_t_leaflets x1 u1 g2) ⟨hx, hb, hml, hown, hts⟩ (cwV 1 hts gX4_goByHand_X4_worthBehindHand rfl rfl rfl (by decide +kernel) ⟨(Nat.le_of_ble_eq_true rfl), (Nat.le_of_ble_eq_true rfl)⟩) hK hN hP hD hS [0, 1, 2] rfl (by decide) rfl rfl rfl (q0 := 0) (ci := 4) rfl rfl rfl rfl hl.1 rfl (Nat.le_of_ble_eq_true rfl) dX4_goByHand_2 ⟨Nat.zero_le _, Nat.zero_le _⟩ (fun H locs hP hD hS => ?_)
  show W p l e ({ frames := 3, cells := 0, slots := 0, locals := 66 } : Room) s m args below meth c H locs 0 0 Q0 (F0 m 5 ls [.int u1])
  refine lv_istore_n (lv' := [(3, .int u1), (0, .ref q_t), (1, .int x1), (2, .int x2)]) hx hb dX4_goByHand_5 rfl hl (by decide) rfl (fun ls hl => ?_)
  refine lv_aload_n hx hb dX4_goByHand_6 rfl (lv_at hl 1 rfl) ?_
  refine lv_dup hx hb dX4_goByHand_7 rfl ?_
  refine va_get (own := RX4) (ci := 4) (v := .int v_t_lostByHands) (C := RX4) (T := TX4) (N := 8) hx hb hts iX4 hown hK hP 0 rfl rfl 6 (by decide) k45 (fun _ h9 => h9) rfl dX4_goByHand_8 ?_
  refine lv_aload_n hx hb dX4_goByHand_11 rfl (lv_at hl 1 rfl) ?_
  refine va_get (own := RX4) (ci := 4) (v := .ref q_t_leaflets) (C := RX4) (T := TX4) (N := 8) hx hb hts iX4 hown hK hP 0 rfl rfl 1 (by decide) k15 (fun _ h9 => h9) rfl dX4_goByHand_12 ?_
  refine lv_iload_n hx hb dX4_goByHand_15 rfl (lv_at hl 2 rfl) ?_
  obtain ⟨g3, h⟩ := gd_of h
  refine va_iald hx hb hK hP 2 0 rfl rfl (inb_of g3) dX4_goByHand_16 ?_
  refine lv_iload_n hx hb dX4_goByHand_17 rfl (lv_at hl 0 rfl) ?_
  refine lv_isub hx hb dX4_goByHand_18 ?_
  refine lv_iadd hx hb dX4_goByHand_19 ?_
  refine va_put (D := D) (own := RX4) (ci := 4) (v := .int (v_t_lostByHands + ((v_t_leaflets x1.toNatClampNeg) - u1))) (ty := .int) (C := RX4) (T := TX4) (N := 8) hx hb hts iX4 tyX4 tyX4_ok nmX4 hown hK hP hD hS 0 rfl rfl 6 (by decide) k45 (fun _ h9 => h9) rfl (by decide +kernel) rfl rfl (Nat.le_of_ble_eq_true rfl) dX4_goByHand_20 (fun H locs hP hD hS => ?_)
  have hP : va_P D vwCl [(q_t, .inr (4, [.ref q_t_kinds, .ref q_t_leaflets, .ref q_t_owners, .ref q_t_tears, .ref q_t_debts, .int v_t_size, .int (v_t_lostByHands + ((v_t_leaflets x1.toNatClampNeg) - u1)), .int v_t_lostByMould])), (q_t_kinds, .inl (cI, 10, .inl v_t_kinds)), (q_t_leaflets, .inl (cI, 10, .inl v_t_leaflets)), (q_t_owners, .inl (cI, 10, .inl v_t_owners)), (q_t_tears, .inl (cI, 40, .inl v_t_tears))] H := hP
  have hD : va_D A0 [(q_t, .inr (4, [.ref q_t_kinds, .ref q_t_leaflets, .ref q_t_owners, .ref q_t_tears, .ref q_t_debts, .int v_t_size, .int (v_t_lostByHands + ((v_t_leaflets x1.toNatClampNeg) - u1)), .int v_t_lostByMould])), (q_t_kinds, .inl (cI, 10, .inl v_t_kinds)), (q_t_leaflets, .inl (cI, 10, .inl v_t_leaflets)), (q_t_owners, .inl (cI, 10, .inl v_t_owners)), (q_t_tears, .inl (cI, 40, .inl v_t_tears))] := hD
  refine lv_aload_n hx hb dX4_goByHand_23 rfl (lv_at hl 1 rfl) ?_
  refine va_get (own := RX4) (ci := 4) (v := .ref q_t_leaflets) (C := RX4) (T := TX4) (N := 8) hx hb hts iX4 hown hK hP 0 rfl rfl 1 (by decide) k15 (fun _ h9 => h9) rfl dX4_goByHand_24 ?_
  refine lv_iload_n hx hb dX4_goByHand_27 rfl (lv_at hl 2 rfl) ?_
  refine lv_iload_n hx hb dX4_goByHand_28 rfl (lv_at hl 0 rfl) ?_
  refine va_iast hx hb hK hP hD hS 2 0 rfl rfl (inb_of g3) dX4_goByHand_29 (fun H locs hP hD hS => ?_)
  have hP : va_P D vwCl [(q_t, .inr (4, [.ref q_t_kinds, .ref q_t_leaflets, .ref q_t_owners, .ref q_t_tears, .ref q_t_debts, .int v_t_size, .int (v_t_lostByHands + ((v_t_leaflets x1.toNatClampNeg) - u1)), .int v_t_lostByMould])), (q_t_kinds, .inl (cI, 10, .inl v_t_kinds)), (q_t_leaflets, .inl (cI, 10, .inl (upd v_t_leaflets x1.toNatClampNeg u1))), (q_t_owners, .inl (cI, 10, .inl v_t_owners)), (q_t_tears, .inl (cI, 40, .inl v_t_tears))] H := hP
  have hD : va_D A0 [(q_t, .inr (4, [.ref q_t_kinds, .ref q_t_leaflets, .ref q_t_owners, .ref q_t_tears, .ref q_t_debts, .int v_t_size, .int (v_t_lostByHands + ((v_t_leaflets x1.toNatClampNeg) - u1)), .int v_t_lostByMould])), (q_t_kinds, .inl (cI, 10, .inl v_t_kinds)), (q_t_leaflets, .inl (cI, 10, .inl (upd v_t_leaflets x1.toNatClampNeg u1))), (q_t_owners, .inl (cI, 10, .inl v_t_owners)), (q_t_tears, .inl (cI, 40, .inl v_t_tears))] := hD
  refine lv_aload_n hx hb dX4_goByHand_30 rfl (lv_at hl 1 rfl) ?_
  refine lv_iload_n hx hb dX4_goByHand_31 rfl (lv_at hl 2 rfl) ?_
  refine lv_aload_n hx hb dX4_goByHand_32 rfl (lv_at hl 1 rfl) ?_
  refine va_get (own := RX4) (ci := 4) (v := .ref q_t_owners) (C := RX4) (T := TX4) (N := 8) hx hb hts iX4 hown hK hP 0 rfl rfl 2 (by decide) k18 (fun _ h9 => h9) rfl dX4_goByHand_33 ?_
  refine lv_iload_n hx hb dX4_goByHand_36 rfl (lv_at hl 2 rfl) ?_
  refine va_iald hx hb hK hP 3 0 rfl rfl (inb_of g3) dX4_goByHand_37 ?_
  obtain ⟨u4, g5, h⟩ := bd_of h
  refine cl_V [(q_t, .inr (4, [.ref q_t_kinds, .ref q_t_leaflets, .ref q_t_owners, .ref q_t_tears, .ref q_t_debts, .int v_t_size, .int (v_t_lostByHands + ((v_t_leaflets x1.toNatClampNeg) - u1)), .int v_t_lostByMould])), (q_t_kinds, .inl (cI, 10, .inl v_t_kinds)), (q_t_leaflets, .inl (cI, 10, .inl (upd v_t_leaflets x1.toNatClampNeg u1))), (q_t_owners, .inl (cI, 10, .inl v_t_owners)), (q_t_tears, .inl (cI, 40, .inl u4))] (As := [.int x1, .int (v_t_owners x1.toNatClampNeg)]) (rest := []) (rv := none) (c_X4_tearOff l D cI cJ q_t q_t_kinds q_t_leaflets q_t_owners q_t_tears q_t_debts v_t_size (v_t_lostByHands + ((v_t_leaflets x1.toNatClampNeg) - u1)) v_t_lostByMould v_t_tears x1 (v_t_owners x1.toNatClampNeg) u4 g5) ⟨hx, hb, hml, hown, hts⟩ (cwV 2 hts gX4_goByHand_X4_tearOff rfl rfl rfl (by decide +kernel) ⟨(Nat.le_of_ble_eq_true rfl), (Nat.le_of_ble_eq_true rfl)⟩) hK hN hP hD hS [0, 4] rfl (by decide) rfl rfl rfl (q0 := 0) (ci := 4) rfl rfl rfl rfl hl.1 rfl (Nat.le_of_ble_eq_true rfl) dX4_goByHand_38 ⟨Nat.zero_le _, Nat.zero_le _⟩ (fun H locs hP hD hS => ?_)
  show W p l e ({ frames := 3, cells := 0, slots := 0, locals := 66 } : Room) s m args below meth c H locs 0 0 Q0 (F0 m 41 ls [])
  refine lv_aload_n hx hb dX4_goByHand_41 rfl (lv_at hl 1 rfl) ?_
  refine va_get (own := RX4) (ci := 4) (v := .ref q_t_owners) (C := RX4) (T := TX4) (N := 8) hx hb hts iX4 hown hK hP 0 rfl rfl 2 (by decide) k18 (fun _ h9 => h9) rfl dX4_goByHand_42 ?_
  refine lv_iload_n hx hb dX4_goByHand_45 rfl (lv_at hl 2 rfl) ?_
  refine lv_iload_n hx hb dX4_goByHand_46 rfl (lv_at hl 3 rfl) ?_
  refine va_iast hx hb hK hP hD hS 3 0 rfl rfl (inb_of g3) dX4_goByHand_47 (fun H locs hP hD hS => ?_)
  have hP : va_P D vwCl [(q_t, .inr (4, [.ref q_t_kinds, .ref q_t_leaflets, .ref q_t_owners, .ref q_t_tears, .ref q_t_debts, .int v_t_size, .int (v_t_lostByHands + ((v_t_leaflets x1.toNatClampNeg) - u1)), .int v_t_lostByMould])), (q_t_kinds, .inl (cI, 10, .inl v_t_kinds)), (q_t_leaflets, .inl (cI, 10, .inl (upd v_t_leaflets x1.toNatClampNeg u1))), (q_t_owners, .inl (cI, 10, .inl (upd v_t_owners x1.toNatClampNeg x2))), (q_t_tears, .inl (cI, 40, .inl u4))] H := hP
  have hD : va_D A0 [(q_t, .inr (4, [.ref q_t_kinds, .ref q_t_leaflets, .ref q_t_owners, .ref q_t_tears, .ref q_t_debts, .int v_t_size, .int (v_t_lostByHands + ((v_t_leaflets x1.toNatClampNeg) - u1)), .int v_t_lostByMould])), (q_t_kinds, .inl (cI, 10, .inl v_t_kinds)), (q_t_leaflets, .inl (cI, 10, .inl (upd v_t_leaflets x1.toNatClampNeg u1))), (q_t_owners, .inl (cI, 10, .inl (upd v_t_owners x1.toNatClampNeg x2))), (q_t_tears, .inl (cI, 40, .inl u4))] := hD
  refine lv_iload_n hx hb dX4_goByHand_48 rfl (lv_at hl 0 rfl) ?_
  obtain rfl := Option.some.inj h
  exact rt_i hA0 hQ0 hx hb hr hlocks hP hS dX4_goByHand_49
def fX4_knows (v_t_size : Int32) (v_t_lostByHands : Int32) (v_t_lostByMould : Int32) (x1 : Int32) : Int32 :=
  if x1 < 0 then (0) else (if v_t_size ≤ x1 then (0) else (1))
set_option maxHeartbeats 4000000 in
set_option maxRecDepth 100000 in
theorem c_X4_knows (l : Launch) (D : va_G) (cI cJ : ClassId) (q_t q_t_kinds q_t_leaflets q_t_owners q_t_tears q_t_debts : Nat) (v_t_size : Int32) (v_t_lostByHands : Int32) (v_t_lostByMould : Int32) (x1 : Int32) : Met l yX4_knows wsX4_knows ({ frames := 0, cells := 0, slots := 0, locals := 0 } : Room) (va_Pc [.ref q_t, .int x1] (preG D cI cJ [(q_t, .inr (4, [.ref q_t_kinds, .ref q_t_leaflets, .ref q_t_owners, .ref q_t_tears, .ref q_t_debts, .int v_t_size, .int v_t_lostByHands, .int v_t_lostByMould]))])) (QG D [(q_t, .inr (4, [.ref q_t_kinds, .ref q_t_leaflets, .ref q_t_owners, .ref q_t_tears, .ref q_t_debts, .int v_t_size, .int v_t_lostByHands, .int v_t_lostByMould]))] [(q_t, .inr (4, [.ref q_t_kinds, .ref q_t_leaflets, .ref q_t_owners, .ref q_t_tears, .ref q_t_debts, .int v_t_size, .int v_t_lostByHands, .int v_t_lostByMould]))] (some (.int (fX4_knows v_t_size v_t_lostByHands v_t_lostByMould x1)))) 0 0 (fr [(q_t, .inr (4, [.ref q_t_kinds, .ref q_t_leaflets, .ref q_t_owners, .ref q_t_tears, .ref q_t_debts, .int v_t_size, .int v_t_lostByHands, .int v_t_lostByMould]))]) := by
  generalize h : fX4_knows v_t_size v_t_lostByHands v_t_lostByMould x1 = z
  refine Met.ofW (cc := cX4_knows) (maxL := 2) (ret := (some .boolean)) (by decide) rfl ?_
  intro p e s m args below meth c s₁ B hml hv
  obtain ⟨hargs, hP, hK, hN, hD0⟩ := hv
  have hx := B.exec
  have hb := B.bytes
  have hr := B.returns
  have hts := atoms_spec (ws := wsX4_knows) B.pre
  have hown : s.vm.findClass RX4 = some m.cls := findClass_of_methodNamed B.named
  have hlocks := B.notSynchronized
  have iX4 : ∀ w ∈ wsX40, w ∈ wsX4_knows := by decide +kernel
  have k41 := hts (.fieldLink RX4 41 "PressedFerns$Herbarium" "size" "I") (by decide +kernel)
  have hD := fr_D hD0
  have hS : va_S (fr [(q_t, .inr (4, [.ref q_t_kinds, .ref q_t_leaflets, .ref q_t_owners, .ref q_t_tears, .ref q_t_debts, .int v_t_size, .int v_t_lostByHands, .int v_t_lostByMould]))]) s.heap s.heap [] := va_S.rf
  have hl := lv_entry ([.ref q_t, .int x1]) (n := 2) (Nat.le_of_ble_eq_true rfl)
  refine W.eq (g2 := F0 m 0 ((lg_sl ([.ref q_t, .int x1]) ++ List.replicate (2 - (lg_sl ([.ref q_t, .int x1])).length) Slot.unset).toArray) []) (by rw [hargs, lg_entry_eq]) ?_
  generalize (lg_sl ([.ref q_t, .int x1]) ++ List.replicate (2 - (lg_sl ([.ref q_t, .int x1])).length) Slot.unset).toArray = ls at hl ⊢
  have hl : lv_has ls 2 [(0, .ref q_t), (1, .int x1)] := hl
  show W p l e ({ frames := 0, cells := 0, slots := 0, locals := 0 } : Room) s m args below meth c s.heap [] 0 0 (MQ below (QG D [(q_t, .inr (4, [.ref q_t_kinds, .ref q_t_leaflets, .ref q_t_owners, .ref q_t_tears, .ref q_t_debts, .int v_t_size, .int v_t_lostByHands, .int v_t_lostByMould]))] [(q_t, .inr (4, [.ref q_t_kinds, .ref q_t_leaflets, .ref q_t_owners, .ref q_t_tears, .ref q_t_debts, .int v_t_size, .int v_t_lostByHands, .int v_t_lostByMould]))] (some (.int z))) args s 0 0 (fr [(q_t, .inr (4, [.ref q_t_kinds, .ref q_t_leaflets, .ref q_t_owners, .ref q_t_tears, .ref q_t_debts, .int v_t_size, .int v_t_lostByHands, .int v_t_lostByMould]))])) (F0 m 0 ls [])
  generalize hQ0 : (MQ below (QG D [(q_t, .inr (4, [.ref q_t_kinds, .ref q_t_leaflets, .ref q_t_owners, .ref q_t_tears, .ref q_t_debts, .int v_t_size, .int v_t_lostByHands, .int v_t_lostByMould]))] [(q_t, .inr (4, [.ref q_t_kinds, .ref q_t_leaflets, .ref q_t_owners, .ref q_t_tears, .ref q_t_debts, .int v_t_size, .int v_t_lostByHands, .int v_t_lostByMould]))] (some (.int z))) args s 0 0 (fr [(q_t, .inr (4, [.ref q_t_kinds, .ref q_t_leaflets, .ref q_t_owners, .ref q_t_tears, .ref q_t_debts, .int v_t_size, .int v_t_lostByHands, .int v_t_lostByMould]))])) = Q0
  generalize hA0 : fr [(q_t, .inr (4, [.ref q_t_kinds, .ref q_t_leaflets, .ref q_t_owners, .ref q_t_tears, .ref q_t_debts, .int v_t_size, .int v_t_lostByHands, .int v_t_lostByMould]))] = A0 at hD hS
  unfold fX4_knows at h
  refine lv_iload_n hx hb dX4_knows_0 rfl (lv_at hl 1 rfl) ?_
  refine lv_if_lt (tgt := 16) hx hb dX4_knows_1 (by decide) (fun c1 => ?_) (fun c1 => ?_)
  · skip
    have h := (if_pos c1).symm.trans h
    refine lv_iconst (v := 0) hx hb dX4_knows_16 (by decide) ?_
    subst h
    exact rt_z hA0 hQ0 hx hb hr hlocks rfl hP hS dX4_knows_17
  · skip
    have h := (if_neg c1).symm.trans h
    refine lv_iload_n hx hb dX4_knows_4 rfl (lv_at hl 1 rfl) ?_
    refine lv_aload_n hx hb dX4_knows_5 rfl (lv_at hl 0 rfl) ?_
    refine va_get (own := RX4) (ci := 4) (v := .int v_t_size) (C := RX4) (T := TX4) (N := 8) hx hb hts iX4 hown hK hP 0 rfl rfl 5 (by decide) k41 (fun _ h9 => h9) rfl dX4_knows_6 ?_
    refine lv_icmp_ge (tgt := 16) hx hb dX4_knows_9 (by decide) (fun c2 => ?_) (fun c2 => ?_)
    · skip
      have h := (if_pos c2).symm.trans h
      refine lv_iconst (v := 0) hx hb dX4_knows_16 (by decide) ?_
      subst h
      exact rt_z hA0 hQ0 hx hb hr hlocks rfl hP hS dX4_knows_17
    · skip
      have h := (if_neg c2).symm.trans h
      refine lv_iconst (v := 1) hx hb dX4_knows_12 (by decide) ?_
      refine lv_goto (tgt := 17) hx hb dX4_knows_13 (by decide) ?_
      subst h
      exact rt_z hA0 hQ0 hx hb hr hlocks rfl hP hS dX4_knows_17
theorem zb_X4_knows (v_t_size : Int32) (v_t_lostByHands : Int32) (v_t_lostByMould : Int32) (x1 : Int32) : narrow .boolean (.int (fX4_knows v_t_size v_t_lostByHands v_t_lostByMould x1)) = .int (fX4_knows v_t_size v_t_lostByHands v_t_lostByMould x1) := by
  unfold fX4_knows
  repeat' split
  all_goals rfl
def fX4_takeMould_X4_60 (v_t_lostByMould : Int32) (a3 : Int32 × (Nat → Int32)) : Option (Int32 × Int32 × (Nat → Int32)) :=
  some (a3.1, (v_t_lostByMould + a3.1), a3.2)
def fX4_takeMould_J54 (z1 : Int32 × Int32 × (Nat → Int32)) (a9 : Int32 × (Nat → Int32)) : Option ((Int32 × Int32 × (Nat → Int32)) ⊕ (Int32 × (Nat → Int32))) :=
  some (Sum.inl (a9.1, (z1.2.1 + 1), a9.2))
def fX4_takeMould_L4 (v_t_size : Int32) (v_t_lostByHands : Int32) (v_t_lostByMould : Int32) (v_t_kinds : Nat → Int32) (v_t_owners : Nat → Int32) (z1 : Int32 × Int32 × (Nat → Int32)) : Option ((Int32 × Int32 × (Nat → Int32)) ⊕ (Int32 × (Nat → Int32))) :=
  if v_t_size ≤ z1.2.1 then (some (Sum.inr (z1.1, z1.2.2))) else ((fX4_isAtBank v_t_size v_t_lostByHands v_t_lostByMould v_t_owners z1.2.1).bind (fun u7 => if u7 = 0 then (gd (inb z1.2.1 10) (fX4_takeMould_J54 z1 ((z1.1 + ((z1.2.2 z1.2.1.toNatClampNeg) - (fX5_behindDamp (v_t_kinds z1.2.1.toNatClampNeg) (z1.2.2 z1.2.1.toNatClampNeg)))), (upd z1.2.2 z1.2.1.toNatClampNeg (fX5_behindDamp (v_t_kinds z1.2.1.toNatClampNeg) (z1.2.2 z1.2.1.toNatClampNeg)))))) else (fX4_takeMould_J54 z1 (z1.1, z1.2.2))))
def fX4_takeMould (v_t_size : Int32) (v_t_lostByHands : Int32) (v_t_lostByMould : Int32) (v_t_kinds : Nat → Int32) (v_t_leaflets : Nat → Int32) (v_t_owners : Nat → Int32) : Option (Int32 × Int32 × (Nat → Int32)) :=
  (iter (fX4_takeMould_L4 v_t_size v_t_lostByHands v_t_lostByMould v_t_kinds v_t_owners) FU (0, 0, v_t_leaflets)).bind (fX4_takeMould_X4_60 v_t_lostByMould)
set_option maxHeartbeats 4000000 in
set_option maxRecDepth 100000 in
theorem c_X4_takeMould (l : Launch) (D : va_G) (cI cJ : ClassId) (q_t q_t_kinds q_t_leaflets q_t_owners q_t_tears q_t_debts : Nat) (v_t_size : Int32) (v_t_lostByHands : Int32) (v_t_lostByMould : Int32) (v_t_kinds : Nat → Int32) (v_t_leaflets : Nat → Int32) (v_t_owners : Nat → Int32) (z : Int32 × Int32 × (Nat → Int32)) (h : fX4_takeMould v_t_size v_t_lostByHands v_t_lostByMould v_t_kinds v_t_leaflets v_t_owners = some z) : Met l yX4_takeMould wsX4_takeMould ({ frames := 2, cells := 0, slots := 0, locals := 45 } : Room) (va_Pc [.ref q_t] (preG D cI cJ [(q_t, .inr (4, [.ref q_t_kinds, .ref q_t_leaflets, .ref q_t_owners, .ref q_t_tears, .ref q_t_debts, .int v_t_size, .int v_t_lostByHands, .int v_t_lostByMould])), (q_t_kinds, .inl (cI, 10, .inl v_t_kinds)), (q_t_leaflets, .inl (cI, 10, .inl v_t_leaflets)), (q_t_owners, .inl (cI, 10, .inl v_t_owners))])) (QG D [(q_t, .inr (4, [.ref q_t_kinds, .ref q_t_leaflets, .ref q_t_owners, .ref q_t_tears, .ref q_t_debts, .int v_t_size, .int v_t_lostByHands, .int v_t_lostByMould])), (q_t_kinds, .inl (cI, 10, .inl v_t_kinds)), (q_t_leaflets, .inl (cI, 10, .inl v_t_leaflets)), (q_t_owners, .inl (cI, 10, .inl v_t_owners))] [(q_t, .inr (4, [.ref q_t_kinds, .ref q_t_leaflets, .ref q_t_owners, .ref q_t_tears, .ref q_t_debts, .int v_t_size, .int v_t_lostByHands, .int z.2.1])), (q_t_kinds, .inl (cI, 10, .inl v_t_kinds)), (q_t_leaflets, .inl (cI, 10, .inl z.2.2)), (q_t_owners, .inl (cI, 10, .inl v_t_owners))] (some (.int z.1))) 0 0 (fr [(q_t, .inr (4, [.ref q_t_kinds, .ref q_t_leaflets, .ref q_t_owners, .ref q_t_tears, .ref q_t_debts, .int v_t_size, .int v_t_lostByHands, .int v_t_lostByMould])), (q_t_kinds, .inl (cI, 10, .inl v_t_kinds)), (q_t_leaflets, .inl (cI, 10, .inl v_t_leaflets)), (q_t_owners, .inl (cI, 10, .inl v_t_owners))]) := by
  refine Met.ofW (cc := cX4_takeMould) (maxL := 4) (ret := (some .int)) (by decide) rfl ?_
  intro p e s m args below meth c s₁ B hml hv
  obtain ⟨hargs, hP, hK, hN, hD0⟩ := hv
  have hx := B.exec
  have hb := B.bytes
  have hr := B.returns
  have hts := atoms_spec (ws := wsX4_takeMould) B.pre
  have hown : s.vm.findClass RX4 = some m.cls := findClass_of_methodNamed B.named
  have hlocks := B.notSynchronized
  have iX4 : ∀ w ∈ wsX40, w ∈ wsX4_takeMould := by decide +kernel
  have k9 := hts (.fieldLink RX4 9 "PressedFerns$Herbarium" "kinds" "[I") (by decide +kernel)
  have k15 := hts (.fieldLink RX4 15 "PressedFerns$Herbarium" "leaflets" "[I") (by decide +kernel)
  have k41 := hts (.fieldLink RX4 41 "PressedFerns$Herbarium" "size" "I") (by decide +kernel)
  have k48 := hts (.fieldLink RX4 48 "PressedFerns$Herbarium" "lostByMould" "I") (by decide +kernel)
  have hD := fr_D hD0
  have hS : va_S (fr [(q_t, .inr (4, [.ref q_t_kinds, .ref q_t_leaflets, .ref q_t_owners, .ref q_t_tears, .ref q_t_debts, .int v_t_size, .int v_t_lostByHands, .int v_t_lostByMould])), (q_t_kinds, .inl (cI, 10, .inl v_t_kinds)), (q_t_leaflets, .inl (cI, 10, .inl v_t_leaflets)), (q_t_owners, .inl (cI, 10, .inl v_t_owners))]) s.heap s.heap [] := va_S.rf
  have hl := lv_entry ([.ref q_t]) (n := 4) (Nat.le_of_ble_eq_true rfl)
  refine W.eq (g2 := F0 m 0 ((lg_sl ([.ref q_t]) ++ List.replicate (4 - (lg_sl ([.ref q_t])).length) Slot.unset).toArray) []) (by rw [hargs, lg_entry_eq]) ?_
  generalize (lg_sl ([.ref q_t]) ++ List.replicate (4 - (lg_sl ([.ref q_t])).length) Slot.unset).toArray = ls at hl ⊢
  have hl : lv_has ls 4 [(0, .ref q_t)] := hl
  show W p l e ({ frames := 2, cells := 0, slots := 0, locals := 45 } : Room) s m args below meth c s.heap [] 0 0 (MQ below (QG D [(q_t, .inr (4, [.ref q_t_kinds, .ref q_t_leaflets, .ref q_t_owners, .ref q_t_tears, .ref q_t_debts, .int v_t_size, .int v_t_lostByHands, .int v_t_lostByMould])), (q_t_kinds, .inl (cI, 10, .inl v_t_kinds)), (q_t_leaflets, .inl (cI, 10, .inl v_t_leaflets)), (q_t_owners, .inl (cI, 10, .inl v_t_owners))] [(q_t, .inr (4, [.ref q_t_kinds, .ref q_t_leaflets, .ref q_t_owners, .ref q_t_tears, .ref q_t_debts, .int v_t_size, .int v_t_lostByHands, .int z.2.1])), (q_t_kinds, .inl (cI, 10, .inl v_t_kinds)), (q_t_leaflets, .inl (cI, 10, .inl z.2.2)), (q_t_owners, .inl (cI, 10, .inl v_t_owners))] (some (.int z.1))) args s 0 0 (fr [(q_t, .inr (4, [.ref q_t_kinds, .ref q_t_leaflets, .ref q_t_owners, .ref q_t_tears, .ref q_t_debts, .int v_t_size, .int v_t_lostByHands, .int v_t_lostByMould])), (q_t_kinds, .inl (cI, 10, .inl v_t_kinds)), (q_t_leaflets, .inl (cI, 10, .inl v_t_leaflets)), (q_t_owners, .inl (cI, 10, .inl v_t_owners))])) (F0 m 0 ls [])
  generalize hQ0 : (MQ below (QG D [(q_t, .inr (4, [.ref q_t_kinds, .ref q_t_leaflets, .ref q_t_owners, .ref q_t_tears, .ref q_t_debts, .int v_t_size, .int v_t_lostByHands, .int v_t_lostByMould])), (q_t_kinds, .inl (cI, 10, .inl v_t_kinds)), (q_t_leaflets, .inl (cI, 10, .inl v_t_leaflets)), (q_t_owners, .inl (cI, 10, .inl v_t_owners))] [(q_t, .inr (4, [.ref q_t_kinds, .ref q_t_leaflets, .ref q_t_owners, .ref q_t_tears, .ref q_t_debts, .int v_t_size, .int v_t_lostByHands, .int z.2.1])), (q_t_kinds, .inl (cI, 10, .inl v_t_kinds)), (q_t_leaflets, .inl (cI, 10, .inl z.2.2)), (q_t_owners, .inl (cI, 10, .inl v_t_owners))] (some (.int z.1))) args s 0 0 (fr [(q_t, .inr (4, [.ref q_t_kinds, .ref q_t_leaflets, .ref q_t_owners, .ref q_t_tears, .ref q_t_debts, .int v_t_size, .int v_t_lostByHands, .int v_t_lostByMould])), (q_t_kinds, .inl (cI, 10, .inl v_t_kinds)), (q_t_leaflets, .inl (cI, 10, .inl v_t_leaflets)), (q_t_owners, .inl (cI, 10, .inl v_t_owners))])) = Q0
  generalize hA0 : fr [(q_t, .inr (4, [.ref q_t_kinds, .ref q_t_leaflets, .ref q_t_owners, .ref q_t_tears, .ref q_t_debts, .int v_t_size, .int v_t_lostByHands, .int v_t_lostByMould])), (q_t_kinds, .inl (cI, 10, .inl v_t_kinds)), (q_t_leaflets, .inl (cI, 10, .inl v_t_leaflets)), (q_t_owners, .inl (cI, 10, .inl v_t_owners))] = A0 at hD hS
  unfold fX4_takeMould at h
  refine lv_iconst (v := 0) hx hb dX4_takeMould_0 (by decide) ?_
  refine lv_istore_n (lv' := [(1, .int 0), (0, .ref q_t)]) hx hb dX4_takeMould_1 rfl hl (by decide) rfl (fun ls hl => ?_)
  refine lv_iconst (v := 0) hx hb dX4_takeMould_2 (by decide) ?_
  refine lv_istore_n (lv' := [(2, .int 0), (1, .int 0), (0, .ref q_t)]) hx hb dX4_takeMould_3 rfl hl (by decide) rfl (fun ls hl => ?_)
  obtain ⟨e2, he_e2, hc_e2⟩ := bd_of h
  have X60_4 : ∀ (a3 : Int32 × (Nat → Int32)) (H : Heap) (locs : List Loc) (ls : Array Slot), fX4_takeMould_X4_60 v_t_lostByMould a3 = some z → va_P D vwCl [(q_t, .inr (4, [.ref q_t_kinds, .ref q_t_leaflets, .ref q_t_owners, .ref q_t_tears, .ref q_t_debts, .int v_t_size, .int v_t_lostByHands, .int v_t_lostByMould])), (q_t_kinds, .inl (cI, 10, .inl v_t_kinds)), (q_t_leaflets, .inl (cI, 10, .inl a3.2)), (q_t_owners, .inl (cI, 10, .inl v_t_owners))] H → va_D A0 [(q_t, .inr (4, [.ref q_t_kinds, .ref q_t_leaflets, .ref q_t_owners, .ref q_t_tears, .ref q_t_debts, .int v_t_size, .int v_t_lostByHands, .int v_t_lostByMould])), (q_t_kinds, .inl (cI, 10, .inl v_t_kinds)), (q_t_leaflets, .inl (cI, 10, .inl a3.2)), (q_t_owners, .inl (cI, 10, .inl v_t_owners))] → va_S A0 s.heap H locs → lv_has ls 4 [(0, .ref q_t), (1, .int a3.1)] → W p l e ({ frames := 2, cells := 0, slots := 0, locals := 45 } : Room) s m args below meth c H locs 0 0 Q0 (F0 m 60 ls []) := by
    intro a3 H locs ls h hP hD hS hl
    unfold fX4_takeMould_X4_60 at h
    refine lv_aload_n hx hb dX4_takeMould_60 rfl (lv_at hl 0 rfl) ?_
    refine lv_dup hx hb dX4_takeMould_61 rfl ?_
    refine va_get (own := RX4) (ci := 4) (v := .int v_t_lostByMould) (C := RX4) (T := TX4) (N := 8) hx hb hts iX4 hown hK hP 0 rfl rfl 7 (by decide) k48 (fun _ h9 => h9) rfl dX4_takeMould_62 ?_
    refine lv_iload_n hx hb dX4_takeMould_65 rfl (lv_at hl 1 rfl) ?_
    refine lv_iadd hx hb dX4_takeMould_66 ?_
    refine va_put (D := D) (own := RX4) (ci := 4) (v := .int (v_t_lostByMould + a3.1)) (ty := .int) (C := RX4) (T := TX4) (N := 8) hx hb hts iX4 tyX4 tyX4_ok nmX4 hown hK hP hD hS 0 rfl rfl 7 (by decide) k48 (fun _ h9 => h9) rfl (by decide +kernel) rfl rfl (Nat.le_of_ble_eq_true rfl) dX4_takeMould_67 (fun H locs hP hD hS => ?_)
    have hP : va_P D vwCl [(q_t, .inr (4, [.ref q_t_kinds, .ref q_t_leaflets, .ref q_t_owners, .ref q_t_tears, .ref q_t_debts, .int v_t_size, .int v_t_lostByHands, .int (v_t_lostByMould + a3.1)])), (q_t_kinds, .inl (cI, 10, .inl v_t_kinds)), (q_t_leaflets, .inl (cI, 10, .inl a3.2)), (q_t_owners, .inl (cI, 10, .inl v_t_owners))] H := hP
    have hD : va_D A0 [(q_t, .inr (4, [.ref q_t_kinds, .ref q_t_leaflets, .ref q_t_owners, .ref q_t_tears, .ref q_t_debts, .int v_t_size, .int v_t_lostByHands, .int (v_t_lostByMould + a3.1)])), (q_t_kinds, .inl (cI, 10, .inl v_t_kinds)), (q_t_leaflets, .inl (cI, 10, .inl a3.2)), (q_t_owners, .inl (cI, 10, .inl v_t_owners))] := hD
    refine lv_iload_n hx hb dX4_takeMould_70 rfl (lv_at hl 1 rfl) ?_
    obtain rfl := Option.some.inj h
    exact rt_i hA0 hQ0 hx hb hr hlocks hP hS dX4_takeMould_71
  have L4_5 : ∀ (n : Nat) (z1 : Int32 × Int32 × (Nat → Int32)) (H : Heap) (locs : List Loc) (ls : Array Slot), iter (fX4_takeMould_L4 v_t_size v_t_lostByHands v_t_lostByMould v_t_kinds v_t_owners) n z1 = some e2 → va_P D vwCl [(q_t, .inr (4, [.ref q_t_kinds, .ref q_t_leaflets, .ref q_t_owners, .ref q_t_tears, .ref q_t_debts, .int v_t_size, .int v_t_lostByHands, .int v_t_lostByMould])), (q_t_kinds, .inl (cI, 10, .inl v_t_kinds)), (q_t_leaflets, .inl (cI, 10, .inl z1.2.2)), (q_t_owners, .inl (cI, 10, .inl v_t_owners))] H → va_D A0 [(q_t, .inr (4, [.ref q_t_kinds, .ref q_t_leaflets, .ref q_t_owners, .ref q_t_tears, .ref q_t_debts, .int v_t_size, .int v_t_lostByHands, .int v_t_lostByMould])), (q_t_kinds, .inl (cI, 10, .inl v_t_kinds)), (q_t_leaflets, .inl (cI, 10, .inl z1.2.2)), (q_t_owners, .inl (cI, 10, .inl v_t_owners))] → va_S A0 s.heap H locs → lv_has ls 4 [(0, .ref q_t), (1, .int z1.1), (2, .int z1.2.1)] → W p l e ({ frames := 2, cells := 0, slots := 0, locals := 45 } : Room) s m args below meth c H locs 0 0 Q0 (F0 m 4 ls []) := by
    intro n
    induction n with
    | zero => exact fun _ _ _ _ h => (iter_z h).elim
    | succ n ih =>
      intro z1 H locs ls h hP hD hS hl
      obtain ⟨r_e2, h, hn_e2⟩ := iter_s h
      unfold fX4_takeMould_L4 at h
      refine lv_iload_n hx hb dX4_takeMould_4 rfl (lv_at hl 2 rfl) ?_
      refine lv_aload_n hx hb dX4_takeMould_5 rfl (lv_at hl 0 rfl) ?_
      refine va_get (own := RX4) (ci := 4) (v := .int v_t_size) (C := RX4) (T := TX4) (N := 8) hx hb hts iX4 hown hK hP 0 rfl rfl 5 (by decide) k41 (fun _ h9 => h9) rfl dX4_takeMould_6 ?_
      refine lv_icmp_ge (tgt := 60) hx hb dX4_takeMould_9 (by decide) (fun c6 => ?_) (fun c6 => ?_)
      · skip
        have h := (if_pos c6).symm.trans h
        obtain rfl := Option.some.inj h
        obtain rfl := Option.some.inj hn_e2
        exact X60_4 (z1.1, z1.2.2) _ _ _ hc_e2 hP hD hS (lv_sub hl [0, 1] rfl)
      · skip
        have h := (if_neg c6).symm.trans h
        refine lv_aload_n hx hb dX4_takeMould_12 rfl (lv_at hl 0 rfl) ?_
        refine lv_iload_n hx hb dX4_takeMould_13 rfl (lv_at hl 2 rfl) ?_
        obtain ⟨u7, g8, h⟩ := bd_of h
        refine cl_V [(q_t, .inr (4, [.ref q_t_kinds, .ref q_t_leaflets, .ref q_t_owners, .ref q_t_tears, .ref q_t_debts, .int v_t_size, .int v_t_lostByHands, .int v_t_lostByMould])), (q_t_kinds, .inl (cI, 10, .inl v_t_kinds)), (q_t_leaflets, .inl (cI, 10, .inl z1.2.2)), (q_t_owners, .inl (cI, 10, .inl v_t_owners))] (As := [.int z1.2.1]) (rest := []) (rv := (some (.int u7))) (c_X4_isAtBank l D cI cJ q_t q_t_kinds q_t_leaflets q_t_owners q_t_tears q_t_debts v_t_size v_t_lostByHands v_t_lostByMould v_t_owners z1.2.1 u7 g8) ⟨hx, hb, hml, hown, hts⟩ (cwV 1 hts gX4_takeMould_X4_isAtBank rfl rfl rfl (by decide +kernel) ⟨(Nat.le_of_ble_eq_true rfl), (Nat.le_of_ble_eq_true rfl)⟩) hK hN hP hD hS [0, 3] rfl (by decide) rfl rfl rfl (q0 := 0) (ci := 4) rfl rfl rfl rfl hl.1 rfl (Nat.le_of_ble_eq_true rfl) dX4_takeMould_14 ⟨Nat.zero_le _, Nat.zero_le _⟩ (fun H locs hP hD hS => ?_)
        show W p l e ({ frames := 2, cells := 0, slots := 0, locals := 45 } : Room) s m args below meth c H locs 0 0 Q0 (F0 m 17 ls [.int u7])
        have J54_10 : ∀ (a9 : Int32 × (Nat → Int32)) (H : Heap) (locs : List Loc) (ls : Array Slot), fX4_takeMould_J54 z1 a9 = some r_e2 → va_P D vwCl [(q_t, .inr (4, [.ref q_t_kinds, .ref q_t_leaflets, .ref q_t_owners, .ref q_t_tears, .ref q_t_debts, .int v_t_size, .int v_t_lostByHands, .int v_t_lostByMould])), (q_t_kinds, .inl (cI, 10, .inl v_t_kinds)), (q_t_leaflets, .inl (cI, 10, .inl a9.2)), (q_t_owners, .inl (cI, 10, .inl v_t_owners))] H → va_D A0 [(q_t, .inr (4, [.ref q_t_kinds, .ref q_t_leaflets, .ref q_t_owners, .ref q_t_tears, .ref q_t_debts, .int v_t_size, .int v_t_lostByHands, .int v_t_lostByMould])), (q_t_kinds, .inl (cI, 10, .inl v_t_kinds)), (q_t_leaflets, .inl (cI, 10, .inl a9.2)), (q_t_owners, .inl (cI, 10, .inl v_t_owners))] → va_S A0 s.heap H locs → lv_has ls 4 [(0, .ref q_t), (1, .int a9.1), (2, .int z1.2.1)] → W p l e ({ frames := 2, cells := 0, slots := 0, locals := 45 } : Room) s m args below meth c H locs 0 0 Q0 (F0 m 54 ls []) := by
          intro a9 H locs ls h hP hD hS hl
          unfold fX4_takeMould_J54 at h
          refine lv_iinc (v := (z1.2.1 + 1)) (lv' := [(2, .int (z1.2.1 + 1)), (0, .ref q_t), (1, .int a9.1)]) hx hb dX4_takeMould_54 hl (k := 2) rfl rfl (by decide) rfl (fun ls hl => ?_)
          refine lv_goto (tgt := 4) hx hb dX4_takeMould_57 (by decide) ?_
          obtain rfl := Option.some.inj h
          exact ih (a9.1, (z1.2.1 + 1), a9.2) _ _ _ hn_e2 hP hD hS (lv_sub hl [1, 2, 0] rfl)
        refine lv_if_ne (tgt := 54) hx hb dX4_takeMould_17 (by decide) (fun c11 => ?_) (fun c11 => ?_)
        · skip
          have h := (if_neg c11).symm.trans h
          exact J54_10 (z1.1, z1.2.2) _ _ _ h hP hD hS (lv_sub hl [0, 1, 2] rfl)
        · skip
          have h := (if_pos c11).symm.trans h
          refine lv_aload_n hx hb dX4_takeMould_20 rfl (lv_at hl 0 rfl) ?_
          refine va_get (own := RX4) (ci := 4) (v := .ref q_t_kinds) (C := RX4) (T := TX4) (N := 8) hx hb hts iX4 hown hK hP 0 rfl rfl 0 (by decide) k9 (fun _ h9 => h9) rfl dX4_takeMould_21 ?_
          refine lv_iload_n hx hb dX4_takeMould_24 rfl (lv_at hl 2 rfl) ?_
          obtain ⟨g12, h⟩ := gd_of h
          refine va_iald hx hb hK hP 1 0 rfl rfl (inb_of g12) dX4_takeMould_25 ?_
          refine lv_aload_n hx hb dX4_takeMould_26 rfl (lv_at hl 0 rfl) ?_
          refine va_get (own := RX4) (ci := 4) (v := .ref q_t_leaflets) (C := RX4) (T := TX4) (N := 8) hx hb hts iX4 hown hK hP 0 rfl rfl 1 (by decide) k15 (fun _ h9 => h9) rfl dX4_takeMould_27 ?_
          refine lv_iload_n hx hb dX4_takeMould_30 rfl (lv_at hl 2 rfl) ?_
          refine va_iald hx hb hK hP 2 0 rfl rfl (inb_of g12) dX4_takeMould_31 ?_
          refine cl_S [(q_t, .inr (4, [.ref q_t_kinds, .ref q_t_leaflets, .ref q_t_owners, .ref q_t_tears, .ref q_t_debts, .int v_t_size, .int v_t_lostByHands, .int v_t_lostByMould])), (q_t_kinds, .inl (cI, 10, .inl v_t_kinds)), (q_t_leaflets, .inl (cI, 10, .inl z1.2.2)), (q_t_owners, .inl (cI, 10, .inl v_t_owners))] (As := [.int (v_t_kinds z1.2.1.toNatClampNeg), .int (z1.2.2 z1.2.1.toNatClampNeg)]) (rest := []) (rv := (some (.int (fX5_behindDamp (v_t_kinds z1.2.1.toNatClampNeg) (z1.2.2 z1.2.1.toNatClampNeg))))) (c_X5_behindDamp l D cI cJ (v_t_kinds z1.2.1.toNatClampNeg) (z1.2.2 z1.2.1.toNatClampNeg)) ⟨hx, hb, hml, hown, hts⟩ (va_cwS 2 hts gX4_takeMould_X5_behindDamp rfl rfl rfl (by decide +kernel) ⟨(Nat.le_of_ble_eq_true rfl), (Nat.le_of_ble_eq_true rfl)⟩) hK hN hP hD hS [] rfl (by decide) rfl rfl rfl rfl hl.1 rfl (Nat.le_of_ble_eq_true rfl) dX4_takeMould_32 ⟨Nat.zero_le _, Nat.zero_le _⟩ (fun H locs hP hD hS => ?_)
          show W p l e ({ frames := 2, cells := 0, slots := 0, locals := 45 } : Room) s m args below meth c H locs 0 0 Q0 (F0 m 35 ls [.int (fX5_behindDamp (v_t_kinds z1.2.1.toNatClampNeg) (z1.2.2 z1.2.1.toNatClampNeg))])
          refine lv_istore_n (lv' := [(3, .int (fX5_behindDamp (v_t_kinds z1.2.1.toNatClampNeg) (z1.2.2 z1.2.1.toNatClampNeg))), (0, .ref q_t), (1, .int z1.1), (2, .int z1.2.1)]) hx hb dX4_takeMould_35 rfl hl (by decide) rfl (fun ls hl => ?_)
          refine lv_iload_n hx hb dX4_takeMould_36 rfl (lv_at hl 2 rfl) ?_
          refine lv_aload_n hx hb dX4_takeMould_37 rfl (lv_at hl 1 rfl) ?_
          refine va_get (own := RX4) (ci := 4) (v := .ref q_t_leaflets) (C := RX4) (T := TX4) (N := 8) hx hb hts iX4 hown hK hP 0 rfl rfl 1 (by decide) k15 (fun _ h9 => h9) rfl dX4_takeMould_38 ?_
          refine lv_iload_n hx hb dX4_takeMould_41 rfl (lv_at hl 3 rfl) ?_
          refine va_iald hx hb hK hP 2 0 rfl rfl (inb_of g12) dX4_takeMould_42 ?_
          refine lv_iload_n hx hb dX4_takeMould_43 rfl (lv_at hl 0 rfl) ?_
          refine lv_isub hx hb dX4_takeMould_44 ?_
          refine lv_iadd hx hb dX4_takeMould_45 ?_
          refine lv_istore_n (lv' := [(1, .int (z1.1 + ((z1.2.2 z1.2.1.toNatClampNeg) - (fX5_behindDamp (v_t_kinds z1.2.1.toNatClampNeg) (z1.2.2 z1.2.1.toNatClampNeg))))), (3, .int (fX5_behindDamp (v_t_kinds z1.2.1.toNatClampNeg) (z1.2.2 z1.2.1.toNatClampNeg))), (0, .ref q_t), (2, .int z1.2.1)]) hx hb dX4_takeMould_46 rfl hl (by decide) rfl (fun ls hl => ?_)
          refine lv_aload_n hx hb dX4_takeMould_47 rfl (lv_at hl 2 rfl) ?_
          refine va_get (own := RX4) (ci := 4) (v := .ref q_t_leaflets) (C := RX4) (T := TX4) (N := 8) hx hb hts iX4 hown hK hP 0 rfl rfl 1 (by decide) k15 (fun _ h9 => h9) rfl dX4_takeMould_48 ?_
          refine lv_iload_n hx hb dX4_takeMould_51 rfl (lv_at hl 3 rfl) ?_
          refine lv_iload_n hx hb dX4_takeMould_52 rfl (lv_at hl 1 rfl) ?_
          refine va_iast hx hb hK hP hD hS 2 0 rfl rfl (inb_of g12) dX4_takeMould_53 (fun H locs hP hD hS => ?_)
          have hP : va_P D vwCl [(q_t, .inr (4, [.ref q_t_kinds, .ref q_t_leaflets, .ref q_t_owners, .ref q_t_tears, .ref q_t_debts, .int v_t_size, .int v_t_lostByHands, .int v_t_lostByMould])), (q_t_kinds, .inl (cI, 10, .inl v_t_kinds)), (q_t_leaflets, .inl (cI, 10, .inl (upd z1.2.2 z1.2.1.toNatClampNeg (fX5_behindDamp (v_t_kinds z1.2.1.toNatClampNeg) (z1.2.2 z1.2.1.toNatClampNeg))))), (q_t_owners, .inl (cI, 10, .inl v_t_owners))] H := hP
          have hD : va_D A0 [(q_t, .inr (4, [.ref q_t_kinds, .ref q_t_leaflets, .ref q_t_owners, .ref q_t_tears, .ref q_t_debts, .int v_t_size, .int v_t_lostByHands, .int v_t_lostByMould])), (q_t_kinds, .inl (cI, 10, .inl v_t_kinds)), (q_t_leaflets, .inl (cI, 10, .inl (upd z1.2.2 z1.2.1.toNatClampNeg (fX5_behindDamp (v_t_kinds z1.2.1.toNatClampNeg) (z1.2.2 z1.2.1.toNatClampNeg))))), (q_t_owners, .inl (cI, 10, .inl v_t_owners))] := hD
          exact J54_10 ((z1.1 + ((z1.2.2 z1.2.1.toNatClampNeg) - (fX5_behindDamp (v_t_kinds z1.2.1.toNatClampNeg) (z1.2.2 z1.2.1.toNatClampNeg)))), (upd z1.2.2 z1.2.1.toNatClampNeg (fX5_behindDamp (v_t_kinds z1.2.1.toNatClampNeg) (z1.2.2 z1.2.1.toNatClampNeg)))) _ _ _ h hP hD hS (lv_sub hl [2, 0, 3] rfl)
  exact L4_5 FU (0, 0, v_t_leaflets) _ _ _ he_e2 hP hD hS (lv_sub hl [2, 1, 0] rfl)
def fX4_copyFrom (v_t_size : Int32) (v_t_lostByHands : Int32) (v_t_lostByMould : Int32) (v_t_kinds : Nat → Int32) (v_t_leaflets : Nat → Int32) (v_t_owners : Nat → Int32) (v_t_tears : Nat → Int32) (v_t_debts_sums : Nat → Int32) (v_p0_size : Int32) (v_p0_lostByHands : Int32) (v_p0_lostByMould : Int32) (v_p0_kinds : Nat → Int32) (v_p0_leaflets : Nat → Int32) (v_p0_owners : Nat → Int32) (v_p0_tears : Nat → Int32) (v_p0_debts_sums : Nat → Int32) : Option (Int32 × Int32 × Int32 × (Nat → Int32) × (Nat → Int32) × (Nat → Int32) × (Nat → Int32) × (Nat → Int32)) :=
  (fX1_copyFrom v_t_debts_sums v_p0_debts_sums).bind (fun u1 => some (v_p0_size, v_p0_lostByHands, v_p0_lostByMould, (va_cpy v_p0_kinds v_t_kinds (0 : Int32).toNatClampNeg (0 : Int32).toNatClampNeg (10 : Int32).toNatClampNeg), (va_cpy v_p0_leaflets v_t_leaflets (0 : Int32).toNatClampNeg (0 : Int32).toNatClampNeg (10 : Int32).toNatClampNeg), (va_cpy v_p0_owners v_t_owners (0 : Int32).toNatClampNeg (0 : Int32).toNatClampNeg (10 : Int32).toNatClampNeg), (va_cpy v_p0_tears v_t_tears (0 : Int32).toNatClampNeg (0 : Int32).toNatClampNeg (40 : Int32).toNatClampNeg), u1))
set_option maxHeartbeats 4000000 in
set_option maxRecDepth 100000 in
theorem c_X4_copyFrom (l : Launch) (D : va_G) (cI cJ : ClassId) (q_t q_t_kinds q_t_leaflets q_t_owners q_t_tears q_t_debts q_t_debts_sums q_p0 q_p0_kinds q_p0_leaflets q_p0_owners q_p0_tears q_p0_debts q_p0_debts_sums : Nat) (v_t_size : Int32) (v_t_lostByHands : Int32) (v_t_lostByMould : Int32) (v_t_kinds : Nat → Int32) (v_t_leaflets : Nat → Int32) (v_t_owners : Nat → Int32) (v_t_tears : Nat → Int32) (v_t_debts_sums : Nat → Int32) (v_p0_size : Int32) (v_p0_lostByHands : Int32) (v_p0_lostByMould : Int32) (v_p0_kinds : Nat → Int32) (v_p0_leaflets : Nat → Int32) (v_p0_owners : Nat → Int32) (v_p0_tears : Nat → Int32) (v_p0_debts_sums : Nat → Int32) (z : Int32 × Int32 × Int32 × (Nat → Int32) × (Nat → Int32) × (Nat → Int32) × (Nat → Int32) × (Nat → Int32)) (h : fX4_copyFrom v_t_size v_t_lostByHands v_t_lostByMould v_t_kinds v_t_leaflets v_t_owners v_t_tears v_t_debts_sums v_p0_size v_p0_lostByHands v_p0_lostByMould v_p0_kinds v_p0_leaflets v_p0_owners v_p0_tears v_p0_debts_sums = some z) : Met l yX4_copyFrom wsX4_copyFrom ({ frames := 2, cells := 0, slots := 0, locals := 81 } : Room) (va_Pc [.ref q_t, .ref q_p0] (preG D cI cJ [(q_t, .inr (4, [.ref q_t_kinds, .ref q_t_leaflets, .ref q_t_owners, .ref q_t_tears, .ref q_t_debts, .int v_t_size, .int v_t_lostByHands, .int v_t_lostByMould])), (q_t_kinds, .inl (cI, 10, .inl v_t_kinds)), (q_t_leaflets, .inl (cI, 10, .inl v_t_leaflets)), (q_t_owners, .inl (cI, 10, .inl v_t_owners)), (q_t_tears, .inl (cI, 40, .inl v_t_tears)), (q_t_debts, .inr (1, [.ref q_t_debts_sums])), (q_t_debts_sums, .inl (cI, 36, .inl v_t_debts_sums)), (q_p0, .inr (4, [.ref q_p0_kinds, .ref q_p0_leaflets, .ref q_p0_owners, .ref q_p0_tears, .ref q_p0_debts, .int v_p0_size, .int v_p0_lostByHands, .int v_p0_lostByMould])), (q_p0_kinds, .inl (cI, 10, .inl v_p0_kinds)), (q_p0_leaflets, .inl (cI, 10, .inl v_p0_leaflets)), (q_p0_owners, .inl (cI, 10, .inl v_p0_owners)), (q_p0_tears, .inl (cI, 40, .inl v_p0_tears)), (q_p0_debts, .inr (1, [.ref q_p0_debts_sums])), (q_p0_debts_sums, .inl (cI, 36, .inl v_p0_debts_sums))])) (QG D [(q_t, .inr (4, [.ref q_t_kinds, .ref q_t_leaflets, .ref q_t_owners, .ref q_t_tears, .ref q_t_debts, .int v_t_size, .int v_t_lostByHands, .int v_t_lostByMould])), (q_t_kinds, .inl (cI, 10, .inl v_t_kinds)), (q_t_leaflets, .inl (cI, 10, .inl v_t_leaflets)), (q_t_owners, .inl (cI, 10, .inl v_t_owners)), (q_t_tears, .inl (cI, 40, .inl v_t_tears)), (q_t_debts, .inr (1, [.ref q_t_debts_sums])), (q_t_debts_sums, .inl (cI, 36, .inl v_t_debts_sums)), (q_p0, .inr (4, [.ref q_p0_kinds, .ref q_p0_leaflets, .ref q_p0_owners, .ref q_p0_tears, .ref q_p0_debts, .int v_p0_size, .int v_p0_lostByHands, .int v_p0_lostByMould])), (q_p0_kinds, .inl (cI, 10, .inl v_p0_kinds)), (q_p0_leaflets, .inl (cI, 10, .inl v_p0_leaflets)), (q_p0_owners, .inl (cI, 10, .inl v_p0_owners)), (q_p0_tears, .inl (cI, 40, .inl v_p0_tears)), (q_p0_debts, .inr (1, [.ref q_p0_debts_sums])), (q_p0_debts_sums, .inl (cI, 36, .inl v_p0_debts_sums))] [(q_t, .inr (4, [.ref q_t_kinds, .ref q_t_leaflets, .ref q_t_owners, .ref q_t_tears, .ref q_t_debts, .int z.1, .int z.2.1, .int z.2.2.1])), (q_t_kinds, .inl (cI, 10, .inl z.2.2.2.1)), (q_t_leaflets, .inl (cI, 10, .inl z.2.2.2.2.1)), (q_t_owners, .inl (cI, 10, .inl z.2.2.2.2.2.1)), (q_t_tears, .inl (cI, 40, .inl z.2.2.2.2.2.2.1)), (q_t_debts, .inr (1, [.ref q_t_debts_sums])), (q_t_debts_sums, .inl (cI, 36, .inl z.2.2.2.2.2.2.2)), (q_p0, .inr (4, [.ref q_p0_kinds, .ref q_p0_leaflets, .ref q_p0_owners, .ref q_p0_tears, .ref q_p0_debts, .int v_p0_size, .int v_p0_lostByHands, .int v_p0_lostByMould])), (q_p0_kinds, .inl (cI, 10, .inl v_p0_kinds)), (q_p0_leaflets, .inl (cI, 10, .inl v_p0_leaflets)), (q_p0_owners, .inl (cI, 10, .inl v_p0_owners)), (q_p0_tears, .inl (cI, 40, .inl v_p0_tears)), (q_p0_debts, .inr (1, [.ref q_p0_debts_sums])), (q_p0_debts_sums, .inl (cI, 36, .inl v_p0_debts_sums))] none) 0 0 (fr [(q_t, .inr (4, [.ref q_t_kinds, .ref q_t_leaflets, .ref q_t_owners, .ref q_t_tears, .ref q_t_debts, .int v_t_size, .int v_t_lostByHands, .int v_t_lostByMould])), (q_t_kinds, .inl (cI, 10, .inl v_t_kinds)), (q_t_leaflets, .inl (cI, 10, .inl v_t_leaflets)), (q_t_owners, .inl (cI, 10, .inl v_t_owners)), (q_t_tears, .inl (cI, 40, .inl v_t_tears)), (q_t_debts, .inr (1, [.ref q_t_debts_sums])), (q_t_debts_sums, .inl (cI, 36, .inl v_t_debts_sums)), (q_p0, .inr (4, [.ref q_p0_kinds, .ref q_p0_leaflets, .ref q_p0_owners, .ref q_p0_tears, .ref q_p0_debts, .int v_p0_size, .int v_p0_lostByHands, .int v_p0_lostByMould])), (q_p0_kinds, .inl (cI, 10, .inl v_p0_kinds)), (q_p0_leaflets, .inl (cI, 10, .inl v_p0_leaflets)), (q_p0_owners, .inl (cI, 10, .inl v_p0_owners)), (q_p0_tears, .inl (cI, 40, .inl v_p0_tears)), (q_p0_debts, .inr (1, [.ref q_p0_debts_sums])), (q_p0_debts_sums, .inl (cI, 36, .inl v_p0_debts_sums))]) := by
  refine Met.ofW (cc := cX4_copyFrom) (maxL := 2) (ret := none) (by decide) rfl ?_
  intro p e s m args below meth c s₁ B hml hv
  obtain ⟨hargs, hP, hK, hN, hD0⟩ := hv
  have hx := B.exec
  have hb := B.bytes
  have hr := B.returns
  have hts := atoms_spec (ws := wsX4_copyFrom) B.pre
  have hown : s.vm.findClass RX4 = some m.cls := findClass_of_methodNamed B.named
  have hlocks := B.notSynchronized
  have iX4 : ∀ w ∈ wsX40, w ∈ wsX4_copyFrom := by decide +kernel
  have k9 := hts (.fieldLink RX4 9 "PressedFerns$Herbarium" "kinds" "[I") (by decide +kernel)
  have k15 := hts (.fieldLink RX4 15 "PressedFerns$Herbarium" "leaflets" "[I") (by decide +kernel)
  have k18 := hts (.fieldLink RX4 18 "PressedFerns$Herbarium" "owners" "[I") (by decide +kernel)
  have k21 := hts (.fieldLink RX4 21 "PressedFerns$Herbarium" "tears" "[I") (by decide +kernel)
  have k27 := hts (.fieldLink RX4 27 "PressedFerns$Herbarium" "debts" "LPressedFerns$Debts;") (by decide +kernel)
  have k41 := hts (.fieldLink RX4 41 "PressedFerns$Herbarium" "size" "I") (by decide +kernel)
  have k45 := hts (.fieldLink RX4 45 "PressedFerns$Herbarium" "lostByHands" "I") (by decide +kernel)
  have k48 := hts (.fieldLink RX4 48 "PressedFerns$Herbarium" "lostByMould" "I") (by decide +kernel)
  have hD := fr_D hD0
  have hS : va_S (fr [(q_t, .inr (4, [.ref q_t_kinds, .ref q_t_leaflets, .ref q_t_owners, .ref q_t_tears, .ref q_t_debts, .int v_t_size, .int v_t_lostByHands, .int v_t_lostByMould])), (q_t_kinds, .inl (cI, 10, .inl v_t_kinds)), (q_t_leaflets, .inl (cI, 10, .inl v_t_leaflets)), (q_t_owners, .inl (cI, 10, .inl v_t_owners)), (q_t_tears, .inl (cI, 40, .inl v_t_tears)), (q_t_debts, .inr (1, [.ref q_t_debts_sums])), (q_t_debts_sums, .inl (cI, 36, .inl v_t_debts_sums)), (q_p0, .inr (4, [.ref q_p0_kinds, .ref q_p0_leaflets, .ref q_p0_owners, .ref q_p0_tears, .ref q_p0_debts, .int v_p0_size, .int v_p0_lostByHands, .int v_p0_lostByMould])), (q_p0_kinds, .inl (cI, 10, .inl v_p0_kinds)), (q_p0_leaflets, .inl (cI, 10, .inl v_p0_leaflets)), (q_p0_owners, .inl (cI, 10, .inl v_p0_owners)), (q_p0_tears, .inl (cI, 40, .inl v_p0_tears)), (q_p0_debts, .inr (1, [.ref q_p0_debts_sums])), (q_p0_debts_sums, .inl (cI, 36, .inl v_p0_debts_sums))]) s.heap s.heap [] := va_S.rf
  have hl := lv_entry ([.ref q_t, .ref q_p0]) (n := 2) (Nat.le_of_ble_eq_true rfl)
  refine W.eq (g2 := F0 m 0 ((lg_sl ([.ref q_t, .ref q_p0]) ++ List.replicate (2 - (lg_sl ([.ref q_t, .ref q_p0])).length) Slot.unset).toArray) []) (by rw [hargs, lg_entry_eq]) ?_
  generalize (lg_sl ([.ref q_t, .ref q_p0]) ++ List.replicate (2 - (lg_sl ([.ref q_t, .ref q_p0])).length) Slot.unset).toArray = ls at hl ⊢
  have hl : lv_has ls 2 [(0, .ref q_t), (1, .ref q_p0)] := hl
  show W p l e ({ frames := 2, cells := 0, slots := 0, locals := 81 } : Room) s m args below meth c s.heap [] 0 0 (MQ below (QG D [(q_t, .inr (4, [.ref q_t_kinds, .ref q_t_leaflets, .ref q_t_owners, .ref q_t_tears, .ref q_t_debts, .int v_t_size, .int v_t_lostByHands, .int v_t_lostByMould])), (q_t_kinds, .inl (cI, 10, .inl v_t_kinds)), (q_t_leaflets, .inl (cI, 10, .inl v_t_leaflets)), (q_t_owners, .inl (cI, 10, .inl v_t_owners)), (q_t_tears, .inl (cI, 40, .inl v_t_tears)), (q_t_debts, .inr (1, [.ref q_t_debts_sums])), (q_t_debts_sums, .inl (cI, 36, .inl v_t_debts_sums)), (q_p0, .inr (4, [.ref q_p0_kinds, .ref q_p0_leaflets, .ref q_p0_owners, .ref q_p0_tears, .ref q_p0_debts, .int v_p0_size, .int v_p0_lostByHands, .int v_p0_lostByMould])), (q_p0_kinds, .inl (cI, 10, .inl v_p0_kinds)), (q_p0_leaflets, .inl (cI, 10, .inl v_p0_leaflets)), (q_p0_owners, .inl (cI, 10, .inl v_p0_owners)), (q_p0_tears, .inl (cI, 40, .inl v_p0_tears)), (q_p0_debts, .inr (1, [.ref q_p0_debts_sums])), (q_p0_debts_sums, .inl (cI, 36, .inl v_p0_debts_sums))] [(q_t, .inr (4, [.ref q_t_kinds, .ref q_t_leaflets, .ref q_t_owners, .ref q_t_tears, .ref q_t_debts, .int z.1, .int z.2.1, .int z.2.2.1])), (q_t_kinds, .inl (cI, 10, .inl z.2.2.2.1)), (q_t_leaflets, .inl (cI, 10, .inl z.2.2.2.2.1)), (q_t_owners, .inl (cI, 10, .inl z.2.2.2.2.2.1)), (q_t_tears, .inl (cI, 40, .inl z.2.2.2.2.2.2.1)), (q_t_debts, .inr (1, [.ref q_t_debts_sums])), (q_t_debts_sums, .inl (cI, 36, .inl z.2.2.2.2.2.2.2)), (q_p0, .inr (4, [.ref q_p0_kinds, .ref q_p0_leaflets, .ref q_p0_owners, .ref q_p0_tears, .ref q_p0_debts, .int v_p0_size, .int v_p0_lostByHands, .int v_p0_lostByMould])), (q_p0_kinds, .inl (cI, 10, .inl v_p0_kinds)), (q_p0_leaflets, .inl (cI, 10, .inl v_p0_leaflets)), (q_p0_owners, .inl (cI, 10, .inl v_p0_owners)), (q_p0_tears, .inl (cI, 40, .inl v_p0_tears)), (q_p0_debts, .inr (1, [.ref q_p0_debts_sums])), (q_p0_debts_sums, .inl (cI, 36, .inl v_p0_debts_sums))] none) args s 0 0 (fr [(q_t, .inr (4, [.ref q_t_kinds, .ref q_t_leaflets, .ref q_t_owners, .ref q_t_tears, .ref q_t_debts, .int v_t_size, .int v_t_lostByHands, .int v_t_lostByMould])), (q_t_kinds, .inl (cI, 10, .inl v_t_kinds)), (q_t_leaflets, .inl (cI, 10, .inl v_t_leaflets)), (q_t_owners, .inl (cI, 10, .inl v_t_owners)), (q_t_tears, .inl (cI, 40, .inl v_t_tears)), (q_t_debts, .inr (1, [.ref q_t_debts_sums])), (q_t_debts_sums, .inl (cI, 36, .inl v_t_debts_sums)), (q_p0, .inr (4, [.ref q_p0_kinds, .ref q_p0_leaflets, .ref q_p0_owners, .ref q_p0_tears, .ref q_p0_debts, .int v_p0_size, .int v_p0_lostByHands, .int v_p0_lostByMould])), (q_p0_kinds, .inl (cI, 10, .inl v_p0_kinds)), (q_p0_leaflets, .inl (cI, 10, .inl v_p0_leaflets)), (q_p0_owners, .inl (cI, 10, .inl v_p0_owners)), (q_p0_tears, .inl (cI, 40, .inl v_p0_tears)), (q_p0_debts, .inr (1, [.ref q_p0_debts_sums])), (q_p0_debts_sums, .inl (cI, 36, .inl v_p0_debts_sums))])) (F0 m 0 ls [])
  generalize hQ0 : (MQ below (QG D [(q_t, .inr (4, [.ref q_t_kinds, .ref q_t_leaflets, .ref q_t_owners, .ref q_t_tears, .ref q_t_debts, .int v_t_size, .int v_t_lostByHands, .int v_t_lostByMould])), (q_t_kinds, .inl (cI, 10, .inl v_t_kinds)), (q_t_leaflets, .inl (cI, 10, .inl v_t_leaflets)), (q_t_owners, .inl (cI, 10, .inl v_t_owners)), (q_t_tears, .inl (cI, 40, .inl v_t_tears)), (q_t_debts, .inr (1, [.ref q_t_debts_sums])), (q_t_debts_sums, .inl (cI, 36, .inl v_t_debts_sums)), (q_p0, .inr (4, [.ref q_p0_kinds, .ref q_p0_leaflets, .ref q_p0_owners, .ref q_p0_tears, .ref q_p0_debts, .int v_p0_size, .int v_p0_lostByHands, .int v_p0_lostByMould])), (q_p0_kinds, .inl (cI, 10, .inl v_p0_kinds)), (q_p0_leaflets, .inl (cI, 10, .inl v_p0_leaflets)), (q_p0_owners, .inl (cI, 10, .inl v_p0_owners)), (q_p0_tears, .inl (cI, 40, .inl v_p0_tears)), (q_p0_debts, .inr (1, [.ref q_p0_debts_sums])), (q_p0_debts_sums, .inl (cI, 36, .inl v_p0_debts_sums))] [(q_t, .inr (4, [.ref q_t_kinds, .ref q_t_leaflets, .ref q_t_owners, .ref q_t_tears, .ref q_t_debts, .int z.1, .int z.2.1, .int z.2.2.1])), (q_t_kinds, .inl (cI, 10, .inl z.2.2.2.1)), (q_t_leaflets, .inl (cI, 10, .inl z.2.2.2.2.1)), (q_t_owners, .inl (cI, 10, .inl z.2.2.2.2.2.1)), (q_t_tears, .inl (cI, 40, .inl z.2.2.2.2.2.2.1)), (q_t_debts, .inr (1, [.ref q_t_debts_sums])), (q_t_debts_sums, .inl (cI, 36, .inl z.2.2.2.2.2.2.2)), (q_p0, .inr (4, [.ref q_p0_kinds, .ref q_p0_leaflets, .ref q_p0_owners, .ref q_p0_tears, .ref q_p0_debts, .int v_p0_size, .int v_p0_lostByHands, .int v_p0_lostByMould])), (q_p0_kinds, .inl (cI, 10, .inl v_p0_kinds)), (q_p0_leaflets, .inl (cI, 10, .inl v_p0_leaflets)), (q_p0_owners, .inl (cI, 10, .inl v_p0_owners)), (q_p0_tears, .inl (cI, 40, .inl v_p0_tears)), (q_p0_debts, .inr (1, [.ref q_p0_debts_sums])), (q_p0_debts_sums, .inl (cI, 36, .inl v_p0_debts_sums))] none) args s 0 0 (fr [(q_t, .inr (4, [.ref q_t_kinds, .ref q_t_leaflets, .ref q_t_owners, .ref q_t_tears, .ref q_t_debts, .int v_t_size, .int v_t_lostByHands, .int v_t_lostByMould])), (q_t_kinds, .inl (cI, 10, .inl v_t_kinds)), (q_t_leaflets, .inl (cI, 10, .inl v_t_leaflets)), (q_t_owners, .inl (cI, 10, .inl v_t_owners)), (q_t_tears, .inl (cI, 40, .inl v_t_tears)), (q_t_debts, .inr (1, [.ref q_t_debts_sums])), (q_t_debts_sums, .inl (cI, 36, .inl v_t_debts_sums)), (q_p0, .inr (4, [.ref q_p0_kinds, .ref q_p0_leaflets, .ref q_p0_owners, .ref q_p0_tears, .ref q_p0_debts, .int v_p0_size, .int v_p0_lostByHands, .int v_p0_lostByMould])), (q_p0_kinds, .inl (cI, 10, .inl v_p0_kinds)), (q_p0_leaflets, .inl (cI, 10, .inl v_p0_leaflets)), (q_p0_owners, .inl (cI, 10, .inl v_p0_owners)), (q_p0_tears, .inl (cI, 40, .inl v_p0_tears)), (q_p0_debts, .inr (1, [.ref q_p0_debts_sums])), (q_p0_debts_sums, .inl (cI, 36, .inl v_p0_debts_sums))])) = Q0
  generalize hA0 : fr [(q_t, .inr (4, [.ref q_t_kinds, .ref q_t_leaflets, .ref q_t_owners, .ref q_t_tears, .ref q_t_debts, .int v_t_size, .int v_t_lostByHands, .int v_t_lostByMould])), (q_t_kinds, .inl (cI, 10, .inl v_t_kinds)), (q_t_leaflets, .inl (cI, 10, .inl v_t_leaflets)), (q_t_owners, .inl (cI, 10, .inl v_t_owners)), (q_t_tears, .inl (cI, 40, .inl v_t_tears)), (q_t_debts, .inr (1, [.ref q_t_debts_sums])), (q_t_debts_sums, .inl (cI, 36, .inl v_t_debts_sums)), (q_p0, .inr (4, [.ref q_p0_kinds, .ref q_p0_leaflets, .ref q_p0_owners, .ref q_p0_tears, .ref q_p0_debts, .int v_p0_size, .int v_p0_lostByHands, .int v_p0_lostByMould])), (q_p0_kinds, .inl (cI, 10, .inl v_p0_kinds)), (q_p0_leaflets, .inl (cI, 10, .inl v_p0_leaflets)), (q_p0_owners, .inl (cI, 10, .inl v_p0_owners)), (q_p0_tears, .inl (cI, 40, .inl v_p0_tears)), (q_p0_debts, .inr (1, [.ref q_p0_debts_sums])), (q_p0_debts_sums, .inl (cI, 36, .inl v_p0_debts_sums))] = A0 at hD hS
  unfold fX4_copyFrom at h
  refine lv_aload_n hx hb dX4_copyFrom_0 rfl (lv_at hl 1 rfl) ?_
  refine va_get (own := RX4) (ci := 4) (v := .ref q_p0_kinds) (C := RX4) (T := TX4) (N := 8) hx hb hts iX4 hown hK hP 7 rfl rfl 0 (by decide) k9 (fun _ h9 => h9) rfl dX4_copyFrom_1 ?_
  refine lv_iconst (v := 0) hx hb dX4_copyFrom_4 (by decide) ?_
  refine lv_aload_n hx hb dX4_copyFrom_5 rfl (lv_at hl 0 rfl) ?_
  refine va_get (own := RX4) (ci := 4) (v := .ref q_t_kinds) (C := RX4) (T := TX4) (N := 8) hx hb hts iX4 hown hK hP 0 rfl rfl 0 (by decide) k9 (fun _ h9 => h9) rfl dX4_copyFrom_6 ?_
  refine lv_iconst (v := 0) hx hb dX4_copyFrom_9 (by decide) ?_
  refine lv_bipush (v := 10) hx hb dX4_copyFrom_10 (by decide) ?_
  refine va_copyi (own := RX4) hx hb (hml.trans hl.1.symm) hown (hts (.methodLink RX4 31 arraycopyName) (by decide +kernel)) (hts (.native arraycopyName) (by decide +kernel)) (hts (.static arraycopyName) (by decide +kernel)) (hts (.initialized "java/lang/System") (by decide +kernel)) hK hP hD hS 8 1 0 0 (ty := .int) rfl rfl rfl rfl rfl (by decide) (by decide) (by decide) (by decide) (by decide) (fun _ _ => rfl) (Nat.le_of_ble_eq_true rfl) (Nat.le_of_ble_eq_true (by decide +kernel)) dX4_copyFrom_12 (fun H locs hP hD hS => ?_)
  have hP : va_P D vwCl [(q_t, .inr (4, [.ref q_t_kinds, .ref q_t_leaflets, .ref q_t_owners, .ref q_t_tears, .ref q_t_debts, .int v_t_size, .int v_t_lostByHands, .int v_t_lostByMould])), (q_t_kinds, .inl (cI, 10, .inl (va_cpy v_p0_kinds v_t_kinds (0 : Int32).toNatClampNeg (0 : Int32).toNatClampNeg (10 : Int32).toNatClampNeg))), (q_t_leaflets, .inl (cI, 10, .inl v_t_leaflets)), (q_t_owners, .inl (cI, 10, .inl v_t_owners)), (q_t_tears, .inl (cI, 40, .inl v_t_tears)), (q_t_debts, .inr (1, [.ref q_t_debts_sums])), (q_t_debts_sums, .inl (cI, 36, .inl v_t_debts_sums)), (q_p0, .inr (4, [.ref q_p0_kinds, .ref q_p0_leaflets, .ref q_p0_owners, .ref q_p0_tears, .ref q_p0_debts, .int v_p0_size, .int v_p0_lostByHands, .int v_p0_lostByMould])), (q_p0_kinds, .inl (cI, 10, .inl v_p0_kinds)), (q_p0_leaflets, .inl (cI, 10, .inl v_p0_leaflets)), (q_p0_owners, .inl (cI, 10, .inl v_p0_owners)), (q_p0_tears, .inl (cI, 40, .inl v_p0_tears)), (q_p0_debts, .inr (1, [.ref q_p0_debts_sums])), (q_p0_debts_sums, .inl (cI, 36, .inl v_p0_debts_sums))] H := hP
  have hD : va_D A0 [(q_t, .inr (4, [.ref q_t_kinds, .ref q_t_leaflets, .ref q_t_owners, .ref q_t_tears, .ref q_t_debts, .int v_t_size, .int v_t_lostByHands, .int v_t_lostByMould])), (q_t_kinds, .inl (cI, 10, .inl (va_cpy v_p0_kinds v_t_kinds (0 : Int32).toNatClampNeg (0 : Int32).toNatClampNeg (10 : Int32).toNatClampNeg))), (q_t_leaflets, .inl (cI, 10, .inl v_t_leaflets)), (q_t_owners, .inl (cI, 10, .inl v_t_owners)), (q_t_tears, .inl (cI, 40, .inl v_t_tears)), (q_t_debts, .inr (1, [.ref q_t_debts_sums])), (q_t_debts_sums, .inl (cI, 36, .inl v_t_debts_sums)), (q_p0, .inr (4, [.ref q_p0_kinds, .ref q_p0_leaflets, .ref q_p0_owners, .ref q_p0_tears, .ref q_p0_debts, .int v_p0_size, .int v_p0_lostByHands, .int v_p0_lostByMould])), (q_p0_kinds, .inl (cI, 10, .inl v_p0_kinds)), (q_p0_leaflets, .inl (cI, 10, .inl v_p0_leaflets)), (q_p0_owners, .inl (cI, 10, .inl v_p0_owners)), (q_p0_tears, .inl (cI, 40, .inl v_p0_tears)), (q_p0_debts, .inr (1, [.ref q_p0_debts_sums])), (q_p0_debts_sums, .inl (cI, 36, .inl v_p0_debts_sums))] := hD
  refine lv_aload_n hx hb dX4_copyFrom_15 rfl (lv_at hl 1 rfl) ?_
  refine va_get (own := RX4) (ci := 4) (v := .ref q_p0_leaflets) (C := RX4) (T := TX4) (N := 8) hx hb hts iX4 hown hK hP 7 rfl rfl 1 (by decide) k15 (fun _ h9 => h9) rfl dX4_copyFrom_16 ?_
  refine lv_iconst (v := 0) hx hb dX4_copyFrom_19 (by decide) ?_
  refine lv_aload_n hx hb dX4_copyFrom_20 rfl (lv_at hl 0 rfl) ?_
  refine va_get (own := RX4) (ci := 4) (v := .ref q_t_leaflets) (C := RX4) (T := TX4) (N := 8) hx hb hts iX4 hown hK hP 0 rfl rfl 1 (by decide) k15 (fun _ h9 => h9) rfl dX4_copyFrom_21 ?_
  refine lv_iconst (v := 0) hx hb dX4_copyFrom_24 (by decide) ?_
  refine lv_bipush (v := 10) hx hb dX4_copyFrom_25 (by decide) ?_
  refine va_copyi (own := RX4) hx hb (hml.trans hl.1.symm) hown (hts (.methodLink RX4 31 arraycopyName) (by decide +kernel)) (hts (.native arraycopyName) (by decide +kernel)) (hts (.static arraycopyName) (by decide +kernel)) (hts (.initialized "java/lang/System") (by decide +kernel)) hK hP hD hS 9 2 0 0 (ty := .int) rfl rfl rfl rfl rfl (by decide) (by decide) (by decide) (by decide) (by decide) (fun _ _ => rfl) (Nat.le_of_ble_eq_true rfl) (Nat.le_of_ble_eq_true (by decide +kernel)) dX4_copyFrom_27 (fun H locs hP hD hS => ?_)
  have hP : va_P D vwCl [(q_t, .inr (4, [.ref q_t_kinds, .ref q_t_leaflets, .ref q_t_owners, .ref q_t_tears, .ref q_t_debts, .int v_t_size, .int v_t_lostByHands, .int v_t_lostByMould])), (q_t_kinds, .inl (cI, 10, .inl (va_cpy v_p0_kinds v_t_kinds (0 : Int32).toNatClampNeg (0 : Int32).toNatClampNeg (10 : Int32).toNatClampNeg))), (q_t_leaflets, .inl (cI, 10, .inl (va_cpy v_p0_leaflets v_t_leaflets (0 : Int32).toNatClampNeg (0 : Int32).toNatClampNeg (10 : Int32).toNatClampNeg))), (q_t_owners, .inl (cI, 10, .inl v_t_owners)), (q_t_tears, .inl (cI, 40, .inl v_t_tears)), (q_t_debts, .inr (1, [.ref q_t_debts_sums])), (q_t_debts_sums, .inl (cI, 36, .inl v_t_debts_sums)), (q_p0, .inr (4, [.ref q_p0_kinds, .ref q_p0_leaflets, .ref q_p0_owners, .ref q_p0_tears, .ref q_p0_debts, .int v_p0_size, .int v_p0_lostByHands, .int v_p0_lostByMould])), (q_p0_kinds, .inl (cI, 10, .inl v_p0_kinds)), (q_p0_leaflets, .inl (cI, 10, .inl v_p0_leaflets)), (q_p0_owners, .inl (cI, 10, .inl v_p0_owners)), (q_p0_tears, .inl (cI, 40, .inl v_p0_tears)), (q_p0_debts, .inr (1, [.ref q_p0_debts_sums])), (q_p0_debts_sums, .inl (cI, 36, .inl v_p0_debts_sums))] H := hP
  have hD : va_D A0 [(q_t, .inr (4, [.ref q_t_kinds, .ref q_t_leaflets, .ref q_t_owners, .ref q_t_tears, .ref q_t_debts, .int v_t_size, .int v_t_lostByHands, .int v_t_lostByMould])), (q_t_kinds, .inl (cI, 10, .inl (va_cpy v_p0_kinds v_t_kinds (0 : Int32).toNatClampNeg (0 : Int32).toNatClampNeg (10 : Int32).toNatClampNeg))), (q_t_leaflets, .inl (cI, 10, .inl (va_cpy v_p0_leaflets v_t_leaflets (0 : Int32).toNatClampNeg (0 : Int32).toNatClampNeg (10 : Int32).toNatClampNeg))), (q_t_owners, .inl (cI, 10, .inl v_t_owners)), (q_t_tears, .inl (cI, 40, .inl v_t_tears)), (q_t_debts, .inr (1, [.ref q_t_debts_sums])), (q_t_debts_sums, .inl (cI, 36, .inl v_t_debts_sums)), (q_p0, .inr (4, [.ref q_p0_kinds, .ref q_p0_leaflets, .ref q_p0_owners, .ref q_p0_tears, .ref q_p0_debts, .int v_p0_size, .int v_p0_lostByHands, .int v_p0_lostByMould])), (q_p0_kinds, .inl (cI, 10, .inl v_p0_kinds)), (q_p0_leaflets, .inl (cI, 10, .inl v_p0_leaflets)), (q_p0_owners, .inl (cI, 10, .inl v_p0_owners)), (q_p0_tears, .inl (cI, 40, .inl v_p0_tears)), (q_p0_debts, .inr (1, [.ref q_p0_debts_sums])), (q_p0_debts_sums, .inl (cI, 36, .inl v_p0_debts_sums))] := hD
  refine lv_aload_n hx hb dX4_copyFrom_30 rfl (lv_at hl 1 rfl) ?_
  refine va_get (own := RX4) (ci := 4) (v := .ref q_p0_owners) (C := RX4) (T := TX4) (N := 8) hx hb hts iX4 hown hK hP 7 rfl rfl 2 (by decide) k18 (fun _ h9 => h9) rfl dX4_copyFrom_31 ?_
  refine lv_iconst (v := 0) hx hb dX4_copyFrom_34 (by decide) ?_
  refine lv_aload_n hx hb dX4_copyFrom_35 rfl (lv_at hl 0 rfl) ?_
  refine va_get (own := RX4) (ci := 4) (v := .ref q_t_owners) (C := RX4) (T := TX4) (N := 8) hx hb hts iX4 hown hK hP 0 rfl rfl 2 (by decide) k18 (fun _ h9 => h9) rfl dX4_copyFrom_36 ?_
  refine lv_iconst (v := 0) hx hb dX4_copyFrom_39 (by decide) ?_
  refine lv_bipush (v := 10) hx hb dX4_copyFrom_40 (by decide) ?_
  refine va_copyi (own := RX4) hx hb (hml.trans hl.1.symm) hown (hts (.methodLink RX4 31 arraycopyName) (by decide +kernel)) (hts (.native arraycopyName) (by decide +kernel)) (hts (.static arraycopyName) (by decide +kernel)) (hts (.initialized "java/lang/System") (by decide +kernel)) hK hP hD hS 10 3 0 0 (ty := .int) rfl rfl rfl rfl rfl (by decide) (by decide) (by decide) (by decide) (by decide) (fun _ _ => rfl) (Nat.le_of_ble_eq_true rfl) (Nat.le_of_ble_eq_true (by decide +kernel)) dX4_copyFrom_42 (fun H locs hP hD hS => ?_)
  have hP : va_P D vwCl [(q_t, .inr (4, [.ref q_t_kinds, .ref q_t_leaflets, .ref q_t_owners, .ref q_t_tears, .ref q_t_debts, .int v_t_size, .int v_t_lostByHands, .int v_t_lostByMould])), (q_t_kinds, .inl (cI, 10, .inl (va_cpy v_p0_kinds v_t_kinds (0 : Int32).toNatClampNeg (0 : Int32).toNatClampNeg (10 : Int32).toNatClampNeg))), (q_t_leaflets, .inl (cI, 10, .inl (va_cpy v_p0_leaflets v_t_leaflets (0 : Int32).toNatClampNeg (0 : Int32).toNatClampNeg (10 : Int32).toNatClampNeg))), (q_t_owners, .inl (cI, 10, .inl (va_cpy v_p0_owners v_t_owners (0 : Int32).toNatClampNeg (0 : Int32).toNatClampNeg (10 : Int32).toNatClampNeg))), (q_t_tears, .inl (cI, 40, .inl v_t_tears)), (q_t_debts, .inr (1, [.ref q_t_debts_sums])), (q_t_debts_sums, .inl (cI, 36, .inl v_t_debts_sums)), (q_p0, .inr (4, [.ref q_p0_kinds, .ref q_p0_leaflets, .ref q_p0_owners, .ref q_p0_tears, .ref q_p0_debts, .int v_p0_size, .int v_p0_lostByHands, .int v_p0_lostByMould])), (q_p0_kinds, .inl (cI, 10, .inl v_p0_kinds)), (q_p0_leaflets, .inl (cI, 10, .inl v_p0_leaflets)), (q_p0_owners, .inl (cI, 10, .inl v_p0_owners)), (q_p0_tears, .inl (cI, 40, .inl v_p0_tears)), (q_p0_debts, .inr (1, [.ref q_p0_debts_sums])), (q_p0_debts_sums, .inl (cI, 36, .inl v_p0_debts_sums))] H := hP
  have hD : va_D A0 [(q_t, .inr (4, [.ref q_t_kinds, .ref q_t_leaflets, .ref q_t_owners, .ref q_t_tears, .ref q_t_debts, .int v_t_size, .int v_t_lostByHands, .int v_t_lostByMould])), (q_t_kinds, .inl (cI, 10, .inl (va_cpy v_p0_kinds v_t_kinds (0 : Int32).toNatClampNeg (0 : Int32).toNatClampNeg (10 : Int32).toNatClampNeg))), (q_t_leaflets, .inl (cI, 10, .inl (va_cpy v_p0_leaflets v_t_leaflets (0 : Int32).toNatClampNeg (0 : Int32).toNatClampNeg (10 : Int32).toNatClampNeg))), (q_t_owners, .inl (cI, 10, .inl (va_cpy v_p0_owners v_t_owners (0 : Int32).toNatClampNeg (0 : Int32).toNatClampNeg (10 : Int32).toNatClampNeg))), (q_t_tears, .inl (cI, 40, .inl v_t_tears)), (q_t_debts, .inr (1, [.ref q_t_debts_sums])), (q_t_debts_sums, .inl (cI, 36, .inl v_t_debts_sums)), (q_p0, .inr (4, [.ref q_p0_kinds, .ref q_p0_leaflets, .ref q_p0_owners, .ref q_p0_tears, .ref q_p0_debts, .int v_p0_size, .int v_p0_lostByHands, .int v_p0_lostByMould])), (q_p0_kinds, .inl (cI, 10, .inl v_p0_kinds)), (q_p0_leaflets, .inl (cI, 10, .inl v_p0_leaflets)), (q_p0_owners, .inl (cI, 10, .inl v_p0_owners)), (q_p0_tears, .inl (cI, 40, .inl v_p0_tears)), (q_p0_debts, .inr (1, [.ref q_p0_debts_sums])), (q_p0_debts_sums, .inl (cI, 36, .inl v_p0_debts_sums))] := hD
  refine lv_aload_n hx hb dX4_copyFrom_45 rfl (lv_at hl 1 rfl) ?_
  refine va_get (own := RX4) (ci := 4) (v := .ref q_p0_tears) (C := RX4) (T := TX4) (N := 8) hx hb hts iX4 hown hK hP 7 rfl rfl 3 (by decide) k21 (fun _ h9 => h9) rfl dX4_copyFrom_46 ?_
  refine lv_iconst (v := 0) hx hb dX4_copyFrom_49 (by decide) ?_
  refine lv_aload_n hx hb dX4_copyFrom_50 rfl (lv_at hl 0 rfl) ?_
  refine va_get (own := RX4) (ci := 4) (v := .ref q_t_tears) (C := RX4) (T := TX4) (N := 8) hx hb hts iX4 hown hK hP 0 rfl rfl 3 (by decide) k21 (fun _ h9 => h9) rfl dX4_copyFrom_51 ?_
  refine lv_iconst (v := 0) hx hb dX4_copyFrom_54 (by decide) ?_
  refine lv_bipush (v := 40) hx hb dX4_copyFrom_55 (by decide) ?_
  refine va_copyi (own := RX4) hx hb (hml.trans hl.1.symm) hown (hts (.methodLink RX4 31 arraycopyName) (by decide +kernel)) (hts (.native arraycopyName) (by decide +kernel)) (hts (.static arraycopyName) (by decide +kernel)) (hts (.initialized "java/lang/System") (by decide +kernel)) hK hP hD hS 11 4 0 0 (ty := .int) rfl rfl rfl rfl rfl (by decide) (by decide) (by decide) (by decide) (by decide) (fun _ _ => rfl) (Nat.le_of_ble_eq_true rfl) (Nat.le_of_ble_eq_true (by decide +kernel)) dX4_copyFrom_57 (fun H locs hP hD hS => ?_)
  have hP : va_P D vwCl [(q_t, .inr (4, [.ref q_t_kinds, .ref q_t_leaflets, .ref q_t_owners, .ref q_t_tears, .ref q_t_debts, .int v_t_size, .int v_t_lostByHands, .int v_t_lostByMould])), (q_t_kinds, .inl (cI, 10, .inl (va_cpy v_p0_kinds v_t_kinds (0 : Int32).toNatClampNeg (0 : Int32).toNatClampNeg (10 : Int32).toNatClampNeg))), (q_t_leaflets, .inl (cI, 10, .inl (va_cpy v_p0_leaflets v_t_leaflets (0 : Int32).toNatClampNeg (0 : Int32).toNatClampNeg (10 : Int32).toNatClampNeg))), (q_t_owners, .inl (cI, 10, .inl (va_cpy v_p0_owners v_t_owners (0 : Int32).toNatClampNeg (0 : Int32).toNatClampNeg (10 : Int32).toNatClampNeg))), (q_t_tears, .inl (cI, 40, .inl (va_cpy v_p0_tears v_t_tears (0 : Int32).toNatClampNeg (0 : Int32).toNatClampNeg (40 : Int32).toNatClampNeg))), (q_t_debts, .inr (1, [.ref q_t_debts_sums])), (q_t_debts_sums, .inl (cI, 36, .inl v_t_debts_sums)), (q_p0, .inr (4, [.ref q_p0_kinds, .ref q_p0_leaflets, .ref q_p0_owners, .ref q_p0_tears, .ref q_p0_debts, .int v_p0_size, .int v_p0_lostByHands, .int v_p0_lostByMould])), (q_p0_kinds, .inl (cI, 10, .inl v_p0_kinds)), (q_p0_leaflets, .inl (cI, 10, .inl v_p0_leaflets)), (q_p0_owners, .inl (cI, 10, .inl v_p0_owners)), (q_p0_tears, .inl (cI, 40, .inl v_p0_tears)), (q_p0_debts, .inr (1, [.ref q_p0_debts_sums])), (q_p0_debts_sums, .inl (cI, 36, .inl v_p0_debts_sums))] H := hP
  have hD : va_D A0 [(q_t, .inr (4, [.ref q_t_kinds, .ref q_t_leaflets, .ref q_t_owners, .ref q_t_tears, .ref q_t_debts, .int v_t_size, .int v_t_lostByHands, .int v_t_lostByMould])), (q_t_kinds, .inl (cI, 10, .inl (va_cpy v_p0_kinds v_t_kinds (0 : Int32).toNatClampNeg (0 : Int32).toNatClampNeg (10 : Int32).toNatClampNeg))), (q_t_leaflets, .inl (cI, 10, .inl (va_cpy v_p0_leaflets v_t_leaflets (0 : Int32).toNatClampNeg (0 : Int32).toNatClampNeg (10 : Int32).toNatClampNeg))), (q_t_owners, .inl (cI, 10, .inl (va_cpy v_p0_owners v_t_owners (0 : Int32).toNatClampNeg (0 : Int32).toNatClampNeg (10 : Int32).toNatClampNeg))), (q_t_tears, .inl (cI, 40, .inl (va_cpy v_p0_tears v_t_tears (0 : Int32).toNatClampNeg (0 : Int32).toNatClampNeg (40 : Int32).toNatClampNeg))), (q_t_debts, .inr (1, [.ref q_t_debts_sums])), (q_t_debts_sums, .inl (cI, 36, .inl v_t_debts_sums)), (q_p0, .inr (4, [.ref q_p0_kinds, .ref q_p0_leaflets, .ref q_p0_owners, .ref q_p0_tears, .ref q_p0_debts, .int v_p0_size, .int v_p0_lostByHands, .int v_p0_lostByMould])), (q_p0_kinds, .inl (cI, 10, .inl v_p0_kinds)), (q_p0_leaflets, .inl (cI, 10, .inl v_p0_leaflets)), (q_p0_owners, .inl (cI, 10, .inl v_p0_owners)), (q_p0_tears, .inl (cI, 40, .inl v_p0_tears)), (q_p0_debts, .inr (1, [.ref q_p0_debts_sums])), (q_p0_debts_sums, .inl (cI, 36, .inl v_p0_debts_sums))] := hD
  refine lv_aload_n hx hb dX4_copyFrom_60 rfl (lv_at hl 0 rfl) ?_
  refine va_get (own := RX4) (ci := 4) (v := .ref q_t_debts) (C := RX4) (T := TX4) (N := 8) hx hb hts iX4 hown hK hP 0 rfl rfl 4 (by decide) k27 (fun _ h9 => h9) rfl dX4_copyFrom_61 ?_
  refine lv_aload_n hx hb dX4_copyFrom_64 rfl (lv_at hl 1 rfl) ?_
  refine va_get (own := RX4) (ci := 4) (v := .ref q_p0_debts) (C := RX4) (T := TX4) (N := 8) hx hb hts iX4 hown hK hP 7 rfl rfl 4 (by decide) k27 (fun _ h9 => h9) rfl dX4_copyFrom_65 ?_
  obtain ⟨u1, g2, h⟩ := bd_of h
  refine cl_V [(q_t, .inr (4, [.ref q_t_kinds, .ref q_t_leaflets, .ref q_t_owners, .ref q_t_tears, .ref q_t_debts, .int v_t_size, .int v_t_lostByHands, .int v_t_lostByMould])), (q_t_kinds, .inl (cI, 10, .inl (va_cpy v_p0_kinds v_t_kinds (0 : Int32).toNatClampNeg (0 : Int32).toNatClampNeg (10 : Int32).toNatClampNeg))), (q_t_leaflets, .inl (cI, 10, .inl (va_cpy v_p0_leaflets v_t_leaflets (0 : Int32).toNatClampNeg (0 : Int32).toNatClampNeg (10 : Int32).toNatClampNeg))), (q_t_owners, .inl (cI, 10, .inl (va_cpy v_p0_owners v_t_owners (0 : Int32).toNatClampNeg (0 : Int32).toNatClampNeg (10 : Int32).toNatClampNeg))), (q_t_tears, .inl (cI, 40, .inl (va_cpy v_p0_tears v_t_tears (0 : Int32).toNatClampNeg (0 : Int32).toNatClampNeg (40 : Int32).toNatClampNeg))), (q_t_debts, .inr (1, [.ref q_t_debts_sums])), (q_t_debts_sums, .inl (cI, 36, .inl u1)), (q_p0, .inr (4, [.ref q_p0_kinds, .ref q_p0_leaflets, .ref q_p0_owners, .ref q_p0_tears, .ref q_p0_debts, .int v_p0_size, .int v_p0_lostByHands, .int v_p0_lostByMould])), (q_p0_kinds, .inl (cI, 10, .inl v_p0_kinds)), (q_p0_leaflets, .inl (cI, 10, .inl v_p0_leaflets)), (q_p0_owners, .inl (cI, 10, .inl v_p0_owners)), (q_p0_tears, .inl (cI, 40, .inl v_p0_tears)), (q_p0_debts, .inr (1, [.ref q_p0_debts_sums])), (q_p0_debts_sums, .inl (cI, 36, .inl v_p0_debts_sums))] (As := [.ref q_p0_debts]) (rest := []) (rv := none) (c_X1_copyFrom l D cI cJ q_t_debts q_t_debts_sums q_p0_debts q_p0_debts_sums v_t_debts_sums v_p0_debts_sums u1 g2) ⟨hx, hb, hml, hown, hts⟩ (cwV 1 hts gX4_copyFrom_X1_copyFrom rfl rfl rfl (by decide +kernel) ⟨(Nat.le_of_ble_eq_true rfl), (Nat.le_of_ble_eq_true rfl)⟩) hK hN hP hD hS [5, 6, 12, 13] rfl (by decide) rfl rfl rfl (q0 := 5) (ci := 1) rfl rfl rfl rfl hl.1 rfl (Nat.le_of_ble_eq_true rfl) dX4_copyFrom_68 ⟨Nat.zero_le _, Nat.zero_le _⟩ (fun H locs hP hD hS => ?_)
  show W p l e ({ frames := 2, cells := 0, slots := 0, locals := 81 } : Room) s m args below meth c H locs 0 0 Q0 (F0 m 71 ls [])
  refine lv_aload_n hx hb dX4_copyFrom_71 rfl (lv_at hl 0 rfl) ?_
  refine lv_aload_n hx hb dX4_copyFrom_72 rfl (lv_at hl 1 rfl) ?_
  refine va_get (own := RX4) (ci := 4) (v := .int v_p0_size) (C := RX4) (T := TX4) (N := 8) hx hb hts iX4 hown hK hP 7 rfl rfl 5 (by decide) k41 (fun _ h9 => h9) rfl dX4_copyFrom_73 ?_
  refine va_put (D := D) (own := RX4) (ci := 4) (v := .int v_p0_size) (ty := .int) (C := RX4) (T := TX4) (N := 8) hx hb hts iX4 tyX4 tyX4_ok nmX4 hown hK hP hD hS 0 rfl rfl 5 (by decide) k41 (fun _ h9 => h9) rfl (by decide +kernel) rfl rfl (Nat.le_of_ble_eq_true rfl) dX4_copyFrom_76 (fun H locs hP hD hS => ?_)
  have hP : va_P D vwCl [(q_t, .inr (4, [.ref q_t_kinds, .ref q_t_leaflets, .ref q_t_owners, .ref q_t_tears, .ref q_t_debts, .int v_p0_size, .int v_t_lostByHands, .int v_t_lostByMould])), (q_t_kinds, .inl (cI, 10, .inl (va_cpy v_p0_kinds v_t_kinds (0 : Int32).toNatClampNeg (0 : Int32).toNatClampNeg (10 : Int32).toNatClampNeg))), (q_t_leaflets, .inl (cI, 10, .inl (va_cpy v_p0_leaflets v_t_leaflets (0 : Int32).toNatClampNeg (0 : Int32).toNatClampNeg (10 : Int32).toNatClampNeg))), (q_t_owners, .inl (cI, 10, .inl (va_cpy v_p0_owners v_t_owners (0 : Int32).toNatClampNeg (0 : Int32).toNatClampNeg (10 : Int32).toNatClampNeg))), (q_t_tears, .inl (cI, 40, .inl (va_cpy v_p0_tears v_t_tears (0 : Int32).toNatClampNeg (0 : Int32).toNatClampNeg (40 : Int32).toNatClampNeg))), (q_t_debts, .inr (1, [.ref q_t_debts_sums])), (q_t_debts_sums, .inl (cI, 36, .inl u1)), (q_p0, .inr (4, [.ref q_p0_kinds, .ref q_p0_leaflets, .ref q_p0_owners, .ref q_p0_tears, .ref q_p0_debts, .int v_p0_size, .int v_p0_lostByHands, .int v_p0_lostByMould])), (q_p0_kinds, .inl (cI, 10, .inl v_p0_kinds)), (q_p0_leaflets, .inl (cI, 10, .inl v_p0_leaflets)), (q_p0_owners, .inl (cI, 10, .inl v_p0_owners)), (q_p0_tears, .inl (cI, 40, .inl v_p0_tears)), (q_p0_debts, .inr (1, [.ref q_p0_debts_sums])), (q_p0_debts_sums, .inl (cI, 36, .inl v_p0_debts_sums))] H := hP
  have hD : va_D A0 [(q_t, .inr (4, [.ref q_t_kinds, .ref q_t_leaflets, .ref q_t_owners, .ref q_t_tears, .ref q_t_debts, .int v_p0_size, .int v_t_lostByHands, .int v_t_lostByMould])), (q_t_kinds, .inl (cI, 10, .inl (va_cpy v_p0_kinds v_t_kinds (0 : Int32).toNatClampNeg (0 : Int32).toNatClampNeg (10 : Int32).toNatClampNeg))), (q_t_leaflets, .inl (cI, 10, .inl (va_cpy v_p0_leaflets v_t_leaflets (0 : Int32).toNatClampNeg (0 : Int32).toNatClampNeg (10 : Int32).toNatClampNeg))), (q_t_owners, .inl (cI, 10, .inl (va_cpy v_p0_owners v_t_owners (0 : Int32).toNatClampNeg (0 : Int32).toNatClampNeg (10 : Int32).toNatClampNeg))), (q_t_tears, .inl (cI, 40, .inl (va_cpy v_p0_tears v_t_tears (0 : Int32).toNatClampNeg (0 : Int32).toNatClampNeg (40 : Int32).toNatClampNeg))), (q_t_debts, .inr (1, [.ref q_t_debts_sums])), (q_t_debts_sums, .inl (cI, 36, .inl u1)), (q_p0, .inr (4, [.ref q_p0_kinds, .ref q_p0_leaflets, .ref q_p0_owners, .ref q_p0_tears, .ref q_p0_debts, .int v_p0_size, .int v_p0_lostByHands, .int v_p0_lostByMould])), (q_p0_kinds, .inl (cI, 10, .inl v_p0_kinds)), (q_p0_leaflets, .inl (cI, 10, .inl v_p0_leaflets)), (q_p0_owners, .inl (cI, 10, .inl v_p0_owners)), (q_p0_tears, .inl (cI, 40, .inl v_p0_tears)), (q_p0_debts, .inr (1, [.ref q_p0_debts_sums])), (q_p0_debts_sums, .inl (cI, 36, .inl v_p0_debts_sums))] := hD
  refine lv_aload_n hx hb dX4_copyFrom_79 rfl (lv_at hl 0 rfl) ?_
  refine lv_aload_n hx hb dX4_copyFrom_80 rfl (lv_at hl 1 rfl) ?_
  refine va_get (own := RX4) (ci := 4) (v := .int v_p0_lostByHands) (C := RX4) (T := TX4) (N := 8) hx hb hts iX4 hown hK hP 7 rfl rfl 6 (by decide) k45 (fun _ h9 => h9) rfl dX4_copyFrom_81 ?_
  refine va_put (D := D) (own := RX4) (ci := 4) (v := .int v_p0_lostByHands) (ty := .int) (C := RX4) (T := TX4) (N := 8) hx hb hts iX4 tyX4 tyX4_ok nmX4 hown hK hP hD hS 0 rfl rfl 6 (by decide) k45 (fun _ h9 => h9) rfl (by decide +kernel) rfl rfl (Nat.le_of_ble_eq_true rfl) dX4_copyFrom_84 (fun H locs hP hD hS => ?_)
  have hP : va_P D vwCl [(q_t, .inr (4, [.ref q_t_kinds, .ref q_t_leaflets, .ref q_t_owners, .ref q_t_tears, .ref q_t_debts, .int v_p0_size, .int v_p0_lostByHands, .int v_t_lostByMould])), (q_t_kinds, .inl (cI, 10, .inl (va_cpy v_p0_kinds v_t_kinds (0 : Int32).toNatClampNeg (0 : Int32).toNatClampNeg (10 : Int32).toNatClampNeg))), (q_t_leaflets, .inl (cI, 10, .inl (va_cpy v_p0_leaflets v_t_leaflets (0 : Int32).toNatClampNeg (0 : Int32).toNatClampNeg (10 : Int32).toNatClampNeg))), (q_t_owners, .inl (cI, 10, .inl (va_cpy v_p0_owners v_t_owners (0 : Int32).toNatClampNeg (0 : Int32).toNatClampNeg (10 : Int32).toNatClampNeg))), (q_t_tears, .inl (cI, 40, .inl (va_cpy v_p0_tears v_t_tears (0 : Int32).toNatClampNeg (0 : Int32).toNatClampNeg (40 : Int32).toNatClampNeg))), (q_t_debts, .inr (1, [.ref q_t_debts_sums])), (q_t_debts_sums, .inl (cI, 36, .inl u1)), (q_p0, .inr (4, [.ref q_p0_kinds, .ref q_p0_leaflets, .ref q_p0_owners, .ref q_p0_tears, .ref q_p0_debts, .int v_p0_size, .int v_p0_lostByHands, .int v_p0_lostByMould])), (q_p0_kinds, .inl (cI, 10, .inl v_p0_kinds)), (q_p0_leaflets, .inl (cI, 10, .inl v_p0_leaflets)), (q_p0_owners, .inl (cI, 10, .inl v_p0_owners)), (q_p0_tears, .inl (cI, 40, .inl v_p0_tears)), (q_p0_debts, .inr (1, [.ref q_p0_debts_sums])), (q_p0_debts_sums, .inl (cI, 36, .inl v_p0_debts_sums))] H := hP
  have hD : va_D A0 [(q_t, .inr (4, [.ref q_t_kinds, .ref q_t_leaflets, .ref q_t_owners, .ref q_t_tears, .ref q_t_debts, .int v_p0_size, .int v_p0_lostByHands, .int v_t_lostByMould])), (q_t_kinds, .inl (cI, 10, .inl (va_cpy v_p0_kinds v_t_kinds (0 : Int32).toNatClampNeg (0 : Int32).toNatClampNeg (10 : Int32).toNatClampNeg))), (q_t_leaflets, .inl (cI, 10, .inl (va_cpy v_p0_leaflets v_t_leaflets (0 : Int32).toNatClampNeg (0 : Int32).toNatClampNeg (10 : Int32).toNatClampNeg))), (q_t_owners, .inl (cI, 10, .inl (va_cpy v_p0_owners v_t_owners (0 : Int32).toNatClampNeg (0 : Int32).toNatClampNeg (10 : Int32).toNatClampNeg))), (q_t_tears, .inl (cI, 40, .inl (va_cpy v_p0_tears v_t_tears (0 : Int32).toNatClampNeg (0 : Int32).toNatClampNeg (40 : Int32).toNatClampNeg))), (q_t_debts, .inr (1, [.ref q_t_debts_sums])), (q_t_debts_sums, .inl (cI, 36, .inl u1)), (q_p0, .inr (4, [.ref q_p0_kinds, .ref q_p0_leaflets, .ref q_p0_owners, .ref q_p0_tears, .ref q_p0_debts, .int v_p0_size, .int v_p0_lostByHands, .int v_p0_lostByMould])), (q_p0_kinds, .inl (cI, 10, .inl v_p0_kinds)), (q_p0_leaflets, .inl (cI, 10, .inl v_p0_leaflets)), (q_p0_owners, .inl (cI, 10, .inl v_p0_owners)), (q_p0_tears, .inl (cI, 40, .inl v_p0_tears)), (q_p0_debts, .inr (1, [.ref q_p0_debts_sums])), (q_p0_debts_sums, .inl (cI, 36, .inl v_p0_debts_sums))] := hD
  refine lv_aload_n hx hb dX4_copyFrom_87 rfl (lv_at hl 0 rfl) ?_
  refine lv_aload_n hx hb dX4_copyFrom_88 rfl (lv_at hl 1 rfl) ?_
  refine va_get (own := RX4) (ci := 4) (v := .int v_p0_lostByMould) (C := RX4) (T := TX4) (N := 8) hx hb hts iX4 hown hK hP 7 rfl rfl 7 (by decide) k48 (fun _ h9 => h9) rfl dX4_copyFrom_89 ?_
  refine va_put (D := D) (own := RX4) (ci := 4) (v := .int v_p0_lostByMould) (ty := .int) (C := RX4) (T := TX4) (N := 8) hx hb hts iX4 tyX4 tyX4_ok nmX4 hown hK hP hD hS 0 rfl rfl 7 (by decide) k48 (fun _ h9 => h9) rfl (by decide +kernel) rfl rfl (Nat.le_of_ble_eq_true rfl) dX4_copyFrom_92 (fun H locs hP hD hS => ?_)
  have hP : va_P D vwCl [(q_t, .inr (4, [.ref q_t_kinds, .ref q_t_leaflets, .ref q_t_owners, .ref q_t_tears, .ref q_t_debts, .int v_p0_size, .int v_p0_lostByHands, .int v_p0_lostByMould])), (q_t_kinds, .inl (cI, 10, .inl (va_cpy v_p0_kinds v_t_kinds (0 : Int32).toNatClampNeg (0 : Int32).toNatClampNeg (10 : Int32).toNatClampNeg))), (q_t_leaflets, .inl (cI, 10, .inl (va_cpy v_p0_leaflets v_t_leaflets (0 : Int32).toNatClampNeg (0 : Int32).toNatClampNeg (10 : Int32).toNatClampNeg))), (q_t_owners, .inl (cI, 10, .inl (va_cpy v_p0_owners v_t_owners (0 : Int32).toNatClampNeg (0 : Int32).toNatClampNeg (10 : Int32).toNatClampNeg))), (q_t_tears, .inl (cI, 40, .inl (va_cpy v_p0_tears v_t_tears (0 : Int32).toNatClampNeg (0 : Int32).toNatClampNeg (40 : Int32).toNatClampNeg))), (q_t_debts, .inr (1, [.ref q_t_debts_sums])), (q_t_debts_sums, .inl (cI, 36, .inl u1)), (q_p0, .inr (4, [.ref q_p0_kinds, .ref q_p0_leaflets, .ref q_p0_owners, .ref q_p0_tears, .ref q_p0_debts, .int v_p0_size, .int v_p0_lostByHands, .int v_p0_lostByMould])), (q_p0_kinds, .inl (cI, 10, .inl v_p0_kinds)), (q_p0_leaflets, .inl (cI, 10, .inl v_p0_leaflets)), (q_p0_owners, .inl (cI, 10, .inl v_p0_owners)), (q_p0_tears, .inl (cI, 40, .inl v_p0_tears)), (q_p0_debts, .inr (1, [.ref q_p0_debts_sums])), (q_p0_debts_sums, .inl (cI, 36, .inl v_p0_debts_sums))] H := hP
  have hD : va_D A0 [(q_t, .inr (4, [.ref q_t_kinds, .ref q_t_leaflets, .ref q_t_owners, .ref q_t_tears, .ref q_t_debts, .int v_p0_size, .int v_p0_lostByHands, .int v_p0_lostByMould])), (q_t_kinds, .inl (cI, 10, .inl (va_cpy v_p0_kinds v_t_kinds (0 : Int32).toNatClampNeg (0 : Int32).toNatClampNeg (10 : Int32).toNatClampNeg))), (q_t_leaflets, .inl (cI, 10, .inl (va_cpy v_p0_leaflets v_t_leaflets (0 : Int32).toNatClampNeg (0 : Int32).toNatClampNeg (10 : Int32).toNatClampNeg))), (q_t_owners, .inl (cI, 10, .inl (va_cpy v_p0_owners v_t_owners (0 : Int32).toNatClampNeg (0 : Int32).toNatClampNeg (10 : Int32).toNatClampNeg))), (q_t_tears, .inl (cI, 40, .inl (va_cpy v_p0_tears v_t_tears (0 : Int32).toNatClampNeg (0 : Int32).toNatClampNeg (40 : Int32).toNatClampNeg))), (q_t_debts, .inr (1, [.ref q_t_debts_sums])), (q_t_debts_sums, .inl (cI, 36, .inl u1)), (q_p0, .inr (4, [.ref q_p0_kinds, .ref q_p0_leaflets, .ref q_p0_owners, .ref q_p0_tears, .ref q_p0_debts, .int v_p0_size, .int v_p0_lostByHands, .int v_p0_lostByMould])), (q_p0_kinds, .inl (cI, 10, .inl v_p0_kinds)), (q_p0_leaflets, .inl (cI, 10, .inl v_p0_leaflets)), (q_p0_owners, .inl (cI, 10, .inl v_p0_owners)), (q_p0_tears, .inl (cI, 40, .inl v_p0_tears)), (q_p0_debts, .inr (1, [.ref q_p0_debts_sums])), (q_p0_debts_sums, .inl (cI, 36, .inl v_p0_debts_sums))] := hD
  obtain rfl := Option.some.inj h
  exact rt_v hA0 hQ0 hx hb hr hlocks hP hS dX4_copyFrom_95
def fX4_add_X44_69 (v_t_size : Int32) (v_t_kinds : Nat → Int32) (v_t_leaflets : Nat → Int32) (v_t_owners : Nat → Int32) (x1 : Int32) (x2 : Int32) (x3 : Int32) (a5 : (Nat → Int32)) : Option (Int32 × Int32 × (Nat → Int32) × (Nat → Int32) × (Nat → Int32) × (Nat → Int32)) :=
  some (v_t_size, (v_t_size + 1), (upd v_t_kinds v_t_size.toNatClampNeg x1), (upd v_t_leaflets v_t_size.toNatClampNeg x2), (upd v_t_owners v_t_size.toNatClampNeg x3), a5)
def fX4_add_L44 (v_t_size : Int32) (z3 : Int32 × (Nat → Int32)) : Option ((Int32 × (Nat → Int32)) ⊕ ((Nat → Int32))) :=
  if 4 ≤ z3.1 then (some (Sum.inr z3.2)) else (gd (inb ((v_t_size * 4) + z3.1) 40) (some (Sum.inl ((z3.1 + 1), (upd z3.2 ((v_t_size * 4) + z3.1).toNatClampNeg (-1))))))
def fX4_add (v_t_size : Int32) (v_t_lostByHands : Int32) (v_t_lostByMould : Int32) (v_t_kinds : Nat → Int32) (v_t_leaflets : Nat → Int32) (v_t_owners : Nat → Int32) (v_t_tears : Nat → Int32) (x1 : Int32) (x2 : Int32) (x3 : Int32) : Option (Int32 × Int32 × (Nat → Int32) × (Nat → Int32) × (Nat → Int32) × (Nat → Int32)) :=
  if v_t_size < 10 then (gd (inb v_t_size 10) ((iter (fX4_add_L44 v_t_size) FU (0, v_t_tears)).bind (fX4_add_X44_69 v_t_size v_t_kinds v_t_leaflets v_t_owners x1 x2 x3))) else (some ((-1), v_t_size, v_t_kinds, v_t_leaflets, v_t_owners, v_t_tears))
set_option maxHeartbeats 4000000 in
set_option maxRecDepth 100000 in
theorem c_X4_add (l : Launch) (D : va_G) (cI cJ : ClassId) (q_t q_t_kinds q_t_leaflets q_t_owners q_t_tears q_t_debts : Nat) (v_t_size : Int32) (v_t_lostByHands : Int32) (v_t_lostByMould : Int32) (v_t_kinds : Nat → Int32) (v_t_leaflets : Nat → Int32) (v_t_owners : Nat → Int32) (v_t_tears : Nat → Int32) (x1 : Int32) (x2 : Int32) (x3 : Int32) (z : Int32 × Int32 × (Nat → Int32) × (Nat → Int32) × (Nat → Int32) × (Nat → Int32)) (h : fX4_add v_t_size v_t_lostByHands v_t_lostByMould v_t_kinds v_t_leaflets v_t_owners v_t_tears x1 x2 x3 = some z) : Met l yX4_add wsX4_add ({ frames := 0, cells := 0, slots := 0, locals := 0 } : Room) (va_Pc [.ref q_t, .int x1, .int x2, .int x3] (preG D cI cJ [(q_t, .inr (4, [.ref q_t_kinds, .ref q_t_leaflets, .ref q_t_owners, .ref q_t_tears, .ref q_t_debts, .int v_t_size, .int v_t_lostByHands, .int v_t_lostByMould])), (q_t_kinds, .inl (cI, 10, .inl v_t_kinds)), (q_t_leaflets, .inl (cI, 10, .inl v_t_leaflets)), (q_t_owners, .inl (cI, 10, .inl v_t_owners)), (q_t_tears, .inl (cI, 40, .inl v_t_tears))])) (QG D [(q_t, .inr (4, [.ref q_t_kinds, .ref q_t_leaflets, .ref q_t_owners, .ref q_t_tears, .ref q_t_debts, .int v_t_size, .int v_t_lostByHands, .int v_t_lostByMould])), (q_t_kinds, .inl (cI, 10, .inl v_t_kinds)), (q_t_leaflets, .inl (cI, 10, .inl v_t_leaflets)), (q_t_owners, .inl (cI, 10, .inl v_t_owners)), (q_t_tears, .inl (cI, 40, .inl v_t_tears))] [(q_t, .inr (4, [.ref q_t_kinds, .ref q_t_leaflets, .ref q_t_owners, .ref q_t_tears, .ref q_t_debts, .int z.2.1, .int v_t_lostByHands, .int v_t_lostByMould])), (q_t_kinds, .inl (cI, 10, .inl z.2.2.1)), (q_t_leaflets, .inl (cI, 10, .inl z.2.2.2.1)), (q_t_owners, .inl (cI, 10, .inl z.2.2.2.2.1)), (q_t_tears, .inl (cI, 40, .inl z.2.2.2.2.2))] (some (.int z.1))) 0 0 (fr [(q_t, .inr (4, [.ref q_t_kinds, .ref q_t_leaflets, .ref q_t_owners, .ref q_t_tears, .ref q_t_debts, .int v_t_size, .int v_t_lostByHands, .int v_t_lostByMould])), (q_t_kinds, .inl (cI, 10, .inl v_t_kinds)), (q_t_leaflets, .inl (cI, 10, .inl v_t_leaflets)), (q_t_owners, .inl (cI, 10, .inl v_t_owners)), (q_t_tears, .inl (cI, 40, .inl v_t_tears))]) := by
  refine Met.ofW (cc := cX4_add) (maxL := 6) (ret := (some .int)) (by decide) rfl ?_
  intro p e s m args below meth c s₁ B hml hv
  obtain ⟨hargs, hP, hK, hN, hD0⟩ := hv
  have hx := B.exec
  have hb := B.bytes
  have hr := B.returns
  have hts := atoms_spec (ws := wsX4_add) B.pre
  have hown : s.vm.findClass RX4 = some m.cls := findClass_of_methodNamed B.named
  have hlocks := B.notSynchronized
  have iX4 : ∀ w ∈ wsX40, w ∈ wsX4_add := by decide +kernel
  have k9 := hts (.fieldLink RX4 9 "PressedFerns$Herbarium" "kinds" "[I") (by decide +kernel)
  have k15 := hts (.fieldLink RX4 15 "PressedFerns$Herbarium" "leaflets" "[I") (by decide +kernel)
  have k18 := hts (.fieldLink RX4 18 "PressedFerns$Herbarium" "owners" "[I") (by decide +kernel)
  have k21 := hts (.fieldLink RX4 21 "PressedFerns$Herbarium" "tears" "[I") (by decide +kernel)
  have k41 := hts (.fieldLink RX4 41 "PressedFerns$Herbarium" "size" "I") (by decide +kernel)
  have hD := fr_D hD0
  have hS : va_S (fr [(q_t, .inr (4, [.ref q_t_kinds, .ref q_t_leaflets, .ref q_t_owners, .ref q_t_tears, .ref q_t_debts, .int v_t_size, .int v_t_lostByHands, .int v_t_lostByMould])), (q_t_kinds, .inl (cI, 10, .inl v_t_kinds)), (q_t_leaflets, .inl (cI, 10, .inl v_t_leaflets)), (q_t_owners, .inl (cI, 10, .inl v_t_owners)), (q_t_tears, .inl (cI, 40, .inl v_t_tears))]) s.heap s.heap [] := va_S.rf
  have hl := lv_entry ([.ref q_t, .int x1, .int x2, .int x3]) (n := 6) (Nat.le_of_ble_eq_true rfl)
  refine W.eq (g2 := F0 m 0 ((lg_sl ([.ref q_t, .int x1, .int x2, .int x3]) ++ List.replicate (6 - (lg_sl ([.ref q_t, .int x1, .int x2, .int x3])).length) Slot.unset).toArray) []) (by rw [hargs, lg_entry_eq]) ?_
  generalize (lg_sl ([.ref q_t, .int x1, .int x2, .int x3]) ++ List.replicate (6 - (lg_sl ([.ref q_t, .int x1, .int x2, .int x3])).length) Slot.unset).toArray = ls at hl ⊢
  have hl : lv_has ls 6 [(0, .ref q_t), (1, .int x1), (2, .int x2), (3, .int x3)] := hl
  show W p l e ({ frames := 0, cells := 0, slots := 0, locals := 0 } : Room) s m args below meth c s.heap [] 0 0 (MQ below (QG D [(q_t, .inr (4, [.ref q_t_kinds, .ref q_t_leaflets, .ref q_t_owners, .ref q_t_tears, .ref q_t_debts, .int v_t_size, .int v_t_lostByHands, .int v_t_lostByMould])), (q_t_kinds, .inl (cI, 10, .inl v_t_kinds)), (q_t_leaflets, .inl (cI, 10, .inl v_t_leaflets)), (q_t_owners, .inl (cI, 10, .inl v_t_owners)), (q_t_tears, .inl (cI, 40, .inl v_t_tears))] [(q_t, .inr (4, [.ref q_t_kinds, .ref q_t_leaflets, .ref q_t_owners, .ref q_t_tears, .ref q_t_debts, .int z.2.1, .int v_t_lostByHands, .int v_t_lostByMould])), (q_t_kinds, .inl (cI, 10, .inl z.2.2.1)), (q_t_leaflets, .inl (cI, 10, .inl z.2.2.2.1)), (q_t_owners, .inl (cI, 10, .inl z.2.2.2.2.1)), (q_t_tears, .inl (cI, 40, .inl z.2.2.2.2.2))] (some (.int z.1))) args s 0 0 (fr [(q_t, .inr (4, [.ref q_t_kinds, .ref q_t_leaflets, .ref q_t_owners, .ref q_t_tears, .ref q_t_debts, .int v_t_size, .int v_t_lostByHands, .int v_t_lostByMould])), (q_t_kinds, .inl (cI, 10, .inl v_t_kinds)), (q_t_leaflets, .inl (cI, 10, .inl v_t_leaflets)), (q_t_owners, .inl (cI, 10, .inl v_t_owners)), (q_t_tears, .inl (cI, 40, .inl v_t_tears))])) (F0 m 0 ls [])
  generalize hQ0 : (MQ below (QG D [(q_t, .inr (4, [.ref q_t_kinds, .ref q_t_leaflets, .ref q_t_owners, .ref q_t_tears, .ref q_t_debts, .int v_t_size, .int v_t_lostByHands, .int v_t_lostByMould])), (q_t_kinds, .inl (cI, 10, .inl v_t_kinds)), (q_t_leaflets, .inl (cI, 10, .inl v_t_leaflets)), (q_t_owners, .inl (cI, 10, .inl v_t_owners)), (q_t_tears, .inl (cI, 40, .inl v_t_tears))] [(q_t, .inr (4, [.ref q_t_kinds, .ref q_t_leaflets, .ref q_t_owners, .ref q_t_tears, .ref q_t_debts, .int z.2.1, .int v_t_lostByHands, .int v_t_lostByMould])), (q_t_kinds, .inl (cI, 10, .inl z.2.2.1)), (q_t_leaflets, .inl (cI, 10, .inl z.2.2.2.1)), (q_t_owners, .inl (cI, 10, .inl z.2.2.2.2.1)), (q_t_tears, .inl (cI, 40, .inl z.2.2.2.2.2))] (some (.int z.1))) args s 0 0 (fr [(q_t, .inr (4, [.ref q_t_kinds, .ref q_t_leaflets, .ref q_t_owners, .ref q_t_tears, .ref q_t_debts, .int v_t_size, .int v_t_lostByHands, .int v_t_lostByMould])), (q_t_kinds, .inl (cI, 10, .inl v_t_kinds)), (q_t_leaflets, .inl (cI, 10, .inl v_t_leaflets)), (q_t_owners, .inl (cI, 10, .inl v_t_owners)), (q_t_tears, .inl (cI, 40, .inl v_t_tears))])) = Q0
  generalize hA0 : fr [(q_t, .inr (4, [.ref q_t_kinds, .ref q_t_leaflets, .ref q_t_owners, .ref q_t_tears, .ref q_t_debts, .int v_t_size, .int v_t_lostByHands, .int v_t_lostByMould])), (q_t_kinds, .inl (cI, 10, .inl v_t_kinds)), (q_t_leaflets, .inl (cI, 10, .inl v_t_leaflets)), (q_t_owners, .inl (cI, 10, .inl v_t_owners)), (q_t_tears, .inl (cI, 40, .inl v_t_tears))] = A0 at hD hS
  unfold fX4_add at h
  refine lv_aload_n hx hb dX4_add_0 rfl (lv_at hl 0 rfl) ?_
  refine va_get (own := RX4) (ci := 4) (v := .int v_t_size) (C := RX4) (T := TX4) (N := 8) hx hb hts iX4 hown hK hP 0 rfl rfl 5 (by decide) k41 (fun _ h9 => h9) rfl dX4_add_1 ?_
  refine lv_bipush (v := 10) hx hb dX4_add_4 (by decide) ?_
  refine lv_icmp_lt (tgt := 11) hx hb dX4_add_6 (by decide) (fun c1 => ?_) (fun c1 => ?_)
  · skip
    have h := (if_pos c1).symm.trans h
    refine lv_aload_n hx hb dX4_add_11 rfl (lv_at hl 0 rfl) ?_
    refine va_get (own := RX4) (ci := 4) (v := .int v_t_size) (C := RX4) (T := TX4) (N := 8) hx hb hts iX4 hown hK hP 0 rfl rfl 5 (by decide) k41 (fun _ h9 => h9) rfl dX4_add_12 ?_
    refine lv_istore (lv' := [(4, .int v_t_size), (0, .ref q_t), (1, .int x1), (2, .int x2), (3, .int x3)]) hx hb dX4_add_15 hl (by decide) rfl (fun ls hl => ?_)
    refine lv_aload_n hx hb dX4_add_17 rfl (lv_at hl 1 rfl) ?_
    refine va_get (own := RX4) (ci := 4) (v := .ref q_t_kinds) (C := RX4) (T := TX4) (N := 8) hx hb hts iX4 hown hK hP 0 rfl rfl 0 (by decide) k9 (fun _ h9 => h9) rfl dX4_add_18 ?_
    refine lv_iload hx hb dX4_add_21 (lv_at hl 0 rfl) ?_
    refine lv_iload_n hx hb dX4_add_23 rfl (lv_at hl 2 rfl) ?_
    obtain ⟨g2, h⟩ := gd_of h
    refine va_iast hx hb hK hP hD hS 1 0 rfl rfl (inb_of g2) dX4_add_24 (fun H locs hP hD hS => ?_)
    have hP : va_P D vwCl [(q_t, .inr (4, [.ref q_t_kinds, .ref q_t_leaflets, .ref q_t_owners, .ref q_t_tears, .ref q_t_debts, .int v_t_size, .int v_t_lostByHands, .int v_t_lostByMould])), (q_t_kinds, .inl (cI, 10, .inl (upd v_t_kinds v_t_size.toNatClampNeg x1))), (q_t_leaflets, .inl (cI, 10, .inl v_t_leaflets)), (q_t_owners, .inl (cI, 10, .inl v_t_owners)), (q_t_tears, .inl (cI, 40, .inl v_t_tears))] H := hP
    have hD : va_D A0 [(q_t, .inr (4, [.ref q_t_kinds, .ref q_t_leaflets, .ref q_t_owners, .ref q_t_tears, .ref q_t_debts, .int v_t_size, .int v_t_lostByHands, .int v_t_lostByMould])), (q_t_kinds, .inl (cI, 10, .inl (upd v_t_kinds v_t_size.toNatClampNeg x1))), (q_t_leaflets, .inl (cI, 10, .inl v_t_leaflets)), (q_t_owners, .inl (cI, 10, .inl v_t_owners)), (q_t_tears, .inl (cI, 40, .inl v_t_tears))] := hD
    refine lv_aload_n hx hb dX4_add_25 rfl (lv_at hl 1 rfl) ?_
    refine va_get (own := RX4) (ci := 4) (v := .ref q_t_leaflets) (C := RX4) (T := TX4) (N := 8) hx hb hts iX4 hown hK hP 0 rfl rfl 1 (by decide) k15 (fun _ h9 => h9) rfl dX4_add_26 ?_
    refine lv_iload hx hb dX4_add_29 (lv_at hl 0 rfl) ?_
    refine lv_iload_n hx hb dX4_add_31 rfl (lv_at hl 3 rfl) ?_
    refine va_iast hx hb hK hP hD hS 2 0 rfl rfl (inb_of g2) dX4_add_32 (fun H locs hP hD hS => ?_)
    have hP : va_P D vwCl [(q_t, .inr (4, [.ref q_t_kinds, .ref q_t_leaflets, .ref q_t_owners, .ref q_t_tears, .ref q_t_debts, .int v_t_size, .int v_t_lostByHands, .int v_t_lostByMould])), (q_t_kinds, .inl (cI, 10, .inl (upd v_t_kinds v_t_size.toNatClampNeg x1))), (q_t_leaflets, .inl (cI, 10, .inl (upd v_t_leaflets v_t_size.toNatClampNeg x2))), (q_t_owners, .inl (cI, 10, .inl v_t_owners)), (q_t_tears, .inl (cI, 40, .inl v_t_tears))] H := hP
    have hD : va_D A0 [(q_t, .inr (4, [.ref q_t_kinds, .ref q_t_leaflets, .ref q_t_owners, .ref q_t_tears, .ref q_t_debts, .int v_t_size, .int v_t_lostByHands, .int v_t_lostByMould])), (q_t_kinds, .inl (cI, 10, .inl (upd v_t_kinds v_t_size.toNatClampNeg x1))), (q_t_leaflets, .inl (cI, 10, .inl (upd v_t_leaflets v_t_size.toNatClampNeg x2))), (q_t_owners, .inl (cI, 10, .inl v_t_owners)), (q_t_tears, .inl (cI, 40, .inl v_t_tears))] := hD
    refine lv_aload_n hx hb dX4_add_33 rfl (lv_at hl 1 rfl) ?_
    refine va_get (own := RX4) (ci := 4) (v := .ref q_t_owners) (C := RX4) (T := TX4) (N := 8) hx hb hts iX4 hown hK hP 0 rfl rfl 2 (by decide) k18 (fun _ h9 => h9) rfl dX4_add_34 ?_
    refine lv_iload hx hb dX4_add_37 (lv_at hl 0 rfl) ?_
    refine lv_iload_n hx hb dX4_add_39 rfl (lv_at hl 4 rfl) ?_
    refine va_iast hx hb hK hP hD hS 3 0 rfl rfl (inb_of g2) dX4_add_40 (fun H locs hP hD hS => ?_)
    have hP : va_P D vwCl [(q_t, .inr (4, [.ref q_t_kinds, .ref q_t_leaflets, .ref q_t_owners, .ref q_t_tears, .ref q_t_debts, .int v_t_size, .int v_t_lostByHands, .int v_t_lostByMould])), (q_t_kinds, .inl (cI, 10, .inl (upd v_t_kinds v_t_size.toNatClampNeg x1))), (q_t_leaflets, .inl (cI, 10, .inl (upd v_t_leaflets v_t_size.toNatClampNeg x2))), (q_t_owners, .inl (cI, 10, .inl (upd v_t_owners v_t_size.toNatClampNeg x3))), (q_t_tears, .inl (cI, 40, .inl v_t_tears))] H := hP
    have hD : va_D A0 [(q_t, .inr (4, [.ref q_t_kinds, .ref q_t_leaflets, .ref q_t_owners, .ref q_t_tears, .ref q_t_debts, .int v_t_size, .int v_t_lostByHands, .int v_t_lostByMould])), (q_t_kinds, .inl (cI, 10, .inl (upd v_t_kinds v_t_size.toNatClampNeg x1))), (q_t_leaflets, .inl (cI, 10, .inl (upd v_t_leaflets v_t_size.toNatClampNeg x2))), (q_t_owners, .inl (cI, 10, .inl (upd v_t_owners v_t_size.toNatClampNeg x3))), (q_t_tears, .inl (cI, 40, .inl v_t_tears))] := hD
    refine lv_iconst (v := 0) hx hb dX4_add_41 (by decide) ?_
    refine lv_istore (lv' := [(5, .int 0), (4, .int v_t_size), (0, .ref q_t), (1, .int x1), (2, .int x2), (3, .int x3)]) hx hb dX4_add_42 hl (by decide) rfl (fun ls hl => ?_)
    obtain ⟨e4, he_e4, hc_e4⟩ := bd_of h
    have X69_6 : ∀ (a5 : (Nat → Int32)) (H : Heap) (locs : List Loc) (ls : Array Slot), fX4_add_X44_69 v_t_size v_t_kinds v_t_leaflets v_t_owners x1 x2 x3 a5 = some z → va_P D vwCl [(q_t, .inr (4, [.ref q_t_kinds, .ref q_t_leaflets, .ref q_t_owners, .ref q_t_tears, .ref q_t_debts, .int v_t_size, .int v_t_lostByHands, .int v_t_lostByMould])), (q_t_kinds, .inl (cI, 10, .inl (upd v_t_kinds v_t_size.toNatClampNeg x1))), (q_t_leaflets, .inl (cI, 10, .inl (upd v_t_leaflets v_t_size.toNatClampNeg x2))), (q_t_owners, .inl (cI, 10, .inl (upd v_t_owners v_t_size.toNatClampNeg x3))), (q_t_tears, .inl (cI, 40, .inl a5))] H → va_D A0 [(q_t, .inr (4, [.ref q_t_kinds, .ref q_t_leaflets, .ref q_t_owners, .ref q_t_tears, .ref q_t_debts, .int v_t_size, .int v_t_lostByHands, .int v_t_lostByMould])), (q_t_kinds, .inl (cI, 10, .inl (upd v_t_kinds v_t_size.toNatClampNeg x1))), (q_t_leaflets, .inl (cI, 10, .inl (upd v_t_leaflets v_t_size.toNatClampNeg x2))), (q_t_owners, .inl (cI, 10, .inl (upd v_t_owners v_t_size.toNatClampNeg x3))), (q_t_tears, .inl (cI, 40, .inl a5))] → va_S A0 s.heap H locs → lv_has ls 6 [(0, .ref q_t), (4, .int v_t_size)] → W p l e ({ frames := 0, cells := 0, slots := 0, locals := 0 } : Room) s m args below meth c H locs 0 0 Q0 (F0 m 69 ls []) := by
      intro a5 H locs ls h hP hD hS hl
      unfold fX4_add_X44_69 at h
      refine lv_aload_n hx hb dX4_add_69 rfl (lv_at hl 0 rfl) ?_
      refine lv_dup hx hb dX4_add_70 rfl ?_
      refine va_get (own := RX4) (ci := 4) (v := .int v_t_size) (C := RX4) (T := TX4) (N := 8) hx hb hts iX4 hown hK hP 0 rfl rfl 5 (by decide) k41 (fun _ h9 => h9) rfl dX4_add_71 ?_
      refine lv_iconst (v := 1) hx hb dX4_add_74 (by decide) ?_
      refine lv_iadd hx hb dX4_add_75 ?_
      refine va_put (D := D) (own := RX4) (ci := 4) (v := .int (v_t_size + 1)) (ty := .int) (C := RX4) (T := TX4) (N := 8) hx hb hts iX4 tyX4 tyX4_ok nmX4 hown hK hP hD hS 0 rfl rfl 5 (by decide) k41 (fun _ h9 => h9) rfl (by decide +kernel) rfl rfl (Nat.le_of_ble_eq_true rfl) dX4_add_76 (fun H locs hP hD hS => ?_)
      have hP : va_P D vwCl [(q_t, .inr (4, [.ref q_t_kinds, .ref q_t_leaflets, .ref q_t_owners, .ref q_t_tears, .ref q_t_debts, .int (v_t_size + 1), .int v_t_lostByHands, .int v_t_lostByMould])), (q_t_kinds, .inl (cI, 10, .inl (upd v_t_kinds v_t_size.toNatClampNeg x1))), (q_t_leaflets, .inl (cI, 10, .inl (upd v_t_leaflets v_t_size.toNatClampNeg x2))), (q_t_owners, .inl (cI, 10, .inl (upd v_t_owners v_t_size.toNatClampNeg x3))), (q_t_tears, .inl (cI, 40, .inl a5))] H := hP
      have hD : va_D A0 [(q_t, .inr (4, [.ref q_t_kinds, .ref q_t_leaflets, .ref q_t_owners, .ref q_t_tears, .ref q_t_debts, .int (v_t_size + 1), .int v_t_lostByHands, .int v_t_lostByMould])), (q_t_kinds, .inl (cI, 10, .inl (upd v_t_kinds v_t_size.toNatClampNeg x1))), (q_t_leaflets, .inl (cI, 10, .inl (upd v_t_leaflets v_t_size.toNatClampNeg x2))), (q_t_owners, .inl (cI, 10, .inl (upd v_t_owners v_t_size.toNatClampNeg x3))), (q_t_tears, .inl (cI, 40, .inl a5))] := hD
      refine lv_iload hx hb dX4_add_79 (lv_at hl 1 rfl) ?_
      obtain rfl := Option.some.inj h
      exact rt_i hA0 hQ0 hx hb hr hlocks hP hS dX4_add_81
    have L44_7 : ∀ (n : Nat) (z3 : Int32 × (Nat → Int32)) (H : Heap) (locs : List Loc) (ls : Array Slot), iter (fX4_add_L44 v_t_size) n z3 = some e4 → va_P D vwCl [(q_t, .inr (4, [.ref q_t_kinds, .ref q_t_leaflets, .ref q_t_owners, .ref q_t_tears, .ref q_t_debts, .int v_t_size, .int v_t_lostByHands, .int v_t_lostByMould])), (q_t_kinds, .inl (cI, 10, .inl (upd v_t_kinds v_t_size.toNatClampNeg x1))), (q_t_leaflets, .inl (cI, 10, .inl (upd v_t_leaflets v_t_size.toNatClampNeg x2))), (q_t_owners, .inl (cI, 10, .inl (upd v_t_owners v_t_size.toNatClampNeg x3))), (q_t_tears, .inl (cI, 40, .inl z3.2))] H → va_D A0 [(q_t, .inr (4, [.ref q_t_kinds, .ref q_t_leaflets, .ref q_t_owners, .ref q_t_tears, .ref q_t_debts, .int v_t_size, .int v_t_lostByHands, .int v_t_lostByMould])), (q_t_kinds, .inl (cI, 10, .inl (upd v_t_kinds v_t_size.toNatClampNeg x1))), (q_t_leaflets, .inl (cI, 10, .inl (upd v_t_leaflets v_t_size.toNatClampNeg x2))), (q_t_owners, .inl (cI, 10, .inl (upd v_t_owners v_t_size.toNatClampNeg x3))), (q_t_tears, .inl (cI, 40, .inl z3.2))] → va_S A0 s.heap H locs → lv_has ls 6 [(0, .ref q_t), (4, .int v_t_size), (5, .int z3.1)] → W p l e ({ frames := 0, cells := 0, slots := 0, locals := 0 } : Room) s m args below meth c H locs 0 0 Q0 (F0 m 44 ls []) := by
      intro n
      induction n with
      | zero => exact fun _ _ _ _ h => (iter_z h).elim
      | succ n ih =>
        intro z3 H locs ls h hP hD hS hl
        obtain ⟨r_e4, h, hn_e4⟩ := iter_s h
        unfold fX4_add_L44 at h
        refine lv_iload hx hb dX4_add_44 (lv_at hl 2 rfl) ?_
        refine lv_iconst (v := 4) hx hb dX4_add_46 (by decide) ?_
        refine lv_icmp_ge (tgt := 69) hx hb dX4_add_47 (by decide) (fun c8 => ?_) (fun c8 => ?_)
        · skip
          have h := (if_pos c8).symm.trans h
          obtain rfl := Option.some.inj h
          obtain rfl := Option.some.inj hn_e4
          exact X69_6 z3.2 _ _ _ hc_e4 hP hD hS (lv_sub hl [0, 1] rfl)
        · skip
          have h := (if_neg c8).symm.trans h
          refine lv_aload_n hx hb dX4_add_50 rfl (lv_at hl 0 rfl) ?_
          refine va_get (own := RX4) (ci := 4) (v := .ref q_t_tears) (C := RX4) (T := TX4) (N := 8) hx hb hts iX4 hown hK hP 0 rfl rfl 3 (by decide) k21 (fun _ h9 => h9) rfl dX4_add_51 ?_
          refine lv_iload hx hb dX4_add_54 (lv_at hl 1 rfl) ?_
          refine lv_iconst (v := 4) hx hb dX4_add_56 (by decide) ?_
          refine lv_imul hx hb dX4_add_57 ?_
          refine lv_iload hx hb dX4_add_58 (lv_at hl 2 rfl) ?_
          refine lv_iadd hx hb dX4_add_60 ?_
          refine lv_iconst (v := (-1)) hx hb dX4_add_61 (by decide) ?_
          obtain ⟨g9, h⟩ := gd_of h
          refine va_iast hx hb hK hP hD hS 4 0 rfl rfl (inb_of g9) dX4_add_62 (fun H locs hP hD hS => ?_)
          have hP : va_P D vwCl [(q_t, .inr (4, [.ref q_t_kinds, .ref q_t_leaflets, .ref q_t_owners, .ref q_t_tears, .ref q_t_debts, .int v_t_size, .int v_t_lostByHands, .int v_t_lostByMould])), (q_t_kinds, .inl (cI, 10, .inl (upd v_t_kinds v_t_size.toNatClampNeg x1))), (q_t_leaflets, .inl (cI, 10, .inl (upd v_t_leaflets v_t_size.toNatClampNeg x2))), (q_t_owners, .inl (cI, 10, .inl (upd v_t_owners v_t_size.toNatClampNeg x3))), (q_t_tears, .inl (cI, 40, .inl (upd z3.2 ((v_t_size * 4) + z3.1).toNatClampNeg (-1))))] H := hP
          have hD : va_D A0 [(q_t, .inr (4, [.ref q_t_kinds, .ref q_t_leaflets, .ref q_t_owners, .ref q_t_tears, .ref q_t_debts, .int v_t_size, .int v_t_lostByHands, .int v_t_lostByMould])), (q_t_kinds, .inl (cI, 10, .inl (upd v_t_kinds v_t_size.toNatClampNeg x1))), (q_t_leaflets, .inl (cI, 10, .inl (upd v_t_leaflets v_t_size.toNatClampNeg x2))), (q_t_owners, .inl (cI, 10, .inl (upd v_t_owners v_t_size.toNatClampNeg x3))), (q_t_tears, .inl (cI, 40, .inl (upd z3.2 ((v_t_size * 4) + z3.1).toNatClampNeg (-1))))] := hD
          refine lv_iinc (v := (z3.1 + 1)) (lv' := [(5, .int (z3.1 + 1)), (0, .ref q_t), (4, .int v_t_size)]) hx hb dX4_add_63 hl (k := 2) rfl rfl (by decide) rfl (fun ls hl => ?_)
          refine lv_goto (tgt := 44) hx hb dX4_add_66 (by decide) ?_
          obtain rfl := Option.some.inj h
          exact ih ((z3.1 + 1), (upd z3.2 ((v_t_size * 4) + z3.1).toNatClampNeg (-1))) _ _ _ hn_e4 hP hD hS (lv_sub hl [1, 2, 0] rfl)
    exact L44_7 FU (0, v_t_tears) _ _ _ he_e4 hP hD hS (lv_sub hl [2, 1, 0] rfl)
  · skip
    have h := (if_neg c1).symm.trans h
    refine lv_iconst (v := (-1)) hx hb dX4_add_9 (by decide) ?_
    obtain rfl := Option.some.inj h
    exact rt_i hA0 hQ0 hx hb hr hlocks hP hS dX4_add_10
def fX4_tear (v_t_size : Int32) (v_t_lostByHands : Int32) (v_t_lostByMould : Int32) (v_t_tears : Nat → Int32) (x1 : Int32) (x2 : Int32) : Option (Int32) :=
  gd (inb ((x1 * 4) + x2) 40) (some (v_t_tears ((x1 * 4) + x2).toNatClampNeg))
set_option maxHeartbeats 4000000 in
set_option maxRecDepth 100000 in
theorem c_X4_tear (l : Launch) (D : va_G) (cI cJ : ClassId) (q_t q_t_kinds q_t_leaflets q_t_owners q_t_tears q_t_debts : Nat) (v_t_size : Int32) (v_t_lostByHands : Int32) (v_t_lostByMould : Int32) (v_t_tears : Nat → Int32) (x1 : Int32) (x2 : Int32) (z : Int32) (h : fX4_tear v_t_size v_t_lostByHands v_t_lostByMould v_t_tears x1 x2 = some z) : Met l yX4_tear wsX4_tear ({ frames := 0, cells := 0, slots := 0, locals := 0 } : Room) (va_Pc [.ref q_t, .int x1, .int x2] (preG D cI cJ [(q_t, .inr (4, [.ref q_t_kinds, .ref q_t_leaflets, .ref q_t_owners, .ref q_t_tears, .ref q_t_debts, .int v_t_size, .int v_t_lostByHands, .int v_t_lostByMould])), (q_t_tears, .inl (cI, 40, .inl v_t_tears))])) (QG D [(q_t, .inr (4, [.ref q_t_kinds, .ref q_t_leaflets, .ref q_t_owners, .ref q_t_tears, .ref q_t_debts, .int v_t_size, .int v_t_lostByHands, .int v_t_lostByMould])), (q_t_tears, .inl (cI, 40, .inl v_t_tears))] [(q_t, .inr (4, [.ref q_t_kinds, .ref q_t_leaflets, .ref q_t_owners, .ref q_t_tears, .ref q_t_debts, .int v_t_size, .int v_t_lostByHands, .int v_t_lostByMould])), (q_t_tears, .inl (cI, 40, .inl v_t_tears))] (some (.int z))) 0 0 (fr [(q_t, .inr (4, [.ref q_t_kinds, .ref q_t_leaflets, .ref q_t_owners, .ref q_t_tears, .ref q_t_debts, .int v_t_size, .int v_t_lostByHands, .int v_t_lostByMould])), (q_t_tears, .inl (cI, 40, .inl v_t_tears))]) := by
  refine Met.ofW (cc := cX4_tear) (maxL := 3) (ret := (some .int)) (by decide) rfl ?_
  intro p e s m args below meth c s₁ B hml hv
  obtain ⟨hargs, hP, hK, hN, hD0⟩ := hv
  have hx := B.exec
  have hb := B.bytes
  have hr := B.returns
  have hts := atoms_spec (ws := wsX4_tear) B.pre
  have hown : s.vm.findClass RX4 = some m.cls := findClass_of_methodNamed B.named
  have hlocks := B.notSynchronized
  have iX4 : ∀ w ∈ wsX40, w ∈ wsX4_tear := by decide +kernel
  have k21 := hts (.fieldLink RX4 21 "PressedFerns$Herbarium" "tears" "[I") (by decide +kernel)
  have hD := fr_D hD0
  have hS : va_S (fr [(q_t, .inr (4, [.ref q_t_kinds, .ref q_t_leaflets, .ref q_t_owners, .ref q_t_tears, .ref q_t_debts, .int v_t_size, .int v_t_lostByHands, .int v_t_lostByMould])), (q_t_tears, .inl (cI, 40, .inl v_t_tears))]) s.heap s.heap [] := va_S.rf
  have hl := lv_entry ([.ref q_t, .int x1, .int x2]) (n := 3) (Nat.le_of_ble_eq_true rfl)
  refine W.eq (g2 := F0 m 0 ((lg_sl ([.ref q_t, .int x1, .int x2]) ++ List.replicate (3 - (lg_sl ([.ref q_t, .int x1, .int x2])).length) Slot.unset).toArray) []) (by rw [hargs, lg_entry_eq]) ?_
  generalize (lg_sl ([.ref q_t, .int x1, .int x2]) ++ List.replicate (3 - (lg_sl ([.ref q_t, .int x1, .int x2])).length) Slot.unset).toArray = ls at hl ⊢
  have hl : lv_has ls 3 [(0, .ref q_t), (1, .int x1), (2, .int x2)] := hl
  show W p l e ({ frames := 0, cells := 0, slots := 0, locals := 0 } : Room) s m args below meth c s.heap [] 0 0 (MQ below (QG D [(q_t, .inr (4, [.ref q_t_kinds, .ref q_t_leaflets, .ref q_t_owners, .ref q_t_tears, .ref q_t_debts, .int v_t_size, .int v_t_lostByHands, .int v_t_lostByMould])), (q_t_tears, .inl (cI, 40, .inl v_t_tears))] [(q_t, .inr (4, [.ref q_t_kinds, .ref q_t_leaflets, .ref q_t_owners, .ref q_t_tears, .ref q_t_debts, .int v_t_size, .int v_t_lostByHands, .int v_t_lostByMould])), (q_t_tears, .inl (cI, 40, .inl v_t_tears))] (some (.int z))) args s 0 0 (fr [(q_t, .inr (4, [.ref q_t_kinds, .ref q_t_leaflets, .ref q_t_owners, .ref q_t_tears, .ref q_t_debts, .int v_t_size, .int v_t_lostByHands, .int v_t_lostByMould])), (q_t_tears, .inl (cI, 40, .inl v_t_tears))])) (F0 m 0 ls [])
  generalize hQ0 : (MQ below (QG D [(q_t, .inr (4, [.ref q_t_kinds, .ref q_t_leaflets, .ref q_t_owners, .ref q_t_tears, .ref q_t_debts, .int v_t_size, .int v_t_lostByHands, .int v_t_lostByMould])), (q_t_tears, .inl (cI, 40, .inl v_t_tears))] [(q_t, .inr (4, [.ref q_t_kinds, .ref q_t_leaflets, .ref q_t_owners, .ref q_t_tears, .ref q_t_debts, .int v_t_size, .int v_t_lostByHands, .int v_t_lostByMould])), (q_t_tears, .inl (cI, 40, .inl v_t_tears))] (some (.int z))) args s 0 0 (fr [(q_t, .inr (4, [.ref q_t_kinds, .ref q_t_leaflets, .ref q_t_owners, .ref q_t_tears, .ref q_t_debts, .int v_t_size, .int v_t_lostByHands, .int v_t_lostByMould])), (q_t_tears, .inl (cI, 40, .inl v_t_tears))])) = Q0
  generalize hA0 : fr [(q_t, .inr (4, [.ref q_t_kinds, .ref q_t_leaflets, .ref q_t_owners, .ref q_t_tears, .ref q_t_debts, .int v_t_size, .int v_t_lostByHands, .int v_t_lostByMould])), (q_t_tears, .inl (cI, 40, .inl v_t_tears))] = A0 at hD hS
  unfold fX4_tear at h
  refine lv_aload_n hx hb dX4_tear_0 rfl (lv_at hl 0 rfl) ?_
  refine va_get (own := RX4) (ci := 4) (v := .ref q_t_tears) (C := RX4) (T := TX4) (N := 8) hx hb hts iX4 hown hK hP 0 rfl rfl 3 (by decide) k21 (fun _ h9 => h9) rfl dX4_tear_1 ?_
  refine lv_iload_n hx hb dX4_tear_4 rfl (lv_at hl 1 rfl) ?_
  refine lv_iconst (v := 4) hx hb dX4_tear_5 (by decide) ?_
  refine lv_imul hx hb dX4_tear_6 ?_
  refine lv_iload_n hx hb dX4_tear_7 rfl (lv_at hl 2 rfl) ?_
  refine lv_iadd hx hb dX4_tear_8 ?_
  obtain ⟨g1, h⟩ := gd_of h
  refine va_iald hx hb hK hP 1 0 rfl rfl (inb_of g1) dX4_tear_9 ?_
  obtain rfl := Option.some.inj h
  exact rt_i hA0 hQ0 hx hb hr hlocks hP hS dX4_tear_10
def fX4_tellOf (v_t_size : Int32) (v_t_lostByHands : Int32) (v_t_lostByMould : Int32) (v_t_kinds : Nat → Int32) (v_t_leaflets : Nat → Int32) (v_t_owners : Nat → Int32) (v_t_tears : Nat → Int32) (x1 : Int32) (x2 : Int32) : Option (Int32) :=
  if x2 = 0 then (gd (inb x1 10) (some (v_t_kinds x1.toNatClampNeg))) else (if x2 = 1 then (gd (inb x1 10) (some (v_t_leaflets x1.toNatClampNeg))) else (if x2 = 2 then (gd (inb x1 10) (some (v_t_owners x1.toNatClampNeg))) else (if x2 = 3 then ((fX4_worthBehindHand v_t_size v_t_lostByHands v_t_lostByMould v_t_kinds v_t_leaflets x1).bind (fun u8 => some u8)) else ((fX4_tear v_t_size v_t_lostByHands v_t_lostByMould v_t_tears x1 (x2 - 4)).bind (fun u10 => some u10)))))
set_option maxHeartbeats 4000000 in
set_option maxRecDepth 100000 in
theorem c_X4_tellOf (l : Launch) (D : va_G) (cI cJ : ClassId) (q_t q_t_kinds q_t_leaflets q_t_owners q_t_tears q_t_debts : Nat) (v_t_size : Int32) (v_t_lostByHands : Int32) (v_t_lostByMould : Int32) (v_t_kinds : Nat → Int32) (v_t_leaflets : Nat → Int32) (v_t_owners : Nat → Int32) (v_t_tears : Nat → Int32) (x1 : Int32) (x2 : Int32) (z : Int32) (h : fX4_tellOf v_t_size v_t_lostByHands v_t_lostByMould v_t_kinds v_t_leaflets v_t_owners v_t_tears x1 x2 = some z) : Met l yX4_tellOf wsX4_tellOf ({ frames := 3, cells := 0, slots := 0, locals := 66 } : Room) (va_Pc [.ref q_t, .int x1, .int x2] (preG D cI cJ [(q_t, .inr (4, [.ref q_t_kinds, .ref q_t_leaflets, .ref q_t_owners, .ref q_t_tears, .ref q_t_debts, .int v_t_size, .int v_t_lostByHands, .int v_t_lostByMould])), (q_t_kinds, .inl (cI, 10, .inl v_t_kinds)), (q_t_leaflets, .inl (cI, 10, .inl v_t_leaflets)), (q_t_owners, .inl (cI, 10, .inl v_t_owners)), (q_t_tears, .inl (cI, 40, .inl v_t_tears))])) (QG D [(q_t, .inr (4, [.ref q_t_kinds, .ref q_t_leaflets, .ref q_t_owners, .ref q_t_tears, .ref q_t_debts, .int v_t_size, .int v_t_lostByHands, .int v_t_lostByMould])), (q_t_kinds, .inl (cI, 10, .inl v_t_kinds)), (q_t_leaflets, .inl (cI, 10, .inl v_t_leaflets)), (q_t_owners, .inl (cI, 10, .inl v_t_owners)), (q_t_tears, .inl (cI, 40, .inl v_t_tears))] [(q_t, .inr (4, [.ref q_t_kinds, .ref q_t_leaflets, .ref q_t_owners, .ref q_t_tears, .ref q_t_debts, .int v_t_size, .int v_t_lostByHands, .int v_t_lostByMould])), (q_t_kinds, .inl (cI, 10, .inl v_t_kinds)), (q_t_leaflets, .inl (cI, 10, .inl v_t_leaflets)), (q_t_owners, .inl (cI, 10, .inl v_t_owners)), (q_t_tears, .inl (cI, 40, .inl v_t_tears))] (some (.int z))) 0 0 (fr [(q_t, .inr (4, [.ref q_t_kinds, .ref q_t_leaflets, .ref q_t_owners, .ref q_t_tears, .ref q_t_debts, .int v_t_size, .int v_t_lostByHands, .int v_t_lostByMould])), (q_t_kinds, .inl (cI, 10, .inl v_t_kinds)), (q_t_leaflets, .inl (cI, 10, .inl v_t_leaflets)), (q_t_owners, .inl (cI, 10, .inl v_t_owners)), (q_t_tears, .inl (cI, 40, .inl v_t_tears))]) := by
  refine Met.ofW (cc := cX4_tellOf) (maxL := 3) (ret := (some .int)) (by decide) rfl ?_
  intro p e s m args below meth c s₁ B hml hv
  obtain ⟨hargs, hP, hK, hN, hD0⟩ := hv
  have hx := B.exec
  have hb := B.bytes
  have hr := B.returns
  have hts := atoms_spec (ws := wsX4_tellOf) B.pre
  have hown : s.vm.findClass RX4 = some m.cls := findClass_of_methodNamed B.named
  have hlocks := B.notSynchronized
  have iX4 : ∀ w ∈ wsX40, w ∈ wsX4_tellOf := by decide +kernel
  have k9 := hts (.fieldLink RX4 9 "PressedFerns$Herbarium" "kinds" "[I") (by decide +kernel)
  have k15 := hts (.fieldLink RX4 15 "PressedFerns$Herbarium" "leaflets" "[I") (by decide +kernel)
  have k18 := hts (.fieldLink RX4 18 "PressedFerns$Herbarium" "owners" "[I") (by decide +kernel)
  have hD := fr_D hD0
  have hS : va_S (fr [(q_t, .inr (4, [.ref q_t_kinds, .ref q_t_leaflets, .ref q_t_owners, .ref q_t_tears, .ref q_t_debts, .int v_t_size, .int v_t_lostByHands, .int v_t_lostByMould])), (q_t_kinds, .inl (cI, 10, .inl v_t_kinds)), (q_t_leaflets, .inl (cI, 10, .inl v_t_leaflets)), (q_t_owners, .inl (cI, 10, .inl v_t_owners)), (q_t_tears, .inl (cI, 40, .inl v_t_tears))]) s.heap s.heap [] := va_S.rf
  have hl := lv_entry ([.ref q_t, .int x1, .int x2]) (n := 3) (Nat.le_of_ble_eq_true rfl)
  refine W.eq (g2 := F0 m 0 ((lg_sl ([.ref q_t, .int x1, .int x2]) ++ List.replicate (3 - (lg_sl ([.ref q_t, .int x1, .int x2])).length) Slot.unset).toArray) []) (by rw [hargs, lg_entry_eq]) ?_
  generalize (lg_sl ([.ref q_t, .int x1, .int x2]) ++ List.replicate (3 - (lg_sl ([.ref q_t, .int x1, .int x2])).length) Slot.unset).toArray = ls at hl ⊢
  have hl : lv_has ls 3 [(0, .ref q_t), (1, .int x1), (2, .int x2)] := hl
  show W p l e ({ frames := 3, cells := 0, slots := 0, locals := 66 } : Room) s m args below meth c s.heap [] 0 0 (MQ below (QG D [(q_t, .inr (4, [.ref q_t_kinds, .ref q_t_leaflets, .ref q_t_owners, .ref q_t_tears, .ref q_t_debts, .int v_t_size, .int v_t_lostByHands, .int v_t_lostByMould])), (q_t_kinds, .inl (cI, 10, .inl v_t_kinds)), (q_t_leaflets, .inl (cI, 10, .inl v_t_leaflets)), (q_t_owners, .inl (cI, 10, .inl v_t_owners)), (q_t_tears, .inl (cI, 40, .inl v_t_tears))] [(q_t, .inr (4, [.ref q_t_kinds, .ref q_t_leaflets, .ref q_t_owners, .ref q_t_tears, .ref q_t_debts, .int v_t_size, .int v_t_lostByHands, .int v_t_lostByMould])), (q_t_kinds, .inl (cI, 10, .inl v_t_kinds)), (q_t_leaflets, .inl (cI, 10, .inl v_t_leaflets)), (q_t_owners, .inl (cI, 10, .inl v_t_owners)), (q_t_tears, .inl (cI, 40, .inl v_t_tears))] (some (.int z))) args s 0 0 (fr [(q_t, .inr (4, [.ref q_t_kinds, .ref q_t_leaflets, .ref q_t_owners, .ref q_t_tears, .ref q_t_debts, .int v_t_size, .int v_t_lostByHands, .int v_t_lostByMould])), (q_t_kinds, .inl (cI, 10, .inl v_t_kinds)), (q_t_leaflets, .inl (cI, 10, .inl v_t_leaflets)), (q_t_owners, .inl (cI, 10, .inl v_t_owners)), (q_t_tears, .inl (cI, 40, .inl v_t_tears))])) (F0 m 0 ls [])
  generalize hQ0 : (MQ below (QG D [(q_t, .inr (4, [.ref q_t_kinds, .ref q_t_leaflets, .ref q_t_owners, .ref q_t_tears, .ref q_t_debts, .int v_t_size, .int v_t_lostByHands, .int v_t_lostByMould])), (q_t_kinds, .inl (cI, 10, .inl v_t_kinds)), (q_t_leaflets, .inl (cI, 10, .inl v_t_leaflets)), (q_t_owners, .inl (cI, 10, .inl v_t_owners)), (q_t_tears, .inl (cI, 40, .inl v_t_tears))] [(q_t, .inr (4, [.ref q_t_kinds, .ref q_t_leaflets, .ref q_t_owners, .ref q_t_tears, .ref q_t_debts, .int v_t_size, .int v_t_lostByHands, .int v_t_lostByMould])), (q_t_kinds, .inl (cI, 10, .inl v_t_kinds)), (q_t_leaflets, .inl (cI, 10, .inl v_t_leaflets)), (q_t_owners, .inl (cI, 10, .inl v_t_owners)), (q_t_tears, .inl (cI, 40, .inl v_t_tears))] (some (.int z))) args s 0 0 (fr [(q_t, .inr (4, [.ref q_t_kinds, .ref q_t_leaflets, .ref q_t_owners, .ref q_t_tears, .ref q_t_debts, .int v_t_size, .int v_t_lostByHands, .int v_t_lostByMould])), (q_t_kinds, .inl (cI, 10, .inl v_t_kinds)), (q_t_leaflets, .inl (cI, 10, .inl v_t_leaflets)), (q_t_owners, .inl (cI, 10, .inl v_t_owners)), (q_t_tears, .inl (cI, 40, .inl v_t_tears))])) = Q0
  generalize hA0 : fr [(q_t, .inr (4, [.ref q_t_kinds, .ref q_t_leaflets, .ref q_t_owners, .ref q_t_tears, .ref q_t_debts, .int v_t_size, .int v_t_lostByHands, .int v_t_lostByMould])), (q_t_kinds, .inl (cI, 10, .inl v_t_kinds)), (q_t_leaflets, .inl (cI, 10, .inl v_t_leaflets)), (q_t_owners, .inl (cI, 10, .inl v_t_owners)), (q_t_tears, .inl (cI, 40, .inl v_t_tears))] = A0 at hD hS
  unfold fX4_tellOf at h
  refine lv_iload_n hx hb dX4_tellOf_0 rfl (lv_at hl 2 rfl) ?_
  by_cases c1 : x2 = 0
  · have h := (if_pos c1).symm.trans h
    refine lv_tableIn (off := 31) (tgt := 32) hx hb dX4_tellOf_1 (by rw [c1]; decide) (by rw [c1]; decide) (by rw [c1]; decide) (by decide) ?_
    refine lv_aload_n hx hb dX4_tellOf_32 rfl (lv_at hl 0 rfl) ?_
    refine va_get (own := RX4) (ci := 4) (v := .ref q_t_kinds) (C := RX4) (T := TX4) (N := 8) hx hb hts iX4 hown hK hP 0 rfl rfl 0 (by decide) k9 (fun _ h9 => h9) rfl dX4_tellOf_33 ?_
    refine lv_iload_n hx hb dX4_tellOf_36 rfl (lv_at hl 1 rfl) ?_
    obtain ⟨g2, h⟩ := gd_of h
    refine va_iald hx hb hK hP 1 0 rfl rfl (inb_of g2) dX4_tellOf_37 ?_
    obtain rfl := Option.some.inj h
    exact rt_i hA0 hQ0 hx hb hr hlocks hP hS dX4_tellOf_38
  have h := (if_neg c1).symm.trans h
  by_cases c3 : x2 = 1
  · have h := (if_pos c3).symm.trans h
    refine lv_tableIn (off := 38) (tgt := 39) hx hb dX4_tellOf_1 (by rw [c3]; decide) (by rw [c3]; decide) (by rw [c3]; decide) (by decide) ?_
    refine lv_aload_n hx hb dX4_tellOf_39 rfl (lv_at hl 0 rfl) ?_
    refine va_get (own := RX4) (ci := 4) (v := .ref q_t_leaflets) (C := RX4) (T := TX4) (N := 8) hx hb hts iX4 hown hK hP 0 rfl rfl 1 (by decide) k15 (fun _ h9 => h9) rfl dX4_tellOf_40 ?_
    refine lv_iload_n hx hb dX4_tellOf_43 rfl (lv_at hl 1 rfl) ?_
    obtain ⟨g4, h⟩ := gd_of h
    refine va_iald hx hb hK hP 2 0 rfl rfl (inb_of g4) dX4_tellOf_44 ?_
    obtain rfl := Option.some.inj h
    exact rt_i hA0 hQ0 hx hb hr hlocks hP hS dX4_tellOf_45
  have h := (if_neg c3).symm.trans h
  by_cases c5 : x2 = 2
  · have h := (if_pos c5).symm.trans h
    refine lv_tableIn (off := 45) (tgt := 46) hx hb dX4_tellOf_1 (by rw [c5]; decide) (by rw [c5]; decide) (by rw [c5]; decide) (by decide) ?_
    refine lv_aload_n hx hb dX4_tellOf_46 rfl (lv_at hl 0 rfl) ?_
    refine va_get (own := RX4) (ci := 4) (v := .ref q_t_owners) (C := RX4) (T := TX4) (N := 8) hx hb hts iX4 hown hK hP 0 rfl rfl 2 (by decide) k18 (fun _ h9 => h9) rfl dX4_tellOf_47 ?_
    refine lv_iload_n hx hb dX4_tellOf_50 rfl (lv_at hl 1 rfl) ?_
    obtain ⟨g6, h⟩ := gd_of h
    refine va_iald hx hb hK hP 3 0 rfl rfl (inb_of g6) dX4_tellOf_51 ?_
    obtain rfl := Option.some.inj h
    exact rt_i hA0 hQ0 hx hb hr hlocks hP hS dX4_tellOf_52
  have h := (if_neg c5).symm.trans h
  by_cases c7 : x2 = 3
  · have h := (if_pos c7).symm.trans h
    refine lv_tableIn (off := 52) (tgt := 53) hx hb dX4_tellOf_1 (by rw [c7]; decide) (by rw [c7]; decide) (by rw [c7]; decide) (by decide) ?_
    refine lv_aload_n hx hb dX4_tellOf_53 rfl (lv_at hl 0 rfl) ?_
    refine lv_iload_n hx hb dX4_tellOf_54 rfl (lv_at hl 1 rfl) ?_
    obtain ⟨u8, g9, h⟩ := bd_of h
    refine cl_V [(q_t, .inr (4, [.ref q_t_kinds, .ref q_t_leaflets, .ref q_t_owners, .ref q_t_tears, .ref q_t_debts, .int v_t_size, .int v_t_lostByHands, .int v_t_lostByMould])), (q_t_kinds, .inl (cI, 10, .inl v_t_kinds)), (q_t_leaflets, .inl (cI, 10, .inl v_t_leaflets)), (q_t_owners, .inl (cI, 10, .inl v_t_owners)), (q_t_tears, .inl (cI, 40, .inl v_t_tears))] (As := [.int x1]) (rest := []) (rv := (some (.int u8))) (c_X4_worthBehindHand l D cI cJ q_t q_t_kinds q_t_leaflets q_t_owners q_t_tears q_t_debts v_t_size v_t_lostByHands v_t_lostByMould v_t_kinds v_t_leaflets x1 u8 g9) ⟨hx, hb, hml, hown, hts⟩ (cwV 1 hts gX4_tellOf_X4_worthBehindHand rfl rfl rfl (by decide +kernel) ⟨(Nat.le_of_ble_eq_true rfl), (Nat.le_of_ble_eq_true rfl)⟩) hK hN hP hD hS [0, 1, 2] rfl (by decide) rfl rfl rfl (q0 := 0) (ci := 4) rfl rfl rfl rfl hl.1 rfl (Nat.le_of_ble_eq_true rfl) dX4_tellOf_55 ⟨Nat.zero_le _, Nat.zero_le _⟩ (fun H locs hP hD hS => ?_)
    show W p l e ({ frames := 3, cells := 0, slots := 0, locals := 66 } : Room) s m args below meth c H locs 0 0 Q0 (F0 m 58 ls [.int u8])
    obtain rfl := Option.some.inj h
    exact rt_i hA0 hQ0 hx hb hr hlocks hP hS dX4_tellOf_58
  have h := (if_neg c7).symm.trans h
  refine lv_tableOut (tgt := 59) hx hb dX4_tellOf_1 (by
      have n_c1 := lv_neT (a := 0) c1 (by decide)
      have n_c3 := lv_neT (a := 1) c3 (by decide)
      have n_c5 := lv_neT (a := 2) c5 (by decide)
      have n_c7 := lv_neT (a := 3) c7 (by decide)
      omega) (by decide) ?_
  refine lv_aload_n hx hb dX4_tellOf_59 rfl (lv_at hl 0 rfl) ?_
  refine lv_iload_n hx hb dX4_tellOf_60 rfl (lv_at hl 1 rfl) ?_
  refine lv_iload_n hx hb dX4_tellOf_61 rfl (lv_at hl 2 rfl) ?_
  refine lv_iconst (v := 4) hx hb dX4_tellOf_62 (by decide) ?_
  refine lv_isub hx hb dX4_tellOf_63 ?_
  obtain ⟨u10, g11, h⟩ := bd_of h
  refine cl_V [(q_t, .inr (4, [.ref q_t_kinds, .ref q_t_leaflets, .ref q_t_owners, .ref q_t_tears, .ref q_t_debts, .int v_t_size, .int v_t_lostByHands, .int v_t_lostByMould])), (q_t_kinds, .inl (cI, 10, .inl v_t_kinds)), (q_t_leaflets, .inl (cI, 10, .inl v_t_leaflets)), (q_t_owners, .inl (cI, 10, .inl v_t_owners)), (q_t_tears, .inl (cI, 40, .inl v_t_tears))] (As := [.int x1, .int (x2 - 4)]) (rest := []) (rv := (some (.int u10))) (c_X4_tear l D cI cJ q_t q_t_kinds q_t_leaflets q_t_owners q_t_tears q_t_debts v_t_size v_t_lostByHands v_t_lostByMould v_t_tears x1 (x2 - 4) u10 g11) ⟨hx, hb, hml, hown, hts⟩ (cwV 2 hts gX4_tellOf_X4_tear rfl rfl rfl (by decide +kernel) ⟨(Nat.le_of_ble_eq_true rfl), (Nat.le_of_ble_eq_true rfl)⟩) hK hN hP hD hS [0, 4] rfl (by decide) rfl rfl rfl (q0 := 0) (ci := 4) rfl rfl rfl rfl hl.1 rfl (Nat.le_of_ble_eq_true rfl) dX4_tellOf_64 ⟨Nat.zero_le _, Nat.zero_le _⟩ (fun H locs hP hD hS => ?_)
  show W p l e ({ frames := 3, cells := 0, slots := 0, locals := 66 } : Room) s m args below meth c H locs 0 0 Q0 (F0 m 67 ls [.int u10])
  obtain rfl := Option.some.inj h
  exact rt_i hA0 hQ0 hx hb hr hlocks hP hS dX4_tellOf_67
def fX4_ownersOfWholeFronds_X4_48  (a3 : Int32) : Option (Int32) :=
  some a3
def fX4_ownersOfWholeFronds_J42 (z1 : Int32 × Int32) (a8 : Int32) : Option ((Int32 × Int32) ⊕ (Int32)) :=
  some (Sum.inl (a8, (z1.2 + 1)))
def fX4_ownersOfWholeFronds_L4 (v_t_size : Int32) (v_t_lostByHands : Int32) (v_t_lostByMould : Int32) (v_t_leaflets : Nat → Int32) (v_t_owners : Nat → Int32) (z1 : Int32 × Int32) : Option ((Int32 × Int32) ⊕ (Int32)) :=
  if v_t_size ≤ z1.2 then (some (Sum.inr z1.1)) else (gd (inb z1.2 10) (if (v_t_leaflets z1.2.toNatClampNeg) = 9 then ((fX4_isAtBank v_t_size v_t_lostByHands v_t_lostByMould v_t_owners z1.2).bind (fun u11 => if u11 = 0 then (fX4_ownersOfWholeFronds_J42 z1 (z1.1 ||| (1 <<< ((v_t_owners z1.2.toNatClampNeg) &&& 31)))) else (fX4_ownersOfWholeFronds_J42 z1 z1.1))) else (fX4_ownersOfWholeFronds_J42 z1 z1.1)))
def fX4_ownersOfWholeFronds (v_t_size : Int32) (v_t_lostByHands : Int32) (v_t_lostByMould : Int32) (v_t_leaflets : Nat → Int32) (v_t_owners : Nat → Int32) : Option (Int32) :=
  (iter (fX4_ownersOfWholeFronds_L4 v_t_size v_t_lostByHands v_t_lostByMould v_t_leaflets v_t_owners) FU (0, 0)).bind (fX4_ownersOfWholeFronds_X4_48)
set_option maxHeartbeats 4000000 in
set_option maxRecDepth 100000 in
theorem c_X4_ownersOfWholeFronds (l : Launch) (D : va_G) (cI cJ : ClassId) (q_t q_t_kinds q_t_leaflets q_t_owners q_t_tears q_t_debts : Nat) (v_t_size : Int32) (v_t_lostByHands : Int32) (v_t_lostByMould : Int32) (v_t_leaflets : Nat → Int32) (v_t_owners : Nat → Int32) (z : Int32) (h : fX4_ownersOfWholeFronds v_t_size v_t_lostByHands v_t_lostByMould v_t_leaflets v_t_owners = some z) : Met l yX4_ownersOfWholeFronds wsX4_ownersOfWholeFronds ({ frames := 1, cells := 0, slots := 0, locals := 21 } : Room) (va_Pc [.ref q_t] (preG D cI cJ [(q_t, .inr (4, [.ref q_t_kinds, .ref q_t_leaflets, .ref q_t_owners, .ref q_t_tears, .ref q_t_debts, .int v_t_size, .int v_t_lostByHands, .int v_t_lostByMould])), (q_t_leaflets, .inl (cI, 10, .inl v_t_leaflets)), (q_t_owners, .inl (cI, 10, .inl v_t_owners))])) (QG D [(q_t, .inr (4, [.ref q_t_kinds, .ref q_t_leaflets, .ref q_t_owners, .ref q_t_tears, .ref q_t_debts, .int v_t_size, .int v_t_lostByHands, .int v_t_lostByMould])), (q_t_leaflets, .inl (cI, 10, .inl v_t_leaflets)), (q_t_owners, .inl (cI, 10, .inl v_t_owners))] [(q_t, .inr (4, [.ref q_t_kinds, .ref q_t_leaflets, .ref q_t_owners, .ref q_t_tears, .ref q_t_debts, .int v_t_size, .int v_t_lostByHands, .int v_t_lostByMould])), (q_t_leaflets, .inl (cI, 10, .inl v_t_leaflets)), (q_t_owners, .inl (cI, 10, .inl v_t_owners))] (some (.int z))) 0 0 (fr [(q_t, .inr (4, [.ref q_t_kinds, .ref q_t_leaflets, .ref q_t_owners, .ref q_t_tears, .ref q_t_debts, .int v_t_size, .int v_t_lostByHands, .int v_t_lostByMould])), (q_t_leaflets, .inl (cI, 10, .inl v_t_leaflets)), (q_t_owners, .inl (cI, 10, .inl v_t_owners))]) := by
  refine Met.ofW (cc := cX4_ownersOfWholeFronds) (maxL := 3) (ret := (some .int)) (by decide) rfl ?_
  intro p e s m args below meth c s₁ B hml hv
  obtain ⟨hargs, hP, hK, hN, hD0⟩ := hv
  have hx := B.exec
  have hb := B.bytes
  have hr := B.returns
  have hts := atoms_spec (ws := wsX4_ownersOfWholeFronds) B.pre
  have hown : s.vm.findClass RX4 = some m.cls := findClass_of_methodNamed B.named
  have hlocks := B.notSynchronized
  have iX4 : ∀ w ∈ wsX40, w ∈ wsX4_ownersOfWholeFronds := by decide +kernel
  have k15 := hts (.fieldLink RX4 15 "PressedFerns$Herbarium" "leaflets" "[I") (by decide +kernel)
  have k18 := hts (.fieldLink RX4 18 "PressedFerns$Herbarium" "owners" "[I") (by decide +kernel)
  have k41 := hts (.fieldLink RX4 41 "PressedFerns$Herbarium" "size" "I") (by decide +kernel)
  have hD := fr_D hD0
  have hS : va_S (fr [(q_t, .inr (4, [.ref q_t_kinds, .ref q_t_leaflets, .ref q_t_owners, .ref q_t_tears, .ref q_t_debts, .int v_t_size, .int v_t_lostByHands, .int v_t_lostByMould])), (q_t_leaflets, .inl (cI, 10, .inl v_t_leaflets)), (q_t_owners, .inl (cI, 10, .inl v_t_owners))]) s.heap s.heap [] := va_S.rf
  have hl := lv_entry ([.ref q_t]) (n := 3) (Nat.le_of_ble_eq_true rfl)
  refine W.eq (g2 := F0 m 0 ((lg_sl ([.ref q_t]) ++ List.replicate (3 - (lg_sl ([.ref q_t])).length) Slot.unset).toArray) []) (by rw [hargs, lg_entry_eq]) ?_
  generalize (lg_sl ([.ref q_t]) ++ List.replicate (3 - (lg_sl ([.ref q_t])).length) Slot.unset).toArray = ls at hl ⊢
  have hl : lv_has ls 3 [(0, .ref q_t)] := hl
  show W p l e ({ frames := 1, cells := 0, slots := 0, locals := 21 } : Room) s m args below meth c s.heap [] 0 0 (MQ below (QG D [(q_t, .inr (4, [.ref q_t_kinds, .ref q_t_leaflets, .ref q_t_owners, .ref q_t_tears, .ref q_t_debts, .int v_t_size, .int v_t_lostByHands, .int v_t_lostByMould])), (q_t_leaflets, .inl (cI, 10, .inl v_t_leaflets)), (q_t_owners, .inl (cI, 10, .inl v_t_owners))] [(q_t, .inr (4, [.ref q_t_kinds, .ref q_t_leaflets, .ref q_t_owners, .ref q_t_tears, .ref q_t_debts, .int v_t_size, .int v_t_lostByHands, .int v_t_lostByMould])), (q_t_leaflets, .inl (cI, 10, .inl v_t_leaflets)), (q_t_owners, .inl (cI, 10, .inl v_t_owners))] (some (.int z))) args s 0 0 (fr [(q_t, .inr (4, [.ref q_t_kinds, .ref q_t_leaflets, .ref q_t_owners, .ref q_t_tears, .ref q_t_debts, .int v_t_size, .int v_t_lostByHands, .int v_t_lostByMould])), (q_t_leaflets, .inl (cI, 10, .inl v_t_leaflets)), (q_t_owners, .inl (cI, 10, .inl v_t_owners))])) (F0 m 0 ls [])
  generalize hQ0 : (MQ below (QG D [(q_t, .inr (4, [.ref q_t_kinds, .ref q_t_leaflets, .ref q_t_owners, .ref q_t_tears, .ref q_t_debts, .int v_t_size, .int v_t_lostByHands, .int v_t_lostByMould])), (q_t_leaflets, .inl (cI, 10, .inl v_t_leaflets)), (q_t_owners, .inl (cI, 10, .inl v_t_owners))] [(q_t, .inr (4, [.ref q_t_kinds, .ref q_t_leaflets, .ref q_t_owners, .ref q_t_tears, .ref q_t_debts, .int v_t_size, .int v_t_lostByHands, .int v_t_lostByMould])), (q_t_leaflets, .inl (cI, 10, .inl v_t_leaflets)), (q_t_owners, .inl (cI, 10, .inl v_t_owners))] (some (.int z))) args s 0 0 (fr [(q_t, .inr (4, [.ref q_t_kinds, .ref q_t_leaflets, .ref q_t_owners, .ref q_t_tears, .ref q_t_debts, .int v_t_size, .int v_t_lostByHands, .int v_t_lostByMould])), (q_t_leaflets, .inl (cI, 10, .inl v_t_leaflets)), (q_t_owners, .inl (cI, 10, .inl v_t_owners))])) = Q0
  generalize hA0 : fr [(q_t, .inr (4, [.ref q_t_kinds, .ref q_t_leaflets, .ref q_t_owners, .ref q_t_tears, .ref q_t_debts, .int v_t_size, .int v_t_lostByHands, .int v_t_lostByMould])), (q_t_leaflets, .inl (cI, 10, .inl v_t_leaflets)), (q_t_owners, .inl (cI, 10, .inl v_t_owners))] = A0 at hD hS
  unfold fX4_ownersOfWholeFronds at h
  refine lv_iconst (v := 0) hx hb dX4_ownersOfWholeFronds_0 (by decide) ?_
  refine lv_istore_n (lv' := [(1, .int 0), (0, .ref q_t)]) hx hb dX4_ownersOfWholeFronds_1 rfl hl (by decide) rfl (fun ls hl => ?_)
  refine lv_iconst (v := 0) hx hb dX4_ownersOfWholeFronds_2 (by decide) ?_
  refine lv_istore_n (lv' := [(2, .int 0), (1, .int 0), (0, .ref q_t)]) hx hb dX4_ownersOfWholeFronds_3 rfl hl (by decide) rfl (fun ls hl => ?_)
  obtain ⟨e2, he_e2, hc_e2⟩ := bd_of h
  have X48_4 : ∀ (a3 : Int32) (H : Heap) (locs : List Loc) (ls : Array Slot), fX4_ownersOfWholeFronds_X4_48 a3 = some z → va_P D vwCl [(q_t, .inr (4, [.ref q_t_kinds, .ref q_t_leaflets, .ref q_t_owners, .ref q_t_tears, .ref q_t_debts, .int v_t_size, .int v_t_lostByHands, .int v_t_lostByMould])), (q_t_leaflets, .inl (cI, 10, .inl v_t_leaflets)), (q_t_owners, .inl (cI, 10, .inl v_t_owners))] H → va_D A0 [(q_t, .inr (4, [.ref q_t_kinds, .ref q_t_leaflets, .ref q_t_owners, .ref q_t_tears, .ref q_t_debts, .int v_t_size, .int v_t_lostByHands, .int v_t_lostByMould])), (q_t_leaflets, .inl (cI, 10, .inl v_t_leaflets)), (q_t_owners, .inl (cI, 10, .inl v_t_owners))] → va_S A0 s.heap H locs → lv_has ls 3 [(1, .int a3)] → W p l e ({ frames := 1, cells := 0, slots := 0, locals := 21 } : Room) s m args below meth c H locs 0 0 Q0 (F0 m 48 ls []) := by
    intro a3 H locs ls h hP hD hS hl
    unfold fX4_ownersOfWholeFronds_X4_48 at h
    refine lv_iload_n hx hb dX4_ownersOfWholeFronds_48 rfl (lv_at hl 0 rfl) ?_
    obtain rfl := Option.some.inj h
    exact rt_i hA0 hQ0 hx hb hr hlocks hP hS dX4_ownersOfWholeFronds_49
  have L4_5 : ∀ (n : Nat) (z1 : Int32 × Int32) (H : Heap) (locs : List Loc) (ls : Array Slot), iter (fX4_ownersOfWholeFronds_L4 v_t_size v_t_lostByHands v_t_lostByMould v_t_leaflets v_t_owners) n z1 = some e2 → va_P D vwCl [(q_t, .inr (4, [.ref q_t_kinds, .ref q_t_leaflets, .ref q_t_owners, .ref q_t_tears, .ref q_t_debts, .int v_t_size, .int v_t_lostByHands, .int v_t_lostByMould])), (q_t_leaflets, .inl (cI, 10, .inl v_t_leaflets)), (q_t_owners, .inl (cI, 10, .inl v_t_owners))] H → va_D A0 [(q_t, .inr (4, [.ref q_t_kinds, .ref q_t_leaflets, .ref q_t_owners, .ref q_t_tears, .ref q_t_debts, .int v_t_size, .int v_t_lostByHands, .int v_t_lostByMould])), (q_t_leaflets, .inl (cI, 10, .inl v_t_leaflets)), (q_t_owners, .inl (cI, 10, .inl v_t_owners))] → va_S A0 s.heap H locs → lv_has ls 3 [(0, .ref q_t), (1, .int z1.1), (2, .int z1.2)] → W p l e ({ frames := 1, cells := 0, slots := 0, locals := 21 } : Room) s m args below meth c H locs 0 0 Q0 (F0 m 4 ls []) := by
    intro n
    induction n with
    | zero => exact fun _ _ _ _ h => (iter_z h).elim
    | succ n ih =>
      intro z1 H locs ls h hP hD hS hl
      obtain ⟨r_e2, h, hn_e2⟩ := iter_s h
      unfold fX4_ownersOfWholeFronds_L4 at h
      refine lv_iload_n hx hb dX4_ownersOfWholeFronds_4 rfl (lv_at hl 2 rfl) ?_
      refine lv_aload_n hx hb dX4_ownersOfWholeFronds_5 rfl (lv_at hl 0 rfl) ?_
      refine va_get (own := RX4) (ci := 4) (v := .int v_t_size) (C := RX4) (T := TX4) (N := 8) hx hb hts iX4 hown hK hP 0 rfl rfl 5 (by decide) k41 (fun _ h9 => h9) rfl dX4_ownersOfWholeFronds_6 ?_
      refine lv_icmp_ge (tgt := 48) hx hb dX4_ownersOfWholeFronds_9 (by decide) (fun c6 => ?_) (fun c6 => ?_)
      · skip
        have h := (if_pos c6).symm.trans h
        obtain rfl := Option.some.inj h
        obtain rfl := Option.some.inj hn_e2
        exact X48_4 z1.1 _ _ _ hc_e2 hP hD hS (lv_sub hl [1] rfl)
      · skip
        have h := (if_neg c6).symm.trans h
        refine lv_aload_n hx hb dX4_ownersOfWholeFronds_12 rfl (lv_at hl 0 rfl) ?_
        refine va_get (own := RX4) (ci := 4) (v := .ref q_t_leaflets) (C := RX4) (T := TX4) (N := 8) hx hb hts iX4 hown hK hP 0 rfl rfl 1 (by decide) k15 (fun _ h9 => h9) rfl dX4_ownersOfWholeFronds_13 ?_
        refine lv_iload_n hx hb dX4_ownersOfWholeFronds_16 rfl (lv_at hl 2 rfl) ?_
        obtain ⟨g7, h⟩ := gd_of h
        refine va_iald hx hb hK hP 1 0 rfl rfl (inb_of g7) dX4_ownersOfWholeFronds_17 ?_
        refine lv_bipush (v := 9) hx hb dX4_ownersOfWholeFronds_18 (by decide) ?_
        have J42_9 : ∀ (a8 : Int32) (H : Heap) (locs : List Loc) (ls : Array Slot), fX4_ownersOfWholeFronds_J42 z1 a8 = some r_e2 → va_P D vwCl [(q_t, .inr (4, [.ref q_t_kinds, .ref q_t_leaflets, .ref q_t_owners, .ref q_t_tears, .ref q_t_debts, .int v_t_size, .int v_t_lostByHands, .int v_t_lostByMould])), (q_t_leaflets, .inl (cI, 10, .inl v_t_leaflets)), (q_t_owners, .inl (cI, 10, .inl v_t_owners))] H → va_D A0 [(q_t, .inr (4, [.ref q_t_kinds, .ref q_t_leaflets, .ref q_t_owners, .ref q_t_tears, .ref q_t_debts, .int v_t_size, .int v_t_lostByHands, .int v_t_lostByMould])), (q_t_leaflets, .inl (cI, 10, .inl v_t_leaflets)), (q_t_owners, .inl (cI, 10, .inl v_t_owners))] → va_S A0 s.heap H locs → lv_has ls 3 [(0, .ref q_t), (1, .int a8), (2, .int z1.2)] → W p l e ({ frames := 1, cells := 0, slots := 0, locals := 21 } : Room) s m args below meth c H locs 0 0 Q0 (F0 m 42 ls []) := by
          intro a8 H locs ls h hP hD hS hl
          unfold fX4_ownersOfWholeFronds_J42 at h
          refine lv_iinc (v := (z1.2 + 1)) (lv' := [(2, .int (z1.2 + 1)), (0, .ref q_t), (1, .int a8)]) hx hb dX4_ownersOfWholeFronds_42 hl (k := 2) rfl rfl (by decide) rfl (fun ls hl => ?_)
          refine lv_goto (tgt := 4) hx hb dX4_ownersOfWholeFronds_45 (by decide) ?_
          obtain rfl := Option.some.inj h
          exact ih (a8, (z1.2 + 1)) _ _ _ hn_e2 hP hD hS (lv_sub hl [1, 2, 0] rfl)
        refine lv_icmp_ne (tgt := 42) hx hb dX4_ownersOfWholeFronds_20 (by decide) (fun c10 => ?_) (fun c10 => ?_)
        · skip
          have h := (if_neg c10).symm.trans h
          exact J42_9 z1.1 _ _ _ h hP hD hS (lv_sub hl [0, 1, 2] rfl)
        · skip
          have h := (if_pos c10).symm.trans h
          refine lv_aload_n hx hb dX4_ownersOfWholeFronds_23 rfl (lv_at hl 0 rfl) ?_
          refine lv_iload_n hx hb dX4_ownersOfWholeFronds_24 rfl (lv_at hl 2 rfl) ?_
          obtain ⟨u11, g12, h⟩ := bd_of h
          refine cl_V [(q_t, .inr (4, [.ref q_t_kinds, .ref q_t_leaflets, .ref q_t_owners, .ref q_t_tears, .ref q_t_debts, .int v_t_size, .int v_t_lostByHands, .int v_t_lostByMould])), (q_t_leaflets, .inl (cI, 10, .inl v_t_leaflets)), (q_t_owners, .inl (cI, 10, .inl v_t_owners))] (As := [.int z1.2]) (rest := []) (rv := (some (.int u11))) (c_X4_isAtBank l D cI cJ q_t q_t_kinds q_t_leaflets q_t_owners q_t_tears q_t_debts v_t_size v_t_lostByHands v_t_lostByMould v_t_owners z1.2 u11 g12) ⟨hx, hb, hml, hown, hts⟩ (cwV 1 hts gX4_ownersOfWholeFronds_X4_isAtBank rfl rfl rfl (by decide +kernel) ⟨(Nat.le_of_ble_eq_true rfl), (Nat.le_of_ble_eq_true rfl)⟩) hK hN hP hD hS [0, 2] rfl (by decide) rfl rfl rfl (q0 := 0) (ci := 4) rfl rfl rfl rfl hl.1 rfl (Nat.le_of_ble_eq_true rfl) dX4_ownersOfWholeFronds_25 ⟨Nat.zero_le _, Nat.zero_le _⟩ (fun H locs hP hD hS => ?_)
          show W p l e ({ frames := 1, cells := 0, slots := 0, locals := 21 } : Room) s m args below meth c H locs 0 0 Q0 (F0 m 28 ls [.int u11])
          refine lv_if_ne (tgt := 42) hx hb dX4_ownersOfWholeFronds_28 (by decide) (fun c13 => ?_) (fun c13 => ?_)
          · skip
            have h := (if_neg c13).symm.trans h
            exact J42_9 z1.1 _ _ _ h hP hD hS (lv_sub hl [0, 1, 2] rfl)
          · skip
            have h := (if_pos c13).symm.trans h
            refine lv_iload_n hx hb dX4_ownersOfWholeFronds_31 rfl (lv_at hl 1 rfl) ?_
            refine lv_iconst (v := 1) hx hb dX4_ownersOfWholeFronds_32 (by decide) ?_
            refine lv_aload_n hx hb dX4_ownersOfWholeFronds_33 rfl (lv_at hl 0 rfl) ?_
            refine va_get (own := RX4) (ci := 4) (v := .ref q_t_owners) (C := RX4) (T := TX4) (N := 8) hx hb hts iX4 hown hK hP 0 rfl rfl 2 (by decide) k18 (fun _ h9 => h9) rfl dX4_ownersOfWholeFronds_34 ?_
            refine lv_iload_n hx hb dX4_ownersOfWholeFronds_37 rfl (lv_at hl 2 rfl) ?_
            refine va_iald hx hb hK hP 2 0 rfl rfl (inb_of g7) dX4_ownersOfWholeFronds_38 ?_
            refine lv_ishl hx hb dX4_ownersOfWholeFronds_39 ?_
            refine lv_ior hx hb dX4_ownersOfWholeFronds_40 ?_
            refine lv_istore_n (lv' := [(1, .int (z1.1 ||| (1 <<< ((v_t_owners z1.2.toNatClampNeg) &&& 31)))), (0, .ref q_t), (2, .int z1.2)]) hx hb dX4_ownersOfWholeFronds_41 rfl hl (by decide) rfl (fun ls hl => ?_)
            exact J42_9 (z1.1 ||| (1 <<< ((v_t_owners z1.2.toNatClampNeg) &&& 31))) _ _ _ h hP hD hS (lv_sub hl [1, 0, 2] rfl)
  exact L4_5 FU (0, 0) _ _ _ he_e2 hP hD hS (lv_sub hl [2, 1, 0] rfl)
def fX4_leafletsOfAll_X4_27  (a3 : Int32) : Option (Int32) :=
  some a3
def fX4_leafletsOfAll_L4 (v_t_size : Int32) (v_t_leaflets : Nat → Int32) (z1 : Int32 × Int32) : Option ((Int32 × Int32) ⊕ (Int32)) :=
  if v_t_size ≤ z1.2 then (some (Sum.inr z1.1)) else (gd (inb z1.2 10) (some (Sum.inl ((z1.1 + (v_t_leaflets z1.2.toNatClampNeg)), (z1.2 + 1)))))
def fX4_leafletsOfAll (v_t_size : Int32) (v_t_lostByHands : Int32) (v_t_lostByMould : Int32) (v_t_leaflets : Nat → Int32) : Option (Int32) :=
  (iter (fX4_leafletsOfAll_L4 v_t_size v_t_leaflets) FU (0, 0)).bind (fX4_leafletsOfAll_X4_27)
set_option maxHeartbeats 4000000 in
set_option maxRecDepth 100000 in
theorem c_X4_leafletsOfAll (l : Launch) (D : va_G) (cI cJ : ClassId) (q_t q_t_kinds q_t_leaflets q_t_owners q_t_tears q_t_debts : Nat) (v_t_size : Int32) (v_t_lostByHands : Int32) (v_t_lostByMould : Int32) (v_t_leaflets : Nat → Int32) (z : Int32) (h : fX4_leafletsOfAll v_t_size v_t_lostByHands v_t_lostByMould v_t_leaflets = some z) : Met l yX4_leafletsOfAll wsX4_leafletsOfAll ({ frames := 0, cells := 0, slots := 0, locals := 0 } : Room) (va_Pc [.ref q_t] (preG D cI cJ [(q_t, .inr (4, [.ref q_t_kinds, .ref q_t_leaflets, .ref q_t_owners, .ref q_t_tears, .ref q_t_debts, .int v_t_size, .int v_t_lostByHands, .int v_t_lostByMould])), (q_t_leaflets, .inl (cI, 10, .inl v_t_leaflets))])) (QG D [(q_t, .inr (4, [.ref q_t_kinds, .ref q_t_leaflets, .ref q_t_owners, .ref q_t_tears, .ref q_t_debts, .int v_t_size, .int v_t_lostByHands, .int v_t_lostByMould])), (q_t_leaflets, .inl (cI, 10, .inl v_t_leaflets))] [(q_t, .inr (4, [.ref q_t_kinds, .ref q_t_leaflets, .ref q_t_owners, .ref q_t_tears, .ref q_t_debts, .int v_t_size, .int v_t_lostByHands, .int v_t_lostByMould])), (q_t_leaflets, .inl (cI, 10, .inl v_t_leaflets))] (some (.int z))) 0 0 (fr [(q_t, .inr (4, [.ref q_t_kinds, .ref q_t_leaflets, .ref q_t_owners, .ref q_t_tears, .ref q_t_debts, .int v_t_size, .int v_t_lostByHands, .int v_t_lostByMould])), (q_t_leaflets, .inl (cI, 10, .inl v_t_leaflets))]) := by
  refine Met.ofW (cc := cX4_leafletsOfAll) (maxL := 3) (ret := (some .int)) (by decide) rfl ?_
  intro p e s m args below meth c s₁ B hml hv
  obtain ⟨hargs, hP, hK, hN, hD0⟩ := hv
  have hx := B.exec
  have hb := B.bytes
  have hr := B.returns
  have hts := atoms_spec (ws := wsX4_leafletsOfAll) B.pre
  have hown : s.vm.findClass RX4 = some m.cls := findClass_of_methodNamed B.named
  have hlocks := B.notSynchronized
  have iX4 : ∀ w ∈ wsX40, w ∈ wsX4_leafletsOfAll := by decide +kernel
  have k15 := hts (.fieldLink RX4 15 "PressedFerns$Herbarium" "leaflets" "[I") (by decide +kernel)
  have k41 := hts (.fieldLink RX4 41 "PressedFerns$Herbarium" "size" "I") (by decide +kernel)
  have hD := fr_D hD0
  have hS : va_S (fr [(q_t, .inr (4, [.ref q_t_kinds, .ref q_t_leaflets, .ref q_t_owners, .ref q_t_tears, .ref q_t_debts, .int v_t_size, .int v_t_lostByHands, .int v_t_lostByMould])), (q_t_leaflets, .inl (cI, 10, .inl v_t_leaflets))]) s.heap s.heap [] := va_S.rf
  have hl := lv_entry ([.ref q_t]) (n := 3) (Nat.le_of_ble_eq_true rfl)
  refine W.eq (g2 := F0 m 0 ((lg_sl ([.ref q_t]) ++ List.replicate (3 - (lg_sl ([.ref q_t])).length) Slot.unset).toArray) []) (by rw [hargs, lg_entry_eq]) ?_
  generalize (lg_sl ([.ref q_t]) ++ List.replicate (3 - (lg_sl ([.ref q_t])).length) Slot.unset).toArray = ls at hl ⊢
  have hl : lv_has ls 3 [(0, .ref q_t)] := hl
  show W p l e ({ frames := 0, cells := 0, slots := 0, locals := 0 } : Room) s m args below meth c s.heap [] 0 0 (MQ below (QG D [(q_t, .inr (4, [.ref q_t_kinds, .ref q_t_leaflets, .ref q_t_owners, .ref q_t_tears, .ref q_t_debts, .int v_t_size, .int v_t_lostByHands, .int v_t_lostByMould])), (q_t_leaflets, .inl (cI, 10, .inl v_t_leaflets))] [(q_t, .inr (4, [.ref q_t_kinds, .ref q_t_leaflets, .ref q_t_owners, .ref q_t_tears, .ref q_t_debts, .int v_t_size, .int v_t_lostByHands, .int v_t_lostByMould])), (q_t_leaflets, .inl (cI, 10, .inl v_t_leaflets))] (some (.int z))) args s 0 0 (fr [(q_t, .inr (4, [.ref q_t_kinds, .ref q_t_leaflets, .ref q_t_owners, .ref q_t_tears, .ref q_t_debts, .int v_t_size, .int v_t_lostByHands, .int v_t_lostByMould])), (q_t_leaflets, .inl (cI, 10, .inl v_t_leaflets))])) (F0 m 0 ls [])
  generalize hQ0 : (MQ below (QG D [(q_t, .inr (4, [.ref q_t_kinds, .ref q_t_leaflets, .ref q_t_owners, .ref q_t_tears, .ref q_t_debts, .int v_t_size, .int v_t_lostByHands, .int v_t_lostByMould])), (q_t_leaflets, .inl (cI, 10, .inl v_t_leaflets))] [(q_t, .inr (4, [.ref q_t_kinds, .ref q_t_leaflets, .ref q_t_owners, .ref q_t_tears, .ref q_t_debts, .int v_t_size, .int v_t_lostByHands, .int v_t_lostByMould])), (q_t_leaflets, .inl (cI, 10, .inl v_t_leaflets))] (some (.int z))) args s 0 0 (fr [(q_t, .inr (4, [.ref q_t_kinds, .ref q_t_leaflets, .ref q_t_owners, .ref q_t_tears, .ref q_t_debts, .int v_t_size, .int v_t_lostByHands, .int v_t_lostByMould])), (q_t_leaflets, .inl (cI, 10, .inl v_t_leaflets))])) = Q0
  generalize hA0 : fr [(q_t, .inr (4, [.ref q_t_kinds, .ref q_t_leaflets, .ref q_t_owners, .ref q_t_tears, .ref q_t_debts, .int v_t_size, .int v_t_lostByHands, .int v_t_lostByMould])), (q_t_leaflets, .inl (cI, 10, .inl v_t_leaflets))] = A0 at hD hS
  unfold fX4_leafletsOfAll at h
  refine lv_iconst (v := 0) hx hb dX4_leafletsOfAll_0 (by decide) ?_
  refine lv_istore_n (lv' := [(1, .int 0), (0, .ref q_t)]) hx hb dX4_leafletsOfAll_1 rfl hl (by decide) rfl (fun ls hl => ?_)
  refine lv_iconst (v := 0) hx hb dX4_leafletsOfAll_2 (by decide) ?_
  refine lv_istore_n (lv' := [(2, .int 0), (1, .int 0), (0, .ref q_t)]) hx hb dX4_leafletsOfAll_3 rfl hl (by decide) rfl (fun ls hl => ?_)
  obtain ⟨e2, he_e2, hc_e2⟩ := bd_of h
  have X27_4 : ∀ (a3 : Int32) (H : Heap) (locs : List Loc) (ls : Array Slot), fX4_leafletsOfAll_X4_27 a3 = some z → va_P D vwCl [(q_t, .inr (4, [.ref q_t_kinds, .ref q_t_leaflets, .ref q_t_owners, .ref q_t_tears, .ref q_t_debts, .int v_t_size, .int v_t_lostByHands, .int v_t_lostByMould])), (q_t_leaflets, .inl (cI, 10, .inl v_t_leaflets))] H → va_D A0 [(q_t, .inr (4, [.ref q_t_kinds, .ref q_t_leaflets, .ref q_t_owners, .ref q_t_tears, .ref q_t_debts, .int v_t_size, .int v_t_lostByHands, .int v_t_lostByMould])), (q_t_leaflets, .inl (cI, 10, .inl v_t_leaflets))] → va_S A0 s.heap H locs → lv_has ls 3 [(1, .int a3)] → W p l e ({ frames := 0, cells := 0, slots := 0, locals := 0 } : Room) s m args below meth c H locs 0 0 Q0 (F0 m 27 ls []) := by
    intro a3 H locs ls h hP hD hS hl
    unfold fX4_leafletsOfAll_X4_27 at h
    refine lv_iload_n hx hb dX4_leafletsOfAll_27 rfl (lv_at hl 0 rfl) ?_
    obtain rfl := Option.some.inj h
    exact rt_i hA0 hQ0 hx hb hr hlocks hP hS dX4_leafletsOfAll_28
  have L4_5 : ∀ (n : Nat) (z1 : Int32 × Int32) (H : Heap) (locs : List Loc) (ls : Array Slot), iter (fX4_leafletsOfAll_L4 v_t_size v_t_leaflets) n z1 = some e2 → va_P D vwCl [(q_t, .inr (4, [.ref q_t_kinds, .ref q_t_leaflets, .ref q_t_owners, .ref q_t_tears, .ref q_t_debts, .int v_t_size, .int v_t_lostByHands, .int v_t_lostByMould])), (q_t_leaflets, .inl (cI, 10, .inl v_t_leaflets))] H → va_D A0 [(q_t, .inr (4, [.ref q_t_kinds, .ref q_t_leaflets, .ref q_t_owners, .ref q_t_tears, .ref q_t_debts, .int v_t_size, .int v_t_lostByHands, .int v_t_lostByMould])), (q_t_leaflets, .inl (cI, 10, .inl v_t_leaflets))] → va_S A0 s.heap H locs → lv_has ls 3 [(0, .ref q_t), (1, .int z1.1), (2, .int z1.2)] → W p l e ({ frames := 0, cells := 0, slots := 0, locals := 0 } : Room) s m args below meth c H locs 0 0 Q0 (F0 m 4 ls []) := by
    intro n
    induction n with
    | zero => exact fun _ _ _ _ h => (iter_z h).elim
    | succ n ih =>
      intro z1 H locs ls h hP hD hS hl
      obtain ⟨r_e2, h, hn_e2⟩ := iter_s h
      unfold fX4_leafletsOfAll_L4 at h
      refine lv_iload_n hx hb dX4_leafletsOfAll_4 rfl (lv_at hl 2 rfl) ?_
      refine lv_aload_n hx hb dX4_leafletsOfAll_5 rfl (lv_at hl 0 rfl) ?_
      refine va_get (own := RX4) (ci := 4) (v := .int v_t_size) (C := RX4) (T := TX4) (N := 8) hx hb hts iX4 hown hK hP 0 rfl rfl 5 (by decide) k41 (fun _ h9 => h9) rfl dX4_leafletsOfAll_6 ?_
      refine lv_icmp_ge (tgt := 27) hx hb dX4_leafletsOfAll_9 (by decide) (fun c6 => ?_) (fun c6 => ?_)
      · skip
        have h := (if_pos c6).symm.trans h
        obtain rfl := Option.some.inj h
        obtain rfl := Option.some.inj hn_e2
        exact X27_4 z1.1 _ _ _ hc_e2 hP hD hS (lv_sub hl [1] rfl)
      · skip
        have h := (if_neg c6).symm.trans h
        refine lv_iload_n hx hb dX4_leafletsOfAll_12 rfl (lv_at hl 1 rfl) ?_
        refine lv_aload_n hx hb dX4_leafletsOfAll_13 rfl (lv_at hl 0 rfl) ?_
        refine va_get (own := RX4) (ci := 4) (v := .ref q_t_leaflets) (C := RX4) (T := TX4) (N := 8) hx hb hts iX4 hown hK hP 0 rfl rfl 1 (by decide) k15 (fun _ h9 => h9) rfl dX4_leafletsOfAll_14 ?_
        refine lv_iload_n hx hb dX4_leafletsOfAll_17 rfl (lv_at hl 2 rfl) ?_
        obtain ⟨g7, h⟩ := gd_of h
        refine va_iald hx hb hK hP 1 0 rfl rfl (inb_of g7) dX4_leafletsOfAll_18 ?_
        refine lv_iadd hx hb dX4_leafletsOfAll_19 ?_
        refine lv_istore_n (lv' := [(1, .int (z1.1 + (v_t_leaflets z1.2.toNatClampNeg))), (0, .ref q_t), (2, .int z1.2)]) hx hb dX4_leafletsOfAll_20 rfl hl (by decide) rfl (fun ls hl => ?_)
        refine lv_iinc (v := (z1.2 + 1)) (lv' := [(2, .int (z1.2 + 1)), (1, .int (z1.1 + (v_t_leaflets z1.2.toNatClampNeg))), (0, .ref q_t)]) hx hb dX4_leafletsOfAll_21 hl (k := 2) rfl rfl (by decide) rfl (fun ls hl => ?_)
        refine lv_goto (tgt := 4) hx hb dX4_leafletsOfAll_24 (by decide) ?_
        obtain rfl := Option.some.inj h
        exact ih ((z1.1 + (v_t_leaflets z1.2.toNatClampNeg)), (z1.2 + 1)) _ _ _ hn_e2 hP hD hS (lv_sub hl [2, 1, 0] rfl)
  exact L4_5 FU (0, 0) _ _ _ he_e2 hP hD hS (lv_sub hl [2, 1, 0] rfl)
def fX4_frondsAtBank_X4_29  (a3 : Int32) : Option (Int32) :=
  some a3
def fX4_frondsAtBank_L4 (v_t_size : Int32) (v_t_lostByHands : Int32) (v_t_lostByMould : Int32) (v_t_owners : Nat → Int32) (z1 : Int32 × Int32) : Option ((Int32 × Int32) ⊕ (Int32)) :=
  if v_t_size ≤ z1.2 then (some (Sum.inr z1.1)) else ((fX4_isAtBank v_t_size v_t_lostByHands v_t_lostByMould v_t_owners z1.2).bind (fun u7 => some (Sum.inl ((if u7 = 0 then z1.1 else (z1.1 + 1) : Int32), (z1.2 + 1)))))
def fX4_frondsAtBank (v_t_size : Int32) (v_t_lostByHands : Int32) (v_t_lostByMould : Int32) (v_t_owners : Nat → Int32) : Option (Int32) :=
  (iter (fX4_frondsAtBank_L4 v_t_size v_t_lostByHands v_t_lostByMould v_t_owners) FU (0, 0)).bind (fX4_frondsAtBank_X4_29)
set_option maxHeartbeats 4000000 in
set_option maxRecDepth 100000 in
theorem c_X4_frondsAtBank (l : Launch) (D : va_G) (cI cJ : ClassId) (q_t q_t_kinds q_t_leaflets q_t_owners q_t_tears q_t_debts : Nat) (v_t_size : Int32) (v_t_lostByHands : Int32) (v_t_lostByMould : Int32) (v_t_owners : Nat → Int32) (z : Int32) (h : fX4_frondsAtBank v_t_size v_t_lostByHands v_t_lostByMould v_t_owners = some z) : Met l yX4_frondsAtBank wsX4_frondsAtBank ({ frames := 1, cells := 0, slots := 0, locals := 21 } : Room) (va_Pc [.ref q_t] (preG D cI cJ [(q_t, .inr (4, [.ref q_t_kinds, .ref q_t_leaflets, .ref q_t_owners, .ref q_t_tears, .ref q_t_debts, .int v_t_size, .int v_t_lostByHands, .int v_t_lostByMould])), (q_t_owners, .inl (cI, 10, .inl v_t_owners))])) (QG D [(q_t, .inr (4, [.ref q_t_kinds, .ref q_t_leaflets, .ref q_t_owners, .ref q_t_tears, .ref q_t_debts, .int v_t_size, .int v_t_lostByHands, .int v_t_lostByMould])), (q_t_owners, .inl (cI, 10, .inl v_t_owners))] [(q_t, .inr (4, [.ref q_t_kinds, .ref q_t_leaflets, .ref q_t_owners, .ref q_t_tears, .ref q_t_debts, .int v_t_size, .int v_t_lostByHands, .int v_t_lostByMould])), (q_t_owners, .inl (cI, 10, .inl v_t_owners))] (some (.int z))) 0 0 (fr [(q_t, .inr (4, [.ref q_t_kinds, .ref q_t_leaflets, .ref q_t_owners, .ref q_t_tears, .ref q_t_debts, .int v_t_size, .int v_t_lostByHands, .int v_t_lostByMould])), (q_t_owners, .inl (cI, 10, .inl v_t_owners))]) := by
  refine Met.ofW (cc := cX4_frondsAtBank) (maxL := 3) (ret := (some .int)) (by decide) rfl ?_
  intro p e s m args below meth c s₁ B hml hv
  obtain ⟨hargs, hP, hK, hN, hD0⟩ := hv
  have hx := B.exec
  have hb := B.bytes
  have hr := B.returns
  have hts := atoms_spec (ws := wsX4_frondsAtBank) B.pre
  have hown : s.vm.findClass RX4 = some m.cls := findClass_of_methodNamed B.named
  have hlocks := B.notSynchronized
  have iX4 : ∀ w ∈ wsX40, w ∈ wsX4_frondsAtBank := by decide +kernel
  have k41 := hts (.fieldLink RX4 41 "PressedFerns$Herbarium" "size" "I") (by decide +kernel)
  have hD := fr_D hD0
  have hS : va_S (fr [(q_t, .inr (4, [.ref q_t_kinds, .ref q_t_leaflets, .ref q_t_owners, .ref q_t_tears, .ref q_t_debts, .int v_t_size, .int v_t_lostByHands, .int v_t_lostByMould])), (q_t_owners, .inl (cI, 10, .inl v_t_owners))]) s.heap s.heap [] := va_S.rf
  have hl := lv_entry ([.ref q_t]) (n := 3) (Nat.le_of_ble_eq_true rfl)
  refine W.eq (g2 := F0 m 0 ((lg_sl ([.ref q_t]) ++ List.replicate (3 - (lg_sl ([.ref q_t])).length) Slot.unset).toArray) []) (by rw [hargs, lg_entry_eq]) ?_
  generalize (lg_sl ([.ref q_t]) ++ List.replicate (3 - (lg_sl ([.ref q_t])).length) Slot.unset).toArray = ls at hl ⊢
  have hl : lv_has ls 3 [(0, .ref q_t)] := hl
  show W p l e ({ frames := 1, cells := 0, slots := 0, locals := 21 } : Room) s m args below meth c s.heap [] 0 0 (MQ below (QG D [(q_t, .inr (4, [.ref q_t_kinds, .ref q_t_leaflets, .ref q_t_owners, .ref q_t_tears, .ref q_t_debts, .int v_t_size, .int v_t_lostByHands, .int v_t_lostByMould])), (q_t_owners, .inl (cI, 10, .inl v_t_owners))] [(q_t, .inr (4, [.ref q_t_kinds, .ref q_t_leaflets, .ref q_t_owners, .ref q_t_tears, .ref q_t_debts, .int v_t_size, .int v_t_lostByHands, .int v_t_lostByMould])), (q_t_owners, .inl (cI, 10, .inl v_t_owners))] (some (.int z))) args s 0 0 (fr [(q_t, .inr (4, [.ref q_t_kinds, .ref q_t_leaflets, .ref q_t_owners, .ref q_t_tears, .ref q_t_debts, .int v_t_size, .int v_t_lostByHands, .int v_t_lostByMould])), (q_t_owners, .inl (cI, 10, .inl v_t_owners))])) (F0 m 0 ls [])
  generalize hQ0 : (MQ below (QG D [(q_t, .inr (4, [.ref q_t_kinds, .ref q_t_leaflets, .ref q_t_owners, .ref q_t_tears, .ref q_t_debts, .int v_t_size, .int v_t_lostByHands, .int v_t_lostByMould])), (q_t_owners, .inl (cI, 10, .inl v_t_owners))] [(q_t, .inr (4, [.ref q_t_kinds, .ref q_t_leaflets, .ref q_t_owners, .ref q_t_tears, .ref q_t_debts, .int v_t_size, .int v_t_lostByHands, .int v_t_lostByMould])), (q_t_owners, .inl (cI, 10, .inl v_t_owners))] (some (.int z))) args s 0 0 (fr [(q_t, .inr (4, [.ref q_t_kinds, .ref q_t_leaflets, .ref q_t_owners, .ref q_t_tears, .ref q_t_debts, .int v_t_size, .int v_t_lostByHands, .int v_t_lostByMould])), (q_t_owners, .inl (cI, 10, .inl v_t_owners))])) = Q0
  generalize hA0 : fr [(q_t, .inr (4, [.ref q_t_kinds, .ref q_t_leaflets, .ref q_t_owners, .ref q_t_tears, .ref q_t_debts, .int v_t_size, .int v_t_lostByHands, .int v_t_lostByMould])), (q_t_owners, .inl (cI, 10, .inl v_t_owners))] = A0 at hD hS
  unfold fX4_frondsAtBank at h
  refine lv_iconst (v := 0) hx hb dX4_frondsAtBank_0 (by decide) ?_
  refine lv_istore_n (lv' := [(1, .int 0), (0, .ref q_t)]) hx hb dX4_frondsAtBank_1 rfl hl (by decide) rfl (fun ls hl => ?_)
  refine lv_iconst (v := 0) hx hb dX4_frondsAtBank_2 (by decide) ?_
  refine lv_istore_n (lv' := [(2, .int 0), (1, .int 0), (0, .ref q_t)]) hx hb dX4_frondsAtBank_3 rfl hl (by decide) rfl (fun ls hl => ?_)
  obtain ⟨e2, he_e2, hc_e2⟩ := bd_of h
  have X29_4 : ∀ (a3 : Int32) (H : Heap) (locs : List Loc) (ls : Array Slot), fX4_frondsAtBank_X4_29 a3 = some z → va_P D vwCl [(q_t, .inr (4, [.ref q_t_kinds, .ref q_t_leaflets, .ref q_t_owners, .ref q_t_tears, .ref q_t_debts, .int v_t_size, .int v_t_lostByHands, .int v_t_lostByMould])), (q_t_owners, .inl (cI, 10, .inl v_t_owners))] H → va_D A0 [(q_t, .inr (4, [.ref q_t_kinds, .ref q_t_leaflets, .ref q_t_owners, .ref q_t_tears, .ref q_t_debts, .int v_t_size, .int v_t_lostByHands, .int v_t_lostByMould])), (q_t_owners, .inl (cI, 10, .inl v_t_owners))] → va_S A0 s.heap H locs → lv_has ls 3 [(1, .int a3)] → W p l e ({ frames := 1, cells := 0, slots := 0, locals := 21 } : Room) s m args below meth c H locs 0 0 Q0 (F0 m 29 ls []) := by
    intro a3 H locs ls h hP hD hS hl
    unfold fX4_frondsAtBank_X4_29 at h
    refine lv_iload_n hx hb dX4_frondsAtBank_29 rfl (lv_at hl 0 rfl) ?_
    obtain rfl := Option.some.inj h
    exact rt_i hA0 hQ0 hx hb hr hlocks hP hS dX4_frondsAtBank_30
  have L4_5 : ∀ (n : Nat) (z1 : Int32 × Int32) (H : Heap) (locs : List Loc) (ls : Array Slot), iter (fX4_frondsAtBank_L4 v_t_size v_t_lostByHands v_t_lostByMould v_t_owners) n z1 = some e2 → va_P D vwCl [(q_t, .inr (4, [.ref q_t_kinds, .ref q_t_leaflets, .ref q_t_owners, .ref q_t_tears, .ref q_t_debts, .int v_t_size, .int v_t_lostByHands, .int v_t_lostByMould])), (q_t_owners, .inl (cI, 10, .inl v_t_owners))] H → va_D A0 [(q_t, .inr (4, [.ref q_t_kinds, .ref q_t_leaflets, .ref q_t_owners, .ref q_t_tears, .ref q_t_debts, .int v_t_size, .int v_t_lostByHands, .int v_t_lostByMould])), (q_t_owners, .inl (cI, 10, .inl v_t_owners))] → va_S A0 s.heap H locs → lv_has ls 3 [(0, .ref q_t), (1, .int z1.1), (2, .int z1.2)] → W p l e ({ frames := 1, cells := 0, slots := 0, locals := 21 } : Room) s m args below meth c H locs 0 0 Q0 (F0 m 4 ls []) := by
    intro n
    induction n with
    | zero => exact fun _ _ _ _ h => (iter_z h).elim
    | succ n ih =>
      intro z1 H locs ls h hP hD hS hl
      obtain ⟨r_e2, h, hn_e2⟩ := iter_s h
      unfold fX4_frondsAtBank_L4 at h
      refine lv_iload_n hx hb dX4_frondsAtBank_4 rfl (lv_at hl 2 rfl) ?_
      refine lv_aload_n hx hb dX4_frondsAtBank_5 rfl (lv_at hl 0 rfl) ?_
      refine va_get (own := RX4) (ci := 4) (v := .int v_t_size) (C := RX4) (T := TX4) (N := 8) hx hb hts iX4 hown hK hP 0 rfl rfl 5 (by decide) k41 (fun _ h9 => h9) rfl dX4_frondsAtBank_6 ?_
      refine lv_icmp_ge (tgt := 29) hx hb dX4_frondsAtBank_9 (by decide) (fun c6 => ?_) (fun c6 => ?_)
      · skip
        have h := (if_pos c6).symm.trans h
        obtain rfl := Option.some.inj h
        obtain rfl := Option.some.inj hn_e2
        exact X29_4 z1.1 _ _ _ hc_e2 hP hD hS (lv_sub hl [1] rfl)
      · skip
        have h := (if_neg c6).symm.trans h
        refine lv_aload_n hx hb dX4_frondsAtBank_12 rfl (lv_at hl 0 rfl) ?_
        refine lv_iload_n hx hb dX4_frondsAtBank_13 rfl (lv_at hl 2 rfl) ?_
        obtain ⟨u7, g8, h⟩ := bd_of h
        refine cl_V [(q_t, .inr (4, [.ref q_t_kinds, .ref q_t_leaflets, .ref q_t_owners, .ref q_t_tears, .ref q_t_debts, .int v_t_size, .int v_t_lostByHands, .int v_t_lostByMould])), (q_t_owners, .inl (cI, 10, .inl v_t_owners))] (As := [.int z1.2]) (rest := []) (rv := (some (.int u7))) (c_X4_isAtBank l D cI cJ q_t q_t_kinds q_t_leaflets q_t_owners q_t_tears q_t_debts v_t_size v_t_lostByHands v_t_lostByMould v_t_owners z1.2 u7 g8) ⟨hx, hb, hml, hown, hts⟩ (cwV 1 hts gX4_frondsAtBank_X4_isAtBank rfl rfl rfl (by decide +kernel) ⟨(Nat.le_of_ble_eq_true rfl), (Nat.le_of_ble_eq_true rfl)⟩) hK hN hP hD hS [0, 1] rfl (by decide) rfl rfl rfl (q0 := 0) (ci := 4) rfl rfl rfl rfl hl.1 rfl (Nat.le_of_ble_eq_true rfl) dX4_frondsAtBank_14 ⟨Nat.zero_le _, Nat.zero_le _⟩ (fun H locs hP hD hS => ?_)
        show W p l e ({ frames := 1, cells := 0, slots := 0, locals := 21 } : Room) s m args below meth c H locs 0 0 Q0 (F0 m 17 ls [.int u7])
        have K23_9 : ∀ (w10 : Int32) (H : Heap) (locs : List Loc) (ls : Array Slot), w10 = (if u7 = 0 then z1.1 else (z1.1 + 1) : Int32) → va_P D vwCl [(q_t, .inr (4, [.ref q_t_kinds, .ref q_t_leaflets, .ref q_t_owners, .ref q_t_tears, .ref q_t_debts, .int v_t_size, .int v_t_lostByHands, .int v_t_lostByMould])), (q_t_owners, .inl (cI, 10, .inl v_t_owners))] H → va_D A0 [(q_t, .inr (4, [.ref q_t_kinds, .ref q_t_leaflets, .ref q_t_owners, .ref q_t_tears, .ref q_t_debts, .int v_t_size, .int v_t_lostByHands, .int v_t_lostByMould])), (q_t_owners, .inl (cI, 10, .inl v_t_owners))] → va_S A0 s.heap H locs → lv_has ls 3 [(0, .ref q_t), (1, .int w10), (2, .int z1.2)] → W p l e ({ frames := 1, cells := 0, slots := 0, locals := 21 } : Room) s m args below meth c H locs 0 0 Q0 (F0 m 23 ls []) := by
          intro w10 H locs ls e_w10 hP hD hS hl
          subst e_w10
          refine lv_iinc (v := (z1.2 + 1)) (lv' := [(2, .int (z1.2 + 1)), (0, .ref q_t), (1, .int (if u7 = 0 then z1.1 else (z1.1 + 1) : Int32))]) hx hb dX4_frondsAtBank_23 hl (k := 2) rfl rfl (by decide) rfl (fun ls hl => ?_)
          refine lv_goto (tgt := 4) hx hb dX4_frondsAtBank_26 (by decide) ?_
          obtain rfl := Option.some.inj h
          exact ih ((if u7 = 0 then z1.1 else (z1.1 + 1) : Int32), (z1.2 + 1)) _ _ _ hn_e2 hP hD hS (lv_sub hl [1, 2, 0] rfl)
        refine lv_if_eq (tgt := 23) hx hb dX4_frondsAtBank_17 (by decide) (fun c11 => ?_) (fun c11 => ?_)
        · skip
          exact K23_9 z1.1 _ _ _ (by rw [if_pos c11]) hP hD hS (lv_sub hl [0, 1, 2] rfl)
        · skip
          refine lv_iinc (v := (z1.1 + 1)) (lv' := [(1, .int (z1.1 + 1)), (0, .ref q_t), (2, .int z1.2)]) hx hb dX4_frondsAtBank_20 hl (k := 1) rfl rfl (by decide) rfl (fun ls hl => ?_)
          exact K23_9 ((z1.1 + 1)) _ _ _ (by rw [if_neg c11]) hP hD hS (lv_sub hl [1, 0, 2] rfl)
  exact L4_5 FU (0, 0) _ _ _ he_e2 hP hD hS (lv_sub hl [2, 1, 0] rfl)
