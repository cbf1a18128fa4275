def fX2_begin (v_t_seed : Int64) (x1 : Int32) : Option (Int64) :=
  some ((x1 : Int32).toInt64)
set_option maxHeartbeats 4000000 in
set_option maxRecDepth 100000 in
theorem c_X2_begin (l : Launch) (D : va_G) (cI cJ : ClassId) (q_t : Nat) (v_t_seed : Int64) (x1 : Int32) (z : Int64) (h : fX2_begin v_t_seed x1 = some z) : Met l yX2_begin wsX2_begin ({ frames := 0, cells := 0, slots := 0, locals := 0 } : Room) (va_Pc [.ref q_t, .int x1] (preG D cI cJ [(q_t, .inr (2, [.long v_t_seed]))])) (QG D [(q_t, .inr (2, [.long v_t_seed]))] [(q_t, .inr (2, [.long z]))] none) 0 0 (fr [(q_t, .inr (2, [.long v_t_seed]))]) := by
  refine Met.ofW (cc := cX2_begin) (maxL := 2) (ret := none) (by decide) rfl ?_
  intro p e s m args below meth c s₁ B hml hv
  obtain ⟨hargs, hP, hK, hN, hD0⟩ := hv
  have hx := B.exec
  have hb := B.bytes
  have hr := B.returns
  have hts := atoms_spec (ws := wsX2_begin) B.pre
  have hown : s.vm.findClass RX2 = some m.cls := findClass_of_methodNamed B.named
  have hlocks := B.notSynchronized
  have iX2 : ∀ w ∈ wsX20, w ∈ wsX2_begin := by decide +kernel
  have k9 := hts (.fieldLink RX2 9 "PressedFerns$Draws" "seed" "J") (by decide +kernel)
  have hD := fr_D hD0
  have hS : va_S (fr [(q_t, .inr (2, [.long v_t_seed]))]) s.heap s.heap [] := va_S.rf
  have hl := lv_entry ([.ref q_t, .int x1]) (n := 2) (Nat.le_of_ble_eq_true rfl)
  refine W.eq (g2 := F0 m 0 ((lg_sl ([.ref q_t, .int x1]) ++ List.replicate (2 - (lg_sl ([.ref q_t, .int x1])).length) Slot.unset).toArray) []) (by rw [hargs, lg_entry_eq]) ?_
  generalize (lg_sl ([.ref q_t, .int x1]) ++ List.replicate (2 - (lg_sl ([.ref q_t, .int x1])).length) Slot.unset).toArray = ls at hl ⊢
  have hl : lv_has ls 2 [(0, .ref q_t), (1, .int x1)] := hl
  show W p l e ({ frames := 0, cells := 0, slots := 0, locals := 0 } : Room) s m args below meth c s.heap [] 0 0 (MQ below (QG D [(q_t, .inr (2, [.long v_t_seed]))] [(q_t, .inr (2, [.long z]))] none) args s 0 0 (fr [(q_t, .inr (2, [.long v_t_seed]))])) (F0 m 0 ls [])
  generalize hQ0 : (MQ below (QG D [(q_t, .inr (2, [.long v_t_seed]))] [(q_t, .inr (2, [.long z]))] none) args s 0 0 (fr [(q_t, .inr (2, [.long v_t_seed]))])) = Q0
  generalize hA0 : fr [(q_t, .inr (2, [.long v_t_seed]))] = A0 at hD hS
  unfold fX2_begin at h
  refine lv_aload_n hx hb dX2_begin_0 rfl (lv_at hl 0 rfl) ?_
  refine lv_iload_n hx hb dX2_begin_1 rfl (lv_at hl 1 rfl) ?_
  refine lv_i2l hx hb dX2_begin_2 rfl ?_
  refine va_put (D := D) (own := RX2) (ci := 2) (v := .long ((x1 : Int32).toInt64)) (ty := .long) (C := RX2) (T := TX2) (N := 1) hx hb hts iX2 tyX2 tyX2_ok nmX2 hown hK hP hD hS 0 rfl rfl 0 (by decide) k9 (fun _ h9 => h9) rfl (by decide +kernel) rfl rfl (Nat.le_of_ble_eq_true rfl) dX2_begin_3 (fun H locs hP hD hS => ?_)
  have hP : va_P D vwCl [(q_t, .inr (2, [.long ((x1 : Int32).toInt64)]))] H := hP
  have hD : va_D A0 [(q_t, .inr (2, [.long ((x1 : Int32).toInt64)]))] := hD
  obtain rfl := Option.some.inj h
  exact rt_v hA0 hQ0 hx hb hr hlocks hP hS dX2_begin_6
def fX2_seed (v_t_seed : Int64) : Int32 :=
  ((v_t_seed : Int64).toInt32)
set_option maxHeartbeats 4000000 in
set_option maxRecDepth 100000 in
theorem c_X2_seed (l : Launch) (D : va_G) (cI cJ : ClassId) (q_t : Nat) (v_t_seed : Int64) : Met l yX2_seed wsX2_seed ({ frames := 0, cells := 0, slots := 0, locals := 0 } : Room) (va_Pc [.ref q_t] (preG D cI cJ [(q_t, .inr (2, [.long v_t_seed]))])) (QG D [(q_t, .inr (2, [.long v_t_seed]))] [(q_t, .inr (2, [.long v_t_seed]))] (some (.int (fX2_seed v_t_seed)))) 0 0 (fr [(q_t, .inr (2, [.long v_t_seed]))]) := by
  generalize h : fX2_seed v_t_seed = z
  refine Met.ofW (cc := cX2_seed) (maxL := 1) (ret := (some .int)) (by decide) rfl ?_
  intro p e s m args below meth c s₁ B hml hv
  obtain ⟨hargs, hP, hK, hN, hD0⟩ := hv
  have hx := B.exec
  have hb := B.bytes
  have hr := B.returns
  have hts := atoms_spec (ws := wsX2_seed) B.pre
  have hown : s.vm.findClass RX2 = some m.cls := findClass_of_methodNamed B.named
  have hlocks := B.notSynchronized
  have iX2 : ∀ w ∈ wsX20, w ∈ wsX2_seed := by decide +kernel
  have k9 := hts (.fieldLink RX2 9 "PressedFerns$Draws" "seed" "J") (by decide +kernel)
  have hD := fr_D hD0
  have hS : va_S (fr [(q_t, .inr (2, [.long v_t_seed]))]) s.heap s.heap [] := va_S.rf
  have hl := lv_entry ([.ref q_t]) (n := 1) (Nat.le_of_ble_eq_true rfl)
  refine W.eq (g2 := F0 m 0 ((lg_sl ([.ref q_t]) ++ List.replicate (1 - (lg_sl ([.ref q_t])).length) Slot.unset).toArray) []) (by rw [hargs, lg_entry_eq]) ?_
  generalize (lg_sl ([.ref q_t]) ++ List.replicate (1 - (lg_sl ([.ref q_t])).length) Slot.unset).toArray = ls at hl ⊢
  have hl : lv_has ls 1 [(0, .ref q_t)] := hl
  show W p l e ({ frames := 0, cells := 0, slots := 0, locals := 0 } : Room) s m args below meth c s.heap [] 0 0 (MQ below (QG D [(q_t, .inr (2, [.long v_t_seed]))] [(q_t, .inr (2, [.long v_t_seed]))] (some (.int z))) args s 0 0 (fr [(q_t, .inr (2, [.long v_t_seed]))])) (F0 m 0 ls [])
  generalize hQ0 : (MQ below (QG D [(q_t, .inr (2, [.long v_t_seed]))] [(q_t, .inr (2, [.long v_t_seed]))] (some (.int z))) args s 0 0 (fr [(q_t, .inr (2, [.long v_t_seed]))])) = Q0
  generalize hA0 : fr [(q_t, .inr (2, [.long v_t_seed]))] = A0 at hD hS
  unfold fX2_seed at h
  refine lv_aload_n hx hb dX2_seed_0 rfl (lv_at hl 0 rfl) ?_
  refine va_get (own := RX2) (ci := 2) (v := .long v_t_seed) (C := RX2) (T := TX2) (N := 1) hx hb hts iX2 hown hK hP 0 rfl rfl 0 (by decide) k9 (fun _ h9 => h9) rfl dX2_seed_1 ?_
  refine lv_l2i hx hb dX2_seed_4 rfl ?_
  subst h
  exact rt_i hA0 hQ0 hx hb hr hlocks hP hS dX2_seed_5
def fX2_next (v_t_seed : Int64) (x1 : Int32) : Option (Int32 × Int64) :=
  if x1 ≤ 0 then (some (0, (((1103515245 * v_t_seed) + 12345) &&& 2147483647))) else (gd (nzl ((x1 : Int32).toInt64)) (some ((((((((1103515245 * v_t_seed) + 12345) &&& 2147483647) >>> ((16 : Int32).toInt64 &&& 63)) - ((((1103515245 * v_t_seed) + 12345) &&& 2147483647) >>> ((16 : Int32).toInt64 &&& 63)) / ((x1 : Int32).toInt64) * ((x1 : Int32).toInt64)) : Int64).toInt32), (((1103515245 * v_t_seed) + 12345) &&& 2147483647))))
set_option maxHeartbeats 4000000 in
set_option maxRecDepth 100000 in
theorem c_X2_next (l : Launch) (D : va_G) (cI cJ : ClassId) (q_t : Nat) (v_t_seed : Int64) (x1 : Int32) (z : Int32 × Int64) (h : fX2_next v_t_seed x1 = some z) : Met l yX2_next wsX2_next ({ frames := 0, cells := 0, slots := 0, locals := 0 } : Room) (va_Pc [.ref q_t, .int x1] (preG D cI cJ [(q_t, .inr (2, [.long v_t_seed]))])) (QG D [(q_t, .inr (2, [.long v_t_seed]))] [(q_t, .inr (2, [.long z.2]))] (some (.int z.1))) 0 0 (fr [(q_t, .inr (2, [.long v_t_seed]))]) := by
  refine Met.ofW (cc := cX2_next) (maxL := 2) (ret := (some .int)) (by decide) rfl ?_
  intro p e s m args below meth c s₁ B hml hv
  obtain ⟨hargs, hP, hK, hN, hD0⟩ := hv
  have hx := B.exec
  have hb := B.bytes
  have hr := B.returns
  have hts := atoms_spec (ws := wsX2_next) B.pre
  have hown : s.vm.findClass RX2 = some m.cls := findClass_of_methodNamed B.named
  have hlocks := B.notSynchronized
  have iX2 : ∀ w ∈ wsX20, w ∈ wsX2_next := by decide +kernel
  have k9 := hts (.fieldLink RX2 9 "PressedFerns$Draws" "seed" "J") (by decide +kernel)
  have hD := fr_D hD0
  have hS : va_S (fr [(q_t, .inr (2, [.long v_t_seed]))]) s.heap s.heap [] := va_S.rf
  have hl := lv_entry ([.ref q_t, .int x1]) (n := 2) (Nat.le_of_ble_eq_true rfl)
  refine W.eq (g2 := F0 m 0 ((lg_sl ([.ref q_t, .int x1]) ++ List.replicate (2 - (lg_sl ([.ref q_t, .int x1])).length) Slot.unset).toArray) []) (by rw [hargs, lg_entry_eq]) ?_
  generalize (lg_sl ([.ref q_t, .int x1]) ++ List.replicate (2 - (lg_sl ([.ref q_t, .int x1])).length) Slot.unset).toArray = ls at hl ⊢
  have hl : lv_has ls 2 [(0, .ref q_t), (1, .int x1)] := hl
  show W p l e ({ frames := 0, cells := 0, slots := 0, locals := 0 } : Room) s m args below meth c s.heap [] 0 0 (MQ below (QG D [(q_t, .inr (2, [.long v_t_seed]))] [(q_t, .inr (2, [.long z.2]))] (some (.int z.1))) args s 0 0 (fr [(q_t, .inr (2, [.long v_t_seed]))])) (F0 m 0 ls [])
  generalize hQ0 : (MQ below (QG D [(q_t, .inr (2, [.long v_t_seed]))] [(q_t, .inr (2, [.long z.2]))] (some (.int z.1))) args s 0 0 (fr [(q_t, .inr (2, [.long v_t_seed]))])) = Q0
  generalize hA0 : fr [(q_t, .inr (2, [.long v_t_seed]))] = A0 at hD hS
  unfold fX2_next at h
  refine lv_aload_n hx hb dX2_next_0 rfl (lv_at hl 0 rfl) ?_
  refine lv_ldc2 (own := RX2) (v := 1103515245) hx hb hown (hts (.constantLong RX2 44 (1103515245)) (by decide +kernel)) dX2_next_1 ?_
  refine lv_aload_n hx hb dX2_next_4 rfl (lv_at hl 0 rfl) ?_
  refine va_get (own := RX2) (ci := 2) (v := .long v_t_seed) (C := RX2) (T := TX2) (N := 1) hx hb hts iX2 hown hK hP 0 rfl rfl 0 (by decide) k9 (fun _ h9 => h9) rfl dX2_next_5 ?_
  refine lv_lmul hx hb dX2_next_8 ?_
  refine lv_ldc2 (own := RX2) (v := 12345) hx hb hown (hts (.constantLong RX2 46 (12345)) (by decide +kernel)) dX2_next_9 ?_
  refine lv_ladd hx hb dX2_next_12 ?_
  refine lv_ldc2 (own := RX2) (v := 2147483647) hx hb hown (hts (.constantLong RX2 48 (2147483647)) (by decide +kernel)) dX2_next_13 ?_
  refine lv_land hx hb dX2_next_16 ?_
  refine va_put (D := D) (own := RX2) (ci := 2) (v := .long (((1103515245 * v_t_seed) + 12345) &&& 2147483647)) (ty := .long) (C := RX2) (T := TX2) (N := 1) hx hb hts iX2 tyX2 tyX2_ok nmX2 hown hK hP hD hS 0 rfl rfl 0 (by decide) k9 (fun _ h9 => h9) rfl (by decide +kernel) rfl rfl (Nat.le_of_ble_eq_true rfl) dX2_next_17 (fun H locs hP hD hS => ?_)
  have hP : va_P D vwCl [(q_t, .inr (2, [.long (((1103515245 * v_t_seed) + 12345) &&& 2147483647)]))] H := hP
  have hD : va_D A0 [(q_t, .inr (2, [.long (((1103515245 * v_t_seed) + 12345) &&& 2147483647)]))] := hD
  refine lv_iload_n hx hb dX2_next_20 rfl (lv_at hl 1 rfl) ?_
  refine lv_if_le (tgt := 38) hx hb dX2_next_21 (by decide) (fun c1 => ?_) (fun c1 => ?_)
  · skip
    have h := (if_pos c1).symm.trans h
    refine lv_iconst (v := 0) hx hb dX2_next_38 (by decide) ?_
    obtain rfl := Option.some.inj h
    exact rt_i hA0 hQ0 hx hb hr hlocks hP hS dX2_next_39
  · skip
    have h := (if_neg c1).symm.trans h
    refine lv_aload_n hx hb dX2_next_24 rfl (lv_at hl 0 rfl) ?_
    refine va_get (own := RX2) (ci := 2) (v := .long (((1103515245 * v_t_seed) + 12345) &&& 2147483647)) (C := RX2) (T := TX2) (N := 1) hx hb hts iX2 hown hK hP 0 rfl rfl 0 (by decide) k9 (fun _ h9 => h9) rfl dX2_next_25 ?_
    refine lv_bipush (v := 16) hx hb dX2_next_28 (by decide) ?_
    refine lv_lshr hx hb dX2_next_30 rfl ?_
    refine lv_iload_n hx hb dX2_next_31 rfl (lv_at hl 1 rfl) ?_
    refine lv_i2l hx hb dX2_next_32 rfl ?_
    obtain ⟨g2, h⟩ := gd_of h
    refine lv_lrem hx hb dX2_next_33 (nzl_of g2) ?_
    refine lv_l2i hx hb dX2_next_34 rfl ?_
    refine lv_goto (tgt := 39) hx hb dX2_next_35 (by decide) ?_
    obtain rfl := Option.some.inj h
    exact rt_i hA0 hQ0 hx hb hr hlocks hP hS dX2_next_39
def fX2_passMonth_J89 (x2 : Int32) (u1 : Int32 × Int64) (a5 : Int32 × (Nat → Int32)) (a7 : Int64 × Int32 × (Nat → Int32) × (Nat → Int32) × (Nat → Int32)) : Option (Int32 × Int64 × Int32 × Int32 × (Nat → Int32) × (Nat → Int32) × (Nat → Int32)) :=
  if (if x2 ≤ u1.1 then 0 else 1 : Int32) = 0 then (some (0, a7.1, a7.2.1, a5.1, a7.2.2.1, a7.2.2.2.1, a7.2.2.2.2)) else (some (1, a7.1, a7.2.1, a5.1, a7.2.2.1, a7.2.2.2.1, a7.2.2.2.2))
def fX2_passMonth_J25 (v_p0_size : Int32) (v_p0_lostByHands : Int32) (v_p0_kinds : Nat → Int32) (v_p0_owners : Nat → Int32) (v_p0_tears : Nat → Int32) (x2 : Int32) (u1 : Int32 × Int64) (a5 : Int32 × (Nat → Int32)) : Option (Int32 × Int64 × Int32 × Int32 × (Nat → Int32) × (Nat → Int32) × (Nat → Int32)) :=
  if v_p0_size ≤ 0 then (fX2_passMonth_J89 x2 u1 a5 (u1.2, v_p0_lostByHands, a5.2, v_p0_owners, v_p0_tears)) else ((fX2_next u1.2 v_p0_size).bind (fun u11 => (fX2_next u11.2 6).bind (fun u13 => if (fX4_knows v_p0_size v_p0_lostByHands a5.1 u11.1) = 0 then (fX2_passMonth_J89 x2 u1 a5 (u13.2, v_p0_lostByHands, a5.2, v_p0_owners, v_p0_tears)) else ((fX4_isAtBank v_p0_size v_p0_lostByHands a5.1 v_p0_owners u11.1).bind (fun u16 => if u16 = 0 then (gd (inb u11.1 10) (if (v_p0_owners u11.1.toNatClampNeg) = u13.1 then (fX2_passMonth_J89 x2 u1 a5 (u13.2, v_p0_lostByHands, a5.2, v_p0_owners, v_p0_tears)) else ((fX4_goByHand v_p0_size v_p0_lostByHands a5.1 v_p0_kinds a5.2 v_p0_owners v_p0_tears u11.1 u13.1).bind (fun u21 => fX2_passMonth_J89 x2 u1 a5 (u13.2, u21.2.1, u21.2.2.1, u21.2.2.2.1, u21.2.2.2.2))))) else (fX2_passMonth_J89 x2 u1 a5 (u13.2, v_p0_lostByHands, a5.2, v_p0_owners, v_p0_tears)))))))
def fX2_passMonth (v_t_seed : Int64) (v_p0_size : Int32) (v_p0_lostByHands : Int32) (v_p0_lostByMould : Int32) (v_p0_kinds : Nat → Int32) (v_p0_leaflets : Nat → Int32) (v_p0_owners : Nat → Int32) (v_p0_tears : Nat → Int32) (x2 : Int32) : Option (Int32 × Int64 × Int32 × Int32 × (Nat → Int32) × (Nat → Int32) × (Nat → Int32)) :=
  (fX2_next v_t_seed 10).bind (fun u1 => if (if x2 ≤ u1.1 then 0 else 1 : Int32) = 0 then (fX2_passMonth_J25 v_p0_size v_p0_lostByHands v_p0_kinds v_p0_owners v_p0_tears x2 u1 (v_p0_lostByMould, v_p0_leaflets)) else ((fX4_takeMould v_p0_size v_p0_lostByHands v_p0_lostByMould v_p0_kinds v_p0_leaflets v_p0_owners).bind (fun u24 => fX2_passMonth_J25 v_p0_size v_p0_lostByHands v_p0_kinds v_p0_owners v_p0_tears x2 u1 (u24.2.1, u24.2.2))))
set_option maxHeartbeats 4000000 in
set_option maxRecDepth 100000 in
theorem c_X2_passMonth (l : Launch) (D : va_G) (cI cJ : ClassId) (q_t q_p0 q_p0_kinds q_p0_leaflets q_p0_owners q_p0_tears q_p0_debts : Nat) (v_t_seed : Int64) (v_p0_size : Int32) (v_p0_lostByHands : Int32) (v_p0_lostByMould : Int32) (v_p0_kinds : Nat → Int32) (v_p0_leaflets : Nat → Int32) (v_p0_owners : Nat → Int32) (v_p0_tears : Nat → Int32) (x2 : Int32) (z : Int32 × Int64 × Int32 × Int32 × (Nat → Int32) × (Nat → Int32) × (Nat → Int32)) (h : fX2_passMonth v_t_seed v_p0_size v_p0_lostByHands v_p0_lostByMould v_p0_kinds v_p0_leaflets v_p0_owners v_p0_tears x2 = some z) : Met l yX2_passMonth wsX2_passMonth ({ frames := 4, cells := 0, slots := 0, locals := 89 } : Room) (va_Pc [.ref q_t, .ref q_p0, .int x2] (preG D cI cJ [(q_t, .inr (2, [.long v_t_seed])), (q_p0, .inr (4, [.ref q_p0_kinds, .ref q_p0_leaflets, .ref q_p0_owners, .ref q_p0_tears, .ref q_p0_debts, .int v_p0_size, .int v_p0_lostByHands, .int v_p0_lostByMould])), (q_p0_kinds, .inl (cI, 10, .inl v_p0_kinds)), (q_p0_leaflets, .inl (cI, 10, .inl v_p0_leaflets)), (q_p0_owners, .inl (cI, 10, .inl v_p0_owners)), (q_p0_tears, .inl (cI, 40, .inl v_p0_tears))])) (QG D [(q_t, .inr (2, [.long v_t_seed])), (q_p0, .inr (4, [.ref q_p0_kinds, .ref q_p0_leaflets, .ref q_p0_owners, .ref q_p0_tears, .ref q_p0_debts, .int v_p0_size, .int v_p0_lostByHands, .int v_p0_lostByMould])), (q_p0_kinds, .inl (cI, 10, .inl v_p0_kinds)), (q_p0_leaflets, .inl (cI, 10, .inl v_p0_leaflets)), (q_p0_owners, .inl (cI, 10, .inl v_p0_owners)), (q_p0_tears, .inl (cI, 40, .inl v_p0_tears))] [(q_t, .inr (2, [.long z.2.1])), (q_p0, .inr (4, [.ref q_p0_kinds, .ref q_p0_leaflets, .ref q_p0_owners, .ref q_p0_tears, .ref q_p0_debts, .int v_p0_size, .int z.2.2.1, .int z.2.2.2.1])), (q_p0_kinds, .inl (cI, 10, .inl v_p0_kinds)), (q_p0_leaflets, .inl (cI, 10, .inl z.2.2.2.2.1)), (q_p0_owners, .inl (cI, 10, .inl z.2.2.2.2.2.1)), (q_p0_tears, .inl (cI, 40, .inl z.2.2.2.2.2.2))] (some (.int z.1))) 0 0 (fr [(q_t, .inr (2, [.long v_t_seed])), (q_p0, .inr (4, [.ref q_p0_kinds, .ref q_p0_leaflets, .ref q_p0_owners, .ref q_p0_tears, .ref q_p0_debts, .int v_p0_size, .int v_p0_lostByHands, .int v_p0_lostByMould])), (q_p0_kinds, .inl (cI, 10, .inl v_p0_kinds)), (q_p0_leaflets, .inl (cI, 10, .inl v_p0_leaflets)), (q_p0_owners, .inl (cI, 10, .inl v_p0_owners)), (q_p0_tears, .inl (cI, 40, .inl v_p0_tears))]) := by
  refine Met.ofW (cc := cX2_passMonth) (maxL := 6) (ret := (some .int)) (by decide) rfl ?_
  intro p e s m args below meth c s₁ B hml hv
  obtain ⟨hargs, hP, hK, hN, hD0⟩ := hv
  have hx := B.exec
  have hb := B.bytes
  have hr := B.returns
  have hts := atoms_spec (ws := wsX2_passMonth) B.pre
  have hown : s.vm.findClass RX2 = some m.cls := findClass_of_methodNamed B.named
  have hlocks := B.notSynchronized
  have iX4 : ∀ w ∈ wsX40, w ∈ wsX2_passMonth := by decide +kernel
  have k25 := hts (.fieldLink RX2 25 "PressedFerns$Herbarium" "size" "I") (by decide +kernel)
  have k36 := hts (.fieldLink RX2 36 "PressedFerns$Herbarium" "owners" "[I") (by decide +kernel)
  have hD := fr_D hD0
  have hS : va_S (fr [(q_t, .inr (2, [.long v_t_seed])), (q_p0, .inr (4, [.ref q_p0_kinds, .ref q_p0_leaflets, .ref q_p0_owners, .ref q_p0_tears, .ref q_p0_debts, .int v_p0_size, .int v_p0_lostByHands, .int v_p0_lostByMould])), (q_p0_kinds, .inl (cI, 10, .inl v_p0_kinds)), (q_p0_leaflets, .inl (cI, 10, .inl v_p0_leaflets)), (q_p0_owners, .inl (cI, 10, .inl v_p0_owners)), (q_p0_tears, .inl (cI, 40, .inl v_p0_tears))]) s.heap s.heap [] := va_S.rf
  have hl := lv_entry ([.ref q_t, .ref q_p0, .int x2]) (n := 6) (Nat.le_of_ble_eq_true rfl)
  refine W.eq (g2 := F0 m 0 ((lg_sl ([.ref q_t, .ref q_p0, .int x2]) ++ List.replicate (6 - (lg_sl ([.ref q_t, .ref q_p0, .int x2])).length) Slot.unset).toArray) []) (by rw [hargs, lg_entry_eq]) ?_
  generalize (lg_sl ([.ref q_t, .ref q_p0, .int x2]) ++ List.replicate (6 - (lg_sl ([.ref q_t, .ref q_p0, .int x2])).length) Slot.unset).toArray = ls at hl ⊢
  have hl : lv_has ls 6 [(0, .ref q_t), (1, .ref q_p0), (2, .int x2)] := hl
  show W p l e ({ frames := 4, cells := 0, slots := 0, locals := 89 } : Room) s m args below meth c s.heap [] 0 0 (MQ below (QG D [(q_t, .inr (2, [.long v_t_seed])), (q_p0, .inr (4, [.ref q_p0_kinds, .ref q_p0_leaflets, .ref q_p0_owners, .ref q_p0_tears, .ref q_p0_debts, .int v_p0_size, .int v_p0_lostByHands, .int v_p0_lostByMould])), (q_p0_kinds, .inl (cI, 10, .inl v_p0_kinds)), (q_p0_leaflets, .inl (cI, 10, .inl v_p0_leaflets)), (q_p0_owners, .inl (cI, 10, .inl v_p0_owners)), (q_p0_tears, .inl (cI, 40, .inl v_p0_tears))] [(q_t, .inr (2, [.long z.2.1])), (q_p0, .inr (4, [.ref q_p0_kinds, .ref q_p0_leaflets, .ref q_p0_owners, .ref q_p0_tears, .ref q_p0_debts, .int v_p0_size, .int z.2.2.1, .int z.2.2.2.1])), (q_p0_kinds, .inl (cI, 10, .inl v_p0_kinds)), (q_p0_leaflets, .inl (cI, 10, .inl z.2.2.2.2.1)), (q_p0_owners, .inl (cI, 10, .inl z.2.2.2.2.2.1)), (q_p0_tears, .inl (cI, 40, .inl z.2.2.2.2.2.2))] (some (.int z.1))) args s 0 0 (fr [(q_t, .inr (2, [.long v_t_seed])), (q_p0, .inr (4, [.ref q_p0_kinds, .ref q_p0_leaflets, .ref q_p0_owners, .ref q_p0_tears, .ref q_p0_debts, .int v_p0_size, .int v_p0_lostByHands, .int v_p0_lostByMould])), (q_p0_kinds, .inl (cI, 10, .inl v_p0_kinds)), (q_p0_leaflets, .inl (cI, 10, .inl v_p0_leaflets)), (q_p0_owners, .inl (cI, 10, .inl v_p0_owners)), (q_p0_tears, .inl (cI, 40, .inl v_p0_tears))])) (F0 m 0 ls [])
  generalize hQ0 : (MQ below (QG D [(q_t, .inr (2, [.long v_t_seed])), (q_p0, .inr (4, [.ref q_p0_kinds, .ref q_p0_leaflets, .ref q_p0_owners, .ref q_p0_tears, .ref q_p0_debts, .int v_p0_size, .int v_p0_lostByHands, .int v_p0_lostByMould])), (q_p0_kinds, .inl (cI, 10, .inl v_p0_kinds)), (q_p0_leaflets, .inl (cI, 10, .inl v_p0_leaflets)), (q_p0_owners, .inl (cI, 10, .inl v_p0_owners)), (q_p0_tears, .inl (cI, 40, .inl v_p0_tears))] [(q_t, .inr (2, [.long z.2.1])), (q_p0, .inr (4, [.ref q_p0_kinds, .ref q_p0_leaflets, .ref q_p0_owners, .ref q_p0_tears, .ref q_p0_debts, .int v_p0_size, .int z.2.2.1, .int z.2.2.2.1])), (q_p0_kinds, .inl (cI, 10, .inl v_p0_kinds)), (q_p0_leaflets, .inl (cI, 10, .inl z.2.2.2.2.1)), (q_p0_owners, .inl (cI, 10, .inl z.2.2.2.2.2.1)), (q_p0_tears, .inl (cI, 40, .inl z.2.2.2.2.2.2))] (some (.int z.1))) args s 0 0 (fr [(q_t, .inr (2, [.long v_t_seed])), (q_p0, .inr (4, [.ref q_p0_kinds, .ref q_p0_leaflets, .ref q_p0_owners, .ref q_p0_tears, .ref q_p0_debts, .int v_p0_size, .int v_p0_lostByHands, .int v_p0_lostByMould])), (q_p0_kinds, .inl (cI, 10, .inl v_p0_kinds)), (q_p0_leaflets, .inl (cI, 10, .inl v_p0_leaflets)), (q_p0_owners, .inl (cI, 10, .inl v_p0_owners)), (q_p0_tears, .inl (cI, 40, .inl v_p0_tears))])) = Q0
  generalize hA0 : fr [(q_t, .inr (2, [.long v_t_seed])), (q_p0, .inr (4, [.ref q_p0_kinds, .ref q_p0_leaflets, .ref q_p0_owners, .ref q_p0_tears, .ref q_p0_debts, .int v_p0_size, .int v_p0_lostByHands, .int v_p0_lostByMould])), (q_p0_kinds, .inl (cI, 10, .inl v_p0_kinds)), (q_p0_leaflets, .inl (cI, 10, .inl v_p0_leaflets)), (q_p0_owners, .inl (cI, 10, .inl v_p0_owners)), (q_p0_tears, .inl (cI, 40, .inl v_p0_tears))] = A0 at hD hS
  unfold fX2_passMonth at h
  refine lv_aload_n hx hb dX2_passMonth_0 rfl (lv_at hl 0 rfl) ?_
  refine lv_bipush (v := 10) hx hb dX2_passMonth_1 (by decide) ?_
  obtain ⟨u1, g2, h⟩ := bd_of h
  refine cl_V [(q_t, .inr (2, [.long u1.2])), (q_p0, .inr (4, [.ref q_p0_kinds, .ref q_p0_leaflets, .ref q_p0_owners, .ref q_p0_tears, .ref q_p0_debts, .int v_p0_size, .int v_p0_lostByHands, .int v_p0_lostByMould])), (q_p0_kinds, .inl (cI, 10, .inl v_p0_kinds)), (q_p0_leaflets, .inl (cI, 10, .inl v_p0_leaflets)), (q_p0_owners, .inl (cI, 10, .inl v_p0_owners)), (q_p0_tears, .inl (cI, 40, .inl v_p0_tears))] (As := [.int 10]) (rest := []) (rv := (some (.int u1.1))) (c_X2_next l D cI cJ q_t v_t_seed 10 u1 g2) ⟨hx, hb, hml, hown, hts⟩ (cwV 1 hts gX2_passMonth_X2_next rfl rfl rfl (by decide +kernel) ⟨(Nat.le_of_ble_eq_true rfl), (Nat.le_of_ble_eq_true rfl)⟩) hK hN hP hD hS [0] rfl (by decide) rfl rfl rfl (q0 := 0) (ci := 2) rfl rfl rfl rfl hl.1 rfl (Nat.le_of_ble_eq_true rfl) dX2_passMonth_3 ⟨Nat.zero_le _, Nat.zero_le _⟩ (fun H locs hP hD hS => ?_)
  show W p l e ({ frames := 4, cells := 0, slots := 0, locals := 89 } : Room) s m args below meth c H locs 0 0 Q0 (F0 m 6 ls [.int u1.1])
  refine lv_iload_n hx hb dX2_passMonth_6 rfl (lv_at hl 2 rfl) ?_
  have K15_3 : ∀ (w4 : Int32) (H : Heap) (locs : List Loc) (ls : Array Slot), w4 = (if x2 ≤ u1.1 then 0 else 1 : Int32) → va_P D vwCl [(q_t, .inr (2, [.long u1.2])), (q_p0, .inr (4, [.ref q_p0_kinds, .ref q_p0_leaflets, .ref q_p0_owners, .ref q_p0_tears, .ref q_p0_debts, .int v_p0_size, .int v_p0_lostByHands, .int v_p0_lostByMould])), (q_p0_kinds, .inl (cI, 10, .inl v_p0_kinds)), (q_p0_leaflets, .inl (cI, 10, .inl v_p0_leaflets)), (q_p0_owners, .inl (cI, 10, .inl v_p0_owners)), (q_p0_tears, .inl (cI, 40, .inl v_p0_tears))] H → va_D A0 [(q_t, .inr (2, [.long u1.2])), (q_p0, .inr (4, [.ref q_p0_kinds, .ref q_p0_leaflets, .ref q_p0_owners, .ref q_p0_tears, .ref q_p0_debts, .int v_p0_size, .int v_p0_lostByHands, .int v_p0_lostByMould])), (q_p0_kinds, .inl (cI, 10, .inl v_p0_kinds)), (q_p0_leaflets, .inl (cI, 10, .inl v_p0_leaflets)), (q_p0_owners, .inl (cI, 10, .inl v_p0_owners)), (q_p0_tears, .inl (cI, 40, .inl v_p0_tears))] → va_S A0 s.heap H locs → lv_has ls 6 [(0, .ref q_t), (1, .ref q_p0)] → W p l e ({ frames := 4, cells := 0, slots := 0, locals := 89 } : Room) s m args below meth c H locs 0 0 Q0 (F0 m 15 ls [.int w4]) := by
    intro w4 H locs ls e_w4 hP hD hS hl
    subst e_w4
    refine lv_istore_n (lv' := [(3, .int (if x2 ≤ u1.1 then 0 else 1 : Int32)), (0, .ref q_t), (1, .ref q_p0)]) hx hb dX2_passMonth_15 rfl hl (by decide) rfl (fun ls hl => ?_)
    refine lv_iload_n hx hb dX2_passMonth_16 rfl (lv_at hl 0 rfl) ?_
    have J25_6 : ∀ (a5 : Int32 × (Nat → Int32)) (H : Heap) (locs : List Loc) (ls : Array Slot), fX2_passMonth_J25 v_p0_size v_p0_lostByHands v_p0_kinds v_p0_owners v_p0_tears x2 u1 a5 = some z → va_P D vwCl [(q_t, .inr (2, [.long u1.2])), (q_p0, .inr (4, [.ref q_p0_kinds, .ref q_p0_leaflets, .ref q_p0_owners, .ref q_p0_tears, .ref q_p0_debts, .int v_p0_size, .int v_p0_lostByHands, .int a5.1])), (q_p0_kinds, .inl (cI, 10, .inl v_p0_kinds)), (q_p0_leaflets, .inl (cI, 10, .inl a5.2)), (q_p0_owners, .inl (cI, 10, .inl v_p0_owners)), (q_p0_tears, .inl (cI, 40, .inl v_p0_tears))] H → va_D A0 [(q_t, .inr (2, [.long u1.2])), (q_p0, .inr (4, [.ref q_p0_kinds, .ref q_p0_leaflets, .ref q_p0_owners, .ref q_p0_tears, .ref q_p0_debts, .int v_p0_size, .int v_p0_lostByHands, .int a5.1])), (q_p0_kinds, .inl (cI, 10, .inl v_p0_kinds)), (q_p0_leaflets, .inl (cI, 10, .inl a5.2)), (q_p0_owners, .inl (cI, 10, .inl v_p0_owners)), (q_p0_tears, .inl (cI, 40, .inl v_p0_tears))] → va_S A0 s.heap H locs → lv_has ls 6 [(0, .ref q_t), (1, .ref q_p0), (3, .int (if x2 ≤ u1.1 then 0 else 1 : Int32))] → W p l e ({ frames := 4, cells := 0, slots := 0, locals := 89 } : Room) s m args below meth c H locs 0 0 Q0 (F0 m 25 ls []) := by
      intro a5 H locs ls h hP hD hS hl
      unfold fX2_passMonth_J25 at h
      refine lv_aload_n hx hb dX2_passMonth_25 rfl (lv_at hl 1 rfl) ?_
      refine va_get (own := RX2) (ci := 4) (v := .int v_p0_size) (C := RX4) (T := TX4) (N := 8) hx hb hts iX4 hown hK hP 1 rfl rfl 5 (by decide) k25 (fun _ h9 => h9) rfl dX2_passMonth_26 ?_
      have J89_8 : ∀ (a7 : Int64 × Int32 × (Nat → Int32) × (Nat → Int32) × (Nat → Int32)) (H : Heap) (locs : List Loc) (ls : Array Slot), fX2_passMonth_J89 x2 u1 a5 a7 = some z → va_P D vwCl [(q_t, .inr (2, [.long a7.1])), (q_p0, .inr (4, [.ref q_p0_kinds, .ref q_p0_leaflets, .ref q_p0_owners, .ref q_p0_tears, .ref q_p0_debts, .int v_p0_size, .int a7.2.1, .int a5.1])), (q_p0_kinds, .inl (cI, 10, .inl v_p0_kinds)), (q_p0_leaflets, .inl (cI, 10, .inl a7.2.2.1)), (q_p0_owners, .inl (cI, 10, .inl a7.2.2.2.1)), (q_p0_tears, .inl (cI, 40, .inl a7.2.2.2.2))] H → va_D A0 [(q_t, .inr (2, [.long a7.1])), (q_p0, .inr (4, [.ref q_p0_kinds, .ref q_p0_leaflets, .ref q_p0_owners, .ref q_p0_tears, .ref q_p0_debts, .int v_p0_size, .int a7.2.1, .int a5.1])), (q_p0_kinds, .inl (cI, 10, .inl v_p0_kinds)), (q_p0_leaflets, .inl (cI, 10, .inl a7.2.2.1)), (q_p0_owners, .inl (cI, 10, .inl a7.2.2.2.1)), (q_p0_tears, .inl (cI, 40, .inl a7.2.2.2.2))] → va_S A0 s.heap H locs → lv_has ls 6 [(3, .int (if x2 ≤ u1.1 then 0 else 1 : Int32))] → W p l e ({ frames := 4, cells := 0, slots := 0, locals := 89 } : Room) s m args below meth c H locs 0 0 Q0 (F0 m 89 ls []) := by
        intro a7 H locs ls h hP hD hS hl
        unfold fX2_passMonth_J89 at h
        refine lv_iload_n hx hb dX2_passMonth_89 rfl (lv_at hl 0 rfl) ?_
        refine lv_if_eq (tgt := 97) hx hb dX2_passMonth_90 (by decide) (fun c9 => ?_) (fun c9 => ?_)
        · skip
          have h := (if_pos c9).symm.trans h
          refine lv_iconst (v := 0) hx hb dX2_passMonth_97 (by decide) ?_
          obtain rfl := Option.some.inj h
          exact rt_i hA0 hQ0 hx hb hr hlocks hP hS dX2_passMonth_98
        · skip
          have h := (if_neg c9).symm.trans h
          refine lv_iconst (v := 1) hx hb dX2_passMonth_93 (by decide) ?_
          refine lv_goto (tgt := 98) hx hb dX2_passMonth_94 (by decide) ?_
          obtain rfl := Option.some.inj h
          exact rt_i hA0 hQ0 hx hb hr hlocks hP hS dX2_passMonth_98
      refine lv_if_le (tgt := 89) hx hb dX2_passMonth_29 (by decide) (fun c10 => ?_) (fun c10 => ?_)
      · skip
        have h := (if_pos c10).symm.trans h
        exact J89_8 (u1.2, v_p0_lostByHands, a5.2, v_p0_owners, v_p0_tears) _ _ _ h hP hD hS (lv_sub hl [2] rfl)
      · skip
        have h := (if_neg c10).symm.trans h
        refine lv_aload_n hx hb dX2_passMonth_32 rfl (lv_at hl 0 rfl) ?_
        refine lv_aload_n hx hb dX2_passMonth_33 rfl (lv_at hl 1 rfl) ?_
        refine va_get (own := RX2) (ci := 4) (v := .int v_p0_size) (C := RX4) (T := TX4) (N := 8) hx hb hts iX4 hown hK hP 1 rfl rfl 5 (by decide) k25 (fun _ h9 => h9) rfl dX2_passMonth_34 ?_
        obtain ⟨u11, g12, h⟩ := bd_of h
        refine cl_V [(q_t, .inr (2, [.long u11.2])), (q_p0, .inr (4, [.ref q_p0_kinds, .ref q_p0_leaflets, .ref q_p0_owners, .ref q_p0_tears, .ref q_p0_debts, .int v_p0_size, .int v_p0_lostByHands, .int a5.1])), (q_p0_kinds, .inl (cI, 10, .inl v_p0_kinds)), (q_p0_leaflets, .inl (cI, 10, .inl a5.2)), (q_p0_owners, .inl (cI, 10, .inl v_p0_owners)), (q_p0_tears, .inl (cI, 40, .inl v_p0_tears))] (As := [.int v_p0_size]) (rest := []) (rv := (some (.int u11.1))) (c_X2_next l D cI cJ q_t u1.2 v_p0_size u11 g12) ⟨hx, hb, hml, hown, hts⟩ (cwV 1 hts gX2_passMonth_X2_next rfl rfl rfl (by decide +kernel) ⟨(Nat.le_of_ble_eq_true rfl), (Nat.le_of_ble_eq_true rfl)⟩) hK hN hP hD hS [0] rfl (by decide) rfl rfl rfl (q0 := 0) (ci := 2) rfl rfl rfl rfl hl.1 rfl (Nat.le_of_ble_eq_true rfl) dX2_passMonth_37 ⟨Nat.zero_le _, Nat.zero_le _⟩ (fun H locs hP hD hS => ?_)
        show W p l e ({ frames := 4, cells := 0, slots := 0, locals := 89 } : Room) s m args below meth c H locs 0 0 Q0 (F0 m 40 ls [.int u11.1])
        refine lv_istore (lv' := [(4, .int u11.1), (0, .ref q_t), (1, .ref q_p0), (3, .int (if x2 ≤ u1.1 then 0 else 1 : Int32))]) hx hb dX2_passMonth_40 hl (by decide) rfl (fun ls hl => ?_)
        refine lv_aload_n hx hb dX2_passMonth_42 rfl (lv_at hl 1 rfl) ?_
        refine lv_bipush (v := 6) hx hb dX2_passMonth_43 (by decide) ?_
        obtain ⟨u13, g14, h⟩ := bd_of h
        refine cl_V [(q_t, .inr (2, [.long u13.2])), (q_p0, .inr (4, [.ref q_p0_kinds, .ref q_p0_leaflets, .ref q_p0_owners, .ref q_p0_tears, .ref q_p0_debts, .int v_p0_size, .int v_p0_lostByHands, .int a5.1])), (q_p0_kinds, .inl (cI, 10, .inl v_p0_kinds)), (q_p0_leaflets, .inl (cI, 10, .inl a5.2)), (q_p0_owners, .inl (cI, 10, .inl v_p0_owners)), (q_p0_tears, .inl (cI, 40, .inl v_p0_tears))] (As := [.int 6]) (rest := []) (rv := (some (.int u13.1))) (c_X2_next l D cI cJ q_t u11.2 6 u13 g14) ⟨hx, hb, hml, hown, hts⟩ (cwV 1 hts gX2_passMonth_X2_next rfl rfl rfl (by decide +kernel) ⟨(Nat.le_of_ble_eq_true rfl), (Nat.le_of_ble_eq_true rfl)⟩) hK hN hP hD hS [0] rfl (by decide) rfl rfl rfl (q0 := 0) (ci := 2) rfl rfl rfl rfl hl.1 rfl (Nat.le_of_ble_eq_true rfl) dX2_passMonth_45 ⟨Nat.zero_le _, Nat.zero_le _⟩ (fun H locs hP hD hS => ?_)
        show W p l e ({ frames := 4, cells := 0, slots := 0, locals := 89 } : Room) s m args below meth c H locs 0 0 Q0 (F0 m 48 ls [.int u13.1])
        refine lv_istore (lv' := [(5, .int u13.1), (4, .int u11.1), (0, .ref q_t), (1, .ref q_p0), (3, .int (if x2 ≤ u1.1 then 0 else 1 : Int32))]) hx hb dX2_passMonth_48 hl (by decide) rfl (fun ls hl => ?_)
        refine lv_aload_n hx hb dX2_passMonth_50 rfl (lv_at hl 3 rfl) ?_
        refine lv_iload hx hb dX2_passMonth_51 (lv_at hl 1 rfl) ?_
        refine cl_V [(q_t, .inr (2, [.long u13.2])), (q_p0, .inr (4, [.ref q_p0_kinds, .ref q_p0_leaflets, .ref q_p0_owners, .ref q_p0_tears, .ref q_p0_debts, .int v_p0_size, .int v_p0_lostByHands, .int a5.1])), (q_p0_kinds, .inl (cI, 10, .inl v_p0_kinds)), (q_p0_leaflets, .inl (cI, 10, .inl a5.2)), (q_p0_owners, .inl (cI, 10, .inl v_p0_owners)), (q_p0_tears, .inl (cI, 40, .inl v_p0_tears))] (As := [.int u11.1]) (rest := []) (rv := (some (.int (fX4_knows v_p0_size v_p0_lostByHands a5.1 u11.1)))) (c_X4_knows l D cI cJ q_p0 q_p0_kinds q_p0_leaflets q_p0_owners q_p0_tears q_p0_debts v_p0_size v_p0_lostByHands a5.1 u11.1) ⟨hx, hb, hml, hown, hts⟩ (cwV 1 hts gX2_passMonth_X4_knows rfl rfl rfl (by decide +kernel) ⟨(Nat.le_of_ble_eq_true rfl), (Nat.le_of_ble_eq_true rfl)⟩) hK hN hP hD hS [1] rfl (by decide) rfl rfl rfl (q0 := 1) (ci := 4) rfl rfl rfl rfl hl.1 rfl (Nat.le_of_ble_eq_true rfl) dX2_passMonth_53 ⟨Nat.zero_le _, Nat.zero_le _⟩ (fun H locs hP hD hS => ?_)
        show W p l e ({ frames := 4, cells := 0, slots := 0, locals := 89 } : Room) s m args below meth c H locs 0 0 Q0 (F0 m 56 ls [.int (fX4_knows v_p0_size v_p0_lostByHands a5.1 u11.1)])
        refine lv_if_eq (tgt := 89) hx hb dX2_passMonth_56 (by decide) (fun c15 => ?_) (fun c15 => ?_)
        · skip
          have h := (if_pos c15).symm.trans h
          exact J89_8 (u13.2, v_p0_lostByHands, a5.2, v_p0_owners, v_p0_tears) _ _ _ h hP hD hS (lv_sub hl [4] rfl)
        · skip
          have h := (if_neg c15).symm.trans h
          refine lv_aload_n hx hb dX2_passMonth_59 rfl (lv_at hl 3 rfl) ?_
          refine lv_iload hx hb dX2_passMonth_60 (lv_at hl 1 rfl) ?_
          obtain ⟨u16, g17, h⟩ := bd_of h
          refine cl_V [(q_t, .inr (2, [.long u13.2])), (q_p0, .inr (4, [.ref q_p0_kinds, .ref q_p0_leaflets, .ref q_p0_owners, .ref q_p0_tears, .ref q_p0_debts, .int v_p0_size, .int v_p0_lostByHands, .int a5.1])), (q_p0_kinds, .inl (cI, 10, .inl v_p0_kinds)), (q_p0_leaflets, .inl (cI, 10, .inl a5.2)), (q_p0_owners, .inl (cI, 10, .inl v_p0_owners)), (q_p0_tears, .inl (cI, 40, .inl v_p0_tears))] (As := [.int u11.1]) (rest := []) (rv := (some (.int u16))) (c_X4_isAtBank l D cI cJ q_p0 q_p0_kinds q_p0_leaflets q_p0_owners q_p0_tears q_p0_debts v_p0_size v_p0_lostByHands a5.1 v_p0_owners u11.1 u16 g17) ⟨hx, hb, hml, hown, hts⟩ (cwV 1 hts gX2_passMonth_X4_isAtBank rfl rfl rfl (by decide +kernel) ⟨(Nat.le_of_ble_eq_true rfl), (Nat.le_of_ble_eq_true rfl)⟩) hK hN hP hD hS [1, 4] rfl (by decide) rfl rfl rfl (q0 := 1) (ci := 4) rfl rfl rfl rfl hl.1 rfl (Nat.le_of_ble_eq_true rfl) dX2_passMonth_62 ⟨Nat.zero_le _, Nat.zero_le _⟩ (fun H locs hP hD hS => ?_)
          show W p l e ({ frames := 4, cells := 0, slots := 0, locals := 89 } : Room) s m args below meth c H locs 0 0 Q0 (F0 m 65 ls [.int u16])
          refine lv_if_ne (tgt := 89) hx hb dX2_passMonth_65 (by decide) (fun c18 => ?_) (fun c18 => ?_)
          · skip
            have h := (if_neg c18).symm.trans h
            exact J89_8 (u13.2, v_p0_lostByHands, a5.2, v_p0_owners, v_p0_tears) _ _ _ h hP hD hS (lv_sub hl [4] rfl)
          · skip
            have h := (if_pos c18).symm.trans h
            refine lv_aload_n hx hb dX2_passMonth_68 rfl (lv_at hl 3 rfl) ?_
            refine va_get (own := RX2) (ci := 4) (v := .ref q_p0_owners) (C := RX4) (T := TX4) (N := 8) hx hb hts iX4 hown hK hP 1 rfl rfl 2 (by decide) k36 (fun _ h9 => h9) rfl dX2_passMonth_69 ?_
            refine lv_iload hx hb dX2_passMonth_72 (lv_at hl 1 rfl) ?_
            obtain ⟨g19, h⟩ := gd_of h
            refine va_iald hx hb hK hP 4 0 rfl rfl (inb_of g19) dX2_passMonth_74 ?_
            refine lv_iload hx hb dX2_passMonth_75 (lv_at hl 0 rfl) ?_
            refine lv_icmp_eq (tgt := 89) hx hb dX2_passMonth_77 (by decide) (fun c20 => ?_) (fun c20 => ?_)
            · skip
              have h := (if_pos c20).symm.trans h
              exact J89_8 (u13.2, v_p0_lostByHands, a5.2, v_p0_owners, v_p0_tears) _ _ _ h hP hD hS (lv_sub hl [4] rfl)
            · skip
              have h := (if_neg c20).symm.trans h
              refine lv_aload_n hx hb dX2_passMonth_80 rfl (lv_at hl 3 rfl) ?_
              refine lv_iload hx hb dX2_passMonth_81 (lv_at hl 1 rfl) ?_
              refine lv_iload hx hb dX2_passMonth_83 (lv_at hl 0 rfl) ?_
              obtain ⟨u21, g22, h⟩ := bd_of h
              refine cl_V [(q_t, .inr (2, [.long u13.2])), (q_p0, .inr (4, [.ref q_p0_kinds, .ref q_p0_leaflets, .ref q_p0_owners, .ref q_p0_tears, .ref q_p0_debts, .int v_p0_size, .int u21.2.1, .int a5.1])), (q_p0_kinds, .inl (cI, 10, .inl v_p0_kinds)), (q_p0_leaflets, .inl (cI, 10, .inl u21.2.2.1)), (q_p0_owners, .inl (cI, 10, .inl u21.2.2.2.1)), (q_p0_tears, .inl (cI, 40, .inl u21.2.2.2.2))] (As := [.int u11.1, .int u13.1]) (rest := []) (rv := (some (.int u21.1))) (c_X4_goByHand l D cI cJ q_p0 q_p0_kinds q_p0_leaflets q_p0_owners q_p0_tears q_p0_debts v_p0_size v_p0_lostByHands a5.1 v_p0_kinds a5.2 v_p0_owners v_p0_tears u11.1 u13.1 u21 g22) ⟨hx, hb, hml, hown, hts⟩ (cwV 2 hts gX2_passMonth_X4_goByHand rfl rfl rfl (by decide +kernel) ⟨(Nat.le_of_ble_eq_true rfl), (Nat.le_of_ble_eq_true rfl)⟩) hK hN hP hD hS [1, 2, 3, 4, 5] rfl (by decide) rfl rfl rfl (q0 := 1) (ci := 4) rfl rfl rfl rfl hl.1 rfl (Nat.le_of_ble_eq_true rfl) dX2_passMonth_85 ⟨Nat.zero_le _, Nat.zero_le _⟩ (fun H locs hP hD hS => ?_)
              show W p l e ({ frames := 4, cells := 0, slots := 0, locals := 89 } : Room) s m args below meth c H locs 0 0 Q0 (F0 m 88 ls [.int u21.1])
              refine lv_pop hx hb dX2_passMonth_88 rfl ?_
              exact J89_8 (u13.2, u21.2.1, u21.2.2.1, u21.2.2.2.1, u21.2.2.2.2) _ _ _ h hP hD hS (lv_sub hl [4] rfl)
    refine lv_if_eq (tgt := 25) hx hb dX2_passMonth_17 (by decide) (fun c23 => ?_) (fun c23 => ?_)
    · skip
      have h := (if_pos c23).symm.trans h
      exact J25_6 (v_p0_lostByMould, v_p0_leaflets) _ _ _ h hP hD hS (lv_sub hl [1, 2, 0] rfl)
    · skip
      have h := (if_neg c23).symm.trans h
      refine lv_aload_n hx hb dX2_passMonth_20 rfl (lv_at hl 2 rfl) ?_
      obtain ⟨u24, g25, h⟩ := bd_of h
      refine cl_V [(q_t, .inr (2, [.long u1.2])), (q_p0, .inr (4, [.ref q_p0_kinds, .ref q_p0_leaflets, .ref q_p0_owners, .ref q_p0_tears, .ref q_p0_debts, .int v_p0_size, .int v_p0_lostByHands, .int u24.2.1])), (q_p0_kinds, .inl (cI, 10, .inl v_p0_kinds)), (q_p0_leaflets, .inl (cI, 10, .inl u24.2.2)), (q_p0_owners, .inl (cI, 10, .inl v_p0_owners)), (q_p0_tears, .inl (cI, 40, .inl v_p0_tears))] (As := []) (rest := []) (rv := (some (.int u24.1))) (c_X4_takeMould l D cI cJ q_p0 q_p0_kinds q_p0_leaflets q_p0_owners q_p0_tears q_p0_debts v_p0_size v_p0_lostByHands v_p0_lostByMould v_p0_kinds v_p0_leaflets v_p0_owners u24 g25) ⟨hx, hb, hml, hown, hts⟩ (cwV 0 hts gX2_passMonth_X4_takeMould rfl rfl rfl (by decide +kernel) ⟨(Nat.le_of_ble_eq_true rfl), (Nat.le_of_ble_eq_true rfl)⟩) hK hN hP hD hS [1, 2, 3, 4] rfl (by decide) rfl rfl rfl (q0 := 1) (ci := 4) rfl rfl rfl rfl hl.1 rfl (Nat.le_of_ble_eq_true rfl) dX2_passMonth_21 ⟨Nat.zero_le _, Nat.zero_le _⟩ (fun H locs hP hD hS => ?_)
      show W p l e ({ frames := 4, cells := 0, slots := 0, locals := 89 } : Room) s m args below meth c H locs 0 0 Q0 (F0 m 24 ls [.int u24.1])
      refine lv_pop hx hb dX2_passMonth_24 rfl ?_
      exact J25_6 (u24.2.1, u24.2.2) _ _ _ h hP hD hS (lv_sub hl [1, 2, 0] rfl)
  refine lv_icmp_ge (tgt := 14) hx hb dX2_passMonth_7 (by decide) (fun c26 => ?_) (fun c26 => ?_)
  · skip
    refine lv_iconst (v := 0) hx hb dX2_passMonth_14 (by decide) ?_
    exact K15_3 0 _ _ _ (by rw [if_pos c26]) hP hD hS (lv_sub hl [0, 1] rfl)
  · skip
    refine lv_iconst (v := 1) hx hb dX2_passMonth_10 (by decide) ?_
    refine lv_goto (tgt := 15) hx hb dX2_passMonth_11 (by decide) ?_
    exact K15_3 1 _ _ _ (by rw [if_neg c26]) hP hD hS (lv_sub hl [0, 1] rfl)
