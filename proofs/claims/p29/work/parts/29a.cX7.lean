def fX7_isSmaller (v_t_payer : Int32) (v_t_leastWorth : Int32) (v_t_leastBits : Int32) (x1 : Int32) : Int32 :=
  if ((fJ6_bitCount_0f7a4 x1) - (fJ6_bitCount_0f7a4 v_t_leastBits)) < 0 then (1) else (if ((fJ6_bitCount_0f7a4 x1) - (fJ6_bitCount_0f7a4 v_t_leastBits)) = 0 then (if v_t_leastBits ≤ x1 then (0) else (1)) else (0))
set_option maxHeartbeats 4000000 in
set_option maxRecDepth 100000 in
theorem c_X7_isSmaller (l : Launch) (D : va_G) (cI cJ : ClassId) (q_t : Nat) (v_t_payer : Int32) (v_t_leastWorth : Int32) (v_t_leastBits : Int32) (x1 : Int32) : Met l yX7_isSmaller wsX7_isSmaller ({ frames := 1, cells := 0, slots := 0, locals := 20 } : Room) (va_Pc [.ref q_t, .int x1] (preG D cI cJ [(q_t, .inr (6, [.int v_t_payer, .int v_t_leastWorth, .int v_t_leastBits]))])) (QG D [(q_t, .inr (6, [.int v_t_payer, .int v_t_leastWorth, .int v_t_leastBits]))] [(q_t, .inr (6, [.int v_t_payer, .int v_t_leastWorth, .int v_t_leastBits]))] (some (.int (fX7_isSmaller v_t_payer v_t_leastWorth v_t_leastBits x1)))) 0 0 (fr [(q_t, .inr (6, [.int v_t_payer, .int v_t_leastWorth, .int v_t_leastBits]))]) := by
  generalize h : fX7_isSmaller v_t_payer v_t_leastWorth v_t_leastBits x1 = z
  refine Met.ofW (cc := cX7_isSmaller) (maxL := 3) (ret := (some .boolean)) (by decide) rfl ?_
  intro p e s m args below meth c s₁ B hml hv
  obtain ⟨hargs, hP, hK, hN, hD0⟩ := hv
  have hx := B.exec
  have hb := B.bytes
  have hr := B.returns
  have hts := atoms_spec (ws := wsX7_isSmaller) B.pre
  have hown : s.vm.findClass RX7 = some m.cls := findClass_of_methodNamed B.named
  have hlocks := B.notSynchronized
  have iX7 : ∀ w ∈ wsX70, w ∈ wsX7_isSmaller := by decide +kernel
  have k18 := hts (.fieldLink RX7 18 "PressedFerns$Purse" "leastBits" "I") (by decide +kernel)
  have hD := fr_D hD0
  have hS : va_S (fr [(q_t, .inr (6, [.int v_t_payer, .int v_t_leastWorth, .int v_t_leastBits]))]) s.heap s.heap [] := va_S.rf
  have hl := lv_entry ([.ref q_t, .int x1]) (n := 3) (Nat.le_of_ble_eq_true rfl)
  refine W.eq (g2 := F0 m 0 ((lg_sl ([.ref q_t, .int x1]) ++ List.replicate (3 - (lg_sl ([.ref q_t, .int x1])).length) Slot.unset).toArray) []) (by rw [hargs, lg_entry_eq]) ?_
  generalize (lg_sl ([.ref q_t, .int x1]) ++ List.replicate (3 - (lg_sl ([.ref q_t, .int x1])).length) Slot.unset).toArray = ls at hl ⊢
  have hl : lv_has ls 3 [(0, .ref q_t), (1, .int x1)] := hl
  show W p l e ({ frames := 1, cells := 0, slots := 0, locals := 20 } : Room) s m args below meth c s.heap [] 0 0 (MQ below (QG D [(q_t, .inr (6, [.int v_t_payer, .int v_t_leastWorth, .int v_t_leastBits]))] [(q_t, .inr (6, [.int v_t_payer, .int v_t_leastWorth, .int v_t_leastBits]))] (some (.int z))) args s 0 0 (fr [(q_t, .inr (6, [.int v_t_payer, .int v_t_leastWorth, .int v_t_leastBits]))])) (F0 m 0 ls [])
  generalize hQ0 : (MQ below (QG D [(q_t, .inr (6, [.int v_t_payer, .int v_t_leastWorth, .int v_t_leastBits]))] [(q_t, .inr (6, [.int v_t_payer, .int v_t_leastWorth, .int v_t_leastBits]))] (some (.int z))) args s 0 0 (fr [(q_t, .inr (6, [.int v_t_payer, .int v_t_leastWorth, .int v_t_leastBits]))])) = Q0
  generalize hA0 : fr [(q_t, .inr (6, [.int v_t_payer, .int v_t_leastWorth, .int v_t_leastBits]))] = A0 at hD hS
  unfold fX7_isSmaller at h
  refine lv_iload_n hx hb dX7_isSmaller_0 rfl (lv_at hl 1 rfl) ?_
  refine cl_S [(q_t, .inr (6, [.int v_t_payer, .int v_t_leastWorth, .int v_t_leastBits]))] (As := [.int x1]) (rest := []) (rv := (some (.int (fJ6_bitCount_0f7a4 x1)))) (c_J6_bitCount_0f7a4 l D cI cJ x1) ⟨hx, hb, hml, hown, hts⟩ (va_cwS 1 hts gX7_isSmaller_J6_bitCount_0f7a4 rfl rfl rfl (by decide +kernel) ⟨(Nat.le_of_ble_eq_true rfl), (Nat.le_of_ble_eq_true rfl)⟩) hK hN hP hD hS [] rfl (by decide) rfl rfl rfl rfl hl.1 rfl (Nat.le_of_ble_eq_true rfl) dX7_isSmaller_1 ⟨Nat.zero_le _, Nat.zero_le _⟩ (fun H locs hP hD hS => ?_)
  show W p l e ({ frames := 1, cells := 0, slots := 0, locals := 20 } : Room) s m args below meth c H locs 0 0 Q0 (F0 m 4 ls [.int (fJ6_bitCount_0f7a4 x1)])
  refine lv_aload_n hx hb dX7_isSmaller_4 rfl (lv_at hl 0 rfl) ?_
  refine va_get (own := RX7) (ci := 6) (v := .int v_t_leastBits) (C := RX7) (T := TX7) (N := 3) hx hb hts iX7 hown hK hP 0 rfl rfl 2 (by decide) k18 (fun _ h9 => h9) rfl dX7_isSmaller_5 ?_
  refine cl_S [(q_t, .inr (6, [.int v_t_payer, .int v_t_leastWorth, .int v_t_leastBits]))] (As := [.int v_t_leastBits]) (rest := [.int (fJ6_bitCount_0f7a4 x1)]) (rv := (some (.int (fJ6_bitCount_0f7a4 v_t_leastBits)))) (c_J6_bitCount_0f7a4 l D cI cJ v_t_leastBits) ⟨hx, hb, hml, hown, hts⟩ (va_cwS 1 hts gX7_isSmaller_J6_bitCount_0f7a4 rfl rfl rfl (by decide +kernel) ⟨(Nat.le_of_ble_eq_true rfl), (Nat.le_of_ble_eq_true rfl)⟩) hK hN hP hD hS [] rfl (by decide) rfl rfl rfl rfl hl.1 rfl (Nat.le_of_ble_eq_true rfl) dX7_isSmaller_8 ⟨Nat.zero_le _, Nat.zero_le _⟩ (fun H locs hP hD hS => ?_)
  show W p l e ({ frames := 1, cells := 0, slots := 0, locals := 20 } : Room) s m args below meth c H locs 0 0 Q0 (F0 m 11 ls [.int (fJ6_bitCount_0f7a4 v_t_leastBits), .int (fJ6_bitCount_0f7a4 x1)])
  refine lv_isub hx hb dX7_isSmaller_11 ?_
  refine lv_istore_n (lv' := [(2, .int ((fJ6_bitCount_0f7a4 x1) - (fJ6_bitCount_0f7a4 v_t_leastBits))), (0, .ref q_t), (1, .int x1)]) hx hb dX7_isSmaller_12 rfl hl (by decide) rfl (fun ls hl => ?_)
  refine lv_iload_n hx hb dX7_isSmaller_13 rfl (lv_at hl 0 rfl) ?_
  refine lv_if_lt (tgt := 29) hx hb dX7_isSmaller_14 (by decide) (fun c1 => ?_) (fun c1 => ?_)
  · skip
    have h := (if_pos c1).symm.trans h
    refine lv_iconst (v := 1) hx hb dX7_isSmaller_29 (by decide) ?_
    refine lv_goto (tgt := 34) hx hb dX7_isSmaller_30 (by decide) ?_
    subst h
    exact rt_z hA0 hQ0 hx hb hr hlocks rfl hP hS dX7_isSmaller_34
  · skip
    have h := (if_neg c1).symm.trans h
    refine lv_iload_n hx hb dX7_isSmaller_17 rfl (lv_at hl 0 rfl) ?_
    refine lv_if_ne (tgt := 33) hx hb dX7_isSmaller_18 (by decide) (fun c2 => ?_) (fun c2 => ?_)
    · skip
      have h := (if_neg c2).symm.trans h
      refine lv_iconst (v := 0) hx hb dX7_isSmaller_33 (by decide) ?_
      subst h
      exact rt_z hA0 hQ0 hx hb hr hlocks rfl hP hS dX7_isSmaller_34
    · skip
      have h := (if_pos c2).symm.trans h
      refine lv_iload_n hx hb dX7_isSmaller_21 rfl (lv_at hl 2 rfl) ?_
      refine lv_aload_n hx hb dX7_isSmaller_22 rfl (lv_at hl 1 rfl) ?_
      refine va_get (own := RX7) (ci := 6) (v := .int v_t_leastBits) (C := RX7) (T := TX7) (N := 3) hx hb hts iX7 hown hK hP 0 rfl rfl 2 (by decide) k18 (fun _ h9 => h9) rfl dX7_isSmaller_23 ?_
      refine lv_icmp_ge (tgt := 33) hx hb dX7_isSmaller_26 (by decide) (fun c3 => ?_) (fun c3 => ?_)
      · skip
        have h := (if_pos c3).symm.trans h
        refine lv_iconst (v := 0) hx hb dX7_isSmaller_33 (by decide) ?_
        subst h
        exact rt_z hA0 hQ0 hx hb hr hlocks rfl hP hS dX7_isSmaller_34
      · skip
        have h := (if_neg c3).symm.trans h
        refine lv_iconst (v := 1) hx hb dX7_isSmaller_29 (by decide) ?_
        refine lv_goto (tgt := 34) hx hb dX7_isSmaller_30 (by decide) ?_
        subst h
        exact rt_z hA0 hQ0 hx hb hr hlocks rfl hP hS dX7_isSmaller_34
theorem zb_X7_isSmaller (v_t_payer : Int32) (v_t_leastWorth : Int32) (v_t_leastBits : Int32) (x1 : Int32) : narrow .boolean (.int (fX7_isSmaller v_t_payer v_t_leastWorth v_t_leastBits x1)) = .int (fX7_isSmaller v_t_payer v_t_leastWorth v_t_leastBits x1) := by
  unfold fX7_isSmaller
  repeat' split
  all_goals rfl
def fX7_keepIfBetter_J24 (x1 : Int32) (x2 : Int32) (a1 : Unit) : Option (Int32 × Int32) :=
  some (x2, x1)
def fX7_keepIfBetter (v_t_payer : Int32) (v_t_leastWorth : Int32) (v_t_leastBits : Int32) (x1 : Int32) (x2 : Int32) : Option (Int32 × Int32) :=
  if x2 < v_t_leastWorth then (fX7_keepIfBetter_J24 x1 x2 ()) else (if x2 = v_t_leastWorth then (if (fX7_isSmaller v_t_payer v_t_leastWorth v_t_leastBits x1) = 0 then (some (v_t_leastWorth, v_t_leastBits)) else (fX7_keepIfBetter_J24 x1 x2 ())) else (some (v_t_leastWorth, v_t_leastBits)))
set_option maxHeartbeats 4000000 in
set_option maxRecDepth 100000 in
theorem c_X7_keepIfBetter (l : Launch) (D : va_G) (cI cJ : ClassId) (q_t : Nat) (v_t_payer : Int32) (v_t_leastWorth : Int32) (v_t_leastBits : Int32) (x1 : Int32) (x2 : Int32) (z : Int32 × Int32) (h : fX7_keepIfBetter v_t_payer v_t_leastWorth v_t_leastBits x1 x2 = some z) : Met l yX7_keepIfBetter wsX7_keepIfBetter ({ frames := 2, cells := 0, slots := 0, locals := 42 } : Room) (va_Pc [.ref q_t, .int x1, .int x2] (preG D cI cJ [(q_t, .inr (6, [.int v_t_payer, .int v_t_leastWorth, .int v_t_leastBits]))])) (QG D [(q_t, .inr (6, [.int v_t_payer, .int v_t_leastWorth, .int v_t_leastBits]))] [(q_t, .inr (6, [.int v_t_payer, .int z.1, .int z.2]))] none) 0 0 (fr [(q_t, .inr (6, [.int v_t_payer, .int v_t_leastWorth, .int v_t_leastBits]))]) := by
  refine Met.ofW (cc := cX7_keepIfBetter) (maxL := 3) (ret := none) (by decide) rfl ?_
  intro p e s m args below meth c s₁ B hml hv
  obtain ⟨hargs, hP, hK, hN, hD0⟩ := hv
  have hx := B.exec
  have hb := B.bytes
  have hr := B.returns
  have hts := atoms_spec (ws := wsX7_keepIfBetter) B.pre
  have hown : s.vm.findClass RX7 = some m.cls := findClass_of_methodNamed B.named
  have hlocks := B.notSynchronized
  have iX7 : ∀ w ∈ wsX70, w ∈ wsX7_keepIfBetter := by decide +kernel
  have k15 := hts (.fieldLink RX7 15 "PressedFerns$Purse" "leastWorth" "I") (by decide +kernel)
  have k18 := hts (.fieldLink RX7 18 "PressedFerns$Purse" "leastBits" "I") (by decide +kernel)
  have hD := fr_D hD0
  have hS : va_S (fr [(q_t, .inr (6, [.int v_t_payer, .int v_t_leastWorth, .int v_t_leastBits]))]) s.heap s.heap [] := va_S.rf
  have hl := lv_entry ([.ref q_t, .int x1, .int x2]) (n := 3) (Nat.le_of_ble_eq_true rfl)
  refine W.eq (g2 := F0 m 0 ((lg_sl ([.ref q_t, .int x1, .int x2]) ++ List.replicate (3 - (lg_sl ([.ref q_t, .int x1, .int x2])).length) Slot.unset).toArray) []) (by rw [hargs, lg_entry_eq]) ?_
  generalize (lg_sl ([.ref q_t, .int x1, .int x2]) ++ List.replicate (3 - (lg_sl ([.ref q_t, .int x1, .int x2])).length) Slot.unset).toArray = ls at hl ⊢
  have hl : lv_has ls 3 [(0, .ref q_t), (1, .int x1), (2, .int x2)] := hl
  show W p l e ({ frames := 2, cells := 0, slots := 0, locals := 42 } : Room) s m args below meth c s.heap [] 0 0 (MQ below (QG D [(q_t, .inr (6, [.int v_t_payer, .int v_t_leastWorth, .int v_t_leastBits]))] [(q_t, .inr (6, [.int v_t_payer, .int z.1, .int z.2]))] none) args s 0 0 (fr [(q_t, .inr (6, [.int v_t_payer, .int v_t_leastWorth, .int v_t_leastBits]))])) (F0 m 0 ls [])
  generalize hQ0 : (MQ below (QG D [(q_t, .inr (6, [.int v_t_payer, .int v_t_leastWorth, .int v_t_leastBits]))] [(q_t, .inr (6, [.int v_t_payer, .int z.1, .int z.2]))] none) args s 0 0 (fr [(q_t, .inr (6, [.int v_t_payer, .int v_t_leastWorth, .int v_t_leastBits]))])) = Q0
  generalize hA0 : fr [(q_t, .inr (6, [.int v_t_payer, .int v_t_leastWorth, .int v_t_leastBits]))] = A0 at hD hS
  unfold fX7_keepIfBetter at h
  refine lv_iload_n hx hb dX7_keepIfBetter_0 rfl (lv_at hl 2 rfl) ?_
  refine lv_aload_n hx hb dX7_keepIfBetter_1 rfl (lv_at hl 0 rfl) ?_
  refine va_get (own := RX7) (ci := 6) (v := .int v_t_leastWorth) (C := RX7) (T := TX7) (N := 3) hx hb hts iX7 hown hK hP 0 rfl rfl 1 (by decide) k15 (fun _ h9 => h9) rfl dX7_keepIfBetter_2 ?_
  have J24_2 : ∀ (a1 : Unit) (H : Heap) (locs : List Loc) (ls : Array Slot), fX7_keepIfBetter_J24 x1 x2 a1 = some z → va_P D vwCl [(q_t, .inr (6, [.int v_t_payer, .int v_t_leastWorth, .int v_t_leastBits]))] H → va_D A0 [(q_t, .inr (6, [.int v_t_payer, .int v_t_leastWorth, .int v_t_leastBits]))] → va_S A0 s.heap H locs → lv_has ls 3 [(0, .ref q_t), (1, .int x1), (2, .int x2)] → W p l e ({ frames := 2, cells := 0, slots := 0, locals := 42 } : Room) s m args below meth c H locs 0 0 Q0 (F0 m 24 ls []) := by
    intro a1 H locs ls h hP hD hS hl
    unfold fX7_keepIfBetter_J24 at h
    refine lv_aload_n hx hb dX7_keepIfBetter_24 rfl (lv_at hl 0 rfl) ?_
    refine lv_iload_n hx hb dX7_keepIfBetter_25 rfl (lv_at hl 2 rfl) ?_
    refine va_put (D := D) (own := RX7) (ci := 6) (v := .int x2) (ty := .int) (C := RX7) (T := TX7) (N := 3) hx hb hts iX7 tyX7 tyX7_ok nmX7 hown hK hP hD hS 0 rfl rfl 1 (by decide) k15 (fun _ h9 => h9) rfl (by decide +kernel) rfl rfl (Nat.le_of_ble_eq_true rfl) dX7_keepIfBetter_26 (fun H locs hP hD hS => ?_)
    have hP : va_P D vwCl [(q_t, .inr (6, [.int v_t_payer, .int x2, .int v_t_leastBits]))] H := hP
    have hD : va_D A0 [(q_t, .inr (6, [.int v_t_payer, .int x2, .int v_t_leastBits]))] := hD
    refine lv_aload_n hx hb dX7_keepIfBetter_29 rfl (lv_at hl 0 rfl) ?_
    refine lv_iload_n hx hb dX7_keepIfBetter_30 rfl (lv_at hl 1 rfl) ?_
    refine va_put (D := D) (own := RX7) (ci := 6) (v := .int x1) (ty := .int) (C := RX7) (T := TX7) (N := 3) hx hb hts iX7 tyX7 tyX7_ok nmX7 hown hK hP hD hS 0 rfl rfl 2 (by decide) k18 (fun _ h9 => h9) rfl (by decide +kernel) rfl rfl (Nat.le_of_ble_eq_true rfl) dX7_keepIfBetter_31 (fun H locs hP hD hS => ?_)
    have hP : va_P D vwCl [(q_t, .inr (6, [.int v_t_payer, .int x2, .int x1]))] H := hP
    have hD : va_D A0 [(q_t, .inr (6, [.int v_t_payer, .int x2, .int x1]))] := hD
    obtain rfl := Option.some.inj h
    exact rt_v hA0 hQ0 hx hb hr hlocks hP hS dX7_keepIfBetter_34
  refine lv_icmp_lt (tgt := 24) hx hb dX7_keepIfBetter_5 (by decide) (fun c3 => ?_) (fun c3 => ?_)
  · skip
    have h := (if_pos c3).symm.trans h
    exact J24_2 () _ _ _ h hP hD hS (lv_sub hl [0, 1, 2] rfl)
  · skip
    have h := (if_neg c3).symm.trans h
    refine lv_iload_n hx hb dX7_keepIfBetter_8 rfl (lv_at hl 2 rfl) ?_
    refine lv_aload_n hx hb dX7_keepIfBetter_9 rfl (lv_at hl 0 rfl) ?_
    refine va_get (own := RX7) (ci := 6) (v := .int v_t_leastWorth) (C := RX7) (T := TX7) (N := 3) hx hb hts iX7 hown hK hP 0 rfl rfl 1 (by decide) k15 (fun _ h9 => h9) rfl dX7_keepIfBetter_10 ?_
    refine lv_icmp_ne (tgt := 34) hx hb dX7_keepIfBetter_13 (by decide) (fun c4 => ?_) (fun c4 => ?_)
    · skip
      have h := (if_neg c4).symm.trans h
      obtain rfl := Option.some.inj h
      exact rt_v hA0 hQ0 hx hb hr hlocks hP hS dX7_keepIfBetter_34
    · skip
      have h := (if_pos c4).symm.trans h
      refine lv_aload_n hx hb dX7_keepIfBetter_16 rfl (lv_at hl 0 rfl) ?_
      refine lv_iload_n hx hb dX7_keepIfBetter_17 rfl (lv_at hl 1 rfl) ?_
      refine cl_V [(q_t, .inr (6, [.int v_t_payer, .int v_t_leastWorth, .int v_t_leastBits]))] (As := [.int x1]) (rest := []) (rv := (some (.int (fX7_isSmaller v_t_payer v_t_leastWorth v_t_leastBits x1)))) (c_X7_isSmaller l D cI cJ q_t v_t_payer v_t_leastWorth v_t_leastBits x1) ⟨hx, hb, hml, hown, hts⟩ (cwV 1 hts gX7_keepIfBetter_X7_isSmaller rfl rfl rfl (by decide +kernel) ⟨(Nat.le_of_ble_eq_true rfl), (Nat.le_of_ble_eq_true rfl)⟩) hK hN hP hD hS [0] rfl (by decide) rfl rfl rfl (q0 := 0) (ci := 6) rfl rfl rfl rfl hl.1 rfl (Nat.le_of_ble_eq_true rfl) dX7_keepIfBetter_18 ⟨Nat.zero_le _, Nat.zero_le _⟩ (fun H locs hP hD hS => ?_)
      show W p l e ({ frames := 2, cells := 0, slots := 0, locals := 42 } : Room) s m args below meth c H locs 0 0 Q0 (F0 m 21 ls [.int (fX7_isSmaller v_t_payer v_t_leastWorth v_t_leastBits x1)])
      refine lv_if_eq (tgt := 34) hx hb dX7_keepIfBetter_21 (by decide) (fun c5 => ?_) (fun c5 => ?_)
      · skip
        have h := (if_pos c5).symm.trans h
        obtain rfl := Option.some.inj h
        exact rt_v hA0 hQ0 hx hb hr hlocks hP hS dX7_keepIfBetter_34
      · skip
        have h := (if_neg c5).symm.trans h
        exact J24_2 () _ _ _ h hP hD hS (lv_sub hl [0, 1, 2] rfl)
def fX7_choose_b (rec : (Int32) → (Int32) → (Int32) → (Int32) → (Int32) → (Int32) → (Nat → Int32) → (Nat → Int32) → (Nat → Int32) → Int32 → Int32 → Int32 → Int32 → Int32 → Option (Int32 × Int32)) (v_t_payer : Int32) (v_t_leastWorth : Int32) (v_t_leastBits : Int32) (v_p0_size : Int32) (v_p0_lostByHands : Int32) (v_p0_lostByMould : Int32) (v_p0_kinds : Nat → Int32) (v_p0_leaflets : Nat → Int32) (v_p0_owners : Nat → Int32) (x2 : Int32) (x3 : Int32) (x4 : Int32) (x5 : Int32) (x6 : Int32) : Option (Int32 × Int32) :=
  if v_t_leastWorth < x4 then (some (v_t_leastWorth, v_t_leastBits)) else (if x5 ≤ x6 then (if 0 < x5 then (if (fX4_knows v_p0_size v_p0_lostByHands v_p0_lostByMould x2) = 0 then (some (v_t_leastWorth, v_t_leastBits)) else (gd (inb x2 10) (if (v_p0_owners x2.toNatClampNeg) = v_t_payer then ((fX4_worthBehindHand v_p0_size v_p0_lostByHands v_p0_lostByMould v_p0_kinds v_p0_leaflets x2).bind (fun u7 => (rec v_t_payer v_t_leastWorth v_t_leastBits v_p0_size v_p0_lostByHands v_p0_lostByMould v_p0_kinds v_p0_leaflets v_p0_owners (x2 + 1) (x3 ||| (1 <<< (x2 &&& 31))) (x4 + (v_p0_leaflets x2.toNatClampNeg)) (x5 - u7) (x6 - u7)).bind (fun u9 => (rec v_t_payer u9.1 u9.2 v_p0_size v_p0_lostByHands v_p0_lostByMould v_p0_kinds v_p0_leaflets v_p0_owners (x2 + 1) x3 x4 x5 (x6 - u7)).bind (fun u11 => some (u11.1, u11.2))))) else ((rec v_t_payer v_t_leastWorth v_t_leastBits v_p0_size v_p0_lostByHands v_p0_lostByMould v_p0_kinds v_p0_leaflets v_p0_owners (x2 + 1) x3 x4 x5 x6).bind (fun u13 => some (u13.1, u13.2)))))) else ((fX7_keepIfBetter v_t_payer v_t_leastWorth v_t_leastBits x3 x4).bind (fun u15 => some (u15.1, u15.2)))) else (some (v_t_leastWorth, v_t_leastBits)))
def fX7_choose : Nat → (Int32) → (Int32) → (Int32) → (Int32) → (Int32) → (Int32) → (Nat → Int32) → (Nat → Int32) → (Nat → Int32) → Int32 → Int32 → Int32 → Int32 → Int32 → Option (Int32 × Int32)
  | 0 => fun _ _ _ _ _ _ _ _ _ _ _ _ _ _ => none
  | d + 1 => fX7_choose_b (fX7_choose d)
set_option maxHeartbeats 4000000 in
set_option maxRecDepth 100000 in
theorem c_X7_choose (l : Launch) (D : va_G) (cI cJ : ClassId) : ∀ (d : Nat) (q_t q_p0 q_p0_kinds q_p0_leaflets q_p0_owners q_p0_tears q_p0_debts : Nat) (v_t_payer : Int32) (v_t_leastWorth : Int32) (v_t_leastBits : Int32) (v_p0_size : Int32) (v_p0_lostByHands : Int32) (v_p0_lostByMould : Int32) (v_p0_kinds : Nat → Int32) (v_p0_leaflets : Nat → Int32) (v_p0_owners : Nat → Int32) (x2 : Int32) (x3 : Int32) (x4 : Int32) (x5 : Int32) (x6 : Int32) (z : Int32 × Int32) (h : fX7_choose d v_t_payer v_t_leastWorth v_t_leastBits v_p0_size v_p0_lostByHands v_p0_lostByMould v_p0_kinds v_p0_leaflets v_p0_owners x2 x3 x4 x5 x6 = some z), Met l yX7_choose wsX7_choose ({ frames := d + 3, cells := 0, slots := 0, locals := 27 * d + 66 } : Room) (va_Pc [.ref q_t, .ref q_p0, .int x2, .int x3, .int x4, .int x5, .int x6] (preG D cI cJ [(q_t, .inr (6, [.int v_t_payer, .int v_t_leastWorth, .int v_t_leastBits])), (q_p0, .inr (4, [.ref q_p0_kinds, .ref q_p0_leaflets, .ref q_p0_owners, .ref q_p0_tears, .ref q_p0_debts, .int v_p0_size, .int v_p0_lostByHands, .int v_p0_lostByMould])), (q_p0_kinds, .inl (cI, 10, .inl v_p0_kinds)), (q_p0_leaflets, .inl (cI, 10, .inl v_p0_leaflets)), (q_p0_owners, .inl (cI, 10, .inl v_p0_owners))])) (QG D [(q_t, .inr (6, [.int v_t_payer, .int v_t_leastWorth, .int v_t_leastBits])), (q_p0, .inr (4, [.ref q_p0_kinds, .ref q_p0_leaflets, .ref q_p0_owners, .ref q_p0_tears, .ref q_p0_debts, .int v_p0_size, .int v_p0_lostByHands, .int v_p0_lostByMould])), (q_p0_kinds, .inl (cI, 10, .inl v_p0_kinds)), (q_p0_leaflets, .inl (cI, 10, .inl v_p0_leaflets)), (q_p0_owners, .inl (cI, 10, .inl v_p0_owners))] [(q_t, .inr (6, [.int v_t_payer, .int z.1, .int z.2])), (q_p0, .inr (4, [.ref q_p0_kinds, .ref q_p0_leaflets, .ref q_p0_owners, .ref q_p0_tears, .ref q_p0_debts, .int v_p0_size, .int v_p0_lostByHands, .int v_p0_lostByMould])), (q_p0_kinds, .inl (cI, 10, .inl v_p0_kinds)), (q_p0_leaflets, .inl (cI, 10, .inl v_p0_leaflets)), (q_p0_owners, .inl (cI, 10, .inl v_p0_owners))] none) 0 0 (fr [(q_t, .inr (6, [.int v_t_payer, .int v_t_leastWorth, .int v_t_leastBits])), (q_p0, .inr (4, [.ref q_p0_kinds, .ref q_p0_leaflets, .ref q_p0_owners, .ref q_p0_tears, .ref q_p0_debts, .int v_p0_size, .int v_p0_lostByHands, .int v_p0_lostByMould])), (q_p0_kinds, .inl (cI, 10, .inl v_p0_kinds)), (q_p0_leaflets, .inl (cI, 10, .inl v_p0_leaflets)), (q_p0_owners, .inl (cI, 10, .inl v_p0_owners))]) := by
  intro d
  induction d with
  | zero =>
    intro q_t q_p0 q_p0_kinds q_p0_leaflets q_p0_owners q_p0_tears q_p0_debts v_t_payer v_t_leastWorth v_t_leastBits v_p0_size v_p0_lostByHands v_p0_lostByMould v_p0_kinds v_p0_leaflets v_p0_owners x2 x3 x4 x5 x6 z h
    cases h
  | succ d ihd =>
    intro q_t q_p0 q_p0_kinds q_p0_leaflets q_p0_owners q_p0_tears q_p0_debts v_t_payer v_t_leastWorth v_t_leastBits v_p0_size v_p0_lostByHands v_p0_lostByMould v_p0_kinds v_p0_leaflets v_p0_owners x2 x3 x4 x5 x6 z h
    have h : fX7_choose_b (fX7_choose d) v_t_payer v_t_leastWorth v_t_leastBits v_p0_size v_p0_lostByHands v_p0_lostByMould v_p0_kinds v_p0_leaflets v_p0_owners x2 x3 x4 x5 x6 = some z := h
    generalize hrec : fX7_choose d = rec at h ihd
    refine Met.ofW (cc := cX7_choose) (maxL := 8) (ret := none) (by decide) rfl ?_
    intro p e s m args below meth c s₁ B hml hv
    obtain ⟨hargs, hP, hK, hN, hD0⟩ := hv
    have hx := B.exec
    have hb := B.bytes
    have hr := B.returns
    have hts := atoms_spec (ws := wsX7_choose) B.pre
    have hown : s.vm.findClass RX7 = some m.cls := findClass_of_methodNamed B.named
    have hlocks := B.notSynchronized
    have iX4 : ∀ w ∈ wsX40, w ∈ wsX7_choose := by decide +kernel
    have iX7 : ∀ w ∈ wsX70, w ∈ wsX7_choose := by decide +kernel
    have k9 := hts (.fieldLink RX7 9 "PressedFerns$Purse" "payer" "I") (by decide +kernel)
    have k15 := hts (.fieldLink RX7 15 "PressedFerns$Purse" "leastWorth" "I") (by decide +kernel)
    have k26 := hts (.fieldLink RX7 26 "PressedFerns$Herbarium" "owners" "[I") (by decide +kernel)
    have k46 := hts (.fieldLink RX7 46 "PressedFerns$Herbarium" "leaflets" "[I") (by decide +kernel)
    have hD := fr_D hD0
    have hS : va_S (fr [(q_t, .inr (6, [.int v_t_payer, .int v_t_leastWorth, .int v_t_leastBits])), (q_p0, .inr (4, [.ref q_p0_kinds, .ref q_p0_leaflets, .ref q_p0_owners, .ref q_p0_tears, .ref q_p0_debts, .int v_p0_size, .int v_p0_lostByHands, .int v_p0_lostByMould])), (q_p0_kinds, .inl (cI, 10, .inl v_p0_kinds)), (q_p0_leaflets, .inl (cI, 10, .inl v_p0_leaflets)), (q_p0_owners, .inl (cI, 10, .inl v_p0_owners))]) s.heap s.heap [] := va_S.rf
    have hl := lv_entry ([.ref q_t, .ref q_p0, .int x2, .int x3, .int x4, .int x5, .int x6]) (n := 8) (Nat.le_of_ble_eq_true rfl)
    refine W.eq (g2 := F0 m 0 ((lg_sl ([.ref q_t, .ref q_p0, .int x2, .int x3, .int x4, .int x5, .int x6]) ++ List.replicate (8 - (lg_sl ([.ref q_t, .ref q_p0, .int x2, .int x3, .int x4, .int x5, .int x6])).length) Slot.unset).toArray) []) (by rw [hargs, lg_entry_eq]) ?_
    generalize (lg_sl ([.ref q_t, .ref q_p0, .int x2, .int x3, .int x4, .int x5, .int x6]) ++ List.replicate (8 - (lg_sl ([.ref q_t, .ref q_p0, .int x2, .int x3, .int x4, .int x5, .int x6])).length) Slot.unset).toArray = ls at hl ⊢
    have hl : lv_has ls 8 [(0, .ref q_t), (1, .ref q_p0), (2, .int x2), (3, .int x3), (4, .int x4), (5, .int x5), (6, .int x6)] := hl
    show W p l e ({ frames := d + 1 + 3, cells := 0, slots := 0, locals := 27 * (d + 1) + 66 } : Room) s m args below meth c s.heap [] 0 0 (MQ below (QG D [(q_t, .inr (6, [.int v_t_payer, .int v_t_leastWorth, .int v_t_leastBits])), (q_p0, .inr (4, [.ref q_p0_kinds, .ref q_p0_leaflets, .ref q_p0_owners, .ref q_p0_tears, .ref q_p0_debts, .int v_p0_size, .int v_p0_lostByHands, .int v_p0_lostByMould])), (q_p0_kinds, .inl (cI, 10, .inl v_p0_kinds)), (q_p0_leaflets, .inl (cI, 10, .inl v_p0_leaflets)), (q_p0_owners, .inl (cI, 10, .inl v_p0_owners))] [(q_t, .inr (6, [.int v_t_payer, .int z.1, .int z.2])), (q_p0, .inr (4, [.ref q_p0_kinds, .ref q_p0_leaflets, .ref q_p0_owners, .ref q_p0_tears, .ref q_p0_debts, .int v_p0_size, .int v_p0_lostByHands, .int v_p0_lostByMould])), (q_p0_kinds, .inl (cI, 10, .inl v_p0_kinds)), (q_p0_leaflets, .inl (cI, 10, .inl v_p0_leaflets)), (q_p0_owners, .inl (cI, 10, .inl v_p0_owners))] none) args s 0 0 (fr [(q_t, .inr (6, [.int v_t_payer, .int v_t_leastWorth, .int v_t_leastBits])), (q_p0, .inr (4, [.ref q_p0_kinds, .ref q_p0_leaflets, .ref q_p0_owners, .ref q_p0_tears, .ref q_p0_debts, .int v_p0_size, .int v_p0_lostByHands, .int v_p0_lostByMould])), (q_p0_kinds, .inl (cI, 10, .inl v_p0_kinds)), (q_p0_leaflets, .inl (cI, 10, .inl v_p0_leaflets)), (q_p0_owners, .inl (cI, 10, .inl v_p0_owners))])) (F0 m 0 ls [])
    generalize hQ0 : (MQ below (QG D [(q_t, .inr (6, [.int v_t_payer, .int v_t_leastWorth, .int v_t_leastBits])), (q_p0, .inr (4, [.ref q_p0_kinds, .ref q_p0_leaflets, .ref q_p0_owners, .ref q_p0_tears, .ref q_p0_debts, .int v_p0_size, .int v_p0_lostByHands, .int v_p0_lostByMould])), (q_p0_kinds, .inl (cI, 10, .inl v_p0_kinds)), (q_p0_leaflets, .inl (cI, 10, .inl v_p0_leaflets)), (q_p0_owners, .inl (cI, 10, .inl v_p0_owners))] [(q_t, .inr (6, [.int v_t_payer, .int z.1, .int z.2])), (q_p0, .inr (4, [.ref q_p0_kinds, .ref q_p0_leaflets, .ref q_p0_owners, .ref q_p0_tears, .ref q_p0_debts, .int v_p0_size, .int v_p0_lostByHands, .int v_p0_lostByMould])), (q_p0_kinds, .inl (cI, 10, .inl v_p0_kinds)), (q_p0_leaflets, .inl (cI, 10, .inl v_p0_leaflets)), (q_p0_owners, .inl (cI, 10, .inl v_p0_owners))] none) args s 0 0 (fr [(q_t, .inr (6, [.int v_t_payer, .int v_t_leastWorth, .int v_t_leastBits])), (q_p0, .inr (4, [.ref q_p0_kinds, .ref q_p0_leaflets, .ref q_p0_owners, .ref q_p0_tears, .ref q_p0_debts, .int v_p0_size, .int v_p0_lostByHands, .int v_p0_lostByMould])), (q_p0_kinds, .inl (cI, 10, .inl v_p0_kinds)), (q_p0_leaflets, .inl (cI, 10, .inl v_p0_leaflets)), (q_p0_owners, .inl (cI, 10, .inl v_p0_owners))])) = Q0
    generalize hA0 : fr [(q_t, .inr (6, [.int v_t_payer, .int v_t_leastWorth, .int v_t_leastBits])), (q_p0, .inr (4, [.ref q_p0_kinds, .ref q_p0_leaflets, .ref q_p0_owners, .ref q_p0_tears, .ref q_p0_debts, .int v_p0_size, .int v_p0_lostByHands, .int v_p0_lostByMould])), (q_p0_kinds, .inl (cI, 10, .inl v_p0_kinds)), (q_p0_leaflets, .inl (cI, 10, .inl v_p0_leaflets)), (q_p0_owners, .inl (cI, 10, .inl v_p0_owners))] = A0 at hD hS
    unfold fX7_choose_b at h
    refine lv_iload hx hb dX7_choose_0 (lv_at hl 4 rfl) ?_
    refine lv_aload_n hx hb dX7_choose_2 rfl (lv_at hl 0 rfl) ?_
    refine va_get (own := RX7) (ci := 6) (v := .int v_t_leastWorth) (C := RX7) (T := TX7) (N := 3) hx hb hts iX7 hown hK hP 0 rfl rfl 1 (by decide) k15 (fun _ h9 => h9) rfl dX7_choose_3 ?_
    refine lv_icmp_gt (tgt := 16) hx hb dX7_choose_6 (by decide) (fun c1 => ?_) (fun c1 => ?_)
    · skip
      have h := (if_pos c1).symm.trans h
      obtain rfl := Option.some.inj h
      exact rt_v hA0 hQ0 hx hb hr hlocks hP hS dX7_choose_16
    · skip
      have h := (if_neg c1).symm.trans h
      refine lv_iload hx hb dX7_choose_9 (lv_at hl 5 rfl) ?_
      refine lv_iload hx hb dX7_choose_11 (lv_at hl 6 rfl) ?_
      refine lv_icmp_le (tgt := 17) hx hb dX7_choose_13 (by decide) (fun c2 => ?_) (fun c2 => ?_)
      · skip
        have h := (if_pos c2).symm.trans h
        refine lv_iload hx hb dX7_choose_17 (lv_at hl 5 rfl) ?_
        refine lv_if_gt (tgt := 30) hx hb dX7_choose_19 (by decide) (fun c3 => ?_) (fun c3 => ?_)
        · skip
          have h := (if_pos c3).symm.trans h
          refine lv_aload_n hx hb dX7_choose_30 rfl (lv_at hl 1 rfl) ?_
          refine lv_iload_n hx hb dX7_choose_31 rfl (lv_at hl 2 rfl) ?_
          refine cl_V [(q_t, .inr (6, [.int v_t_payer, .int v_t_leastWorth, .int v_t_leastBits])), (q_p0, .inr (4, [.ref q_p0_kinds, .ref q_p0_leaflets, .ref q_p0_owners, .ref q_p0_tears, .ref q_p0_debts, .int v_p0_size, .int v_p0_lostByHands, .int v_p0_lostByMould])), (q_p0_kinds, .inl (cI, 10, .inl v_p0_kinds)), (q_p0_leaflets, .inl (cI, 10, .inl v_p0_leaflets)), (q_p0_owners, .inl (cI, 10, .inl v_p0_owners))] (As := [.int x2]) (rest := []) (rv := (some (.int (fX4_knows v_p0_size v_p0_lostByHands v_p0_lostByMould x2)))) (c_X4_knows l D cI cJ q_p0 q_p0_kinds q_p0_leaflets q_p0_owners q_p0_tears q_p0_debts v_p0_size v_p0_lostByHands v_p0_lostByMould x2) ⟨hx, hb, hml, hown, hts⟩ (cwV 1 hts gX7_choose_X4_knows rfl rfl rfl (by decide +kernel) ⟨by simp only [headSpec]; omega, by simp only [headSpec]; omega⟩) hK hN hP hD hS [1] rfl (by decide) rfl rfl rfl (q0 := 1) (ci := 4) rfl rfl rfl rfl hl.1 rfl (Nat.le_of_ble_eq_true rfl) dX7_choose_32 ⟨Nat.zero_le _, Nat.zero_le _⟩ (fun H locs hP hD hS => ?_)
          show W p l e ({ frames := d + 1 + 3, cells := 0, slots := 0, locals := 27 * (d + 1) + 66 } : Room) s m args below meth c H locs 0 0 Q0 (F0 m 35 ls [.int (fX4_knows v_p0_size v_p0_lostByHands v_p0_lostByMould x2)])
          refine lv_if_ne (tgt := 39) hx hb dX7_choose_35 (by decide) (fun c4 => ?_) (fun c4 => ?_)
          · skip
            have h := (if_neg c4).symm.trans h
            refine lv_aload_n hx hb dX7_choose_39 rfl (lv_at hl 1 rfl) ?_
            refine va_get (own := RX7) (ci := 4) (v := .ref q_p0_owners) (C := RX4) (T := TX4) (N := 8) hx hb hts iX4 hown hK hP 1 rfl rfl 2 (by decide) k26 (fun _ h9 => h9) rfl dX7_choose_40 ?_
            refine lv_iload_n hx hb dX7_choose_43 rfl (lv_at hl 2 rfl) ?_
            obtain ⟨g5, h⟩ := gd_of h
            refine va_iald hx hb hK hP 4 0 rfl rfl (inb_of g5) dX7_choose_44 ?_
            refine lv_aload_n hx hb dX7_choose_45 rfl (lv_at hl 0 rfl) ?_
            refine va_get (own := RX7) (ci := 6) (v := .int v_t_payer) (C := RX7) (T := TX7) (N := 3) hx hb hts iX7 hown hK hP 0 rfl rfl 0 (by decide) k9 (fun _ h9 => h9) rfl dX7_choose_46 ?_
            refine lv_icmp_eq (tgt := 68) hx hb dX7_choose_49 (by decide) (fun c6 => ?_) (fun c6 => ?_)
            · skip
              have h := (if_pos c6).symm.trans h
              refine lv_aload_n hx hb dX7_choose_68 rfl (lv_at hl 1 rfl) ?_
              refine lv_iload_n hx hb dX7_choose_69 rfl (lv_at hl 2 rfl) ?_
              obtain ⟨u7, g8, h⟩ := bd_of h
              refine cl_V [(q_t, .inr (6, [.int v_t_payer, .int v_t_leastWorth, .int v_t_leastBits])), (q_p0, .inr (4, [.ref q_p0_kinds, .ref q_p0_leaflets, .ref q_p0_owners, .ref q_p0_tears, .ref q_p0_debts, .int v_p0_size, .int v_p0_lostByHands, .int v_p0_lostByMould])), (q_p0_kinds, .inl (cI, 10, .inl v_p0_kinds)), (q_p0_leaflets, .inl (cI, 10, .inl v_p0_leaflets)), (q_p0_owners, .inl (cI, 10, .inl v_p0_owners))] (As := [.int x2]) (rest := []) (rv := (some (.int u7))) (c_X4_worthBehindHand l D cI cJ q_p0 q_p0_kinds q_p0_leaflets q_p0_owners q_p0_tears q_p0_debts v_p0_size v_p0_lostByHands v_p0_lostByMould v_p0_kinds v_p0_leaflets x2 u7 g8) ⟨hx, hb, hml, hown, hts⟩ (cwV 1 hts gX7_choose_X4_worthBehindHand rfl rfl rfl (by decide +kernel) ⟨by simp only [headSpec]; omega, by simp only [headSpec]; omega⟩) hK hN hP hD hS [1, 2, 3] rfl (by decide) rfl rfl rfl (q0 := 1) (ci := 4) rfl rfl rfl rfl hl.1 rfl (Nat.le_of_ble_eq_true rfl) dX7_choose_70 ⟨Nat.zero_le _, Nat.zero_le _⟩ (fun H locs hP hD hS => ?_)
              show W p l e ({ frames := d + 1 + 3, cells := 0, slots := 0, locals := 27 * (d + 1) + 66 } : Room) s m args below meth c H locs 0 0 Q0 (F0 m 73 ls [.int u7])
              refine lv_istore (lv' := [(7, .int u7), (0, .ref q_t), (1, .ref q_p0), (2, .int x2), (3, .int x3), (4, .int x4), (5, .int x5), (6, .int x6)]) hx hb dX7_choose_73 hl (by decide) rfl (fun ls hl => ?_)
              refine lv_aload_n hx hb dX7_choose_75 rfl (lv_at hl 1 rfl) ?_
              refine lv_aload_n hx hb dX7_choose_76 rfl (lv_at hl 2 rfl) ?_
              refine lv_iload_n hx hb dX7_choose_77 rfl (lv_at hl 3 rfl) ?_
              refine lv_iconst (v := 1) hx hb dX7_choose_78 (by decide) ?_
              refine lv_iadd hx hb dX7_choose_79 ?_
              refine lv_iload_n hx hb dX7_choose_80 rfl (lv_at hl 4 rfl) ?_
              refine lv_iconst (v := 1) hx hb dX7_choose_81 (by decide) ?_
              refine lv_iload_n hx hb dX7_choose_82 rfl (lv_at hl 3 rfl) ?_
              refine lv_ishl hx hb dX7_choose_83 ?_
              refine lv_ior hx hb dX7_choose_84 ?_
              refine lv_iload hx hb dX7_choose_85 (lv_at hl 5 rfl) ?_
              refine lv_aload_n hx hb dX7_choose_87 rfl (lv_at hl 2 rfl) ?_
              refine va_get (own := RX7) (ci := 4) (v := .ref q_p0_leaflets) (C := RX4) (T := TX4) (N := 8) hx hb hts iX4 hown hK hP 1 rfl rfl 1 (by decide) k46 (fun _ h9 => h9) rfl dX7_choose_88 ?_
              refine lv_iload_n hx hb dX7_choose_91 rfl (lv_at hl 3 rfl) ?_
              refine va_iald hx hb hK hP 3 0 rfl rfl (inb_of g5) dX7_choose_92 ?_
              refine lv_iadd hx hb dX7_choose_93 ?_
              refine lv_iload hx hb dX7_choose_94 (lv_at hl 6 rfl) ?_
              refine lv_iload hx hb dX7_choose_96 (lv_at hl 0 rfl) ?_
              refine lv_isub hx hb dX7_choose_98 ?_
              refine lv_iload hx hb dX7_choose_99 (lv_at hl 7 rfl) ?_
              refine lv_iload hx hb dX7_choose_101 (lv_at hl 0 rfl) ?_
              refine lv_isub hx hb dX7_choose_103 ?_
              obtain ⟨u9, g10, h⟩ := bd_of h
              refine cl_V [(q_t, .inr (6, [.int v_t_payer, .int u9.1, .int u9.2])), (q_p0, .inr (4, [.ref q_p0_kinds, .ref q_p0_leaflets, .ref q_p0_owners, .ref q_p0_tears, .ref q_p0_debts, .int v_p0_size, .int v_p0_lostByHands, .int v_p0_lostByMould])), (q_p0_kinds, .inl (cI, 10, .inl v_p0_kinds)), (q_p0_leaflets, .inl (cI, 10, .inl v_p0_leaflets)), (q_p0_owners, .inl (cI, 10, .inl v_p0_owners))] (As := [.ref q_p0, .int (x2 + 1), .int (x3 ||| (1 <<< (x2 &&& 31))), .int (x4 + (v_p0_leaflets x2.toNatClampNeg)), .int (x5 - u7), .int (x6 - u7)]) (rest := []) (rv := none) (ihd q_t q_p0 q_p0_kinds q_p0_leaflets q_p0_owners q_p0_tears q_p0_debts v_t_payer v_t_leastWorth v_t_leastBits v_p0_size v_p0_lostByHands v_p0_lostByMould v_p0_kinds v_p0_leaflets v_p0_owners (x2 + 1) (x3 ||| (1 <<< (x2 &&& 31))) (x4 + (v_p0_leaflets x2.toNatClampNeg)) (x5 - u7) (x6 - u7) u9 g10) ⟨hx, hb, hml, hown, hts⟩ (cwV 6 hts gX7_choose_X7_choose rfl rfl rfl (by decide +kernel) ⟨by simp only [headSpec]; omega, by simp only [headSpec]; omega⟩) hK hN hP hD hS [0, 1, 2, 3, 4] rfl (by decide) rfl rfl rfl (q0 := 0) (ci := 6) rfl rfl rfl rfl hl.1 rfl (Nat.le_of_ble_eq_true rfl) dX7_choose_104 ⟨Nat.zero_le _, Nat.zero_le _⟩ (fun H locs hP hD hS => ?_)
              show W p l e ({ frames := d + 1 + 3, cells := 0, slots := 0, locals := 27 * (d + 1) + 66 } : Room) s m args below meth c H locs 0 0 Q0 (F0 m 107 ls [])
              refine lv_aload_n hx hb dX7_choose_107 rfl (lv_at hl 1 rfl) ?_
              refine lv_aload_n hx hb dX7_choose_108 rfl (lv_at hl 2 rfl) ?_
              refine lv_iload_n hx hb dX7_choose_109 rfl (lv_at hl 3 rfl) ?_
              refine lv_iconst (v := 1) hx hb dX7_choose_110 (by decide) ?_
              refine lv_iadd hx hb dX7_choose_111 ?_
              refine lv_iload_n hx hb dX7_choose_112 rfl (lv_at hl 4 rfl) ?_
              refine lv_iload hx hb dX7_choose_113 (lv_at hl 5 rfl) ?_
              refine lv_iload hx hb dX7_choose_115 (lv_at hl 6 rfl) ?_
              refine lv_iload hx hb dX7_choose_117 (lv_at hl 7 rfl) ?_
              refine lv_iload hx hb dX7_choose_119 (lv_at hl 0 rfl) ?_
              refine lv_isub hx hb dX7_choose_121 ?_
              obtain ⟨u11, g12, h⟩ := bd_of h
              refine cl_V [(q_t, .inr (6, [.int v_t_payer, .int u11.1, .int u11.2])), (q_p0, .inr (4, [.ref q_p0_kinds, .ref q_p0_leaflets, .ref q_p0_owners, .ref q_p0_tears, .ref q_p0_debts, .int v_p0_size, .int v_p0_lostByHands, .int v_p0_lostByMould])), (q_p0_kinds, .inl (cI, 10, .inl v_p0_kinds)), (q_p0_leaflets, .inl (cI, 10, .inl v_p0_leaflets)), (q_p0_owners, .inl (cI, 10, .inl v_p0_owners))] (As := [.ref q_p0, .int (x2 + 1), .int x3, .int x4, .int x5, .int (x6 - u7)]) (rest := []) (rv := none) (ihd q_t q_p0 q_p0_kinds q_p0_leaflets q_p0_owners q_p0_tears q_p0_debts v_t_payer u9.1 u9.2 v_p0_size v_p0_lostByHands v_p0_lostByMould v_p0_kinds v_p0_leaflets v_p0_owners (x2 + 1) x3 x4 x5 (x6 - u7) u11 g12) ⟨hx, hb, hml, hown, hts⟩ (cwV 6 hts gX7_choose_X7_choose rfl rfl rfl (by decide +kernel) ⟨by simp only [headSpec]; omega, by simp only [headSpec]; omega⟩) hK hN hP hD hS [0, 1, 2, 3, 4] rfl (by decide) rfl rfl rfl (q0 := 0) (ci := 6) rfl rfl rfl rfl hl.1 rfl (Nat.le_of_ble_eq_true rfl) dX7_choose_122 ⟨Nat.zero_le _, Nat.zero_le _⟩ (fun H locs hP hD hS => ?_)
              show W p l e ({ frames := d + 1 + 3, cells := 0, slots := 0, locals := 27 * (d + 1) + 66 } : Room) s m args below meth c H locs 0 0 Q0 (F0 m 125 ls [])
              obtain rfl := Option.some.inj h
              exact rt_v hA0 hQ0 hx hb hr hlocks hP hS dX7_choose_125
            · skip
              have h := (if_neg c6).symm.trans h
              refine lv_aload_n hx hb dX7_choose_52 rfl (lv_at hl 0 rfl) ?_
              refine lv_aload_n hx hb dX7_choose_53 rfl (lv_at hl 1 rfl) ?_
              refine lv_iload_n hx hb dX7_choose_54 rfl (lv_at hl 2 rfl) ?_
              refine lv_iconst (v := 1) hx hb dX7_choose_55 (by decide) ?_
              refine lv_iadd hx hb dX7_choose_56 ?_
              refine lv_iload_n hx hb dX7_choose_57 rfl (lv_at hl 3 rfl) ?_
              refine lv_iload hx hb dX7_choose_58 (lv_at hl 4 rfl) ?_
              refine lv_iload hx hb dX7_choose_60 (lv_at hl 5 rfl) ?_
              refine lv_iload hx hb dX7_choose_62 (lv_at hl 6 rfl) ?_
              obtain ⟨u13, g14, h⟩ := bd_of h
              refine cl_V [(q_t, .inr (6, [.int v_t_payer, .int u13.1, .int u13.2])), (q_p0, .inr (4, [.ref q_p0_kinds, .ref q_p0_leaflets, .ref q_p0_owners, .ref q_p0_tears, .ref q_p0_debts, .int v_p0_size, .int v_p0_lostByHands, .int v_p0_lostByMould])), (q_p0_kinds, .inl (cI, 10, .inl v_p0_kinds)), (q_p0_leaflets, .inl (cI, 10, .inl v_p0_leaflets)), (q_p0_owners, .inl (cI, 10, .inl v_p0_owners))] (As := [.ref q_p0, .int (x2 + 1), .int x3, .int x4, .int x5, .int x6]) (rest := []) (rv := none) (ihd q_t q_p0 q_p0_kinds q_p0_leaflets q_p0_owners q_p0_tears q_p0_debts v_t_payer v_t_leastWorth v_t_leastBits v_p0_size v_p0_lostByHands v_p0_lostByMould v_p0_kinds v_p0_leaflets v_p0_owners (x2 + 1) x3 x4 x5 x6 u13 g14) ⟨hx, hb, hml, hown, hts⟩ (cwV 6 hts gX7_choose_X7_choose rfl rfl rfl (by decide +kernel) ⟨by simp only [headSpec]; omega, by simp only [headSpec]; omega⟩) hK hN hP hD hS [0, 1, 2, 3, 4] rfl (by decide) rfl rfl rfl (q0 := 0) (ci := 6) rfl rfl rfl rfl hl.1 rfl (Nat.le_of_ble_eq_true rfl) dX7_choose_64 ⟨Nat.zero_le _, Nat.zero_le _⟩ (fun H locs hP hD hS => ?_)
              show W p l e ({ frames := d + 1 + 3, cells := 0, slots := 0, locals := 27 * (d + 1) + 66 } : Room) s m args below meth c H locs 0 0 Q0 (F0 m 67 ls [])
              obtain rfl := Option.some.inj h
              exact rt_v hA0 hQ0 hx hb hr hlocks hP hS dX7_choose_67
          · skip
            have h := (if_pos c4).symm.trans h
            obtain rfl := Option.some.inj h
            exact rt_v hA0 hQ0 hx hb hr hlocks hP hS dX7_choose_38
        · skip
          have h := (if_neg c3).symm.trans h
          refine lv_aload_n hx hb dX7_choose_22 rfl (lv_at hl 0 rfl) ?_
          refine lv_iload_n hx hb dX7_choose_23 rfl (lv_at hl 3 rfl) ?_
          refine lv_iload hx hb dX7_choose_24 (lv_at hl 4 rfl) ?_
          obtain ⟨u15, g16, h⟩ := bd_of h
          refine cl_V [(q_t, .inr (6, [.int v_t_payer, .int u15.1, .int u15.2])), (q_p0, .inr (4, [.ref q_p0_kinds, .ref q_p0_leaflets, .ref q_p0_owners, .ref q_p0_tears, .ref q_p0_debts, .int v_p0_size, .int v_p0_lostByHands, .int v_p0_lostByMould])), (q_p0_kinds, .inl (cI, 10, .inl v_p0_kinds)), (q_p0_leaflets, .inl (cI, 10, .inl v_p0_leaflets)), (q_p0_owners, .inl (cI, 10, .inl v_p0_owners))] (As := [.int x3, .int x4]) (rest := []) (rv := none) (c_X7_keepIfBetter l D cI cJ q_t v_t_payer v_t_leastWorth v_t_leastBits x3 x4 u15 g16) ⟨hx, hb, hml, hown, hts⟩ (cwV 2 hts gX7_choose_X7_keepIfBetter rfl rfl rfl (by decide +kernel) ⟨by simp only [headSpec]; omega, by simp only [headSpec]; omega⟩) hK hN hP hD hS [0] rfl (by decide) rfl rfl rfl (q0 := 0) (ci := 6) rfl rfl rfl rfl hl.1 rfl (Nat.le_of_ble_eq_true rfl) dX7_choose_26 ⟨Nat.zero_le _, Nat.zero_le _⟩ (fun H locs hP hD hS => ?_)
          show W p l e ({ frames := d + 1 + 3, cells := 0, slots := 0, locals := 27 * (d + 1) + 66 } : Room) s m args below meth c H locs 0 0 Q0 (F0 m 29 ls [])
          obtain rfl := Option.some.inj h
          exact rt_v hA0 hQ0 hx hb hr hlocks hP hS dX7_choose_29
      · skip
        have h := (if_neg c2).symm.trans h
        obtain rfl := Option.some.inj h
        exact rt_v hA0 hQ0 hx hb hr hlocks hP hS dX7_choose_16
def fX7_search_X22_59 (v_p0_size : Int32) (v_p0_lostByHands : Int32) (v_p0_lostByMould : Int32) (v_p0_kinds : Nat → Int32) (v_p0_leaflets : Nat → Int32) (v_p0_owners : Nat → Int32) (x2 : Int32) (x3 : Int32) (a3 : Int32) : Option (Int32 × Int32 × Int32) :=
  (fX7_choose 12 x2 91 (-1) v_p0_size v_p0_lostByHands v_p0_lostByMould v_p0_kinds v_p0_leaflets v_p0_owners 0 0 0 x3 a3).bind (fun u5 => some (x2, u5.1, u5.2))
def fX7_search_J53 (z1 : Int32 × Int32) (a10 : Int32) : Option ((Int32 × Int32) ⊕ (Int32)) :=
  some (Sum.inl (a10, (z1.2 + 1)))
def fX7_search_L22 (v_p0_size : Int32) (v_p0_lostByHands : Int32) (v_p0_lostByMould : Int32) (v_p0_kinds : Nat → Int32) (v_p0_leaflets : Nat → Int32) (v_p0_owners : Nat → Int32) (x2 : Int32) (z1 : Int32 × Int32) : Option ((Int32 × Int32) ⊕ (Int32)) :=
  if v_p0_size ≤ z1.2 then (some (Sum.inr z1.1)) else (gd (inb z1.2 10) (if (v_p0_owners z1.2.toNatClampNeg) = x2 then ((fX4_worthBehindHand v_p0_size v_p0_lostByHands v_p0_lostByMould v_p0_kinds v_p0_leaflets z1.2).bind (fun u13 => fX7_search_J53 z1 (z1.1 + u13))) else (fX7_search_J53 z1 z1.1)))
def fX7_search (v_t_payer : Int32) (v_t_leastWorth : Int32) (v_t_leastBits : Int32) (v_p0_size : Int32) (v_p0_lostByHands : Int32) (v_p0_lostByMould : Int32) (v_p0_kinds : Nat → Int32) (v_p0_leaflets : Nat → Int32) (v_p0_owners : Nat → Int32) (x2 : Int32) (x3 : Int32) : Option (Int32 × Int32 × Int32) :=
  (iter (fX7_search_L22 v_p0_size v_p0_lostByHands v_p0_lostByMould v_p0_kinds v_p0_leaflets v_p0_owners x2) FU (0, 0)).bind (fX7_search_X22_59 v_p0_size v_p0_lostByHands v_p0_lostByMould v_p0_kinds v_p0_leaflets v_p0_owners x2 x3)
set_option maxHeartbeats 4000000 in
set_option maxRecDepth 100000 in
theorem c_X7_search (l : Launch) (D : va_G) (cI cJ : ClassId) (q_t q_p0 q_p0_kinds q_p0_leaflets q_p0_owners q_p0_tears q_p0_debts : Nat) (v_t_payer : Int32) (v_t_leastWorth : Int32) (v_t_leastBits : Int32) (v_p0_size : Int32) (v_p0_lostByHands : Int32) (v_p0_lostByMould : Int32) (v_p0_kinds : Nat → Int32) (v_p0_leaflets : Nat → Int32) (v_p0_owners : Nat → Int32) (x2 : Int32) (x3 : Int32) (z : Int32 × Int32 × Int32) (h : fX7_search v_t_payer v_t_leastWorth v_t_leastBits v_p0_size v_p0_lostByHands v_p0_lostByMould v_p0_kinds v_p0_leaflets v_p0_owners x2 x3 = some z) : Met l yX7_search wsX7_search ({ frames := 16, cells := 0, slots := 0, locals := 417 } : Room) (va_Pc [.ref q_t, .ref q_p0, .int x2, .int x3] (preG D cI cJ [(q_t, .inr (6, [.int v_t_payer, .int v_t_leastWorth, .int v_t_leastBits])), (q_p0, .inr (4, [.ref q_p0_kinds, .ref q_p0_leaflets, .ref q_p0_owners, .ref q_p0_tears, .ref q_p0_debts, .int v_p0_size, .int v_p0_lostByHands, .int v_p0_lostByMould])), (q_p0_kinds, .inl (cI, 10, .inl v_p0_kinds)), (q_p0_leaflets, .inl (cI, 10, .inl v_p0_leaflets)), (q_p0_owners, .inl (cI, 10, .inl v_p0_owners))])) (QG D [(q_t, .inr (6, [.int v_t_payer, .int v_t_leastWorth, .int v_t_leastBits])), (q_p0, .inr (4, [.ref q_p0_kinds, .ref q_p0_leaflets, .ref q_p0_owners, .ref q_p0_tears, .ref q_p0_debts, .int v_p0_size, .int v_p0_lostByHands, .int v_p0_lostByMould])), (q_p0_kinds, .inl (cI, 10, .inl v_p0_kinds)), (q_p0_leaflets, .inl (cI, 10, .inl v_p0_leaflets)), (q_p0_owners, .inl (cI, 10, .inl v_p0_owners))] [(q_t, .inr (6, [.int z.1, .int z.2.1, .int z.2.2])), (q_p0, .inr (4, [.ref q_p0_kinds, .ref q_p0_leaflets, .ref q_p0_owners, .ref q_p0_tears, .ref q_p0_debts, .int v_p0_size, .int v_p0_lostByHands, .int v_p0_lostByMould])), (q_p0_kinds, .inl (cI, 10, .inl v_p0_kinds)), (q_p0_leaflets, .inl (cI, 10, .inl v_p0_leaflets)), (q_p0_owners, .inl (cI, 10, .inl v_p0_owners))] none) 0 0 (fr [(q_t, .inr (6, [.int v_t_payer, .int v_t_leastWorth, .int v_t_leastBits])), (q_p0, .inr (4, [.ref q_p0_kinds, .ref q_p0_leaflets, .ref q_p0_owners, .ref q_p0_tears, .ref q_p0_debts, .int v_p0_size, .int v_p0_lostByHands, .int v_p0_lostByMould])), (q_p0_kinds, .inl (cI, 10, .inl v_p0_kinds)), (q_p0_leaflets, .inl (cI, 10, .inl v_p0_leaflets)), (q_p0_owners, .inl (cI, 10, .inl v_p0_owners))]) := by
  refine Met.ofW (cc := cX7_search) (maxL := 6) (ret := none) (by decide) rfl ?_
  intro p e s m args below meth c s₁ B hml hv
  obtain ⟨hargs, hP, hK, hN, hD0⟩ := hv
  have hx := B.exec
  have hb := B.bytes
  have hr := B.returns
  have hts := atoms_spec (ws := wsX7_search) B.pre
  have hown : s.vm.findClass RX7 = some m.cls := findClass_of_methodNamed B.named
  have hlocks := B.notSynchronized
  have iX4 : ∀ w ∈ wsX40, w ∈ wsX7_search := by decide +kernel
  have iX7 : ∀ w ∈ wsX70, w ∈ wsX7_search := by decide +kernel
  have k9 := hts (.fieldLink RX7 9 "PressedFerns$Purse" "payer" "I") (by decide +kernel)
  have k15 := hts (.fieldLink RX7 15 "PressedFerns$Purse" "leastWorth" "I") (by decide +kernel)
  have k18 := hts (.fieldLink RX7 18 "PressedFerns$Purse" "leastBits" "I") (by decide +kernel)
  have k21 := hts (.fieldLink RX7 21 "PressedFerns$Herbarium" "size" "I") (by decide +kernel)
  have k26 := hts (.fieldLink RX7 26 "PressedFerns$Herbarium" "owners" "[I") (by decide +kernel)
  have hD := fr_D hD0
  have hS : va_S (fr [(q_t, .inr (6, [.int v_t_payer, .int v_t_leastWorth, .int v_t_leastBits])), (q_p0, .inr (4, [.ref q_p0_kinds, .ref q_p0_leaflets, .ref q_p0_owners, .ref q_p0_tears, .ref q_p0_debts, .int v_p0_size, .int v_p0_lostByHands, .int v_p0_lostByMould])), (q_p0_kinds, .inl (cI, 10, .inl v_p0_kinds)), (q_p0_leaflets, .inl (cI, 10, .inl v_p0_leaflets)), (q_p0_owners, .inl (cI, 10, .inl v_p0_owners))]) s.heap s.heap [] := va_S.rf
  have hl := lv_entry ([.ref q_t, .ref q_p0, .int x2, .int x3]) (n := 6) (Nat.le_of_ble_eq_true rfl)
  refine W.eq (g2 := F0 m 0 ((lg_sl ([.ref q_t, .ref q_p0, .int x2, .int x3]) ++ List.replicate (6 - (lg_sl ([.ref q_t, .ref q_p0, .int x2, .int x3])).length) Slot.unset).toArray) []) (by rw [hargs, lg_entry_eq]) ?_
  generalize (lg_sl ([.ref q_t, .ref q_p0, .int x2, .int x3]) ++ List.replicate (6 - (lg_sl ([.ref q_t, .ref q_p0, .int x2, .int x3])).length) Slot.unset).toArray = ls at hl ⊢
  have hl : lv_has ls 6 [(0, .ref q_t), (1, .ref q_p0), (2, .int x2), (3, .int x3)] := hl
  show W p l e ({ frames := 16, cells := 0, slots := 0, locals := 417 } : Room) s m args below meth c s.heap [] 0 0 (MQ below (QG D [(q_t, .inr (6, [.int v_t_payer, .int v_t_leastWorth, .int v_t_leastBits])), (q_p0, .inr (4, [.ref q_p0_kinds, .ref q_p0_leaflets, .ref q_p0_owners, .ref q_p0_tears, .ref q_p0_debts, .int v_p0_size, .int v_p0_lostByHands, .int v_p0_lostByMould])), (q_p0_kinds, .inl (cI, 10, .inl v_p0_kinds)), (q_p0_leaflets, .inl (cI, 10, .inl v_p0_leaflets)), (q_p0_owners, .inl (cI, 10, .inl v_p0_owners))] [(q_t, .inr (6, [.int z.1, .int z.2.1, .int z.2.2])), (q_p0, .inr (4, [.ref q_p0_kinds, .ref q_p0_leaflets, .ref q_p0_owners, .ref q_p0_tears, .ref q_p0_debts, .int v_p0_size, .int v_p0_lostByHands, .int v_p0_lostByMould])), (q_p0_kinds, .inl (cI, 10, .inl v_p0_kinds)), (q_p0_leaflets, .inl (cI, 10, .inl v_p0_leaflets)), (q_p0_owners, .inl (cI, 10, .inl v_p0_owners))] none) args s 0 0 (fr [(q_t, .inr (6, [.int v_t_payer, .int v_t_leastWorth, .int v_t_leastBits])), (q_p0, .inr (4, [.ref q_p0_kinds, .ref q_p0_leaflets, .ref q_p0_owners, .ref q_p0_tears, .ref q_p0_debts, .int v_p0_size, .int v_p0_lostByHands, .int v_p0_lostByMould])), (q_p0_kinds, .inl (cI, 10, .inl v_p0_kinds)), (q_p0_leaflets, .inl (cI, 10, .inl v_p0_leaflets)), (q_p0_owners, .inl (cI, 10, .inl v_p0_owners))])) (F0 m 0 ls [])
  generalize hQ0 : (MQ below (QG D [(q_t, .inr (6, [.int v_t_payer, .int v_t_leastWorth, .int v_t_leastBits])), (q_p0, .inr (4, [.ref q_p0_kinds, .ref q_p0_leaflets, .ref q_p0_owners, .ref q_p0_tears, .ref q_p0_debts, .int v_p0_size, .int v_p0_lostByHands, .int v_p0_lostByMould])), (q_p0_kinds, .inl (cI, 10, .inl v_p0_kinds)), (q_p0_leaflets, .inl (cI, 10, .inl v_p0_leaflets)), (q_p0_owners, .inl (cI, 10, .inl v_p0_owners))] [(q_t, .inr (6, [.int z.1, .int z.2.1, .int z.2.2])), (q_p0, .inr (4, [.ref q_p0_kinds, .ref q_p0_leaflets, .ref q_p0_owners, .ref q_p0_tears, .ref q_p0_debts, .int v_p0_size, .int v_p0_lostByHands, .int v_p0_lostByMould])), (q_p0_kinds, .inl (cI, 10, .inl v_p0_kinds)), (q_p0_leaflets, .inl (cI, 10, .inl v_p0_leaflets)), (q_p0_owners, .inl (cI, 10, .inl v_p0_owners))] none) args s 0 0 (fr [(q_t, .inr (6, [.int v_t_payer, .int v_t_leastWorth, .int v_t_leastBits])), (q_p0, .inr (4, [.ref q_p0_kinds, .ref q_p0_leaflets, .ref q_p0_owners, .ref q_p0_tears, .ref q_p0_debts, .int v_p0_size, .int v_p0_lostByHands, .int v_p0_lostByMould])), (q_p0_kinds, .inl (cI, 10, .inl v_p0_kinds)), (q_p0_leaflets, .inl (cI, 10, .inl v_p0_leaflets)), (q_p0_owners, .inl (cI, 10, .inl v_p0_owners))])) = Q0
  generalize hA0 : fr [(q_t, .inr (6, [.int v_t_payer, .int v_t_leastWorth, .int v_t_leastBits])), (q_p0, .inr (4, [.ref q_p0_kinds, .ref q_p0_leaflets, .ref q_p0_owners, .ref q_p0_tears, .ref q_p0_debts, .int v_p0_size, .int v_p0_lostByHands, .int v_p0_lostByMould])), (q_p0_kinds, .inl (cI, 10, .inl v_p0_kinds)), (q_p0_leaflets, .inl (cI, 10, .inl v_p0_leaflets)), (q_p0_owners, .inl (cI, 10, .inl v_p0_owners))] = A0 at hD hS
  unfold fX7_search at h
  refine lv_aload_n hx hb dX7_search_0 rfl (lv_at hl 0 rfl) ?_
  refine lv_iload_n hx hb dX7_search_1 rfl (lv_at hl 2 rfl) ?_
  refine va_put (D := D) (own := RX7) (ci := 6) (v := .int x2) (ty := .int) (C := RX7) (T := TX7) (N := 3) hx hb hts iX7 tyX7 tyX7_ok nmX7 hown hK hP hD hS 0 rfl rfl 0 (by decide) k9 (fun _ h9 => h9) rfl (by decide +kernel) rfl rfl (Nat.le_of_ble_eq_true rfl) dX7_search_2 (fun H locs hP hD hS => ?_)
  have hP : va_P D vwCl [(q_t, .inr (6, [.int x2, .int v_t_leastWorth, .int v_t_leastBits])), (q_p0, .inr (4, [.ref q_p0_kinds, .ref q_p0_leaflets, .ref q_p0_owners, .ref q_p0_tears, .ref q_p0_debts, .int v_p0_size, .int v_p0_lostByHands, .int v_p0_lostByMould])), (q_p0_kinds, .inl (cI, 10, .inl v_p0_kinds)), (q_p0_leaflets, .inl (cI, 10, .inl v_p0_leaflets)), (q_p0_owners, .inl (cI, 10, .inl v_p0_owners))] H := hP
  have hD : va_D A0 [(q_t, .inr (6, [.int x2, .int v_t_leastWorth, .int v_t_leastBits])), (q_p0, .inr (4, [.ref q_p0_kinds, .ref q_p0_leaflets, .ref q_p0_owners, .ref q_p0_tears, .ref q_p0_debts, .int v_p0_size, .int v_p0_lostByHands, .int v_p0_lostByMould])), (q_p0_kinds, .inl (cI, 10, .inl v_p0_kinds)), (q_p0_leaflets, .inl (cI, 10, .inl v_p0_leaflets)), (q_p0_owners, .inl (cI, 10, .inl v_p0_owners))] := hD
  refine lv_aload_n hx hb dX7_search_5 rfl (lv_at hl 0 rfl) ?_
  refine lv_bipush (v := 91) hx hb dX7_search_6 (by decide) ?_
  refine va_put (D := D) (own := RX7) (ci := 6) (v := .int 91) (ty := .int) (C := RX7) (T := TX7) (N := 3) hx hb hts iX7 tyX7 tyX7_ok nmX7 hown hK hP hD hS 0 rfl rfl 1 (by decide) k15 (fun _ h9 => h9) rfl (by decide +kernel) rfl rfl (Nat.le_of_ble_eq_true rfl) dX7_search_8 (fun H locs hP hD hS => ?_)
  have hP : va_P D vwCl [(q_t, .inr (6, [.int x2, .int 91, .int v_t_leastBits])), (q_p0, .inr (4, [.ref q_p0_kinds, .ref q_p0_leaflets, .ref q_p0_owners, .ref q_p0_tears, .ref q_p0_debts, .int v_p0_size, .int v_p0_lostByHands, .int v_p0_lostByMould])), (q_p0_kinds, .inl (cI, 10, .inl v_p0_kinds)), (q_p0_leaflets, .inl (cI, 10, .inl v_p0_leaflets)), (q_p0_owners, .inl (cI, 10, .inl v_p0_owners))] H := hP
  have hD : va_D A0 [(q_t, .inr (6, [.int x2, .int 91, .int v_t_leastBits])), (q_p0, .inr (4, [.ref q_p0_kinds, .ref q_p0_leaflets, .ref q_p0_owners, .ref q_p0_tears, .ref q_p0_debts, .int v_p0_size, .int v_p0_lostByHands, .int v_p0_lostByMould])), (q_p0_kinds, .inl (cI, 10, .inl v_p0_kinds)), (q_p0_leaflets, .inl (cI, 10, .inl v_p0_leaflets)), (q_p0_owners, .inl (cI, 10, .inl v_p0_owners))] := hD
  refine lv_aload_n hx hb dX7_search_11 rfl (lv_at hl 0 rfl) ?_
  refine lv_iconst (v := (-1)) hx hb dX7_search_12 (by decide) ?_
  refine va_put (D := D) (own := RX7) (ci := 6) (v := .int (-1)) (ty := .int) (C := RX7) (T := TX7) (N := 3) hx hb hts iX7 tyX7 tyX7_ok nmX7 hown hK hP hD hS 0 rfl rfl 2 (by decide) k18 (fun _ h9 => h9) rfl (by decide +kernel) rfl rfl (Nat.le_of_ble_eq_true rfl) dX7_search_13 (fun H locs hP hD hS => ?_)
  have hP : va_P D vwCl [(q_t, .inr (6, [.int x2, .int 91, .int (-1)])), (q_p0, .inr (4, [.ref q_p0_kinds, .ref q_p0_leaflets, .ref q_p0_owners, .ref q_p0_tears, .ref q_p0_debts, .int v_p0_size, .int v_p0_lostByHands, .int v_p0_lostByMould])), (q_p0_kinds, .inl (cI, 10, .inl v_p0_kinds)), (q_p0_leaflets, .inl (cI, 10, .inl v_p0_leaflets)), (q_p0_owners, .inl (cI, 10, .inl v_p0_owners))] H := hP
  have hD : va_D A0 [(q_t, .inr (6, [.int x2, .int 91, .int (-1)])), (q_p0, .inr (4, [.ref q_p0_kinds, .ref q_p0_leaflets, .ref q_p0_owners, .ref q_p0_tears, .ref q_p0_debts, .int v_p0_size, .int v_p0_lostByHands, .int v_p0_lostByMould])), (q_p0_kinds, .inl (cI, 10, .inl v_p0_kinds)), (q_p0_leaflets, .inl (cI, 10, .inl v_p0_leaflets)), (q_p0_owners, .inl (cI, 10, .inl v_p0_owners))] := hD
  refine lv_iconst (v := 0) hx hb dX7_search_16 (by decide) ?_
  refine lv_istore (lv' := [(4, .int 0), (0, .ref q_t), (1, .ref q_p0), (2, .int x2), (3, .int x3)]) hx hb dX7_search_17 hl (by decide) rfl (fun ls hl => ?_)
  refine lv_iconst (v := 0) hx hb dX7_search_19 (by decide) ?_
  refine lv_istore (lv' := [(5, .int 0), (4, .int 0), (0, .ref q_t), (1, .ref q_p0), (2, .int x2), (3, .int x3)]) hx hb dX7_search_20 hl (by decide) rfl (fun ls hl => ?_)
  obtain ⟨e2, he_e2, hc_e2⟩ := bd_of h
  have X59_4 : ∀ (a3 : Int32) (H : Heap) (locs : List Loc) (ls : Array Slot), fX7_search_X22_59 v_p0_size v_p0_lostByHands v_p0_lostByMould v_p0_kinds v_p0_leaflets v_p0_owners x2 x3 a3 = some z → va_P D vwCl [(q_t, .inr (6, [.int x2, .int 91, .int (-1)])), (q_p0, .inr (4, [.ref q_p0_kinds, .ref q_p0_leaflets, .ref q_p0_owners, .ref q_p0_tears, .ref q_p0_debts, .int v_p0_size, .int v_p0_lostByHands, .int v_p0_lostByMould])), (q_p0_kinds, .inl (cI, 10, .inl v_p0_kinds)), (q_p0_leaflets, .inl (cI, 10, .inl v_p0_leaflets)), (q_p0_owners, .inl (cI, 10, .inl v_p0_owners))] H → va_D A0 [(q_t, .inr (6, [.int x2, .int 91, .int (-1)])), (q_p0, .inr (4, [.ref q_p0_kinds, .ref q_p0_leaflets, .ref q_p0_owners, .ref q_p0_tears, .ref q_p0_debts, .int v_p0_size, .int v_p0_lostByHands, .int v_p0_lostByMould])), (q_p0_kinds, .inl (cI, 10, .inl v_p0_kinds)), (q_p0_leaflets, .inl (cI, 10, .inl v_p0_leaflets)), (q_p0_owners, .inl (cI, 10, .inl v_p0_owners))] → va_S A0 s.heap H locs → lv_has ls 6 [(0, .ref q_t), (1, .ref q_p0), (3, .int x3), (4, .int a3)] → W p l e ({ frames := 16, cells := 0, slots := 0, locals := 417 } : Room) s m args below meth c H locs 0 0 Q0 (F0 m 59 ls []) := by
    intro a3 H locs ls h hP hD hS hl
    unfold fX7_search_X22_59 at h
    refine lv_aload_n hx hb dX7_search_59 rfl (lv_at hl 0 rfl) ?_
    refine lv_aload_n hx hb dX7_search_60 rfl (lv_at hl 1 rfl) ?_
    refine lv_iconst (v := 0) hx hb dX7_search_61 (by decide) ?_
    refine lv_iconst (v := 0) hx hb dX7_search_62 (by decide) ?_
    refine lv_iconst (v := 0) hx hb dX7_search_63 (by decide) ?_
    refine lv_iload_n hx hb dX7_search_64 rfl (lv_at hl 2 rfl) ?_
    refine lv_iload hx hb dX7_search_65 (lv_at hl 3 rfl) ?_
    obtain ⟨u5, g6, h⟩ := bd_of h
    refine cl_V [(q_t, .inr (6, [.int x2, .int u5.1, .int u5.2])), (q_p0, .inr (4, [.ref q_p0_kinds, .ref q_p0_leaflets, .ref q_p0_owners, .ref q_p0_tears, .ref q_p0_debts, .int v_p0_size, .int v_p0_lostByHands, .int v_p0_lostByMould])), (q_p0_kinds, .inl (cI, 10, .inl v_p0_kinds)), (q_p0_leaflets, .inl (cI, 10, .inl v_p0_leaflets)), (q_p0_owners, .inl (cI, 10, .inl v_p0_owners))] (As := [.ref q_p0, .int 0, .int 0, .int 0, .int x3, .int a3]) (rest := []) (rv := none) (c_X7_choose l D cI cJ 12 q_t q_p0 q_p0_kinds q_p0_leaflets q_p0_owners q_p0_tears q_p0_debts x2 91 (-1) v_p0_size v_p0_lostByHands v_p0_lostByMould v_p0_kinds v_p0_leaflets v_p0_owners 0 0 0 x3 a3 u5 g6) ⟨hx, hb, hml, hown, hts⟩ (cwV 6 hts gX7_search_X7_choose rfl rfl rfl (by decide +kernel) ⟨(Nat.le_of_ble_eq_true rfl), (Nat.le_of_ble_eq_true rfl)⟩) hK hN hP hD hS [0, 1, 2, 3, 4] rfl (by decide) rfl rfl rfl (q0 := 0) (ci := 6) rfl rfl rfl rfl hl.1 rfl (Nat.le_of_ble_eq_true rfl) dX7_search_67 ⟨Nat.zero_le _, Nat.zero_le _⟩ (fun H locs hP hD hS => ?_)
    show W p l e ({ frames := 16, cells := 0, slots := 0, locals := 417 } : Room) s m args below meth c H locs 0 0 Q0 (F0 m 70 ls [])
    obtain rfl := Option.some.inj h
    exact rt_v hA0 hQ0 hx hb hr hlocks hP hS dX7_search_70
  have L22_7 : ∀ (n : Nat) (z1 : Int32 × Int32) (H : Heap) (locs : List Loc) (ls : Array Slot), iter (fX7_search_L22 v_p0_size v_p0_lostByHands v_p0_lostByMould v_p0_kinds v_p0_leaflets v_p0_owners x2) n z1 = some e2 → va_P D vwCl [(q_t, .inr (6, [.int x2, .int 91, .int (-1)])), (q_p0, .inr (4, [.ref q_p0_kinds, .ref q_p0_leaflets, .ref q_p0_owners, .ref q_p0_tears, .ref q_p0_debts, .int v_p0_size, .int v_p0_lostByHands, .int v_p0_lostByMould])), (q_p0_kinds, .inl (cI, 10, .inl v_p0_kinds)), (q_p0_leaflets, .inl (cI, 10, .inl v_p0_leaflets)), (q_p0_owners, .inl (cI, 10, .inl v_p0_owners))] H → va_D A0 [(q_t, .inr (6, [.int x2, .int 91, .int (-1)])), (q_p0, .inr (4, [.ref q_p0_kinds, .ref q_p0_leaflets, .ref q_p0_owners, .ref q_p0_tears, .ref q_p0_debts, .int v_p0_size, .int v_p0_lostByHands, .int v_p0_lostByMould])), (q_p0_kinds, .inl (cI, 10, .inl v_p0_kinds)), (q_p0_leaflets, .inl (cI, 10, .inl v_p0_leaflets)), (q_p0_owners, .inl (cI, 10, .inl v_p0_owners))] → va_S A0 s.heap H locs → lv_has ls 6 [(0, .ref q_t), (1, .ref q_p0), (2, .int x2), (3, .int x3), (4, .int z1.1), (5, .int z1.2)] → W p l e ({ frames := 16, cells := 0, slots := 0, locals := 417 } : Room) s m args below meth c H locs 0 0 Q0 (F0 m 22 ls []) := by
    intro n
    induction n with
    | zero => exact fun _ _ _ _ h => (iter_z h).elim
    | succ n ih =>
      intro z1 H locs ls h hP hD hS hl
      obtain ⟨r_e2, h, hn_e2⟩ := iter_s h
      unfold fX7_search_L22 at h
      refine lv_iload hx hb dX7_search_22 (lv_at hl 5 rfl) ?_
      refine lv_aload_n hx hb dX7_search_24 rfl (lv_at hl 1 rfl) ?_
      refine va_get (own := RX7) (ci := 4) (v := .int v_p0_size) (C := RX4) (T := TX4) (N := 8) hx hb hts iX4 hown hK hP 1 rfl rfl 5 (by decide) k21 (fun _ h9 => h9) rfl dX7_search_25 ?_
      refine lv_icmp_ge (tgt := 59) hx hb dX7_search_28 (by decide) (fun c8 => ?_) (fun c8 => ?_)
      · skip
        have h := (if_pos c8).symm.trans h
        obtain rfl := Option.some.inj h
        obtain rfl := Option.some.inj hn_e2
        exact X59_4 z1.1 _ _ _ hc_e2 hP hD hS (lv_sub hl [0, 1, 3, 4] rfl)
      · skip
        have h := (if_neg c8).symm.trans h
        refine lv_aload_n hx hb dX7_search_31 rfl (lv_at hl 1 rfl) ?_
        refine va_get (own := RX7) (ci := 4) (v := .ref q_p0_owners) (C := RX4) (T := TX4) (N := 8) hx hb hts iX4 hown hK hP 1 rfl rfl 2 (by decide) k26 (fun _ h9 => h9) rfl dX7_search_32 ?_
        refine lv_iload hx hb dX7_search_35 (lv_at hl 5 rfl) ?_
        obtain ⟨g9, h⟩ := gd_of h
        refine va_iald hx hb hK hP 4 0 rfl rfl (inb_of g9) dX7_search_37 ?_
        refine lv_iload_n hx hb dX7_search_38 rfl (lv_at hl 2 rfl) ?_
        have J53_11 : ∀ (a10 : Int32) (H : Heap) (locs : List Loc) (ls : Array Slot), fX7_search_J53 z1 a10 = some r_e2 → va_P D vwCl [(q_t, .inr (6, [.int x2, .int 91, .int (-1)])), (q_p0, .inr (4, [.ref q_p0_kinds, .ref q_p0_leaflets, .ref q_p0_owners, .ref q_p0_tears, .ref q_p0_debts, .int v_p0_size, .int v_p0_lostByHands, .int v_p0_lostByMould])), (q_p0_kinds, .inl (cI, 10, .inl v_p0_kinds)), (q_p0_leaflets, .inl (cI, 10, .inl v_p0_leaflets)), (q_p0_owners, .inl (cI, 10, .inl v_p0_owners))] H → va_D A0 [(q_t, .inr (6, [.int x2, .int 91, .int (-1)])), (q_p0, .inr (4, [.ref q_p0_kinds, .ref q_p0_leaflets, .ref q_p0_owners, .ref q_p0_tears, .ref q_p0_debts, .int v_p0_size, .int v_p0_lostByHands, .int v_p0_lostByMould])), (q_p0_kinds, .inl (cI, 10, .inl v_p0_kinds)), (q_p0_leaflets, .inl (cI, 10, .inl v_p0_leaflets)), (q_p0_owners, .inl (cI, 10, .inl v_p0_owners))] → va_S A0 s.heap H locs → lv_has ls 6 [(0, .ref q_t), (1, .ref q_p0), (2, .int x2), (3, .int x3), (4, .int a10), (5, .int z1.2)] → W p l e ({ frames := 16, cells := 0, slots := 0, locals := 417 } : Room) s m args below meth c H locs 0 0 Q0 (F0 m 53 ls []) := by
          intro a10 H locs ls h hP hD hS hl
          unfold fX7_search_J53 at h
          refine lv_iinc (v := (z1.2 + 1)) (lv' := [(5, .int (z1.2 + 1)), (0, .ref q_t), (1, .ref q_p0), (2, .int x2), (3, .int x3), (4, .int a10)]) hx hb dX7_search_53 hl (k := 5) rfl rfl (by decide) rfl (fun ls hl => ?_)
          refine lv_goto (tgt := 22) hx hb dX7_search_56 (by decide) ?_
          obtain rfl := Option.some.inj h
          exact ih (a10, (z1.2 + 1)) _ _ _ hn_e2 hP hD hS (lv_sub hl [1, 2, 3, 4, 5, 0] rfl)
        refine lv_icmp_ne (tgt := 53) hx hb dX7_search_39 (by decide) (fun c12 => ?_) (fun c12 => ?_)
        · skip
          have h := (if_neg c12).symm.trans h
          exact J53_11 z1.1 _ _ _ h hP hD hS (lv_sub hl [0, 1, 2, 3, 4, 5] rfl)
        · skip
          have h := (if_pos c12).symm.trans h
          refine lv_iload hx hb dX7_search_42 (lv_at hl 4 rfl) ?_
          refine lv_aload_n hx hb dX7_search_44 rfl (lv_at hl 1 rfl) ?_
          refine lv_iload hx hb dX7_search_45 (lv_at hl 5 rfl) ?_
          obtain ⟨u13, g14, h⟩ := bd_of h
          refine cl_V [(q_t, .inr (6, [.int x2, .int 91, .int (-1)])), (q_p0, .inr (4, [.ref q_p0_kinds, .ref q_p0_leaflets, .ref q_p0_owners, .ref q_p0_tears, .ref q_p0_debts, .int v_p0_size, .int v_p0_lostByHands, .int v_p0_lostByMould])), (q_p0_kinds, .inl (cI, 10, .inl v_p0_kinds)), (q_p0_leaflets, .inl (cI, 10, .inl v_p0_leaflets)), (q_p0_owners, .inl (cI, 10, .inl v_p0_owners))] (As := [.int z1.2]) (rest := [.int z1.1]) (rv := (some (.int u13))) (c_X4_worthBehindHand l D cI cJ q_p0 q_p0_kinds q_p0_leaflets q_p0_owners q_p0_tears q_p0_debts v_p0_size v_p0_lostByHands v_p0_lostByMould v_p0_kinds v_p0_leaflets z1.2 u13 g14) ⟨hx, hb, hml, hown, hts⟩ (cwV 1 hts gX7_search_X4_worthBehindHand rfl rfl rfl (by decide +kernel) ⟨(Nat.le_of_ble_eq_true rfl), (Nat.le_of_ble_eq_true rfl)⟩) hK hN hP hD hS [1, 2, 3] rfl (by decide) rfl rfl rfl (q0 := 1) (ci := 4) rfl rfl rfl rfl hl.1 rfl (Nat.le_of_ble_eq_true rfl) dX7_search_47 ⟨Nat.zero_le _, Nat.zero_le _⟩ (fun H locs hP hD hS => ?_)
          show W p l e ({ frames := 16, cells := 0, slots := 0, locals := 417 } : Room) s m args below meth c H locs 0 0 Q0 (F0 m 50 ls [.int u13, .int z1.1])
          refine lv_iadd hx hb dX7_search_50 ?_
          refine lv_istore (lv' := [(4, .int (z1.1 + u13)), (0, .ref q_t), (1, .ref q_p0), (2, .int x2), (3, .int x3), (5, .int z1.2)]) hx hb dX7_search_51 hl (by decide) rfl (fun ls hl => ?_)
          exact J53_11 (z1.1 + u13) _ _ _ h hP hD hS (lv_sub hl [1, 2, 3, 4, 0, 5] rfl)
  exact L22_7 FU (0, 0) _ _ _ he_e2 hP hD hS (lv_sub hl [2, 3, 4, 5, 1, 0] rfl)
def fX7_worth (v_t_payer : Int32) (v_t_leastWorth : Int32) (v_t_leastBits : Int32) : Int32 :=
  if v_t_leastBits = (-1) then ((-1)) else (v_t_leastWorth)
set_option maxHeartbeats 4000000 in
set_option maxRecDepth 100000 in
theorem c_X7_worth (l : Launch) (D : va_G) (cI cJ : ClassId) (q_t : Nat) (v_t_payer : Int32) (v_t_leastWorth : Int32) (v_t_leastBits : Int32) : Met l yX7_worth wsX7_worth ({ frames := 0, cells := 0, slots := 0, locals := 0 } : Room) (va_Pc [.ref q_t] (preG D cI cJ [(q_t, .inr (6, [.int v_t_payer, .int v_t_leastWorth, .int v_t_leastBits]))])) (QG D [(q_t, .inr (6, [.int v_t_payer, .int v_t_leastWorth, .int v_t_leastBits]))] [(q_t, .inr (6, [.int v_t_payer, .int v_t_leastWorth, .int v_t_leastBits]))] (some (.int (fX7_worth v_t_payer v_t_leastWorth v_t_leastBits)))) 0 0 (fr [(q_t, .inr (6, [.int v_t_payer, .int v_t_leastWorth, .int v_t_leastBits]))]) := by
  generalize h : fX7_worth v_t_payer v_t_leastWorth v_t_leastBits = z
  refine Met.ofW (cc := cX7_worth) (maxL := 1) (ret := (some .int)) (by decide) rfl ?_
  intro p e s m args below meth c s₁ B hml hv
  obtain ⟨hargs, hP, hK, hN, hD0⟩ := hv
  have hx := B.exec
  have hb := B.bytes
  have hr := B.returns
  have hts := atoms_spec (ws := wsX7_worth) B.pre
  have hown : s.vm.findClass RX7 = some m.cls := findClass_of_methodNamed B.named
  have hlocks := B.notSynchronized
  have iX7 : ∀ w ∈ wsX70, w ∈ wsX7_worth := by decide +kernel
  have k15 := hts (.fieldLink RX7 15 "PressedFerns$Purse" "leastWorth" "I") (by decide +kernel)
  have k18 := hts (.fieldLink RX7 18 "PressedFerns$Purse" "leastBits" "I") (by decide +kernel)
  have hD := fr_D hD0
  have hS : va_S (fr [(q_t, .inr (6, [.int v_t_payer, .int v_t_leastWorth, .int v_t_leastBits]))]) s.heap s.heap [] := va_S.rf
  have hl := lv_entry ([.ref q_t]) (n := 1) (Nat.le_of_ble_eq_true rfl)
  refine W.eq (g2 := F0 m 0 ((lg_sl ([.ref q_t]) ++ List.replicate (1 - (lg_sl ([.ref q_t])).length) Slot.unset).toArray) []) (by rw [hargs, lg_entry_eq]) ?_
  generalize (lg_sl ([.ref q_t]) ++ List.replicate (1 - (lg_sl ([.ref q_t])).length) Slot.unset).toArray = ls at hl ⊢
  have hl : lv_has ls 1 [(0, .ref q_t)] := hl
  show W p l e ({ frames := 0, cells := 0, slots := 0, locals := 0 } : Room) s m args below meth c s.heap [] 0 0 (MQ below (QG D [(q_t, .inr (6, [.int v_t_payer, .int v_t_leastWorth, .int v_t_leastBits]))] [(q_t, .inr (6, [.int v_t_payer, .int v_t_leastWorth, .int v_t_leastBits]))] (some (.int z))) args s 0 0 (fr [(q_t, .inr (6, [.int v_t_payer, .int v_t_leastWorth, .int v_t_leastBits]))])) (F0 m 0 ls [])
  generalize hQ0 : (MQ below (QG D [(q_t, .inr (6, [.int v_t_payer, .int v_t_leastWorth, .int v_t_leastBits]))] [(q_t, .inr (6, [.int v_t_payer, .int v_t_leastWorth, .int v_t_leastBits]))] (some (.int z))) args s 0 0 (fr [(q_t, .inr (6, [.int v_t_payer, .int v_t_leastWorth, .int v_t_leastBits]))])) = Q0
  generalize hA0 : fr [(q_t, .inr (6, [.int v_t_payer, .int v_t_leastWorth, .int v_t_leastBits]))] = A0 at hD hS
  unfold fX7_worth at h
  refine lv_aload_n hx hb dX7_worth_0 rfl (lv_at hl 0 rfl) ?_
  refine va_get (own := RX7) (ci := 6) (v := .int v_t_leastBits) (C := RX7) (T := TX7) (N := 3) hx hb hts iX7 hown hK hP 0 rfl rfl 2 (by decide) k18 (fun _ h9 => h9) rfl dX7_worth_1 ?_
  refine lv_iconst (v := (-1)) hx hb dX7_worth_4 (by decide) ?_
  refine lv_icmp_ne (tgt := 12) hx hb dX7_worth_5 (by decide) (fun c1 => ?_) (fun c1 => ?_)
  · skip
    have h := (if_neg c1).symm.trans h
    refine lv_aload_n hx hb dX7_worth_12 rfl (lv_at hl 0 rfl) ?_
    refine va_get (own := RX7) (ci := 6) (v := .int v_t_leastWorth) (C := RX7) (T := TX7) (N := 3) hx hb hts iX7 hown hK hP 0 rfl rfl 1 (by decide) k15 (fun _ h9 => h9) rfl dX7_worth_13 ?_
    subst h
    exact rt_i hA0 hQ0 hx hb hr hlocks hP hS dX7_worth_16
  · skip
    have h := (if_pos c1).symm.trans h
    refine lv_iconst (v := (-1)) hx hb dX7_worth_8 (by decide) ?_
    refine lv_goto (tgt := 16) hx hb dX7_worth_9 (by decide) ?_
    subst h
    exact rt_i hA0 hQ0 hx hb hr hlocks hP hS dX7_worth_16
def fX7_bits (v_t_payer : Int32) (v_t_leastWorth : Int32) (v_t_leastBits : Int32) : Int32 :=
  v_t_leastBits
set_option maxHeartbeats 4000000 in
set_option maxRecDepth 100000 in
theorem c_X7_bits (l : Launch) (D : va_G) (cI cJ : ClassId) (q_t : Nat) (v_t_payer : Int32) (v_t_leastWorth : Int32) (v_t_leastBits : Int32) : Met l yX7_bits wsX7_bits ({ frames := 0, cells := 0, slots := 0, locals := 0 } : Room) (va_Pc [.ref q_t] (preG D cI cJ [(q_t, .inr (6, [.int v_t_payer, .int v_t_leastWorth, .int v_t_leastBits]))])) (QG D [(q_t, .inr (6, [.int v_t_payer, .int v_t_leastWorth, .int v_t_leastBits]))] [(q_t, .inr (6, [.int v_t_payer, .int v_t_leastWorth, .int v_t_leastBits]))] (some (.int (fX7_bits v_t_payer v_t_leastWorth v_t_leastBits)))) 0 0 (fr [(q_t, .inr (6, [.int v_t_payer, .int v_t_leastWorth, .int v_t_leastBits]))]) := by
  generalize h : fX7_bits v_t_payer v_t_leastWorth v_t_leastBits = z
  refine Met.ofW (cc := cX7_bits) (maxL := 1) (ret := (some .int)) (by decide) rfl ?_
  intro p e s m args below meth c s₁ B hml hv
  obtain ⟨hargs, hP, hK, hN, hD0⟩ := hv
  have hx := B.exec
  have hb := B.bytes
  have hr := B.returns
  have hts := atoms_spec (ws := wsX7_bits) B.pre
  have hown : s.vm.findClass RX7 = some m.cls := findClass_of_methodNamed B.named
  have hlocks := B.notSynchronized
  have iX7 : ∀ w ∈ wsX70, w ∈ wsX7_bits := by decide +kernel
  have k18 := hts (.fieldLink RX7 18 "PressedFerns$Purse" "leastBits" "I") (by decide +kernel)
  have hD := fr_D hD0
  have hS : va_S (fr [(q_t, .inr (6, [.int v_t_payer, .int v_t_leastWorth, .int v_t_leastBits]))]) s.heap s.heap [] := va_S.rf
  have hl := lv_entry ([.ref q_t]) (n := 1) (Nat.le_of_ble_eq_true rfl)
  refine W.eq (g2 := F0 m 0 ((lg_sl ([.ref q_t]) ++ List.replicate (1 - (lg_sl ([.ref q_t])).length) Slot.unset).toArray) []) (by rw [hargs, lg_entry_eq]) ?_
  generalize (lg_sl ([.ref q_t]) ++ List.replicate (1 - (lg_sl ([.ref q_t])).length) Slot.unset).toArray = ls at hl ⊢
  have hl : lv_has ls 1 [(0, .ref q_t)] := hl
  show W p l e ({ frames := 0, cells := 0, slots := 0, locals := 0 } : Room) s m args below meth c s.heap [] 0 0 (MQ below (QG D [(q_t, .inr (6, [.int v_t_payer, .int v_t_leastWorth, .int v_t_leastBits]))] [(q_t, .inr (6, [.int v_t_payer, .int v_t_leastWorth, .int v_t_leastBits]))] (some (.int z))) args s 0 0 (fr [(q_t, .inr (6, [.int v_t_payer, .int v_t_leastWorth, .int v_t_leastBits]))])) (F0 m 0 ls [])
  generalize hQ0 : (MQ below (QG D [(q_t, .inr (6, [.int v_t_payer, .int v_t_leastWorth, .int v_t_leastBits]))] [(q_t, .inr (6, [.int v_t_payer, .int v_t_leastWorth, .int v_t_leastBits]))] (some (.int z))) args s 0 0 (fr [(q_t, .inr (6, [.int v_t_payer, .int v_t_leastWorth, .int v_t_leastBits]))])) = Q0
  generalize hA0 : fr [(q_t, .inr (6, [.int v_t_payer, .int v_t_leastWorth, .int v_t_leastBits]))] = A0 at hD hS
  unfold fX7_bits at h
  refine lv_aload_n hx hb dX7_bits_0 rfl (lv_at hl 0 rfl) ?_
  refine va_get (own := RX7) (ci := 6) (v := .int v_t_leastBits) (C := RX7) (T := TX7) (N := 3) hx hb hts iX7 hown hK hP 0 rfl rfl 2 (by decide) k18 (fun _ h9 => h9) rfl dX7_bits_1 ?_
  subst h
  exact rt_i hA0 hQ0 hx hb hr hlocks hP hS dX7_bits_4
