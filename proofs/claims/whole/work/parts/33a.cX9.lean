def fX9_ordersFrom_J47 (rec : Int32 → Int32 → Int32 → Int32 → Int32 → Option (Int32)) (x0 : Int32) (x1 : Int32) (x2 : Int32) (x3 : Int32) (x4 : Int32) (a6 : Unit) : Option (Int32) :=
  (rec x0 (fX5_behindHand x0 x1) (x2 - 1) x3 x4).bind (fun u8 => (rec x0 (fX5_behindDamp x0 x1) x2 (x3 - 1) x4).bind (fun u10 => some (u8 + u10)))
def fX9_ordersFrom_b (rec : Int32 → Int32 → Int32 → Int32 → Int32 → Option (Int32)) (x0 : Int32) (x1 : Int32) (x2 : Int32) (x3 : Int32) (x4 : Int32) : Option (Int32) :=
  if x2 < 0 then (some 0) else (if 6 < x2 then (some 0) else (if x3 < 0 then (some 0) else (if 4 < x3 then (some 0) else (if x4 ≤ x1 then (if x2 = 0 then (if x3 = 0 then (if x1 = x4 then (some 1) else (some 0)) else (fX9_ordersFrom_J47 rec x0 x1 x2 x3 x4 ())) else (fX9_ordersFrom_J47 rec x0 x1 x2 x3 x4 ())) else (some 0)))))
def fX9_ordersFrom : Nat → Int32 → Int32 → Int32 → Int32 → Int32 → Option (Int32)
  | 0 => fun _ _ _ _ _ => none
  | d + 1 => fX9_ordersFrom_b (fX9_ordersFrom d)
set_option maxHeartbeats 4000000 in
set_option maxRecDepth 100000 in
theorem c_X9_ordersFrom (l : Launch) (D : va_G) (cI cJ : ClassId) : ∀ (d : Nat) (x0 : Int32) (x1 : Int32) (x2 : Int32) (x3 : Int32) (x4 : Int32) (z : Int32) (h : fX9_ordersFrom d x0 x1 x2 x3 x4 = some z), Met l yX9_ordersFrom wsX9_ordersFrom ({ frames := d + 2, cells := 0, slots := 0, locals := 24 * d + 45 } : Room) (va_Pc [.int x0, .int x1, .int x2, .int x3, .int x4] (preG D cI cJ [])) (QG D [] [] (some (.int z))) 0 0 (fr []) := by
  intro d
  induction d with
  | zero =>
    intro  x0 x1 x2 x3 x4 z h
    cases h
  | succ d ihd =>
    intro  x0 x1 x2 x3 x4 z h
    have h : fX9_ordersFrom_b (fX9_ordersFrom d) x0 x1 x2 x3 x4 = some z := h
    generalize hrec : fX9_ordersFrom d = rec at h ihd
    refine Met.ofW (cc := cX9_ordersFrom) (maxL := 5) (ret := (some .int)) (by decide) rfl ?_
    intro p e s m args below meth c s₁ B hml hv
    obtain ⟨hargs, hP, hK, hN, hD0⟩ := hv
    have hx := B.exec
    have hb := B.bytes
    have hr := B.returns
    have hts := atoms_spec (ws := wsX9_ordersFrom) B.pre
    have hown : s.vm.findClass RX9 = some m.cls := findClass_of_methodNamed B.named
    have hlocks := B.notSynchronized
    have hD := fr_D hD0
    have hS : va_S (fr []) s.heap s.heap [] := va_S.rf
    have hl := lv_entry ([.int x0, .int x1, .int x2, .int x3, .int x4]) (n := 5) (Nat.le_of_ble_eq_true rfl)
    refine W.eq (g2 := F0 m 0 ((lg_sl ([.int x0, .int x1, .int x2, .int x3, .int x4]) ++ List.replicate (5 - (lg_sl ([.int x0, .int x1, .int x2, .int x3, .int x4])).length) Slot.unset).toArray) []) (by rw [hargs, lg_entry_eq]) ?_
    generalize (lg_sl ([.int x0, .int x1, .int x2, .int x3, .int x4]) ++ List.replicate (5 - (lg_sl ([.int x0, .int x1, .int x2, .int x3, .int x4])).length) Slot.unset).toArray = ls at hl ⊢
    have hl : lv_has ls 5 [(0, .int x0), (1, .int x1), (2, .int x2), (3, .int x3), (4, .int x4)] := hl
    show W p l e ({ frames := d + 1 + 2, cells := 0, slots := 0, locals := 24 * (d + 1) + 45 } : Room) s m args below meth c s.heap [] 0 0 (MQ below (QG D [] [] (some (.int z))) args s 0 0 (fr [])) (F0 m 0 ls [])
    generalize hQ0 : (MQ below (QG D [] [] (some (.int z))) args s 0 0 (fr [])) = Q0
    generalize hA0 : fr [] = A0 at hD hS
    unfold fX9_ordersFrom_b at h
    refine lv_iload_n hx hb dX9_ordersFrom_0 rfl (lv_at hl 2 rfl) ?_
    refine lv_if_lt (tgt := 25) hx hb dX9_ordersFrom_1 (by decide) (fun c1 => ?_) (fun c1 => ?_)
    · skip
      have h := (if_pos c1).symm.trans h
      refine lv_iconst (v := 0) hx hb dX9_ordersFrom_25 (by decide) ?_
      obtain rfl := Option.some.inj h
      exact rt_i hA0 hQ0 hx hb hr hlocks hP hS dX9_ordersFrom_26
    · skip
      have h := (if_neg c1).symm.trans h
      refine lv_iload_n hx hb dX9_ordersFrom_4 rfl (lv_at hl 2 rfl) ?_
      refine lv_bipush (v := 6) hx hb dX9_ordersFrom_5 (by decide) ?_
      refine lv_icmp_gt (tgt := 25) hx hb dX9_ordersFrom_7 (by decide) (fun c2 => ?_) (fun c2 => ?_)
      · skip
        have h := (if_pos c2).symm.trans h
        refine lv_iconst (v := 0) hx hb dX9_ordersFrom_25 (by decide) ?_
        obtain rfl := Option.some.inj h
        exact rt_i hA0 hQ0 hx hb hr hlocks hP hS dX9_ordersFrom_26
      · skip
        have h := (if_neg c2).symm.trans h
        refine lv_iload_n hx hb dX9_ordersFrom_10 rfl (lv_at hl 3 rfl) ?_
        refine lv_if_lt (tgt := 25) hx hb dX9_ordersFrom_11 (by decide) (fun c3 => ?_) (fun c3 => ?_)
        · skip
          have h := (if_pos c3).symm.trans h
          refine lv_iconst (v := 0) hx hb dX9_ordersFrom_25 (by decide) ?_
          obtain rfl := Option.some.inj h
          exact rt_i hA0 hQ0 hx hb hr hlocks hP hS dX9_ordersFrom_26
        · skip
          have h := (if_neg c3).symm.trans h
          refine lv_iload_n hx hb dX9_ordersFrom_14 rfl (lv_at hl 3 rfl) ?_
          refine lv_iconst (v := 4) hx hb dX9_ordersFrom_15 (by decide) ?_
          refine lv_icmp_gt (tgt := 25) hx hb dX9_ordersFrom_16 (by decide) (fun c4 => ?_) (fun c4 => ?_)
          · skip
            have h := (if_pos c4).symm.trans h
            refine lv_iconst (v := 0) hx hb dX9_ordersFrom_25 (by decide) ?_
            obtain rfl := Option.some.inj h
            exact rt_i hA0 hQ0 hx hb hr hlocks hP hS dX9_ordersFrom_26
          · skip
            have h := (if_neg c4).symm.trans h
            refine lv_iload_n hx hb dX9_ordersFrom_19 rfl (lv_at hl 1 rfl) ?_
            refine lv_iload hx hb dX9_ordersFrom_20 (lv_at hl 4 rfl) ?_
            refine lv_icmp_ge (tgt := 27) hx hb dX9_ordersFrom_22 (by decide) (fun c5 => ?_) (fun c5 => ?_)
            · skip
              have h := (if_pos c5).symm.trans h
              refine lv_iload_n hx hb dX9_ordersFrom_27 rfl (lv_at hl 2 rfl) ?_
              have J47_7 : ∀ (a6 : Unit) (H : Heap) (locs : List Loc) (ls : Array Slot), fX9_ordersFrom_J47 rec x0 x1 x2 x3 x4 a6 = some z → va_P D vwCl [] H → va_D A0 [] → va_S A0 s.heap H locs → lv_has ls 5 [(0, .int x0), (1, .int x1), (2, .int x2), (3, .int x3), (4, .int x4)] → W p l e ({ frames := d + 1 + 2, cells := 0, slots := 0, locals := 24 * (d + 1) + 45 } : Room) s m args below meth c H locs 0 0 Q0 (F0 m 47 ls []) := by
                intro a6 H locs ls h hP hD hS hl
                unfold fX9_ordersFrom_J47 at h
                refine lv_iload_n hx hb dX9_ordersFrom_47 rfl (lv_at hl 0 rfl) ?_
                refine lv_iload_n hx hb dX9_ordersFrom_48 rfl (lv_at hl 0 rfl) ?_
                refine lv_iload_n hx hb dX9_ordersFrom_49 rfl (lv_at hl 1 rfl) ?_
                refine cl_S [] (As := [.int x0, .int x1]) (rest := [.int x0]) (rv := (some (.int (fX5_behindHand x0 x1)))) (c_X5_behindHand l D cI cJ x0 x1) ⟨hx, hb, hml, hown, hts⟩ (va_cwS 2 hts gX9_ordersFrom_X5_behindHand rfl rfl rfl (by decide +kernel) ⟨by simp only [headSpec]; omega, by simp only [headSpec]; omega⟩) hK hN hP hD hS [] rfl (by decide) rfl rfl rfl rfl hl.1 rfl (Nat.le_of_ble_eq_true rfl) dX9_ordersFrom_50 ⟨Nat.zero_le _, Nat.zero_le _⟩ (fun H locs hP hD hS => ?_)
                show W p l e ({ frames := d + 1 + 2, cells := 0, slots := 0, locals := 24 * (d + 1) + 45 } : Room) s m args below meth c H locs 0 0 Q0 (F0 m 53 ls [.int (fX5_behindHand x0 x1), .int x0])
                refine lv_iload_n hx hb dX9_ordersFrom_53 rfl (lv_at hl 2 rfl) ?_
                refine lv_iconst (v := 1) hx hb dX9_ordersFrom_54 (by decide) ?_
                refine lv_isub hx hb dX9_ordersFrom_55 ?_
                refine lv_iload_n hx hb dX9_ordersFrom_56 rfl (lv_at hl 3 rfl) ?_
                refine lv_iload hx hb dX9_ordersFrom_57 (lv_at hl 4 rfl) ?_
                obtain ⟨u8, g9, h⟩ := bd_of h
                refine cl_S [] (As := [.int x0, .int (fX5_behindHand x0 x1), .int (x2 - 1), .int x3, .int x4]) (rest := []) (rv := (some (.int u8))) (ihd x0 (fX5_behindHand x0 x1) (x2 - 1) x3 x4 u8 g9) ⟨hx, hb, hml, hown, hts⟩ (va_cwS 5 hts gX9_ordersFrom_X9_ordersFrom rfl rfl rfl (by decide +kernel) ⟨by simp only [headSpec]; omega, by simp only [headSpec]; omega⟩) hK hN hP hD hS [] rfl (by decide) rfl rfl rfl rfl hl.1 rfl (Nat.le_of_ble_eq_true rfl) dX9_ordersFrom_59 ⟨Nat.zero_le _, Nat.zero_le _⟩ (fun H locs hP hD hS => ?_)
                show W p l e ({ frames := d + 1 + 2, cells := 0, slots := 0, locals := 24 * (d + 1) + 45 } : Room) s m args below meth c H locs 0 0 Q0 (F0 m 62 ls [.int u8])
                refine lv_iload_n hx hb dX9_ordersFrom_62 rfl (lv_at hl 0 rfl) ?_
                refine lv_iload_n hx hb dX9_ordersFrom_63 rfl (lv_at hl 0 rfl) ?_
                refine lv_iload_n hx hb dX9_ordersFrom_64 rfl (lv_at hl 1 rfl) ?_
                refine cl_S [] (As := [.int x0, .int x1]) (rest := [.int x0, .int u8]) (rv := (some (.int (fX5_behindDamp x0 x1)))) (c_X5_behindDamp l D cI cJ x0 x1) ⟨hx, hb, hml, hown, hts⟩ (va_cwS 2 hts gX9_ordersFrom_X5_behindDamp rfl rfl rfl (by decide +kernel) ⟨by simp only [headSpec]; omega, by simp only [headSpec]; omega⟩) hK hN hP hD hS [] rfl (by decide) rfl rfl rfl rfl hl.1 rfl (Nat.le_of_ble_eq_true rfl) dX9_ordersFrom_65 ⟨Nat.zero_le _, Nat.zero_le _⟩ (fun H locs hP hD hS => ?_)
                show W p l e ({ frames := d + 1 + 2, cells := 0, slots := 0, locals := 24 * (d + 1) + 45 } : Room) s m args below meth c H locs 0 0 Q0 (F0 m 68 ls [.int (fX5_behindDamp x0 x1), .int x0, .int u8])
                refine lv_iload_n hx hb dX9_ordersFrom_68 rfl (lv_at hl 2 rfl) ?_
                refine lv_iload_n hx hb dX9_ordersFrom_69 rfl (lv_at hl 3 rfl) ?_
                refine lv_iconst (v := 1) hx hb dX9_ordersFrom_70 (by decide) ?_
                refine lv_isub hx hb dX9_ordersFrom_71 ?_
                refine lv_iload hx hb dX9_ordersFrom_72 (lv_at hl 4 rfl) ?_
                obtain ⟨u10, g11, h⟩ := bd_of h
                refine cl_S [] (As := [.int x0, .int (fX5_behindDamp x0 x1), .int x2, .int (x3 - 1), .int x4]) (rest := [.int u8]) (rv := (some (.int u10))) (ihd x0 (fX5_behindDamp x0 x1) x2 (x3 - 1) x4 u10 g11) ⟨hx, hb, hml, hown, hts⟩ (va_cwS 5 hts gX9_ordersFrom_X9_ordersFrom rfl rfl rfl (by decide +kernel) ⟨by simp only [headSpec]; omega, by simp only [headSpec]; omega⟩) hK hN hP hD hS [] rfl (by decide) rfl rfl rfl rfl hl.1 rfl (Nat.le_of_ble_eq_true rfl) dX9_ordersFrom_74 ⟨Nat.zero_le _, Nat.zero_le _⟩ (fun H locs hP hD hS => ?_)
                show W p l e ({ frames := d + 1 + 2, cells := 0, slots := 0, locals := 24 * (d + 1) + 45 } : Room) s m args below meth c H locs 0 0 Q0 (F0 m 77 ls [.int u10, .int u8])
                refine lv_iadd hx hb dX9_ordersFrom_77 ?_
                obtain rfl := Option.some.inj h
                exact rt_i hA0 hQ0 hx hb hr hlocks hP hS dX9_ordersFrom_78
              refine lv_if_ne (tgt := 47) hx hb dX9_ordersFrom_28 (by decide) (fun c12 => ?_) (fun c12 => ?_)
              · skip
                have h := (if_neg c12).symm.trans h
                exact J47_7 () _ _ _ h hP hD hS (lv_sub hl [0, 1, 2, 3, 4] rfl)
              · skip
                have h := (if_pos c12).symm.trans h
                refine lv_iload_n hx hb dX9_ordersFrom_31 rfl (lv_at hl 3 rfl) ?_
                refine lv_if_ne (tgt := 47) hx hb dX9_ordersFrom_32 (by decide) (fun c13 => ?_) (fun c13 => ?_)
                · skip
                  have h := (if_neg c13).symm.trans h
                  exact J47_7 () _ _ _ h hP hD hS (lv_sub hl [0, 1, 2, 3, 4] rfl)
                · skip
                  have h := (if_pos c13).symm.trans h
                  refine lv_iload_n hx hb dX9_ordersFrom_35 rfl (lv_at hl 1 rfl) ?_
                  refine lv_iload hx hb dX9_ordersFrom_36 (lv_at hl 4 rfl) ?_
                  refine lv_icmp_ne (tgt := 45) hx hb dX9_ordersFrom_38 (by decide) (fun c14 => ?_) (fun c14 => ?_)
                  · skip
                    have h := (if_neg c14).symm.trans h
                    refine lv_iconst (v := 0) hx hb dX9_ordersFrom_45 (by decide) ?_
                    obtain rfl := Option.some.inj h
                    exact rt_i hA0 hQ0 hx hb hr hlocks hP hS dX9_ordersFrom_46
                  · skip
                    have h := (if_pos c14).symm.trans h
                    refine lv_iconst (v := 1) hx hb dX9_ordersFrom_41 (by decide) ?_
                    refine lv_goto (tgt := 46) hx hb dX9_ordersFrom_42 (by decide) ?_
                    obtain rfl := Option.some.inj h
                    exact rt_i hA0 hQ0 hx hb hr hlocks hP hS dX9_ordersFrom_46
            · skip
              have h := (if_neg c5).symm.trans h
              refine lv_iconst (v := 0) hx hb dX9_ordersFrom_25 (by decide) ?_
              obtain rfl := Option.some.inj h
              exact rt_i hA0 hQ0 hx hb hr hlocks hP hS dX9_ordersFrom_26
def fX9_orders (x0 : Int32) (x1 : Int32) (x2 : Int32) (x3 : Int32) : Option (Int32) :=
  (fX9_ordersFrom 13 x0 9 x1 x2 x3).bind (fun u1 => some u1)
set_option maxHeartbeats 4000000 in
set_option maxRecDepth 100000 in
theorem c_X9_orders (l : Launch) (D : va_G) (cI cJ : ClassId) (x0 : Int32) (x1 : Int32) (x2 : Int32) (x3 : Int32) (z : Int32) (h : fX9_orders x0 x1 x2 x3 = some z) : Met l yX9_orders wsX9_orders ({ frames := 16, cells := 0, slots := 0, locals := 381 } : Room) (va_Pc [.int x0, .int x1, .int x2, .int x3] (preG D cI cJ [])) (QG D [] [] (some (.int z))) 0 0 (fr []) := by
  refine Met.ofW (cc := cX9_orders) (maxL := 4) (ret := (some .int)) (by decide) rfl ?_
  intro p e s m args below meth c s₁ B hml hv
  obtain ⟨hargs, hP, hK, hN, hD0⟩ := hv
  have hx := B.exec
  have hb := B.bytes
  have hr := B.returns
  have hts := atoms_spec (ws := wsX9_orders) B.pre
  have hown : s.vm.findClass RX9 = some m.cls := findClass_of_methodNamed B.named
  have hlocks := B.notSynchronized
  have hD := fr_D hD0
  have hS : va_S (fr []) s.heap s.heap [] := va_S.rf
  have hl := lv_entry ([.int x0, .int x1, .int x2, .int x3]) (n := 4) (Nat.le_of_ble_eq_true rfl)
  refine W.eq (g2 := F0 m 0 ((lg_sl ([.int x0, .int x1, .int x2, .int x3]) ++ List.replicate (4 - (lg_sl ([.int x0, .int x1, .int x2, .int x3])).length) Slot.unset).toArray) []) (by rw [hargs, lg_entry_eq]) ?_
  generalize (lg_sl ([.int x0, .int x1, .int x2, .int x3]) ++ List.replicate (4 - (lg_sl ([.int x0, .int x1, .int x2, .int x3])).length) Slot.unset).toArray = ls at hl ⊢
  have hl : lv_has ls 4 [(0, .int x0), (1, .int x1), (2, .int x2), (3, .int x3)] := hl
  show W p l e ({ frames := 16, cells := 0, slots := 0, locals := 381 } : Room) s m args below meth c s.heap [] 0 0 (MQ below (QG D [] [] (some (.int z))) args s 0 0 (fr [])) (F0 m 0 ls [])
  generalize hQ0 : (MQ below (QG D [] [] (some (.int z))) args s 0 0 (fr [])) = Q0
  generalize hA0 : fr [] = A0 at hD hS
  unfold fX9_orders at h
  refine lv_iload_n hx hb dX9_orders_0 rfl (lv_at hl 0 rfl) ?_
  refine lv_bipush (v := 9) hx hb dX9_orders_1 (by decide) ?_
  refine lv_iload_n hx hb dX9_orders_3 rfl (lv_at hl 1 rfl) ?_
  refine lv_iload_n hx hb dX9_orders_4 rfl (lv_at hl 2 rfl) ?_
  refine lv_iload_n hx hb dX9_orders_5 rfl (lv_at hl 3 rfl) ?_
  obtain ⟨u1, g2, h⟩ := bd_of h
  refine cl_S [] (As := [.int x0, .int 9, .int x1, .int x2, .int x3]) (rest := []) (rv := (some (.int u1))) (c_X9_ordersFrom l D cI cJ 13 x0 9 x1 x2 x3 u1 g2) ⟨hx, hb, hml, hown, hts⟩ (va_cwS 5 hts gX9_orders_X9_ordersFrom rfl rfl rfl (by decide +kernel) ⟨(Nat.le_of_ble_eq_true rfl), (Nat.le_of_ble_eq_true rfl)⟩) hK hN hP hD hS [] rfl (by decide) rfl rfl rfl rfl hl.1 rfl (Nat.le_of_ble_eq_true rfl) dX9_orders_6 ⟨Nat.zero_le _, Nat.zero_le _⟩ (fun H locs hP hD hS => ?_)
  show W p l e ({ frames := 16, cells := 0, slots := 0, locals := 381 } : Room) s m args below meth c H locs 0 0 Q0 (F0 m 9 ls [.int u1])
  obtain rfl := Option.some.inj h
  exact rt_i hA0 hQ0 hx hb hr hlocks hP hS dX9_orders_9
def fX9_keepOnly_X2_26  (a3 : (Nat → Int32)) : Option ((Nat → Int32)) :=
  some a3
def fX9_keepOnly_J20 (z1 : Int32 × (Nat → Int32)) (a7 : (Nat → Int32)) : Option ((Int32 × (Nat → Int32)) ⊕ ((Nat → Int32))) :=
  some (Sum.inl ((z1.1 + 1), a7))
def fX9_keepOnly_L2 (x1 : Int32) (z1 : Int32 × (Nat → Int32)) : Option ((Int32 × (Nat → Int32)) ⊕ ((Nat → Int32))) :=
  if 6 ≤ z1.1 then (some (Sum.inr z1.2)) else (if z1.1 = x1 then (fX9_keepOnly_J20 z1 z1.2) else (gd (inb z1.1 6) (fX9_keepOnly_J20 z1 (upd z1.2 z1.1.toNatClampNeg 0))))
def fX9_keepOnly (v_t_rowsTo : Nat → Int32) (x1 : Int32) : Option ((Nat → Int32)) :=
  (iter (fX9_keepOnly_L2 x1) FU (0, v_t_rowsTo)).bind (fX9_keepOnly_X2_26)
set_option maxHeartbeats 4000000 in
set_option maxRecDepth 100000 in
theorem c_X9_keepOnly (l : Launch) (D : va_G) (cI cJ : ClassId) (q_t q_t_rowsTo : Nat) (v_t_rowsTo : Nat → Int32) (x1 : Int32) (z : (Nat → Int32)) (h : fX9_keepOnly v_t_rowsTo x1 = some z) : Met l yX9_keepOnly wsX9_keepOnly ({ frames := 0, cells := 0, slots := 0, locals := 0 } : Room) (va_Pc [.ref q_t, .int x1] (preG D cI cJ [(q_t, .inr (8, [.ref q_t_rowsTo])), (q_t_rowsTo, .inl (cI, 6, .inl v_t_rowsTo))])) (QG D [(q_t, .inr (8, [.ref q_t_rowsTo])), (q_t_rowsTo, .inl (cI, 6, .inl v_t_rowsTo))] [(q_t, .inr (8, [.ref q_t_rowsTo])), (q_t_rowsTo, .inl (cI, 6, .inl z))] none) 0 0 (fr [(q_t, .inr (8, [.ref q_t_rowsTo])), (q_t_rowsTo, .inl (cI, 6, .inl v_t_rowsTo))]) := by
  refine Met.ofW (cc := cX9_keepOnly) (maxL := 3) (ret := none) (by decide) rfl ?_
  intro p e s m args below meth c s₁ B hml hv
  obtain ⟨hargs, hP, hK, hN, hD0⟩ := hv
  have hx := B.exec
  have hb := B.bytes
  have hr := B.returns
  have hts := atoms_spec (ws := wsX9_keepOnly) B.pre
  have hown : s.vm.findClass RX9 = some m.cls := findClass_of_methodNamed B.named
  have hlocks := B.notSynchronized
  have iX9 : ∀ w ∈ wsX90, w ∈ wsX9_keepOnly := by decide +kernel
  have k9 := hts (.fieldLink RX9 9 "PressedFerns$Ways" "rowsTo" "[I") (by decide +kernel)
  have hD := fr_D hD0
  have hS : va_S (fr [(q_t, .inr (8, [.ref q_t_rowsTo])), (q_t_rowsTo, .inl (cI, 6, .inl v_t_rowsTo))]) s.heap s.heap [] := va_S.rf
  have hl := lv_entry ([.ref q_t, .int x1]) (n := 3) (Nat.le_of_ble_eq_true rfl)
  refine W.eq (g2 := F0 m 0 ((lg_sl ([.ref q_t, .int x1]) ++ List.replicate (3 - (lg_sl ([.ref q_t, .int x1])).length) Slot.unset).toArray) []) (by rw [hargs, lg_entry_eq]) ?_
  generalize (lg_sl ([.ref q_t, .int x1]) ++ List.replicate (3 - (lg_sl ([.ref q_t, .int x1])).length) Slot.unset).toArray = ls at hl ⊢
  have hl : lv_has ls 3 [(0, .ref q_t), (1, .int x1)] := hl
  show W p l e ({ frames := 0, cells := 0, slots := 0, locals := 0 } : Room) s m args below meth c s.heap [] 0 0 (MQ below (QG D [(q_t, .inr (8, [.ref q_t_rowsTo])), (q_t_rowsTo, .inl (cI, 6, .inl v_t_rowsTo))] [(q_t, .inr (8, [.ref q_t_rowsTo])), (q_t_rowsTo, .inl (cI, 6, .inl z))] none) args s 0 0 (fr [(q_t, .inr (8, [.ref q_t_rowsTo])), (q_t_rowsTo, .inl (cI, 6, .inl v_t_rowsTo))])) (F0 m 0 ls [])
  generalize hQ0 : (MQ below (QG D [(q_t, .inr (8, [.ref q_t_rowsTo])), (q_t_rowsTo, .inl (cI, 6, .inl v_t_rowsTo))] [(q_t, .inr (8, [.ref q_t_rowsTo])), (q_t_rowsTo, .inl (cI, 6, .inl z))] none) args s 0 0 (fr [(q_t, .inr (8, [.ref q_t_rowsTo])), (q_t_rowsTo, .inl (cI, 6, .inl v_t_rowsTo))])) = Q0
  generalize hA0 : fr [(q_t, .inr (8, [.ref q_t_rowsTo])), (q_t_rowsTo, .inl (cI, 6, .inl v_t_rowsTo))] = A0 at hD hS
  unfold fX9_keepOnly at h
  refine lv_iconst (v := 0) hx hb dX9_keepOnly_0 (by decide) ?_
  refine lv_istore_n (lv' := [(2, .int 0), (0, .ref q_t), (1, .int x1)]) hx hb dX9_keepOnly_1 rfl hl (by decide) rfl (fun ls hl => ?_)
  obtain ⟨e2, he_e2, hc_e2⟩ := bd_of h
  have X26_4 : ∀ (a3 : (Nat → Int32)) (H : Heap) (locs : List Loc) (ls : Array Slot), fX9_keepOnly_X2_26 a3 = some z → va_P D vwCl [(q_t, .inr (8, [.ref q_t_rowsTo])), (q_t_rowsTo, .inl (cI, 6, .inl a3))] H → va_D A0 [(q_t, .inr (8, [.ref q_t_rowsTo])), (q_t_rowsTo, .inl (cI, 6, .inl a3))] → va_S A0 s.heap H locs → lv_has ls 3 [] → W p l e ({ frames := 0, cells := 0, slots := 0, locals := 0 } : Room) s m args below meth c H locs 0 0 Q0 (F0 m 26 ls []) := by
    intro a3 H locs ls h hP hD hS hl
    unfold fX9_keepOnly_X2_26 at h
    obtain rfl := Option.some.inj h
    exact rt_v hA0 hQ0 hx hb hr hlocks hP hS dX9_keepOnly_26
  have L2_5 : ∀ (n : Nat) (z1 : Int32 × (Nat → Int32)) (H : Heap) (locs : List Loc) (ls : Array Slot), iter (fX9_keepOnly_L2 x1) n z1 = some e2 → va_P D vwCl [(q_t, .inr (8, [.ref q_t_rowsTo])), (q_t_rowsTo, .inl (cI, 6, .inl z1.2))] H → va_D A0 [(q_t, .inr (8, [.ref q_t_rowsTo])), (q_t_rowsTo, .inl (cI, 6, .inl z1.2))] → va_S A0 s.heap H locs → lv_has ls 3 [(0, .ref q_t), (1, .int x1), (2, .int z1.1)] → W p l e ({ frames := 0, cells := 0, slots := 0, locals := 0 } : Room) s m args below meth c H locs 0 0 Q0 (F0 m 2 ls []) := by
    intro n
    induction n with
    | zero => exact fun _ _ _ _ h => (iter_z h).elim
    | succ n ih =>
      intro z1 H locs ls h hP hD hS hl
      obtain ⟨r_e2, h, hn_e2⟩ := iter_s h
      unfold fX9_keepOnly_L2 at h
      refine lv_iload_n hx hb dX9_keepOnly_2 rfl (lv_at hl 2 rfl) ?_
      refine lv_bipush (v := 6) hx hb dX9_keepOnly_3 (by decide) ?_
      refine lv_icmp_ge (tgt := 26) hx hb dX9_keepOnly_5 (by decide) (fun c6 => ?_) (fun c6 => ?_)
      · skip
        have h := (if_pos c6).symm.trans h
        obtain rfl := Option.some.inj h
        obtain rfl := Option.some.inj hn_e2
        exact X26_4 z1.2 _ _ _ hc_e2 hP hD hS (lv_sub hl [] rfl)
      · skip
        have h := (if_neg c6).symm.trans h
        refine lv_iload_n hx hb dX9_keepOnly_8 rfl (lv_at hl 2 rfl) ?_
        refine lv_iload_n hx hb dX9_keepOnly_9 rfl (lv_at hl 1 rfl) ?_
        have J20_8 : ∀ (a7 : (Nat → Int32)) (H : Heap) (locs : List Loc) (ls : Array Slot), fX9_keepOnly_J20 z1 a7 = some r_e2 → va_P D vwCl [(q_t, .inr (8, [.ref q_t_rowsTo])), (q_t_rowsTo, .inl (cI, 6, .inl a7))] H → va_D A0 [(q_t, .inr (8, [.ref q_t_rowsTo])), (q_t_rowsTo, .inl (cI, 6, .inl a7))] → va_S A0 s.heap H locs → lv_has ls 3 [(0, .ref q_t), (1, .int x1), (2, .int z1.1)] → W p l e ({ frames := 0, cells := 0, slots := 0, locals := 0 } : Room) s m args below meth c H locs 0 0 Q0 (F0 m 20 ls []) := by
          intro a7 H locs ls h hP hD hS hl
          unfold fX9_keepOnly_J20 at h
          refine lv_iinc (v := (z1.1 + 1)) (lv' := [(2, .int (z1.1 + 1)), (0, .ref q_t), (1, .int x1)]) hx hb dX9_keepOnly_20 hl (k := 2) rfl rfl (by decide) rfl (fun ls hl => ?_)
          refine lv_goto (tgt := 2) hx hb dX9_keepOnly_23 (by decide) ?_
          obtain rfl := Option.some.inj h
          exact ih ((z1.1 + 1), a7) _ _ _ hn_e2 hP hD hS (lv_sub hl [1, 2, 0] rfl)
        refine lv_icmp_eq (tgt := 20) hx hb dX9_keepOnly_10 (by decide) (fun c9 => ?_) (fun c9 => ?_)
        · skip
          have h := (if_pos c9).symm.trans h
          exact J20_8 z1.2 _ _ _ h hP hD hS (lv_sub hl [0, 1, 2] rfl)
        · skip
          have h := (if_neg c9).symm.trans h
          refine lv_aload_n hx hb dX9_keepOnly_13 rfl (lv_at hl 0 rfl) ?_
          refine va_get (own := RX9) (ci := 8) (v := .ref q_t_rowsTo) (C := RX9) (T := TX9) (N := 1) hx hb hts iX9 hown hK hP 0 rfl rfl 0 (by decide) k9 (fun _ h9 => h9) rfl dX9_keepOnly_14 ?_
          refine lv_iload_n hx hb dX9_keepOnly_17 rfl (lv_at hl 2 rfl) ?_
          refine lv_iconst (v := 0) hx hb dX9_keepOnly_18 (by decide) ?_
          obtain ⟨g10, h⟩ := gd_of h
          refine va_iast hx hb hK hP hD hS 1 0 rfl rfl (inb_of g10) dX9_keepOnly_19 (fun H locs hP hD hS => ?_)
          have hP : va_P D vwCl [(q_t, .inr (8, [.ref q_t_rowsTo])), (q_t_rowsTo, .inl (cI, 6, .inl (upd z1.2 z1.1.toNatClampNeg 0)))] H := hP
          have hD : va_D A0 [(q_t, .inr (8, [.ref q_t_rowsTo])), (q_t_rowsTo, .inl (cI, 6, .inl (upd z1.2 z1.1.toNatClampNeg 0)))] := hD
          exact J20_8 (upd z1.2 z1.1.toNatClampNeg 0) _ _ _ h hP hD hS (lv_sub hl [0, 1, 2] rfl)
  exact L2_5 FU (0, v_t_rowsTo) _ _ _ he_e2 hP hD hS (lv_sub hl [1, 2, 0] rfl)
def fX9_passOn_X38_64  (a7 : (Nat → Int32)) : Option ((Nat → Int32)) :=
  some a7
def fX9_passOn_L38 (a3 : Int32) (z5 : Int32 × (Nat → Int32)) : Option ((Int32 × (Nat → Int32)) ⊕ ((Nat → Int32))) :=
  if 6 ≤ z5.1 then (some (Sum.inr z5.2)) else (gd (inb z5.1 6) (some (Sum.inl ((z5.1 + 1), (upd z5.2 z5.1.toNatClampNeg (a3 - (z5.2 z5.1.toNatClampNeg)))))))
def fX9_passOn_X13_36 (v_t_rowsTo : Nat → Int32) (a3 : Int32) : Option ((Nat → Int32)) :=
  (iter (fX9_passOn_L38 a3) FU (0, v_t_rowsTo)).bind (fX9_passOn_X38_64)
def fX9_passOn_L13 (v_t_rowsTo : Nat → Int32) (z1 : Int32 × Int32) : Option ((Int32 × Int32) ⊕ (Int32)) :=
  if 6 ≤ z1.2 then (some (Sum.inr z1.1)) else (gd (inb z1.2 6) (some (Sum.inl ((z1.1 + (v_t_rowsTo z1.2.toNatClampNeg)), (z1.2 + 1)))))
def fX9_passOn (v_t_rowsTo : Nat → Int32) : Option ((Nat → Int32)) :=
  (iter (fX9_passOn_L13 v_t_rowsTo) FU (0, 0)).bind (fX9_passOn_X13_36 v_t_rowsTo)
set_option maxHeartbeats 4000000 in
set_option maxRecDepth 100000 in
theorem c_X9_passOn (l : Launch) (D : va_G) (cI cJ : ClassId) (q_t q_t_rowsTo : Nat) (v_t_rowsTo : Nat → Int32) (z : (Nat → Int32)) (h : fX9_passOn v_t_rowsTo = some z) : Met l yX9_passOn wsX9_passOn ({ frames := 0, cells := 0, slots := 0, locals := 0 } : Room) (va_Pc [.ref q_t] (preG D cI cJ [(q_t, .inr (8, [.ref q_t_rowsTo])), (q_t_rowsTo, .inl (cI, 6, .inl v_t_rowsTo))])) (QG D [(q_t, .inr (8, [.ref q_t_rowsTo])), (q_t_rowsTo, .inl (cI, 6, .inl v_t_rowsTo))] [(q_t, .inr (8, [.ref q_t_rowsTo])), (q_t_rowsTo, .inl (cI, 6, .inl z))] none) 0 0 (fr [(q_t, .inr (8, [.ref q_t_rowsTo])), (q_t_rowsTo, .inl (cI, 6, .inl v_t_rowsTo))]) := by
  refine Met.ofW (cc := cX9_passOn) (maxL := 6) (ret := none) (by decide) rfl ?_
  intro p e s m args below meth c s₁ B hml hv
  obtain ⟨hargs, hP, hK, hN, hD0⟩ := hv
  have hx := B.exec
  have hb := B.bytes
  have hr := B.returns
  have hts := atoms_spec (ws := wsX9_passOn) B.pre
  have hown : s.vm.findClass RX9 = some m.cls := findClass_of_methodNamed B.named
  have hlocks := B.notSynchronized
  have iX9 : ∀ w ∈ wsX90, w ∈ wsX9_passOn := by decide +kernel
  have k9 := hts (.fieldLink RX9 9 "PressedFerns$Ways" "rowsTo" "[I") (by decide +kernel)
  have hD := fr_D hD0
  have hS : va_S (fr [(q_t, .inr (8, [.ref q_t_rowsTo])), (q_t_rowsTo, .inl (cI, 6, .inl v_t_rowsTo))]) s.heap s.heap [] := va_S.rf
  have hl := lv_entry ([.ref q_t]) (n := 6) (Nat.le_of_ble_eq_true rfl)
  refine W.eq (g2 := F0 m 0 ((lg_sl ([.ref q_t]) ++ List.replicate (6 - (lg_sl ([.ref q_t])).length) Slot.unset).toArray) []) (by rw [hargs, lg_entry_eq]) ?_
  generalize (lg_sl ([.ref q_t]) ++ List.replicate (6 - (lg_sl ([.ref q_t])).length) Slot.unset).toArray = ls at hl ⊢
  have hl : lv_has ls 6 [(0, .ref q_t)] := hl
  show W p l e ({ frames := 0, cells := 0, slots := 0, locals := 0 } : Room) s m args below meth c s.heap [] 0 0 (MQ below (QG D [(q_t, .inr (8, [.ref q_t_rowsTo])), (q_t_rowsTo, .inl (cI, 6, .inl v_t_rowsTo))] [(q_t, .inr (8, [.ref q_t_rowsTo])), (q_t_rowsTo, .inl (cI, 6, .inl z))] none) args s 0 0 (fr [(q_t, .inr (8, [.ref q_t_rowsTo])), (q_t_rowsTo, .inl (cI, 6, .inl v_t_rowsTo))])) (F0 m 0 ls [])
  generalize hQ0 : (MQ below (QG D [(q_t, .inr (8, [.ref q_t_rowsTo])), (q_t_rowsTo, .inl (cI, 6, .inl v_t_rowsTo))] [(q_t, .inr (8, [.ref q_t_rowsTo])), (q_t_rowsTo, .inl (cI, 6, .inl z))] none) args s 0 0 (fr [(q_t, .inr (8, [.ref q_t_rowsTo])), (q_t_rowsTo, .inl (cI, 6, .inl v_t_rowsTo))])) = Q0
  generalize hA0 : fr [(q_t, .inr (8, [.ref q_t_rowsTo])), (q_t_rowsTo, .inl (cI, 6, .inl v_t_rowsTo))] = A0 at hD hS
  unfold fX9_passOn at h
  refine lv_iconst (v := 0) hx hb dX9_passOn_0 (by decide) ?_
  refine lv_istore_n (lv' := [(1, .int 0), (0, .ref q_t)]) hx hb dX9_passOn_1 rfl hl (by decide) rfl (fun ls hl => ?_)
  refine lv_aload_n hx hb dX9_passOn_2 rfl (lv_at hl 1 rfl) ?_
  refine va_get (own := RX9) (ci := 8) (v := .ref q_t_rowsTo) (C := RX9) (T := TX9) (N := 1) hx hb hts iX9 hown hK hP 0 rfl rfl 0 (by decide) k9 (fun _ h9 => h9) rfl dX9_passOn_3 ?_
  refine lv_astore_n (lv' := [(2, .ref q_t_rowsTo), (1, .int 0), (0, .ref q_t)]) hx hb dX9_passOn_6 rfl hl (by decide) rfl (fun ls hl => ?_)
  refine lv_aload_n hx hb dX9_passOn_7 rfl (lv_at hl 0 rfl) ?_
  refine va_alen (v := 6) hx hb hK hP 1 0 rfl rfl rfl dX9_passOn_8 ?_
  refine lv_istore_n (lv' := [(3, .int 6), (2, .ref q_t_rowsTo), (1, .int 0), (0, .ref q_t)]) hx hb dX9_passOn_9 rfl hl (by decide) rfl (fun ls hl => ?_)
  refine lv_iconst (v := 0) hx hb dX9_passOn_10 (by decide) ?_
  refine lv_istore (lv' := [(4, .int 0), (3, .int 6), (2, .ref q_t_rowsTo), (1, .int 0), (0, .ref q_t)]) hx hb dX9_passOn_11 hl (by decide) rfl (fun ls hl => ?_)
  obtain ⟨e2, he_e2, hc_e2⟩ := bd_of h
  have X36_4 : ∀ (a3 : Int32) (H : Heap) (locs : List Loc) (ls : Array Slot), fX9_passOn_X13_36 v_t_rowsTo a3 = some z → va_P D vwCl [(q_t, .inr (8, [.ref q_t_rowsTo])), (q_t_rowsTo, .inl (cI, 6, .inl v_t_rowsTo))] H → va_D A0 [(q_t, .inr (8, [.ref q_t_rowsTo])), (q_t_rowsTo, .inl (cI, 6, .inl v_t_rowsTo))] → va_S A0 s.heap H locs → lv_has ls 6 [(0, .ref q_t), (1, .int a3)] → W p l e ({ frames := 0, cells := 0, slots := 0, locals := 0 } : Room) s m args below meth c H locs 0 0 Q0 (F0 m 36 ls []) := by
    intro a3 H locs ls h hP hD hS hl
    unfold fX9_passOn_X13_36 at h
    refine lv_iconst (v := 0) hx hb dX9_passOn_36 (by decide) ?_
    refine lv_istore_n (lv' := [(2, .int 0), (0, .ref q_t), (1, .int a3)]) hx hb dX9_passOn_37 rfl hl (by decide) rfl (fun ls hl => ?_)
    obtain ⟨e6, he_e6, hc_e6⟩ := bd_of h
    have X64_8 : ∀ (a7 : (Nat → Int32)) (H : Heap) (locs : List Loc) (ls : Array Slot), fX9_passOn_X38_64 a7 = some z → va_P D vwCl [(q_t, .inr (8, [.ref q_t_rowsTo])), (q_t_rowsTo, .inl (cI, 6, .inl a7))] H → va_D A0 [(q_t, .inr (8, [.ref q_t_rowsTo])), (q_t_rowsTo, .inl (cI, 6, .inl a7))] → va_S A0 s.heap H locs → lv_has ls 6 [] → W p l e ({ frames := 0, cells := 0, slots := 0, locals := 0 } : Room) s m args below meth c H locs 0 0 Q0 (F0 m 64 ls []) := by
      intro a7 H locs ls h hP hD hS hl
      unfold fX9_passOn_X38_64 at h
      obtain rfl := Option.some.inj h
      exact rt_v hA0 hQ0 hx hb hr hlocks hP hS dX9_passOn_64
    have L38_9 : ∀ (n : Nat) (z5 : Int32 × (Nat → Int32)) (H : Heap) (locs : List Loc) (ls : Array Slot), iter (fX9_passOn_L38 a3) n z5 = some e6 → va_P D vwCl [(q_t, .inr (8, [.ref q_t_rowsTo])), (q_t_rowsTo, .inl (cI, 6, .inl z5.2))] H → va_D A0 [(q_t, .inr (8, [.ref q_t_rowsTo])), (q_t_rowsTo, .inl (cI, 6, .inl z5.2))] → va_S A0 s.heap H locs → lv_has ls 6 [(0, .ref q_t), (1, .int a3), (2, .int z5.1)] → W p l e ({ frames := 0, cells := 0, slots := 0, locals := 0 } : Room) s m args below meth c H locs 0 0 Q0 (F0 m 38 ls []) := by
      intro n
      induction n with
      | zero => exact fun _ _ _ _ h => (iter_z h).elim
      | succ n ih =>
        intro z5 H locs ls h hP hD hS hl
        obtain ⟨r_e6, h, hn_e6⟩ := iter_s h
        unfold fX9_passOn_L38 at h
        refine lv_iload_n hx hb dX9_passOn_38 rfl (lv_at hl 2 rfl) ?_
        refine lv_bipush (v := 6) hx hb dX9_passOn_39 (by decide) ?_
        refine lv_icmp_ge (tgt := 64) hx hb dX9_passOn_41 (by decide) (fun c10 => ?_) (fun c10 => ?_)
        · skip
          have h := (if_pos c10).symm.trans h
          obtain rfl := Option.some.inj h
          obtain rfl := Option.some.inj hn_e6
          exact X64_8 z5.2 _ _ _ hc_e6 hP hD hS (lv_sub hl [] rfl)
        · skip
          have h := (if_neg c10).symm.trans h
          refine lv_aload_n hx hb dX9_passOn_44 rfl (lv_at hl 0 rfl) ?_
          refine va_get (own := RX9) (ci := 8) (v := .ref q_t_rowsTo) (C := RX9) (T := TX9) (N := 1) hx hb hts iX9 hown hK hP 0 rfl rfl 0 (by decide) k9 (fun _ h9 => h9) rfl dX9_passOn_45 ?_
          refine lv_iload_n hx hb dX9_passOn_48 rfl (lv_at hl 2 rfl) ?_
          refine lv_iload_n hx hb dX9_passOn_49 rfl (lv_at hl 1 rfl) ?_
          refine lv_aload_n hx hb dX9_passOn_50 rfl (lv_at hl 0 rfl) ?_
          refine va_get (own := RX9) (ci := 8) (v := .ref q_t_rowsTo) (C := RX9) (T := TX9) (N := 1) hx hb hts iX9 hown hK hP 0 rfl rfl 0 (by decide) k9 (fun _ h9 => h9) rfl dX9_passOn_51 ?_
          refine lv_iload_n hx hb dX9_passOn_54 rfl (lv_at hl 2 rfl) ?_
          obtain ⟨g11, h⟩ := gd_of h
          refine va_iald hx hb hK hP 1 0 rfl rfl (inb_of g11) dX9_passOn_55 ?_
          refine lv_isub hx hb dX9_passOn_56 ?_
          refine va_iast hx hb hK hP hD hS 1 0 rfl rfl (inb_of g11) dX9_passOn_57 (fun H locs hP hD hS => ?_)
          have hP : va_P D vwCl [(q_t, .inr (8, [.ref q_t_rowsTo])), (q_t_rowsTo, .inl (cI, 6, .inl (upd z5.2 z5.1.toNatClampNeg (a3 - (z5.2 z5.1.toNatClampNeg)))))] H := hP
          have hD : va_D A0 [(q_t, .inr (8, [.ref q_t_rowsTo])), (q_t_rowsTo, .inl (cI, 6, .inl (upd z5.2 z5.1.toNatClampNeg (a3 - (z5.2 z5.1.toNatClampNeg)))))] := hD
          refine lv_iinc (v := (z5.1 + 1)) (lv' := [(2, .int (z5.1 + 1)), (0, .ref q_t), (1, .int a3)]) hx hb dX9_passOn_58 hl (k := 2) rfl rfl (by decide) rfl (fun ls hl => ?_)
          refine lv_goto (tgt := 38) hx hb dX9_passOn_61 (by decide) ?_
          obtain rfl := Option.some.inj h
          exact ih ((z5.1 + 1), (upd z5.2 z5.1.toNatClampNeg (a3 - (z5.2 z5.1.toNatClampNeg)))) _ _ _ hn_e6 hP hD hS (lv_sub hl [1, 2, 0] rfl)
    exact L38_9 FU (0, v_t_rowsTo) _ _ _ he_e6 hP hD hS (lv_sub hl [1, 2, 0] rfl)
  have L13_12 : ∀ (n : Nat) (z1 : Int32 × Int32) (H : Heap) (locs : List Loc) (ls : Array Slot), iter (fX9_passOn_L13 v_t_rowsTo) n z1 = some e2 → va_P D vwCl [(q_t, .inr (8, [.ref q_t_rowsTo])), (q_t_rowsTo, .inl (cI, 6, .inl v_t_rowsTo))] H → va_D A0 [(q_t, .inr (8, [.ref q_t_rowsTo])), (q_t_rowsTo, .inl (cI, 6, .inl v_t_rowsTo))] → va_S A0 s.heap H locs → lv_has ls 6 [(0, .ref q_t), (1, .int z1.1), (2, .ref q_t_rowsTo), (3, .int 6), (4, .int z1.2)] → W p l e ({ frames := 0, cells := 0, slots := 0, locals := 0 } : Room) s m args below meth c H locs 0 0 Q0 (F0 m 13 ls []) := by
    intro n
    induction n with
    | zero => exact fun _ _ _ _ h => (iter_z h).elim
    | succ n ih =>
      intro z1 H locs ls h hP hD hS hl
      obtain ⟨r_e2, h, hn_e2⟩ := iter_s h
      unfold fX9_passOn_L13 at h
      refine lv_iload hx hb dX9_passOn_13 (lv_at hl 4 rfl) ?_
      refine lv_iload_n hx hb dX9_passOn_15 rfl (lv_at hl 3 rfl) ?_
      refine lv_icmp_ge (tgt := 36) hx hb dX9_passOn_16 (by decide) (fun c13 => ?_) (fun c13 => ?_)
      · skip
        have h := (if_pos c13).symm.trans h
        obtain rfl := Option.some.inj h
        obtain rfl := Option.some.inj hn_e2
        exact X36_4 z1.1 _ _ _ hc_e2 hP hD hS (lv_sub hl [0, 1] rfl)
      · skip
        have h := (if_neg c13).symm.trans h
        refine lv_aload_n hx hb dX9_passOn_19 rfl (lv_at hl 2 rfl) ?_
        refine lv_iload hx hb dX9_passOn_20 (lv_at hl 4 rfl) ?_
        obtain ⟨g14, h⟩ := gd_of h
        refine va_iald hx hb hK hP 1 0 rfl rfl (inb_of g14) dX9_passOn_22 ?_
        refine lv_istore (lv' := [(5, .int (v_t_rowsTo z1.2.toNatClampNeg)), (0, .ref q_t), (1, .int z1.1), (2, .ref q_t_rowsTo), (3, .int 6), (4, .int z1.2)]) hx hb dX9_passOn_23 hl (by decide) rfl (fun ls hl => ?_)
        refine lv_iload_n hx hb dX9_passOn_25 rfl (lv_at hl 2 rfl) ?_
        refine lv_iload hx hb dX9_passOn_26 (lv_at hl 0 rfl) ?_
        refine lv_iadd hx hb dX9_passOn_28 ?_
        refine lv_istore_n (lv' := [(1, .int (z1.1 + (v_t_rowsTo z1.2.toNatClampNeg))), (5, .int (v_t_rowsTo z1.2.toNatClampNeg)), (0, .ref q_t), (2, .ref q_t_rowsTo), (3, .int 6), (4, .int z1.2)]) hx hb dX9_passOn_29 rfl hl (by decide) rfl (fun ls hl => ?_)
        refine lv_iinc (v := (z1.2 + 1)) (lv' := [(4, .int (z1.2 + 1)), (1, .int (z1.1 + (v_t_rowsTo z1.2.toNatClampNeg))), (5, .int (v_t_rowsTo z1.2.toNatClampNeg)), (0, .ref q_t), (2, .ref q_t_rowsTo), (3, .int 6)]) hx hb dX9_passOn_30 hl (k := 5) rfl rfl (by decide) rfl (fun ls hl => ?_)
        refine lv_goto (tgt := 13) hx hb dX9_passOn_33 (by decide) ?_
        obtain rfl := Option.some.inj h
        exact ih ((z1.1 + (v_t_rowsTo z1.2.toNatClampNeg)), (z1.2 + 1)) _ _ _ hn_e2 hP hD hS (lv_sub hl [3, 1, 4, 5, 0] rfl)
  exact L13_12 FU (0, 0) _ _ _ he_e2 hP hD hS (lv_sub hl [4, 3, 2, 1, 0] rfl)
def fX9_throughPeople_X4_21 (v_t_rowsTo : Nat → Int32) (a3 : Unit) : Option (Int32 × (Nat → Int32)) :=
  some (0, v_t_rowsTo)
def fX9_throughPeople_X67_101 (v_p0_owners : Nat → Int32) (x2 : Int32) (a13 : (Nat → Int32)) : Option (Int32 × (Nat → Int32)) :=
  gd (inb x2 10) (if (fX10_isPerson (v_p0_owners x2.toNatClampNeg)) = 0 then (some (0, a13)) else (gd (inb (v_p0_owners x2.toNatClampNeg) 6) (some ((a13 (v_p0_owners x2.toNatClampNeg).toNatClampNeg), a13))))
def fX9_throughPeople_J91 (z11 : Int32 × (Nat → Int32)) (a20 : (Nat → Int32)) : Option ((Int32 × (Nat → Int32)) ⊕ ((Nat → Int32))) :=
  (fX9_passOn a20).bind (fun u22 => some (Sum.inl ((z11.1 + (-1)), u22)))
def fX9_throughPeople_L67 (v_p0_size : Int32) (v_p0_lostByHands : Int32) (v_p0_lostByMould : Int32) (v_p0_tears : Nat → Int32) (x2 : Int32) (z11 : Int32 × (Nat → Int32)) : Option ((Int32 × (Nat → Int32)) ⊕ ((Nat → Int32))) :=
  if z11.1 ≤ 0 then (some (Sum.inr z11.2)) else (if 4 < z11.1 then (fX9_throughPeople_J91 z11 z11.2) else ((fX4_tear v_p0_size v_p0_lostByHands v_p0_lostByMould v_p0_tears x2 (z11.1 - 1)).bind (fun u25 => (fX9_keepOnly z11.2 u25).bind (fun u27 => fX9_throughPeople_J91 z11 u27))))
def fX9_throughPeople_X32_63 (v_p0_size : Int32) (v_p0_lostByHands : Int32) (v_p0_lostByMould : Int32) (v_p0_owners : Nat → Int32) (v_p0_tears : Nat → Int32) (x2 : Int32) (x4 : Int32) (a9 : (Nat → Int32)) : Option (Int32 × (Nat → Int32)) :=
  (iter (fX9_throughPeople_L67 v_p0_size v_p0_lostByHands v_p0_lostByMould v_p0_tears x2) FU (x4, a9)).bind (fX9_throughPeople_X67_101 v_p0_owners x2)
def fX9_throughPeople_L32 (x3 : Int32) (z7 : Int32 × (Nat → Int32)) : Option ((Int32 × (Nat → Int32)) ⊕ ((Nat → Int32))) :=
  if 6 ≤ z7.1 then (some (Sum.inr z7.2)) else (gd (inb z7.1 6) (some (Sum.inl ((z7.1 + 1), (upd z7.2 z7.1.toNatClampNeg (if z7.1 = x3 then 1 else 0 : Int32))))))
def fX9_throughPeople_X4_29 (v_t_rowsTo : Nat → Int32) (v_p0_size : Int32) (v_p0_lostByHands : Int32) (v_p0_lostByMould : Int32) (v_p0_owners : Nat → Int32) (v_p0_tears : Nat → Int32) (x2 : Int32) (x3 : Int32) (x4 : Int32) (a5 : Unit) : Option (Int32 × (Nat → Int32)) :=
  (iter (fX9_throughPeople_L32 x3) FU (0, v_t_rowsTo)).bind (fX9_throughPeople_X32_63 v_p0_size v_p0_lostByHands v_p0_lostByMould v_p0_owners v_p0_tears x2 x4)
def fX9_throughPeople_L4 (v_p0_size : Int32) (v_p0_lostByHands : Int32) (v_p0_lostByMould : Int32) (v_p0_tears : Nat → Int32) (x2 : Int32) (z1 : Int32) : Option ((Int32) ⊕ ((Unit) ⊕ (Unit))) :=
  if 4 ≤ z1 then (some (Sum.inr (Sum.inr ()))) else ((fX4_tear v_p0_size v_p0_lostByHands v_p0_lostByMould v_p0_tears x2 z1).bind (fun u37 => if u37 = (-1) then (some (Sum.inl (z1 + 1))) else (some (Sum.inr (Sum.inl ())))))
def fX9_throughPeople (v_t_rowsTo : Nat → Int32) (v_p0_size : Int32) (v_p0_lostByHands : Int32) (v_p0_lostByMould : Int32) (v_p0_owners : Nat → Int32) (v_p0_tears : Nat → Int32) (x2 : Int32) (x3 : Int32) (x4 : Int32) : Option (Int32 × (Nat → Int32)) :=
  (iter (fX9_throughPeople_L4 v_p0_size v_p0_lostByHands v_p0_lostByMould v_p0_tears x2) FU x4).bind (Sum.elim (fX9_throughPeople_X4_21 v_t_rowsTo) (fX9_throughPeople_X4_29 v_t_rowsTo v_p0_size v_p0_lostByHands v_p0_lostByMould v_p0_owners v_p0_tears x2 x3 x4))
set_option maxHeartbeats 4000000 in
set_option maxRecDepth 100000 in
theorem c_X9_throughPeople (l : Launch) (D : va_G) (cI cJ : ClassId) (q_t q_t_rowsTo q_p0 q_p0_kinds q_p0_leaflets q_p0_owners q_p0_tears q_p0_debts : Nat) (v_t_rowsTo : Nat → Int32) (v_p0_size : Int32) (v_p0_lostByHands : Int32) (v_p0_lostByMould : Int32) (v_p0_owners : Nat → Int32) (v_p0_tears : Nat → Int32) (x2 : Int32) (x3 : Int32) (x4 : Int32) (z : Int32 × (Nat → Int32)) (h : fX9_throughPeople v_t_rowsTo v_p0_size v_p0_lostByHands v_p0_lostByMould v_p0_owners v_p0_tears x2 x3 x4 = some z) : Met l yX9_throughPeople wsX9_throughPeople ({ frames := 2, cells := 0, slots := 0, locals := 42 } : Room) (va_Pc [.ref q_t, .ref q_p0, .int x2, .int x3, .int x4] (preG D cI cJ [(q_t, .inr (8, [.ref q_t_rowsTo])), (q_t_rowsTo, .inl (cI, 6, .inl v_t_rowsTo)), (q_p0, .inr (4, [.ref q_p0_kinds, .ref q_p0_leaflets, .ref q_p0_owners, .ref q_p0_tears, .ref q_p0_debts, .int v_p0_size, .int v_p0_lostByHands, .int v_p0_lostByMould])), (q_p0_owners, .inl (cI, 10, .inl v_p0_owners)), (q_p0_tears, .inl (cI, 40, .inl v_p0_tears))])) (QG D [(q_t, .inr (8, [.ref q_t_rowsTo])), (q_t_rowsTo, .inl (cI, 6, .inl v_t_rowsTo)), (q_p0, .inr (4, [.ref q_p0_kinds, .ref q_p0_leaflets, .ref q_p0_owners, .ref q_p0_tears, .ref q_p0_debts, .int v_p0_size, .int v_p0_lostByHands, .int v_p0_lostByMould])), (q_p0_owners, .inl (cI, 10, .inl v_p0_owners)), (q_p0_tears, .inl (cI, 40, .inl v_p0_tears))] [(q_t, .inr (8, [.ref q_t_rowsTo])), (q_t_rowsTo, .inl (cI, 6, .inl z.2)), (q_p0, .inr (4, [.ref q_p0_kinds, .ref q_p0_leaflets, .ref q_p0_owners, .ref q_p0_tears, .ref q_p0_debts, .int v_p0_size, .int v_p0_lostByHands, .int v_p0_lostByMould])), (q_p0_owners, .inl (cI, 10, .inl v_p0_owners)), (q_p0_tears, .inl (cI, 40, .inl v_p0_tears))] (some (.int z.1))) 0 0 (fr [(q_t, .inr (8, [.ref q_t_rowsTo])), (q_t_rowsTo, .inl (cI, 6, .inl v_t_rowsTo)), (q_p0, .inr (4, [.ref q_p0_kinds, .ref q_p0_leaflets, .ref q_p0_owners, .ref q_p0_tears, .ref q_p0_debts, .int v_p0_size, .int v_p0_lostByHands, .int v_p0_lostByMould])), (q_p0_owners, .inl (cI, 10, .inl v_p0_owners)), (q_p0_tears, .inl (cI, 40, .inl v_p0_tears))]) := by
  refine Met.ofW (cc := cX9_throughPeople) (maxL := 6) (ret := (some .int)) (by decide) rfl ?_
  intro p e s m args below meth c s₁ B hml hv
  obtain ⟨hargs, hP, hK, hN, hD0⟩ := hv
  have hx := B.exec
  have hb := B.bytes
  have hr := B.returns
  have hts := atoms_spec (ws := wsX9_throughPeople) B.pre
  have hown : s.vm.findClass RX9 = some m.cls := findClass_of_methodNamed B.named
  have hlocks := B.notSynchronized
  have iX4 : ∀ w ∈ wsX40, w ∈ wsX9_throughPeople := by decide +kernel
  have iX9 : ∀ w ∈ wsX90, w ∈ wsX9_throughPeople := by decide +kernel
  have k9 := hts (.fieldLink RX9 9 "PressedFerns$Ways" "rowsTo" "[I") (by decide +kernel)
  have k40 := hts (.fieldLink RX9 40 "PressedFerns$Herbarium" "owners" "[I") (by decide +kernel)
  have hD := fr_D hD0
  have hS : va_S (fr [(q_t, .inr (8, [.ref q_t_rowsTo])), (q_t_rowsTo, .inl (cI, 6, .inl v_t_rowsTo)), (q_p0, .inr (4, [.ref q_p0_kinds, .ref q_p0_leaflets, .ref q_p0_owners, .ref q_p0_tears, .ref q_p0_debts, .int v_p0_size, .int v_p0_lostByHands, .int v_p0_lostByMould])), (q_p0_owners, .inl (cI, 10, .inl v_p0_owners)), (q_p0_tears, .inl (cI, 40, .inl v_p0_tears))]) s.heap s.heap [] := va_S.rf
  have hl := lv_entry ([.ref q_t, .ref q_p0, .int x2, .int x3, .int x4]) (n := 6) (Nat.le_of_ble_eq_true rfl)
  refine W.eq (g2 := F0 m 0 ((lg_sl ([.ref q_t, .ref q_p0, .int x2, .int x3, .int x4]) ++ List.replicate (6 - (lg_sl ([.ref q_t, .ref q_p0, .int x2, .int x3, .int x4])).length) Slot.unset).toArray) []) (by rw [hargs, lg_entry_eq]) ?_
  generalize (lg_sl ([.ref q_t, .ref q_p0, .int x2, .int x3, .int x4]) ++ List.replicate (6 - (lg_sl ([.ref q_t, .ref q_p0, .int x2, .int x3, .int x4])).length) Slot.unset).toArray = ls at hl ⊢
  have hl : lv_has ls 6 [(0, .ref q_t), (1, .ref q_p0), (2, .int x2), (3, .int x3), (4, .int x4)] := hl
  show W p l e ({ frames := 2, cells := 0, slots := 0, locals := 42 } : Room) s m args below meth c s.heap [] 0 0 (MQ below (QG D [(q_t, .inr (8, [.ref q_t_rowsTo])), (q_t_rowsTo, .inl (cI, 6, .inl v_t_rowsTo)), (q_p0, .inr (4, [.ref q_p0_kinds, .ref q_p0_leaflets, .ref q_p0_owners, .ref q_p0_tears, .ref q_p0_debts, .int v_p0_size, .int v_p0_lostByHands, .int v_p0_lostByMould])), (q_p0_owners, .inl (cI, 10, .inl v_p0_owners)), (q_p0_tears, .inl (cI, 40, .inl v_p0_tears))] [(q_t, .inr (8, [.ref q_t_rowsTo])), (q_t_rowsTo, .inl (cI, 6, .inl z.2)), (q_p0, .inr (4, [.ref q_p0_kinds, .ref q_p0_leaflets, .ref q_p0_owners, .ref q_p0_tears, .ref q_p0_debts, .int v_p0_size, .int v_p0_lostByHands, .int v_p0_lostByMould])), (q_p0_owners, .inl (cI, 10, .inl v_p0_owners)), (q_p0_tears, .inl (cI, 40, .inl v_p0_tears))] (some (.int z.1))) args s 0 0 (fr [(q_t, .inr (8, [.ref q_t_rowsTo])), (q_t_rowsTo, .inl (cI, 6, .inl v_t_rowsTo)), (q_p0, .inr (4, [.ref q_p0_kinds, .ref q_p0_leaflets, .ref q_p0_owners, .ref q_p0_tears, .ref q_p0_debts, .int v_p0_size, .int v_p0_lostByHands, .int v_p0_lostByMould])), (q_p0_owners, .inl (cI, 10, .inl v_p0_owners)), (q_p0_tears, .inl (cI, 40, .inl v_p0_tears))])) (F0 m 0 ls [])
  generalize hQ0 : (MQ below (QG D [(q_t, .inr (8, [.ref q_t_rowsTo])), (q_t_rowsTo, .inl (cI, 6, .inl v_t_rowsTo)), (q_p0, .inr (4, [.ref q_p0_kinds, .ref q_p0_leaflets, .ref q_p0_owners, .ref q_p0_tears, .ref q_p0_debts, .int v_p0_size, .int v_p0_lostByHands, .int v_p0_lostByMould])), (q_p0_owners, .inl (cI, 10, .inl v_p0_owners)), (q_p0_tears, .inl (cI, 40, .inl v_p0_tears))] [(q_t, .inr (8, [.ref q_t_rowsTo])), (q_t_rowsTo, .inl (cI, 6, .inl z.2)), (q_p0, .inr (4, [.ref q_p0_kinds, .ref q_p0_leaflets, .ref q_p0_owners, .ref q_p0_tears, .ref q_p0_debts, .int v_p0_size, .int v_p0_lostByHands, .int v_p0_lostByMould])), (q_p0_owners, .inl (cI, 10, .inl v_p0_owners)), (q_p0_tears, .inl (cI, 40, .inl v_p0_tears))] (some (.int z.1))) args s 0 0 (fr [(q_t, .inr (8, [.ref q_t_rowsTo])), (q_t_rowsTo, .inl (cI, 6, .inl v_t_rowsTo)), (q_p0, .inr (4, [.ref q_p0_kinds, .ref q_p0_leaflets, .ref q_p0_owners, .ref q_p0_tears, .ref q_p0_debts, .int v_p0_size, .int v_p0_lostByHands, .int v_p0_lostByMould])), (q_p0_owners, .inl (cI, 10, .inl v_p0_owners)), (q_p0_tears, .inl (cI, 40, .inl v_p0_tears))])) = Q0
  generalize hA0 : fr [(q_t, .inr (8, [.ref q_t_rowsTo])), (q_t_rowsTo, .inl (cI, 6, .inl v_t_rowsTo)), (q_p0, .inr (4, [.ref q_p0_kinds, .ref q_p0_leaflets, .ref q_p0_owners, .ref q_p0_tears, .ref q_p0_debts, .int v_p0_size, .int v_p0_lostByHands, .int v_p0_lostByMould])), (q_p0_owners, .inl (cI, 10, .inl v_p0_owners)), (q_p0_tears, .inl (cI, 40, .inl v_p0_tears))] = A0 at hD hS
  unfold fX9_throughPeople at h
  refine lv_iload hx hb dX9_throughPeople_0 (lv_at hl 4 rfl) ?_
  refine lv_istore (lv' := [(5, .int x4), (0, .ref q_t), (1, .ref q_p0), (2, .int x2), (3, .int x3), (4, .int x4)]) hx hb dX9_throughPeople_2 hl (by decide) rfl (fun ls hl => ?_)
  obtain ⟨e2, he_e2, hc_e2⟩ := bd_of h
  have X21_4 : ∀ (a3 : Unit) (H : Heap) (locs : List Loc) (ls : Array Slot), fX9_throughPeople_X4_21 v_t_rowsTo a3 = some z → va_P D vwCl [(q_t, .inr (8, [.ref q_t_rowsTo])), (q_t_rowsTo, .inl (cI, 6, .inl v_t_rowsTo)), (q_p0, .inr (4, [.ref q_p0_kinds, .ref q_p0_leaflets, .ref q_p0_owners, .ref q_p0_tears, .ref q_p0_debts, .int v_p0_size, .int v_p0_lostByHands, .int v_p0_lostByMould])), (q_p0_owners, .inl (cI, 10, .inl v_p0_owners)), (q_p0_tears, .inl (cI, 40, .inl v_p0_tears))] H → va_D A0 [(q_t, .inr (8, [.ref q_t_rowsTo])), (q_t_rowsTo, .inl (cI, 6, .inl v_t_rowsTo)), (q_p0, .inr (4, [.ref q_p0_kinds, .ref q_p0_leaflets, .ref q_p0_owners, .ref q_p0_tears, .ref q_p0_debts, .int v_p0_size, .int v_p0_lostByHands, .int v_p0_lostByMould])), (q_p0_owners, .inl (cI, 10, .inl v_p0_owners)), (q_p0_tears, .inl (cI, 40, .inl v_p0_tears))] → va_S A0 s.heap H locs → lv_has ls 6 [] → W p l e ({ frames := 2, cells := 0, slots := 0, locals := 42 } : Room) s m args below meth c H locs 0 0 Q0 (F0 m 21 ls []) := by
    intro a3 H locs ls h hP hD hS hl
    unfold fX9_throughPeople_X4_21 at h
    refine lv_iconst (v := 0) hx hb dX9_throughPeople_21 (by decide) ?_
    obtain rfl := Option.some.inj h
    exact rt_i hA0 hQ0 hx hb hr hlocks hP hS dX9_throughPeople_22
  have X29_6 : ∀ (a5 : Unit) (H : Heap) (locs : List Loc) (ls : Array Slot), fX9_throughPeople_X4_29 v_t_rowsTo v_p0_size v_p0_lostByHands v_p0_lostByMould v_p0_owners v_p0_tears x2 x3 x4 a5 = some z → va_P D vwCl [(q_t, .inr (8, [.ref q_t_rowsTo])), (q_t_rowsTo, .inl (cI, 6, .inl v_t_rowsTo)), (q_p0, .inr (4, [.ref q_p0_kinds, .ref q_p0_leaflets, .ref q_p0_owners, .ref q_p0_tears, .ref q_p0_debts, .int v_p0_size, .int v_p0_lostByHands, .int v_p0_lostByMould])), (q_p0_owners, .inl (cI, 10, .inl v_p0_owners)), (q_p0_tears, .inl (cI, 40, .inl v_p0_tears))] H → va_D A0 [(q_t, .inr (8, [.ref q_t_rowsTo])), (q_t_rowsTo, .inl (cI, 6, .inl v_t_rowsTo)), (q_p0, .inr (4, [.ref q_p0_kinds, .ref q_p0_leaflets, .ref q_p0_owners, .ref q_p0_tears, .ref q_p0_debts, .int v_p0_size, .int v_p0_lostByHands, .int v_p0_lostByMould])), (q_p0_owners, .inl (cI, 10, .inl v_p0_owners)), (q_p0_tears, .inl (cI, 40, .inl v_p0_tears))] → va_S A0 s.heap H locs → lv_has ls 6 [(0, .ref q_t), (1, .ref q_p0), (2, .int x2), (3, .int x3), (4, .int x4)] → W p l e ({ frames := 2, cells := 0, slots := 0, locals := 42 } : Room) s m args below meth c H locs 0 0 Q0 (F0 m 29 ls []) := by
    intro a5 H locs ls h hP hD hS hl
    unfold fX9_throughPeople_X4_29 at h
    refine lv_iconst (v := 0) hx hb dX9_throughPeople_29 (by decide) ?_
    refine lv_istore (lv' := [(5, .int 0), (0, .ref q_t), (1, .ref q_p0), (2, .int x2), (3, .int x3), (4, .int x4)]) hx hb dX9_throughPeople_30 hl (by decide) rfl (fun ls hl => ?_)
    obtain ⟨e8, he_e8, hc_e8⟩ := bd_of h
    have X63_10 : ∀ (a9 : (Nat → Int32)) (H : Heap) (locs : List Loc) (ls : Array Slot), fX9_throughPeople_X32_63 v_p0_size v_p0_lostByHands v_p0_lostByMould v_p0_owners v_p0_tears x2 x4 a9 = some z → va_P D vwCl [(q_t, .inr (8, [.ref q_t_rowsTo])), (q_t_rowsTo, .inl (cI, 6, .inl a9)), (q_p0, .inr (4, [.ref q_p0_kinds, .ref q_p0_leaflets, .ref q_p0_owners, .ref q_p0_tears, .ref q_p0_debts, .int v_p0_size, .int v_p0_lostByHands, .int v_p0_lostByMould])), (q_p0_owners, .inl (cI, 10, .inl v_p0_owners)), (q_p0_tears, .inl (cI, 40, .inl v_p0_tears))] H → va_D A0 [(q_t, .inr (8, [.ref q_t_rowsTo])), (q_t_rowsTo, .inl (cI, 6, .inl a9)), (q_p0, .inr (4, [.ref q_p0_kinds, .ref q_p0_leaflets, .ref q_p0_owners, .ref q_p0_tears, .ref q_p0_debts, .int v_p0_size, .int v_p0_lostByHands, .int v_p0_lostByMould])), (q_p0_owners, .inl (cI, 10, .inl v_p0_owners)), (q_p0_tears, .inl (cI, 40, .inl v_p0_tears))] → va_S A0 s.heap H locs → lv_has ls 6 [(0, .ref q_t), (1, .ref q_p0), (2, .int x2), (4, .int x4)] → W p l e ({ frames := 2, cells := 0, slots := 0, locals := 42 } : Room) s m args below meth c H locs 0 0 Q0 (F0 m 63 ls []) := by
      intro a9 H locs ls h hP hD hS hl
      unfold fX9_throughPeople_X32_63 at h
      refine lv_iload hx hb dX9_throughPeople_63 (lv_at hl 3 rfl) ?_
      refine lv_istore (lv' := [(5, .int x4), (0, .ref q_t), (1, .ref q_p0), (2, .int x2), (4, .int x4)]) hx hb dX9_throughPeople_65 hl (by decide) rfl (fun ls hl => ?_)
      obtain ⟨e12, he_e12, hc_e12⟩ := bd_of h
      have X101_14 : ∀ (a13 : (Nat → Int32)) (H : Heap) (locs : List Loc) (ls : Array Slot), fX9_throughPeople_X67_101 v_p0_owners x2 a13 = some z → va_P D vwCl [(q_t, .inr (8, [.ref q_t_rowsTo])), (q_t_rowsTo, .inl (cI, 6, .inl a13)), (q_p0, .inr (4, [.ref q_p0_kinds, .ref q_p0_leaflets, .ref q_p0_owners, .ref q_p0_tears, .ref q_p0_debts, .int v_p0_size, .int v_p0_lostByHands, .int v_p0_lostByMould])), (q_p0_owners, .inl (cI, 10, .inl v_p0_owners)), (q_p0_tears, .inl (cI, 40, .inl v_p0_tears))] H → va_D A0 [(q_t, .inr (8, [.ref q_t_rowsTo])), (q_t_rowsTo, .inl (cI, 6, .inl a13)), (q_p0, .inr (4, [.ref q_p0_kinds, .ref q_p0_leaflets, .ref q_p0_owners, .ref q_p0_tears, .ref q_p0_debts, .int v_p0_size, .int v_p0_lostByHands, .int v_p0_lostByMould])), (q_p0_owners, .inl (cI, 10, .inl v_p0_owners)), (q_p0_tears, .inl (cI, 40, .inl v_p0_tears))] → va_S A0 s.heap H locs → lv_has ls 6 [(0, .ref q_t), (1, .ref q_p0), (2, .int x2)] → W p l e ({ frames := 2, cells := 0, slots := 0, locals := 42 } : Room) s m args below meth c H locs 0 0 Q0 (F0 m 101 ls []) := by
        intro a13 H locs ls h hP hD hS hl
        unfold fX9_throughPeople_X67_101 at h
        refine lv_aload_n hx hb dX9_throughPeople_101 rfl (lv_at hl 1 rfl) ?_
        refine va_get (own := RX9) (ci := 4) (v := .ref q_p0_owners) (C := RX4) (T := TX4) (N := 8) hx hb hts iX4 hown hK hP 2 rfl rfl 2 (by decide) k40 (fun _ h9 => h9) rfl dX9_throughPeople_102 ?_
        refine lv_iload_n hx hb dX9_throughPeople_105 rfl (lv_at hl 2 rfl) ?_
        obtain ⟨g15, h⟩ := gd_of h
        refine va_iald hx hb hK hP 3 0 rfl rfl (inb_of g15) dX9_throughPeople_106 ?_
        refine lv_istore (lv' := [(5, .int (v_p0_owners x2.toNatClampNeg)), (0, .ref q_t), (1, .ref q_p0), (2, .int x2)]) hx hb dX9_throughPeople_107 hl (by decide) rfl (fun ls hl => ?_)
        refine lv_iload hx hb dX9_throughPeople_109 (lv_at hl 0 rfl) ?_
        refine cl_SN [(q_t, .inr (8, [.ref q_t_rowsTo])), (q_t_rowsTo, .inl (cI, 6, .inl a13)), (q_p0, .inr (4, [.ref q_p0_kinds, .ref q_p0_leaflets, .ref q_p0_owners, .ref q_p0_tears, .ref q_p0_debts, .int v_p0_size, .int v_p0_lostByHands, .int v_p0_lostByMould])), (q_p0_owners, .inl (cI, 10, .inl v_p0_owners)), (q_p0_tears, .inl (cI, 40, .inl v_p0_tears))] (As := [.int (v_p0_owners x2.toNatClampNeg)]) (rest := []) (rv := (some (.int (fX10_isPerson (v_p0_owners x2.toNatClampNeg))))) (c_X10_isPerson l D cI cJ (v_p0_owners x2.toNatClampNeg)) ⟨hx, hb, hml, hown, hts⟩ ⟨va_cnB 1 hts gX9_throughPeople_X10_isPerson_n43 rfl rfl rfl hN (hts (.initialized RX10) (by decide +kernel)) (by decide +kernel) ⟨(Nat.le_of_ble_eq_true rfl), (Nat.le_of_ble_eq_true rfl)⟩, (hts (.static yX10_isPerson) (by decide +kernel)), trivial⟩ hK hN hP hD hS [] rfl (by decide) rfl rfl rfl rfl hl.1 rfl (Nat.le_of_ble_eq_true rfl) dX9_throughPeople_111 ⟨Nat.zero_le _, Nat.zero_le _⟩ (fun H locs hP hD hS => ?_)
        show W p l e ({ frames := 2, cells := 0, slots := 0, locals := 42 } : Room) s m args below meth c H locs 0 0 Q0 (F0 m 114 ls [.int (fX10_isPerson (v_p0_owners x2.toNatClampNeg))])
        refine lv_if_eq (tgt := 127) hx hb dX9_throughPeople_114 (by decide) (fun c16 => ?_) (fun c16 => ?_)
        · skip
          have h := (if_pos c16).symm.trans h
          refine lv_iconst (v := 0) hx hb dX9_throughPeople_127 (by decide) ?_
          obtain rfl := Option.some.inj h
          exact rt_i hA0 hQ0 hx hb hr hlocks hP hS dX9_throughPeople_128
        · skip
          have h := (if_neg c16).symm.trans h
          refine lv_aload_n hx hb dX9_throughPeople_117 rfl (lv_at hl 1 rfl) ?_
          refine va_get (own := RX9) (ci := 8) (v := .ref q_t_rowsTo) (C := RX9) (T := TX9) (N := 1) hx hb hts iX9 hown hK hP 0 rfl rfl 0 (by decide) k9 (fun _ h9 => h9) rfl dX9_throughPeople_118 ?_
          refine lv_iload hx hb dX9_throughPeople_121 (lv_at hl 0 rfl) ?_
          obtain ⟨g17, h⟩ := gd_of h
          refine va_iald hx hb hK hP 1 0 rfl rfl (inb_of g17) dX9_throughPeople_123 ?_
          refine lv_goto (tgt := 128) hx hb dX9_throughPeople_124 (by decide) ?_
          obtain rfl := Option.some.inj h
          exact rt_i hA0 hQ0 hx hb hr hlocks hP hS dX9_throughPeople_128
      have L67_18 : ∀ (n : Nat) (z11 : Int32 × (Nat → Int32)) (H : Heap) (locs : List Loc) (ls : Array Slot), iter (fX9_throughPeople_L67 v_p0_size v_p0_lostByHands v_p0_lostByMould v_p0_tears x2) n z11 = some e12 → va_P D vwCl [(q_t, .inr (8, [.ref q_t_rowsTo])), (q_t_rowsTo, .inl (cI, 6, .inl z11.2)), (q_p0, .inr (4, [.ref q_p0_kinds, .ref q_p0_leaflets, .ref q_p0_owners, .ref q_p0_tears, .ref q_p0_debts, .int v_p0_size, .int v_p0_lostByHands, .int v_p0_lostByMould])), (q_p0_owners, .inl (cI, 10, .inl v_p0_owners)), (q_p0_tears, .inl (cI, 40, .inl v_p0_tears))] H → va_D A0 [(q_t, .inr (8, [.ref q_t_rowsTo])), (q_t_rowsTo, .inl (cI, 6, .inl z11.2)), (q_p0, .inr (4, [.ref q_p0_kinds, .ref q_p0_leaflets, .ref q_p0_owners, .ref q_p0_tears, .ref q_p0_debts, .int v_p0_size, .int v_p0_lostByHands, .int v_p0_lostByMould])), (q_p0_owners, .inl (cI, 10, .inl v_p0_owners)), (q_p0_tears, .inl (cI, 40, .inl v_p0_tears))] → va_S A0 s.heap H locs → lv_has ls 6 [(0, .ref q_t), (1, .ref q_p0), (2, .int x2), (5, .int z11.1)] → W p l e ({ frames := 2, cells := 0, slots := 0, locals := 42 } : Room) s m args below meth c H locs 0 0 Q0 (F0 m 67 ls []) := by
        intro n
        induction n with
        | zero => exact fun _ _ _ _ h => (iter_z h).elim
        | succ n ih =>
          intro z11 H locs ls h hP hD hS hl
          obtain ⟨r_e12, h, hn_e12⟩ := iter_s h
          unfold fX9_throughPeople_L67 at h
          refine lv_iload hx hb dX9_throughPeople_67 (lv_at hl 3 rfl) ?_
          refine lv_if_le (tgt := 101) hx hb dX9_throughPeople_69 (by decide) (fun c19 => ?_) (fun c19 => ?_)
          · skip
            have h := (if_pos c19).symm.trans h
            obtain rfl := Option.some.inj h
            obtain rfl := Option.some.inj hn_e12
            exact X101_14 z11.2 _ _ _ hc_e12 hP hD hS (lv_sub hl [0, 1, 2] rfl)
          · skip
            have h := (if_neg c19).symm.trans h
            refine lv_iload hx hb dX9_throughPeople_72 (lv_at hl 3 rfl) ?_
            refine lv_iconst (v := 4) hx hb dX9_throughPeople_74 (by decide) ?_
            have J91_21 : ∀ (a20 : (Nat → Int32)) (H : Heap) (locs : List Loc) (ls : Array Slot), fX9_throughPeople_J91 z11 a20 = some r_e12 → va_P D vwCl [(q_t, .inr (8, [.ref q_t_rowsTo])), (q_t_rowsTo, .inl (cI, 6, .inl a20)), (q_p0, .inr (4, [.ref q_p0_kinds, .ref q_p0_leaflets, .ref q_p0_owners, .ref q_p0_tears, .ref q_p0_debts, .int v_p0_size, .int v_p0_lostByHands, .int v_p0_lostByMould])), (q_p0_owners, .inl (cI, 10, .inl v_p0_owners)), (q_p0_tears, .inl (cI, 40, .inl v_p0_tears))] H → va_D A0 [(q_t, .inr (8, [.ref q_t_rowsTo])), (q_t_rowsTo, .inl (cI, 6, .inl a20)), (q_p0, .inr (4, [.ref q_p0_kinds, .ref q_p0_leaflets, .ref q_p0_owners, .ref q_p0_tears, .ref q_p0_debts, .int v_p0_size, .int v_p0_lostByHands, .int v_p0_lostByMould])), (q_p0_owners, .inl (cI, 10, .inl v_p0_owners)), (q_p0_tears, .inl (cI, 40, .inl v_p0_tears))] → va_S A0 s.heap H locs → lv_has ls 6 [(0, .ref q_t), (1, .ref q_p0), (2, .int x2), (5, .int z11.1)] → W p l e ({ frames := 2, cells := 0, slots := 0, locals := 42 } : Room) s m args below meth c H locs 0 0 Q0 (F0 m 91 ls []) := by
              intro a20 H locs ls h hP hD hS hl
              unfold fX9_throughPeople_J91 at h
              refine lv_aload_n hx hb dX9_throughPeople_91 rfl (lv_at hl 0 rfl) ?_
              obtain ⟨u22, g23, h⟩ := bd_of h
              refine cl_V [(q_t, .inr (8, [.ref q_t_rowsTo])), (q_t_rowsTo, .inl (cI, 6, .inl u22)), (q_p0, .inr (4, [.ref q_p0_kinds, .ref q_p0_leaflets, .ref q_p0_owners, .ref q_p0_tears, .ref q_p0_debts, .int v_p0_size, .int v_p0_lostByHands, .int v_p0_lostByMould])), (q_p0_owners, .inl (cI, 10, .inl v_p0_owners)), (q_p0_tears, .inl (cI, 40, .inl v_p0_tears))] (As := []) (rest := []) (rv := none) (c_X9_passOn l D cI cJ q_t q_t_rowsTo a20 u22 g23) ⟨hx, hb, hml, hown, hts⟩ (cwV 0 hts gX9_throughPeople_X9_passOn rfl rfl rfl (by decide +kernel) ⟨(Nat.le_of_ble_eq_true rfl), (Nat.le_of_ble_eq_true rfl)⟩) hK hN hP hD hS [0, 1] rfl (by decide) rfl rfl rfl (q0 := 0) (ci := 8) rfl rfl rfl rfl hl.1 rfl (Nat.le_of_ble_eq_true rfl) dX9_throughPeople_92 ⟨Nat.zero_le _, Nat.zero_le _⟩ (fun H locs hP hD hS => ?_)
              show W p l e ({ frames := 2, cells := 0, slots := 0, locals := 42 } : Room) s m args below meth c H locs 0 0 Q0 (F0 m 95 ls [])
              refine lv_iinc (v := (z11.1 + (-1))) (lv' := [(5, .int (z11.1 + (-1))), (0, .ref q_t), (1, .ref q_p0), (2, .int x2)]) hx hb dX9_throughPeople_95 hl (k := 3) rfl rfl (by decide) rfl (fun ls hl => ?_)
              refine lv_goto (tgt := 67) hx hb dX9_throughPeople_98 (by decide) ?_
              obtain rfl := Option.some.inj h
              exact ih ((z11.1 + (-1)), u22) _ _ _ hn_e12 hP hD hS (lv_sub hl [1, 2, 3, 0] rfl)
            refine lv_icmp_gt (tgt := 91) hx hb dX9_throughPeople_75 (by decide) (fun c24 => ?_) (fun c24 => ?_)
            · skip
              have h := (if_pos c24).symm.trans h
              exact J91_21 z11.2 _ _ _ h hP hD hS (lv_sub hl [0, 1, 2, 3] rfl)
            · skip
              have h := (if_neg c24).symm.trans h
              refine lv_aload_n hx hb dX9_throughPeople_78 rfl (lv_at hl 0 rfl) ?_
              refine lv_aload_n hx hb dX9_throughPeople_79 rfl (lv_at hl 1 rfl) ?_
              refine lv_iload_n hx hb dX9_throughPeople_80 rfl (lv_at hl 2 rfl) ?_
              refine lv_iload hx hb dX9_throughPeople_81 (lv_at hl 3 rfl) ?_
              refine lv_iconst (v := 1) hx hb dX9_throughPeople_83 (by decide) ?_
              refine lv_isub hx hb dX9_throughPeople_84 ?_
              obtain ⟨u25, g26, h⟩ := bd_of h
              refine cl_V [(q_t, .inr (8, [.ref q_t_rowsTo])), (q_t_rowsTo, .inl (cI, 6, .inl z11.2)), (q_p0, .inr (4, [.ref q_p0_kinds, .ref q_p0_leaflets, .ref q_p0_owners, .ref q_p0_tears, .ref q_p0_debts, .int v_p0_size, .int v_p0_lostByHands, .int v_p0_lostByMould])), (q_p0_owners, .inl (cI, 10, .inl v_p0_owners)), (q_p0_tears, .inl (cI, 40, .inl v_p0_tears))] (As := [.int x2, .int (z11.1 - 1)]) (rest := [.ref q_t]) (rv := (some (.int u25))) (c_X4_tear l D cI cJ q_p0 q_p0_kinds q_p0_leaflets q_p0_owners q_p0_tears q_p0_debts v_p0_size v_p0_lostByHands v_p0_lostByMould v_p0_tears x2 (z11.1 - 1) u25 g26) ⟨hx, hb, hml, hown, hts⟩ (cwV 2 hts gX9_throughPeople_X4_tear rfl rfl rfl (by decide +kernel) ⟨(Nat.le_of_ble_eq_true rfl), (Nat.le_of_ble_eq_true rfl)⟩) hK hN hP hD hS [2, 4] rfl (by decide) rfl rfl rfl (q0 := 2) (ci := 4) rfl rfl rfl rfl hl.1 rfl (Nat.le_of_ble_eq_true rfl) dX9_throughPeople_85 ⟨Nat.zero_le _, Nat.zero_le _⟩ (fun H locs hP hD hS => ?_)
              show W p l e ({ frames := 2, cells := 0, slots := 0, locals := 42 } : Room) s m args below meth c H locs 0 0 Q0 (F0 m 88 ls [.int u25, .ref q_t])
              obtain ⟨u27, g28, h⟩ := bd_of h
              refine cl_V [(q_t, .inr (8, [.ref q_t_rowsTo])), (q_t_rowsTo, .inl (cI, 6, .inl u27)), (q_p0, .inr (4, [.ref q_p0_kinds, .ref q_p0_leaflets, .ref q_p0_owners, .ref q_p0_tears, .ref q_p0_debts, .int v_p0_size, .int v_p0_lostByHands, .int v_p0_lostByMould])), (q_p0_owners, .inl (cI, 10, .inl v_p0_owners)), (q_p0_tears, .inl (cI, 40, .inl v_p0_tears))] (As := [.int u25]) (rest := []) (rv := none) (c_X9_keepOnly l D cI cJ q_t q_t_rowsTo z11.2 u25 u27 g28) ⟨hx, hb, hml, hown, hts⟩ (cwV 1 hts gX9_throughPeople_X9_keepOnly rfl rfl rfl (by decide +kernel) ⟨(Nat.le_of_ble_eq_true rfl), (Nat.le_of_ble_eq_true rfl)⟩) hK hN hP hD hS [0, 1] rfl (by decide) rfl rfl rfl (q0 := 0) (ci := 8) rfl rfl rfl rfl hl.1 rfl (Nat.le_of_ble_eq_true rfl) dX9_throughPeople_88 ⟨Nat.zero_le _, Nat.zero_le _⟩ (fun H locs hP hD hS => ?_)
              show W p l e ({ frames := 2, cells := 0, slots := 0, locals := 42 } : Room) s m args below meth c H locs 0 0 Q0 (F0 m 91 ls [])
              exact J91_21 u27 _ _ _ h hP hD hS (lv_sub hl [0, 1, 2, 3] rfl)
      exact L67_18 FU (x4, a9) _ _ _ he_e12 hP hD hS (lv_sub hl [1, 2, 3, 0] rfl)
    have L32_29 : ∀ (n : Nat) (z7 : Int32 × (Nat → Int32)) (H : Heap) (locs : List Loc) (ls : Array Slot), iter (fX9_throughPeople_L32 x3) n z7 = some e8 → va_P D vwCl [(q_t, .inr (8, [.ref q_t_rowsTo])), (q_t_rowsTo, .inl (cI, 6, .inl z7.2)), (q_p0, .inr (4, [.ref q_p0_kinds, .ref q_p0_leaflets, .ref q_p0_owners, .ref q_p0_tears, .ref q_p0_debts, .int v_p0_size, .int v_p0_lostByHands, .int v_p0_lostByMould])), (q_p0_owners, .inl (cI, 10, .inl v_p0_owners)), (q_p0_tears, .inl (cI, 40, .inl v_p0_tears))] H → va_D A0 [(q_t, .inr (8, [.ref q_t_rowsTo])), (q_t_rowsTo, .inl (cI, 6, .inl z7.2)), (q_p0, .inr (4, [.ref q_p0_kinds, .ref q_p0_leaflets, .ref q_p0_owners, .ref q_p0_tears, .ref q_p0_debts, .int v_p0_size, .int v_p0_lostByHands, .int v_p0_lostByMould])), (q_p0_owners, .inl (cI, 10, .inl v_p0_owners)), (q_p0_tears, .inl (cI, 40, .inl v_p0_tears))] → va_S A0 s.heap H locs → lv_has ls 6 [(0, .ref q_t), (1, .ref q_p0), (2, .int x2), (3, .int x3), (4, .int x4), (5, .int z7.1)] → W p l e ({ frames := 2, cells := 0, slots := 0, locals := 42 } : Room) s m args below meth c H locs 0 0 Q0 (F0 m 32 ls []) := by
      intro n
      induction n with
      | zero => exact fun _ _ _ _ h => (iter_z h).elim
      | succ n ih =>
        intro z7 H locs ls h hP hD hS hl
        obtain ⟨r_e8, h, hn_e8⟩ := iter_s h
        unfold fX9_throughPeople_L32 at h
        refine lv_iload hx hb dX9_throughPeople_32 (lv_at hl 5 rfl) ?_
        refine lv_bipush (v := 6) hx hb dX9_throughPeople_34 (by decide) ?_
        refine lv_icmp_ge (tgt := 63) hx hb dX9_throughPeople_36 (by decide) (fun c30 => ?_) (fun c30 => ?_)
        · skip
          have h := (if_pos c30).symm.trans h
          obtain rfl := Option.some.inj h
          obtain rfl := Option.some.inj hn_e8
          exact X63_10 z7.2 _ _ _ hc_e8 hP hD hS (lv_sub hl [0, 1, 2, 4] rfl)
        · skip
          have h := (if_neg c30).symm.trans h
          refine lv_aload_n hx hb dX9_throughPeople_39 rfl (lv_at hl 0 rfl) ?_
          refine va_get (own := RX9) (ci := 8) (v := .ref q_t_rowsTo) (C := RX9) (T := TX9) (N := 1) hx hb hts iX9 hown hK hP 0 rfl rfl 0 (by decide) k9 (fun _ h9 => h9) rfl dX9_throughPeople_40 ?_
          refine lv_iload hx hb dX9_throughPeople_43 (lv_at hl 5 rfl) ?_
          refine lv_iload hx hb dX9_throughPeople_45 (lv_at hl 5 rfl) ?_
          refine lv_iload_n hx hb dX9_throughPeople_47 rfl (lv_at hl 3 rfl) ?_
          have K56_31 : ∀ (w32 : Int32) (H : Heap) (locs : List Loc) (ls : Array Slot), w32 = (if z7.1 = x3 then 1 else 0 : Int32) → va_P D vwCl [(q_t, .inr (8, [.ref q_t_rowsTo])), (q_t_rowsTo, .inl (cI, 6, .inl z7.2)), (q_p0, .inr (4, [.ref q_p0_kinds, .ref q_p0_leaflets, .ref q_p0_owners, .ref q_p0_tears, .ref q_p0_debts, .int v_p0_size, .int v_p0_lostByHands, .int v_p0_lostByMould])), (q_p0_owners, .inl (cI, 10, .inl v_p0_owners)), (q_p0_tears, .inl (cI, 40, .inl v_p0_tears))] H → va_D A0 [(q_t, .inr (8, [.ref q_t_rowsTo])), (q_t_rowsTo, .inl (cI, 6, .inl z7.2)), (q_p0, .inr (4, [.ref q_p0_kinds, .ref q_p0_leaflets, .ref q_p0_owners, .ref q_p0_tears, .ref q_p0_debts, .int v_p0_size, .int v_p0_lostByHands, .int v_p0_lostByMould])), (q_p0_owners, .inl (cI, 10, .inl v_p0_owners)), (q_p0_tears, .inl (cI, 40, .inl v_p0_tears))] → va_S A0 s.heap H locs → lv_has ls 6 [(0, .ref q_t), (1, .ref q_p0), (2, .int x2), (3, .int x3), (4, .int x4), (5, .int z7.1)] → W p l e ({ frames := 2, cells := 0, slots := 0, locals := 42 } : Room) s m args below meth c H locs 0 0 Q0 (F0 m 56 ls [.int w32, .int z7.1, .ref q_t_rowsTo]) := by
            intro w32 H locs ls e_w32 hP hD hS hl
            subst e_w32
            obtain ⟨g33, h⟩ := gd_of h
            refine va_iast hx hb hK hP hD hS 1 0 rfl rfl (inb_of g33) dX9_throughPeople_56 (fun H locs hP hD hS => ?_)
            have hP : va_P D vwCl [(q_t, .inr (8, [.ref q_t_rowsTo])), (q_t_rowsTo, .inl (cI, 6, .inl (upd z7.2 z7.1.toNatClampNeg (if z7.1 = x3 then 1 else 0 : Int32)))), (q_p0, .inr (4, [.ref q_p0_kinds, .ref q_p0_leaflets, .ref q_p0_owners, .ref q_p0_tears, .ref q_p0_debts, .int v_p0_size, .int v_p0_lostByHands, .int v_p0_lostByMould])), (q_p0_owners, .inl (cI, 10, .inl v_p0_owners)), (q_p0_tears, .inl (cI, 40, .inl v_p0_tears))] H := hP
            have hD : va_D A0 [(q_t, .inr (8, [.ref q_t_rowsTo])), (q_t_rowsTo, .inl (cI, 6, .inl (upd z7.2 z7.1.toNatClampNeg (if z7.1 = x3 then 1 else 0 : Int32)))), (q_p0, .inr (4, [.ref q_p0_kinds, .ref q_p0_leaflets, .ref q_p0_owners, .ref q_p0_tears, .ref q_p0_debts, .int v_p0_size, .int v_p0_lostByHands, .int v_p0_lostByMould])), (q_p0_owners, .inl (cI, 10, .inl v_p0_owners)), (q_p0_tears, .inl (cI, 40, .inl v_p0_tears))] := hD
            refine lv_iinc (v := (z7.1 + 1)) (lv' := [(5, .int (z7.1 + 1)), (0, .ref q_t), (1, .ref q_p0), (2, .int x2), (3, .int x3), (4, .int x4)]) hx hb dX9_throughPeople_57 hl (k := 5) rfl rfl (by decide) rfl (fun ls hl => ?_)
            refine lv_goto (tgt := 32) hx hb dX9_throughPeople_60 (by decide) ?_
            obtain rfl := Option.some.inj h
            exact ih ((z7.1 + 1), (upd z7.2 z7.1.toNatClampNeg (if z7.1 = x3 then 1 else 0 : Int32))) _ _ _ hn_e8 hP hD hS (lv_sub hl [1, 2, 3, 4, 5, 0] rfl)
          refine lv_icmp_ne (tgt := 55) hx hb dX9_throughPeople_48 (by decide) (fun c34 => ?_) (fun c34 => ?_)
          · skip
            refine lv_iconst (v := 0) hx hb dX9_throughPeople_55 (by decide) ?_
            exact K56_31 0 _ _ _ (by rw [if_neg c34]) hP hD hS (lv_sub hl [0, 1, 2, 3, 4, 5] rfl)
          · skip
            refine lv_iconst (v := 1) hx hb dX9_throughPeople_51 (by decide) ?_
            refine lv_goto (tgt := 56) hx hb dX9_throughPeople_52 (by decide) ?_
            exact K56_31 1 _ _ _ (by rw [if_pos c34]) hP hD hS (lv_sub hl [0, 1, 2, 3, 4, 5] rfl)
    exact L32_29 FU (0, v_t_rowsTo) _ _ _ he_e8 hP hD hS (lv_sub hl [1, 2, 3, 4, 5, 0] rfl)
  have L4_35 : ∀ (n : Nat) (z1 : Int32) (H : Heap) (locs : List Loc) (ls : Array Slot), iter (fX9_throughPeople_L4 v_p0_size v_p0_lostByHands v_p0_lostByMould v_p0_tears x2) n z1 = some e2 → va_P D vwCl [(q_t, .inr (8, [.ref q_t_rowsTo])), (q_t_rowsTo, .inl (cI, 6, .inl v_t_rowsTo)), (q_p0, .inr (4, [.ref q_p0_kinds, .ref q_p0_leaflets, .ref q_p0_owners, .ref q_p0_tears, .ref q_p0_debts, .int v_p0_size, .int v_p0_lostByHands, .int v_p0_lostByMould])), (q_p0_owners, .inl (cI, 10, .inl v_p0_owners)), (q_p0_tears, .inl (cI, 40, .inl v_p0_tears))] H → va_D A0 [(q_t, .inr (8, [.ref q_t_rowsTo])), (q_t_rowsTo, .inl (cI, 6, .inl v_t_rowsTo)), (q_p0, .inr (4, [.ref q_p0_kinds, .ref q_p0_leaflets, .ref q_p0_owners, .ref q_p0_tears, .ref q_p0_debts, .int v_p0_size, .int v_p0_lostByHands, .int v_p0_lostByMould])), (q_p0_owners, .inl (cI, 10, .inl v_p0_owners)), (q_p0_tears, .inl (cI, 40, .inl v_p0_tears))] → va_S A0 s.heap H locs → lv_has ls 6 [(0, .ref q_t), (1, .ref q_p0), (2, .int x2), (3, .int x3), (4, .int x4), (5, .int z1)] → W p l e ({ frames := 2, cells := 0, slots := 0, locals := 42 } : Room) s m args below meth c H locs 0 0 Q0 (F0 m 4 ls []) := by
    intro n
    induction n with
    | zero => exact fun _ _ _ _ h => (iter_z h).elim
    | succ n ih =>
      intro z1 H locs ls h hP hD hS hl
      obtain ⟨r_e2, h, hn_e2⟩ := iter_s h
      unfold fX9_throughPeople_L4 at h
      refine lv_iload hx hb dX9_throughPeople_4 (lv_at hl 5 rfl) ?_
      refine lv_iconst (v := 4) hx hb dX9_throughPeople_6 (by decide) ?_
      refine lv_icmp_ge (tgt := 29) hx hb dX9_throughPeople_7 (by decide) (fun c36 => ?_) (fun c36 => ?_)
      · skip
        have h := (if_pos c36).symm.trans h
        obtain rfl := Option.some.inj h
        obtain rfl := Option.some.inj hn_e2
        exact X29_6 () _ _ _ hc_e2 hP hD hS (lv_sub hl [0, 1, 2, 3, 4] rfl)
      · skip
        have h := (if_neg c36).symm.trans h
        refine lv_aload_n hx hb dX9_throughPeople_10 rfl (lv_at hl 1 rfl) ?_
        refine lv_iload_n hx hb dX9_throughPeople_11 rfl (lv_at hl 2 rfl) ?_
        refine lv_iload hx hb dX9_throughPeople_12 (lv_at hl 5 rfl) ?_
        obtain ⟨u37, g38, h⟩ := bd_of h
        refine cl_V [(q_t, .inr (8, [.ref q_t_rowsTo])), (q_t_rowsTo, .inl (cI, 6, .inl v_t_rowsTo)), (q_p0, .inr (4, [.ref q_p0_kinds, .ref q_p0_leaflets, .ref q_p0_owners, .ref q_p0_tears, .ref q_p0_debts, .int v_p0_size, .int v_p0_lostByHands, .int v_p0_lostByMould])), (q_p0_owners, .inl (cI, 10, .inl v_p0_owners)), (q_p0_tears, .inl (cI, 40, .inl v_p0_tears))] (As := [.int x2, .int z1]) (rest := []) (rv := (some (.int u37))) (c_X4_tear l D cI cJ q_p0 q_p0_kinds q_p0_leaflets q_p0_owners q_p0_tears q_p0_debts v_p0_size v_p0_lostByHands v_p0_lostByMould v_p0_tears x2 z1 u37 g38) ⟨hx, hb, hml, hown, hts⟩ (cwV 2 hts gX9_throughPeople_X4_tear rfl rfl rfl (by decide +kernel) ⟨(Nat.le_of_ble_eq_true rfl), (Nat.le_of_ble_eq_true rfl)⟩) hK hN hP hD hS [2, 4] rfl (by decide) rfl rfl rfl (q0 := 2) (ci := 4) rfl rfl rfl rfl hl.1 rfl (Nat.le_of_ble_eq_true rfl) dX9_throughPeople_14 ⟨Nat.zero_le _, Nat.zero_le _⟩ (fun H locs hP hD hS => ?_)
        show W p l e ({ frames := 2, cells := 0, slots := 0, locals := 42 } : Room) s m args below meth c H locs 0 0 Q0 (F0 m 17 ls [.int u37])
        refine lv_iconst (v := (-1)) hx hb dX9_throughPeople_17 (by decide) ?_
        refine lv_icmp_eq (tgt := 23) hx hb dX9_throughPeople_18 (by decide) (fun c39 => ?_) (fun c39 => ?_)
        · skip
          have h := (if_pos c39).symm.trans h
          refine lv_iinc (v := (z1 + 1)) (lv' := [(5, .int (z1 + 1)), (0, .ref q_t), (1, .ref q_p0), (2, .int x2), (3, .int x3), (4, .int x4)]) hx hb dX9_throughPeople_23 hl (k := 5) rfl rfl (by decide) rfl (fun ls hl => ?_)
          refine lv_goto (tgt := 4) hx hb dX9_throughPeople_26 (by decide) ?_
          obtain rfl := Option.some.inj h
          exact ih (z1 + 1) _ _ _ hn_e2 hP hD hS (lv_sub hl [1, 2, 3, 4, 5, 0] rfl)
        · skip
          have h := (if_neg c39).symm.trans h
          obtain rfl := Option.some.inj h
          obtain rfl := Option.some.inj hn_e2
          exact X21_4 () _ _ _ hc_e2 hP hD hS (lv_sub hl [] rfl)
  exact L4_35 FU x4 _ _ _ he_e2 hP hD hS (lv_sub hl [1, 2, 3, 4, 5, 0] rfl)
