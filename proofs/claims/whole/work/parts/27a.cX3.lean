def fX3_mostWithin_X4_39 (v_t_balances : Nat → Int32) (x1 : Int32) (a3 : Int32) : Option (Int32) :=
  gd (inb x1 64) (if (v_t_balances x1.toNatClampNeg) = 0 then (some (a3 + 1)) else (some a3))
def fX3_mostWithin_J33 (z1 : Int32 × Int32) (a9 : Int32) : Option ((Int32 × Int32) ⊕ (Int32)) :=
  some (Sum.inl (a9, (z1.2 + 1)))
def fX3_mostWithin_L4 (v_t_evenGroups : Nat → Int32) (x1 : Int32) (z1 : Int32 × Int32) : Option ((Int32 × Int32) ⊕ (Int32)) :=
  if 6 ≤ z1.2 then (some (Sum.inr z1.1)) else (if ((x1 >>> (z1.2 &&& 31)) &&& 1) = 0 then (fX3_mostWithin_J33 z1 z1.1) else (gd (inb (x1 ^^^ (1 <<< (z1.2 &&& 31))) 64) (fX3_mostWithin_J33 z1 (if z1.1 < (v_t_evenGroups (x1 ^^^ (1 <<< (z1.2 &&& 31))).toNatClampNeg) then (v_t_evenGroups (x1 ^^^ (1 <<< (z1.2 &&& 31))).toNatClampNeg) else z1.1))))
def fX3_mostWithin (v_t_balances : Nat → Int32) (v_t_evenGroups : Nat → Int32) (x1 : Int32) : Option (Int32) :=
  (iter (fX3_mostWithin_L4 v_t_evenGroups x1) FU (0, 0)).bind (fX3_mostWithin_X4_39 v_t_balances x1)
set_option maxHeartbeats 4000000 in
set_option maxRecDepth 100000 in
theorem c_X3_mostWithin (l : Launch) (D : va_G) (cI cJ : ClassId) (q_t q_t_balances q_t_evenGroups : Nat) (v_t_balances : Nat → Int32) (v_t_evenGroups : Nat → Int32) (x1 : Int32) (z : Int32) (h : fX3_mostWithin v_t_balances v_t_evenGroups x1 = some z) : Met l yX3_mostWithin wsX3_mostWithin ({ frames := 1, cells := 0, slots := 0, locals := 24 } : Room) (va_Pc [.ref q_t, .int x1] (preG D cI cJ [(q_t, .inr (3, [.ref q_t_balances, .ref q_t_evenGroups])), (q_t_balances, .inl (cI, 64, .inl v_t_balances)), (q_t_evenGroups, .inl (cI, 64, .inl v_t_evenGroups))])) (QG D [(q_t, .inr (3, [.ref q_t_balances, .ref q_t_evenGroups])), (q_t_balances, .inl (cI, 64, .inl v_t_balances)), (q_t_evenGroups, .inl (cI, 64, .inl v_t_evenGroups))] [(q_t, .inr (3, [.ref q_t_balances, .ref q_t_evenGroups])), (q_t_balances, .inl (cI, 64, .inl v_t_balances)), (q_t_evenGroups, .inl (cI, 64, .inl v_t_evenGroups))] (some (.int z))) 0 0 (fr [(q_t, .inr (3, [.ref q_t_balances, .ref q_t_evenGroups])), (q_t_balances, .inl (cI, 64, .inl v_t_balances)), (q_t_evenGroups, .inl (cI, 64, .inl v_t_evenGroups))]) := by
  refine Met.ofW (cc := cX3_mostWithin) (maxL := 4) (ret := (some .int)) (by decide) rfl ?_
  intro p e s m args below meth c s₁ B hml hv
  obtain ⟨hargs, hP, hK, hN, hD0⟩ := hv
  have hx := B.exec
  have hb := B.bytes
  have hr := B.returns
  have hts := atoms_spec (ws := wsX3_mostWithin) B.pre
  have hown : s.vm.findClass RX3 = some m.cls := findClass_of_methodNamed B.named
  have hlocks := B.notSynchronized
  have iX3 : ∀ w ∈ wsX30, w ∈ wsX3_mostWithin := by decide +kernel
  have k11 := hts (.fieldLink RX3 11 "PressedFerns$Groups" "balances" "[I") (by decide +kernel)
  have k15 := hts (.fieldLink RX3 15 "PressedFerns$Groups" "evenGroups" "[I") (by decide +kernel)
  have hD := fr_D hD0
  have hS : va_S (fr [(q_t, .inr (3, [.ref q_t_balances, .ref q_t_evenGroups])), (q_t_balances, .inl (cI, 64, .inl v_t_balances)), (q_t_evenGroups, .inl (cI, 64, .inl v_t_evenGroups))]) s.heap s.heap [] := va_S.rf
  have hl := lv_entry ([.ref q_t, .int x1]) (n := 4) (Nat.le_of_ble_eq_true rfl)
  refine W.eq (g2 := F0 m 0 ((lg_sl ([.ref q_t, .int x1]) ++ List.replicate (4 - (lg_sl ([.ref q_t, .int x1])).length) Slot.unset).toArray) []) (by rw [hargs, lg_entry_eq]) ?_
  generalize (lg_sl ([.ref q_t, .int x1]) ++ List.replicate (4 - (lg_sl ([.ref q_t, .int x1])).length) Slot.unset).toArray = ls at hl ⊢
  have hl : lv_has ls 4 [(0, .ref q_t), (1, .int x1)] := hl
  show W p l e ({ frames := 1, cells := 0, slots := 0, locals := 24 } : Room) s m args below meth c s.heap [] 0 0 (MQ below (QG D [(q_t, .inr (3, [.ref q_t_balances, .ref q_t_evenGroups])), (q_t_balances, .inl (cI, 64, .inl v_t_balances)), (q_t_evenGroups, .inl (cI, 64, .inl v_t_evenGroups))] [(q_t, .inr (3, [.ref q_t_balances, .ref q_t_evenGroups])), (q_t_balances, .inl (cI, 64, .inl v_t_balances)), (q_t_evenGroups, .inl (cI, 64, .inl v_t_evenGroups))] (some (.int z))) args s 0 0 (fr [(q_t, .inr (3, [.ref q_t_balances, .ref q_t_evenGroups])), (q_t_balances, .inl (cI, 64, .inl v_t_balances)), (q_t_evenGroups, .inl (cI, 64, .inl v_t_evenGroups))])) (F0 m 0 ls [])
  generalize hQ0 : (MQ below (QG D [(q_t, .inr (3, [.ref q_t_balances, .ref q_t_evenGroups])), (q_t_balances, .inl (cI, 64, .inl v_t_balances)), (q_t_evenGroups, .inl (cI, 64, .inl v_t_evenGroups))] [(q_t, .inr (3, [.ref q_t_balances, .ref q_t_evenGroups])), (q_t_balances, .inl (cI, 64, .inl v_t_balances)), (q_t_evenGroups, .inl (cI, 64, .inl v_t_evenGroups))] (some (.int z))) args s 0 0 (fr [(q_t, .inr (3, [.ref q_t_balances, .ref q_t_evenGroups])), (q_t_balances, .inl (cI, 64, .inl v_t_balances)), (q_t_evenGroups, .inl (cI, 64, .inl v_t_evenGroups))])) = Q0
  generalize hA0 : fr [(q_t, .inr (3, [.ref q_t_balances, .ref q_t_evenGroups])), (q_t_balances, .inl (cI, 64, .inl v_t_balances)), (q_t_evenGroups, .inl (cI, 64, .inl v_t_evenGroups))] = A0 at hD hS
  unfold fX3_mostWithin at h
  refine lv_iconst (v := 0) hx hb dX3_mostWithin_0 (by decide) ?_
  refine lv_istore_n (lv' := [(2, .int 0), (0, .ref q_t), (1, .int x1)]) hx hb dX3_mostWithin_1 rfl hl (by decide) rfl (fun ls hl => ?_)
  refine lv_iconst (v := 0) hx hb dX3_mostWithin_2 (by decide) ?_
  refine lv_istore_n (lv' := [(3, .int 0), (2, .int 0), (0, .ref q_t), (1, .int x1)]) hx hb dX3_mostWithin_3 rfl hl (by decide) rfl (fun ls hl => ?_)
  obtain ⟨e2, he_e2, hc_e2⟩ := bd_of h
  have X39_4 : ∀ (a3 : Int32) (H : Heap) (locs : List Loc) (ls : Array Slot), fX3_mostWithin_X4_39 v_t_balances x1 a3 = some z → va_P D vwCl [(q_t, .inr (3, [.ref q_t_balances, .ref q_t_evenGroups])), (q_t_balances, .inl (cI, 64, .inl v_t_balances)), (q_t_evenGroups, .inl (cI, 64, .inl v_t_evenGroups))] H → va_D A0 [(q_t, .inr (3, [.ref q_t_balances, .ref q_t_evenGroups])), (q_t_balances, .inl (cI, 64, .inl v_t_balances)), (q_t_evenGroups, .inl (cI, 64, .inl v_t_evenGroups))] → va_S A0 s.heap H locs → lv_has ls 4 [(0, .ref q_t), (1, .int x1), (2, .int a3)] → W p l e ({ frames := 1, cells := 0, slots := 0, locals := 24 } : Room) s m args below meth c H locs 0 0 Q0 (F0 m 39 ls []) := by
    intro a3 H locs ls h hP hD hS hl
    unfold fX3_mostWithin_X4_39 at h
    refine lv_aload_n hx hb dX3_mostWithin_39 rfl (lv_at hl 0 rfl) ?_
    refine va_get (own := RX3) (ci := 3) (v := .ref q_t_balances) (C := RX3) (T := TX3) (N := 2) hx hb hts iX3 hown hK hP 0 rfl rfl 0 (by decide) k11 (fun _ h9 => h9) rfl dX3_mostWithin_40 ?_
    refine lv_iload_n hx hb dX3_mostWithin_43 rfl (lv_at hl 1 rfl) ?_
    obtain ⟨g5, h⟩ := gd_of h
    refine va_iald hx hb hK hP 1 0 rfl rfl (inb_of g5) dX3_mostWithin_44 ?_
    refine lv_if_ne (tgt := 54) hx hb dX3_mostWithin_45 (by decide) (fun c6 => ?_) (fun c6 => ?_)
    · skip
      have h := (if_neg c6).symm.trans h
      refine lv_iload_n hx hb dX3_mostWithin_54 rfl (lv_at hl 2 rfl) ?_
      obtain rfl := Option.some.inj h
      exact rt_i hA0 hQ0 hx hb hr hlocks hP hS dX3_mostWithin_55
    · skip
      have h := (if_pos c6).symm.trans h
      refine lv_iload_n hx hb dX3_mostWithin_48 rfl (lv_at hl 2 rfl) ?_
      refine lv_iconst (v := 1) hx hb dX3_mostWithin_49 (by decide) ?_
      refine lv_iadd hx hb dX3_mostWithin_50 ?_
      refine lv_goto (tgt := 55) hx hb dX3_mostWithin_51 (by decide) ?_
      obtain rfl := Option.some.inj h
      exact rt_i hA0 hQ0 hx hb hr hlocks hP hS dX3_mostWithin_55
  have L4_7 : ∀ (n : Nat) (z1 : Int32 × Int32) (H : Heap) (locs : List Loc) (ls : Array Slot), iter (fX3_mostWithin_L4 v_t_evenGroups x1) n z1 = some e2 → va_P D vwCl [(q_t, .inr (3, [.ref q_t_balances, .ref q_t_evenGroups])), (q_t_balances, .inl (cI, 64, .inl v_t_balances)), (q_t_evenGroups, .inl (cI, 64, .inl v_t_evenGroups))] H → va_D A0 [(q_t, .inr (3, [.ref q_t_balances, .ref q_t_evenGroups])), (q_t_balances, .inl (cI, 64, .inl v_t_balances)), (q_t_evenGroups, .inl (cI, 64, .inl v_t_evenGroups))] → va_S A0 s.heap H locs → lv_has ls 4 [(0, .ref q_t), (1, .int x1), (2, .int z1.1), (3, .int z1.2)] → W p l e ({ frames := 1, cells := 0, slots := 0, locals := 24 } : Room) s m args below meth c H locs 0 0 Q0 (F0 m 4 ls []) := by
    intro n
    induction n with
    | zero => exact fun _ _ _ _ h => (iter_z h).elim
    | succ n ih =>
      intro z1 H locs ls h hP hD hS hl
      obtain ⟨r_e2, h, hn_e2⟩ := iter_s h
      unfold fX3_mostWithin_L4 at h
      refine lv_iload_n hx hb dX3_mostWithin_4 rfl (lv_at hl 3 rfl) ?_
      refine lv_bipush (v := 6) hx hb dX3_mostWithin_5 (by decide) ?_
      refine lv_icmp_ge (tgt := 39) hx hb dX3_mostWithin_7 (by decide) (fun c8 => ?_) (fun c8 => ?_)
      · skip
        have h := (if_pos c8).symm.trans h
        obtain rfl := Option.some.inj h
        obtain rfl := Option.some.inj hn_e2
        exact X39_4 z1.1 _ _ _ hc_e2 hP hD hS (lv_sub hl [0, 1, 2] rfl)
      · skip
        have h := (if_neg c8).symm.trans h
        refine lv_iload_n hx hb dX3_mostWithin_10 rfl (lv_at hl 1 rfl) ?_
        refine lv_iload_n hx hb dX3_mostWithin_11 rfl (lv_at hl 3 rfl) ?_
        refine lv_ishr hx hb dX3_mostWithin_12 ?_
        refine lv_iconst (v := 1) hx hb dX3_mostWithin_13 (by decide) ?_
        refine lv_iand hx hb dX3_mostWithin_14 ?_
        have J33_10 : ∀ (a9 : Int32) (H : Heap) (locs : List Loc) (ls : Array Slot), fX3_mostWithin_J33 z1 a9 = some r_e2 → va_P D vwCl [(q_t, .inr (3, [.ref q_t_balances, .ref q_t_evenGroups])), (q_t_balances, .inl (cI, 64, .inl v_t_balances)), (q_t_evenGroups, .inl (cI, 64, .inl v_t_evenGroups))] H → va_D A0 [(q_t, .inr (3, [.ref q_t_balances, .ref q_t_evenGroups])), (q_t_balances, .inl (cI, 64, .inl v_t_balances)), (q_t_evenGroups, .inl (cI, 64, .inl v_t_evenGroups))] → va_S A0 s.heap H locs → lv_has ls 4 [(0, .ref q_t), (1, .int x1), (2, .int a9), (3, .int z1.2)] → W p l e ({ frames := 1, cells := 0, slots := 0, locals := 24 } : Room) s m args below meth c H locs 0 0 Q0 (F0 m 33 ls []) := by
          intro a9 H locs ls h hP hD hS hl
          unfold fX3_mostWithin_J33 at h
          refine lv_iinc (v := (z1.2 + 1)) (lv' := [(3, .int (z1.2 + 1)), (0, .ref q_t), (1, .int x1), (2, .int a9)]) hx hb dX3_mostWithin_33 hl (k := 3) rfl rfl (by decide) rfl (fun ls hl => ?_)
          refine lv_goto (tgt := 4) hx hb dX3_mostWithin_36 (by decide) ?_
          obtain rfl := Option.some.inj h
          exact ih (a9, (z1.2 + 1)) _ _ _ hn_e2 hP hD hS (lv_sub hl [1, 2, 3, 0] rfl)
        refine lv_if_eq (tgt := 33) hx hb dX3_mostWithin_15 (by decide) (fun c11 => ?_) (fun c11 => ?_)
        · skip
          have h := (if_pos c11).symm.trans h
          exact J33_10 z1.1 _ _ _ h hP hD hS (lv_sub hl [0, 1, 2, 3] rfl)
        · skip
          have h := (if_neg c11).symm.trans h
          refine lv_iload_n hx hb dX3_mostWithin_18 rfl (lv_at hl 2 rfl) ?_
          refine lv_aload_n hx hb dX3_mostWithin_19 rfl (lv_at hl 0 rfl) ?_
          refine va_get (own := RX3) (ci := 3) (v := .ref q_t_evenGroups) (C := RX3) (T := TX3) (N := 2) hx hb hts iX3 hown hK hP 0 rfl rfl 1 (by decide) k15 (fun _ h9 => h9) rfl dX3_mostWithin_20 ?_
          refine lv_iload_n hx hb dX3_mostWithin_23 rfl (lv_at hl 1 rfl) ?_
          refine lv_iconst (v := 1) hx hb dX3_mostWithin_24 (by decide) ?_
          refine lv_iload_n hx hb dX3_mostWithin_25 rfl (lv_at hl 3 rfl) ?_
          refine lv_ishl hx hb dX3_mostWithin_26 ?_
          refine lv_ixor hx hb dX3_mostWithin_27 ?_
          obtain ⟨g12, h⟩ := gd_of h
          refine va_iald hx hb hK hP 2 0 rfl rfl (inb_of g12) dX3_mostWithin_28 ?_
          refine va_mmax (own := RX3) hx hb (hml.trans hl.1.symm) hown (hts (.methodLink RX3 27 Lib.Math.max.name) (by decide +kernel)) (hts (.static Lib.Math.max.name) (by decide +kernel)) (hts (.initialized "java/lang/Math") (by decide +kernel)) (hts (.code Lib.Math.max.name Lib.Math.max.code 2 (some .int)) (by decide +kernel)) (Nat.le_of_ble_eq_true rfl) (Nat.le_of_ble_eq_true rfl) (Nat.zero_le _) (Nat.zero_le _) dX3_mostWithin_29 ?_
          refine lv_istore_n (lv' := [(2, .int (if z1.1 < (v_t_evenGroups (x1 ^^^ (1 <<< (z1.2 &&& 31))).toNatClampNeg) then (v_t_evenGroups (x1 ^^^ (1 <<< (z1.2 &&& 31))).toNatClampNeg) else z1.1)), (0, .ref q_t), (1, .int x1), (3, .int z1.2)]) hx hb dX3_mostWithin_32 rfl hl (by decide) rfl (fun ls hl => ?_)
          exact J33_10 (if z1.1 < (v_t_evenGroups (x1 ^^^ (1 <<< (z1.2 &&& 31))).toNatClampNeg) then (v_t_evenGroups (x1 ^^^ (1 <<< (z1.2 &&& 31))).toNatClampNeg) else z1.1) _ _ _ h hP hD hS (lv_sub hl [1, 2, 0, 3] rfl)
  exact L4_7 FU (0, 0) _ _ _ he_e2 hP hD hS (lv_sub hl [2, 3, 1, 0] rfl)
def fX3_most_X62_85 (a3 : (Nat → Int32)) (a7 : (Nat → Int32)) : Option (Int32 × (Nat → Int32) × (Nat → Int32)) :=
  some ((a7 (63 : Int32).toNatClampNeg), a3, a7)
def fX3_most_L62 (a3 : (Nat → Int32)) (z5 : Int32 × (Nat → Int32)) : Option ((Int32 × (Nat → Int32)) ⊕ ((Nat → Int32))) :=
  if 64 ≤ z5.1 then (some (Sum.inr z5.2)) else ((fX3_mostWithin a3 z5.2 z5.1).bind (fun u11 => gd (inb z5.1 64) (some (Sum.inl ((z5.1 + 1), (upd z5.2 z5.1.toNatClampNeg u11))))))
def fX3_most_X2_60 (v_t_evenGroups : Nat → Int32) (a3 : (Nat → Int32)) : Option (Int32 × (Nat → Int32) × (Nat → Int32)) :=
  (iter (fX3_most_L62 a3) FU (1, v_t_evenGroups)).bind (fX3_most_X62_85 a3)
def fX3_most_X22_54 (z1 : Int32 × (Nat → Int32)) (a20 : (Nat → Int32)) : Option ((Int32 × (Nat → Int32)) ⊕ ((Nat → Int32))) :=
  some (Sum.inl ((z1.1 + 1), a20))
def fX3_most_L22 (z1 : Int32 × (Nat → Int32)) (u16 : Int32) (z18 : Int32 × (Nat → Int32)) : Option ((Int32 × (Nat → Int32)) ⊕ ((Nat → Int32))) :=
  if (1 <<< (z1.1 &&& 31)) ≤ z18.1 then (some (Sum.inr z18.2)) else (gd (inb z18.1 64) (gd (inb ((1 <<< (z1.1 &&& 31)) + z18.1) 64) (some (Sum.inl ((z18.1 + 1), (upd z18.2 ((1 <<< (z1.1 &&& 31)) + z18.1).toNatClampNeg ((z18.2 z18.1.toNatClampNeg) + u16)))))))
def fX3_most_L2 (v_p0_sums : Nat → Int32) (z1 : Int32 × (Nat → Int32)) : Option ((Int32 × (Nat → Int32)) ⊕ ((Nat → Int32))) :=
  if 6 ≤ z1.1 then (some (Sum.inr z1.2)) else ((fX1_balance v_p0_sums z1.1).bind (fun u16 => (iter (fX3_most_L22 z1 u16) FU (0, z1.2)).bind (fX3_most_X22_54 z1)))
def fX3_most (v_t_balances : Nat → Int32) (v_t_evenGroups : Nat → Int32) (v_p0_sums : Nat → Int32) : Option (Int32 × (Nat → Int32) × (Nat → Int32)) :=
  (iter (fX3_most_L2 v_p0_sums) FU (0, v_t_balances)).bind (fX3_most_X2_60 v_t_evenGroups)
set_option maxHeartbeats 4000000 in
set_option maxRecDepth 100000 in
theorem c_X3_most (l : Launch) (D : va_G) (cI cJ : ClassId) (q_t q_t_balances q_t_evenGroups q_p0 q_p0_sums : Nat) (v_t_balances : Nat → Int32) (v_t_evenGroups : Nat → Int32) (v_p0_sums : Nat → Int32) (z : Int32 × (Nat → Int32) × (Nat → Int32)) (h : fX3_most v_t_balances v_t_evenGroups v_p0_sums = some z) : Met l yX3_most wsX3_most ({ frames := 2, cells := 0, slots := 0, locals := 47 } : Room) (va_Pc [.ref q_t, .ref q_p0] (preG D cI cJ [(q_t, .inr (3, [.ref q_t_balances, .ref q_t_evenGroups])), (q_t_balances, .inl (cI, 64, .inl v_t_balances)), (q_t_evenGroups, .inl (cI, 64, .inl v_t_evenGroups)), (q_p0, .inr (1, [.ref q_p0_sums])), (q_p0_sums, .inl (cI, 36, .inl v_p0_sums))])) (QG D [(q_t, .inr (3, [.ref q_t_balances, .ref q_t_evenGroups])), (q_t_balances, .inl (cI, 64, .inl v_t_balances)), (q_t_evenGroups, .inl (cI, 64, .inl v_t_evenGroups)), (q_p0, .inr (1, [.ref q_p0_sums])), (q_p0_sums, .inl (cI, 36, .inl v_p0_sums))] [(q_t, .inr (3, [.ref q_t_balances, .ref q_t_evenGroups])), (q_t_balances, .inl (cI, 64, .inl z.2.1)), (q_t_evenGroups, .inl (cI, 64, .inl z.2.2)), (q_p0, .inr (1, [.ref q_p0_sums])), (q_p0_sums, .inl (cI, 36, .inl v_p0_sums))] (some (.int z.1))) 0 0 (fr [(q_t, .inr (3, [.ref q_t_balances, .ref q_t_evenGroups])), (q_t_balances, .inl (cI, 64, .inl v_t_balances)), (q_t_evenGroups, .inl (cI, 64, .inl v_t_evenGroups)), (q_p0, .inr (1, [.ref q_p0_sums])), (q_p0_sums, .inl (cI, 36, .inl v_p0_sums))]) := by
  refine Met.ofW (cc := cX3_most) (maxL := 6) (ret := (some .int)) (by decide) rfl ?_
  intro p e s m args below meth c s₁ B hml hv
  obtain ⟨hargs, hP, hK, hN, hD0⟩ := hv
  have hx := B.exec
  have hb := B.bytes
  have hr := B.returns
  have hts := atoms_spec (ws := wsX3_most) B.pre
  have hown : s.vm.findClass RX3 = some m.cls := findClass_of_methodNamed B.named
  have hlocks := B.notSynchronized
  have iX3 : ∀ w ∈ wsX30, w ∈ wsX3_most := by decide +kernel
  have k11 := hts (.fieldLink RX3 11 "PressedFerns$Groups" "balances" "[I") (by decide +kernel)
  have k15 := hts (.fieldLink RX3 15 "PressedFerns$Groups" "evenGroups" "[I") (by decide +kernel)
  have hD := fr_D hD0
  have hS : va_S (fr [(q_t, .inr (3, [.ref q_t_balances, .ref q_t_evenGroups])), (q_t_balances, .inl (cI, 64, .inl v_t_balances)), (q_t_evenGroups, .inl (cI, 64, .inl v_t_evenGroups)), (q_p0, .inr (1, [.ref q_p0_sums])), (q_p0_sums, .inl (cI, 36, .inl v_p0_sums))]) s.heap s.heap [] := va_S.rf
  have hl := lv_entry ([.ref q_t, .ref q_p0]) (n := 6) (Nat.le_of_ble_eq_true rfl)
  refine W.eq (g2 := F0 m 0 ((lg_sl ([.ref q_t, .ref q_p0]) ++ List.replicate (6 - (lg_sl ([.ref q_t, .ref q_p0])).length) Slot.unset).toArray) []) (by rw [hargs, lg_entry_eq]) ?_
  generalize (lg_sl ([.ref q_t, .ref q_p0]) ++ List.replicate (6 - (lg_sl ([.ref q_t, .ref q_p0])).length) Slot.unset).toArray = ls at hl ⊢
  have hl : lv_has ls 6 [(0, .ref q_t), (1, .ref q_p0)] := hl
  show W p l e ({ frames := 2, cells := 0, slots := 0, locals := 47 } : Room) s m args below meth c s.heap [] 0 0 (MQ below (QG D [(q_t, .inr (3, [.ref q_t_balances, .ref q_t_evenGroups])), (q_t_balances, .inl (cI, 64, .inl v_t_balances)), (q_t_evenGroups, .inl (cI, 64, .inl v_t_evenGroups)), (q_p0, .inr (1, [.ref q_p0_sums])), (q_p0_sums, .inl (cI, 36, .inl v_p0_sums))] [(q_t, .inr (3, [.ref q_t_balances, .ref q_t_evenGroups])), (q_t_balances, .inl (cI, 64, .inl z.2.1)), (q_t_evenGroups, .inl (cI, 64, .inl z.2.2)), (q_p0, .inr (1, [.ref q_p0_sums])), (q_p0_sums, .inl (cI, 36, .inl v_p0_sums))] (some (.int z.1))) args s 0 0 (fr [(q_t, .inr (3, [.ref q_t_balances, .ref q_t_evenGroups])), (q_t_balances, .inl (cI, 64, .inl v_t_balances)), (q_t_evenGroups, .inl (cI, 64, .inl v_t_evenGroups)), (q_p0, .inr (1, [.ref q_p0_sums])), (q_p0_sums, .inl (cI, 36, .inl v_p0_sums))])) (F0 m 0 ls [])
  generalize hQ0 : (MQ below (QG D [(q_t, .inr (3, [.ref q_t_balances, .ref q_t_evenGroups])), (q_t_balances, .inl (cI, 64, .inl v_t_balances)), (q_t_evenGroups, .inl (cI, 64, .inl v_t_evenGroups)), (q_p0, .inr (1, [.ref q_p0_sums])), (q_p0_sums, .inl (cI, 36, .inl v_p0_sums))] [(q_t, .inr (3, [.ref q_t_balances, .ref q_t_evenGroups])), (q_t_balances, .inl (cI, 64, .inl z.2.1)), (q_t_evenGroups, .inl (cI, 64, .inl z.2.2)), (q_p0, .inr (1, [.ref q_p0_sums])), (q_p0_sums, .inl (cI, 36, .inl v_p0_sums))] (some (.int z.1))) args s 0 0 (fr [(q_t, .inr (3, [.ref q_t_balances, .ref q_t_evenGroups])), (q_t_balances, .inl (cI, 64, .inl v_t_balances)), (q_t_evenGroups, .inl (cI, 64, .inl v_t_evenGroups)), (q_p0, .inr (1, [.ref q_p0_sums])), (q_p0_sums, .inl (cI, 36, .inl v_p0_sums))])) = Q0
  generalize hA0 : fr [(q_t, .inr (3, [.ref q_t_balances, .ref q_t_evenGroups])), (q_t_balances, .inl (cI, 64, .inl v_t_balances)), (q_t_evenGroups, .inl (cI, 64, .inl v_t_evenGroups)), (q_p0, .inr (1, [.ref q_p0_sums])), (q_p0_sums, .inl (cI, 36, .inl v_p0_sums))] = A0 at hD hS
  unfold fX3_most at h
  refine lv_iconst (v := 0) hx hb dX3_most_0 (by decide) ?_
  refine lv_istore_n (lv' := [(2, .int 0), (0, .ref q_t), (1, .ref q_p0)]) hx hb dX3_most_1 rfl hl (by decide) rfl (fun ls hl => ?_)
  obtain ⟨e2, he_e2, hc_e2⟩ := bd_of h
  have X60_4 : ∀ (a3 : (Nat → Int32)) (H : Heap) (locs : List Loc) (ls : Array Slot), fX3_most_X2_60 v_t_evenGroups a3 = some z → va_P D vwCl [(q_t, .inr (3, [.ref q_t_balances, .ref q_t_evenGroups])), (q_t_balances, .inl (cI, 64, .inl a3)), (q_t_evenGroups, .inl (cI, 64, .inl v_t_evenGroups)), (q_p0, .inr (1, [.ref q_p0_sums])), (q_p0_sums, .inl (cI, 36, .inl v_p0_sums))] H → va_D A0 [(q_t, .inr (3, [.ref q_t_balances, .ref q_t_evenGroups])), (q_t_balances, .inl (cI, 64, .inl a3)), (q_t_evenGroups, .inl (cI, 64, .inl v_t_evenGroups)), (q_p0, .inr (1, [.ref q_p0_sums])), (q_p0_sums, .inl (cI, 36, .inl v_p0_sums))] → va_S A0 s.heap H locs → lv_has ls 6 [(0, .ref q_t)] → W p l e ({ frames := 2, cells := 0, slots := 0, locals := 47 } : Room) s m args below meth c H locs 0 0 Q0 (F0 m 60 ls []) := by
    intro a3 H locs ls h hP hD hS hl
    unfold fX3_most_X2_60 at h
    refine lv_iconst (v := 1) hx hb dX3_most_60 (by decide) ?_
    refine lv_istore_n (lv' := [(2, .int 1), (0, .ref q_t)]) hx hb dX3_most_61 rfl hl (by decide) rfl (fun ls hl => ?_)
    obtain ⟨e6, he_e6, hc_e6⟩ := bd_of h
    have X85_8 : ∀ (a7 : (Nat → Int32)) (H : Heap) (locs : List Loc) (ls : Array Slot), fX3_most_X62_85 a3 a7 = some z → va_P D vwCl [(q_t, .inr (3, [.ref q_t_balances, .ref q_t_evenGroups])), (q_t_balances, .inl (cI, 64, .inl a3)), (q_t_evenGroups, .inl (cI, 64, .inl a7)), (q_p0, .inr (1, [.ref q_p0_sums])), (q_p0_sums, .inl (cI, 36, .inl v_p0_sums))] H → va_D A0 [(q_t, .inr (3, [.ref q_t_balances, .ref q_t_evenGroups])), (q_t_balances, .inl (cI, 64, .inl a3)), (q_t_evenGroups, .inl (cI, 64, .inl a7)), (q_p0, .inr (1, [.ref q_p0_sums])), (q_p0_sums, .inl (cI, 36, .inl v_p0_sums))] → va_S A0 s.heap H locs → lv_has ls 6 [(0, .ref q_t)] → W p l e ({ frames := 2, cells := 0, slots := 0, locals := 47 } : Room) s m args below meth c H locs 0 0 Q0 (F0 m 85 ls []) := by
      intro a7 H locs ls h hP hD hS hl
      unfold fX3_most_X62_85 at h
      refine lv_aload_n hx hb dX3_most_85 rfl (lv_at hl 0 rfl) ?_
      refine va_get (own := RX3) (ci := 3) (v := .ref q_t_evenGroups) (C := RX3) (T := TX3) (N := 2) hx hb hts iX3 hown hK hP 0 rfl rfl 1 (by decide) k15 (fun _ h9 => h9) rfl dX3_most_86 ?_
      refine lv_bipush (v := 63) hx hb dX3_most_89 (by decide) ?_
      refine va_iald hx hb hK hP 2 0 rfl rfl (inb_of (by decide)) dX3_most_91 ?_
      obtain rfl := Option.some.inj h
      exact rt_i hA0 hQ0 hx hb hr hlocks hP hS dX3_most_92
    have L62_9 : ∀ (n : Nat) (z5 : Int32 × (Nat → Int32)) (H : Heap) (locs : List Loc) (ls : Array Slot), iter (fX3_most_L62 a3) n z5 = some e6 → va_P D vwCl [(q_t, .inr (3, [.ref q_t_balances, .ref q_t_evenGroups])), (q_t_balances, .inl (cI, 64, .inl a3)), (q_t_evenGroups, .inl (cI, 64, .inl z5.2)), (q_p0, .inr (1, [.ref q_p0_sums])), (q_p0_sums, .inl (cI, 36, .inl v_p0_sums))] H → va_D A0 [(q_t, .inr (3, [.ref q_t_balances, .ref q_t_evenGroups])), (q_t_balances, .inl (cI, 64, .inl a3)), (q_t_evenGroups, .inl (cI, 64, .inl z5.2)), (q_p0, .inr (1, [.ref q_p0_sums])), (q_p0_sums, .inl (cI, 36, .inl v_p0_sums))] → va_S A0 s.heap H locs → lv_has ls 6 [(0, .ref q_t), (2, .int z5.1)] → W p l e ({ frames := 2, cells := 0, slots := 0, locals := 47 } : Room) s m args below meth c H locs 0 0 Q0 (F0 m 62 ls []) := by
      intro n
      induction n with
      | zero => exact fun _ _ _ _ h => (iter_z h).elim
      | succ n ih =>
        intro z5 H locs ls h hP hD hS hl
        obtain ⟨r_e6, h, hn_e6⟩ := iter_s h
        unfold fX3_most_L62 at h
        refine lv_iload_n hx hb dX3_most_62 rfl (lv_at hl 1 rfl) ?_
        refine lv_bipush (v := 64) hx hb dX3_most_63 (by decide) ?_
        refine lv_icmp_ge (tgt := 85) hx hb dX3_most_65 (by decide) (fun c10 => ?_) (fun c10 => ?_)
        · skip
          have h := (if_pos c10).symm.trans h
          obtain rfl := Option.some.inj h
          obtain rfl := Option.some.inj hn_e6
          exact X85_8 z5.2 _ _ _ hc_e6 hP hD hS (lv_sub hl [0] rfl)
        · skip
          have h := (if_neg c10).symm.trans h
          refine lv_aload_n hx hb dX3_most_68 rfl (lv_at hl 0 rfl) ?_
          refine va_get (own := RX3) (ci := 3) (v := .ref q_t_evenGroups) (C := RX3) (T := TX3) (N := 2) hx hb hts iX3 hown hK hP 0 rfl rfl 1 (by decide) k15 (fun _ h9 => h9) rfl dX3_most_69 ?_
          refine lv_iload_n hx hb dX3_most_72 rfl (lv_at hl 1 rfl) ?_
          refine lv_aload_n hx hb dX3_most_73 rfl (lv_at hl 0 rfl) ?_
          refine lv_iload_n hx hb dX3_most_74 rfl (lv_at hl 1 rfl) ?_
          obtain ⟨u11, g12, h⟩ := bd_of h
          refine cl_V [(q_t, .inr (3, [.ref q_t_balances, .ref q_t_evenGroups])), (q_t_balances, .inl (cI, 64, .inl a3)), (q_t_evenGroups, .inl (cI, 64, .inl z5.2)), (q_p0, .inr (1, [.ref q_p0_sums])), (q_p0_sums, .inl (cI, 36, .inl v_p0_sums))] (As := [.int z5.1]) (rest := [.int z5.1, .ref q_t_evenGroups]) (rv := (some (.int u11))) (c_X3_mostWithin l D cI cJ q_t q_t_balances q_t_evenGroups a3 z5.2 z5.1 u11 g12) ⟨hx, hb, hml, hown, hts⟩ (cwV 1 hts gX3_most_X3_mostWithin rfl rfl rfl (by decide +kernel) ⟨(Nat.le_of_ble_eq_true rfl), (Nat.le_of_ble_eq_true rfl)⟩) hK hN hP hD hS [0, 1, 2] rfl (by decide) rfl rfl rfl (q0 := 0) (ci := 3) rfl rfl rfl rfl hl.1 rfl (Nat.le_of_ble_eq_true rfl) dX3_most_75 ⟨Nat.zero_le _, Nat.zero_le _⟩ (fun H locs hP hD hS => ?_)
          show W p l e ({ frames := 2, cells := 0, slots := 0, locals := 47 } : Room) s m args below meth c H locs 0 0 Q0 (F0 m 78 ls [.int u11, .int z5.1, .ref q_t_evenGroups])
          obtain ⟨g13, h⟩ := gd_of h
          refine va_iast hx hb hK hP hD hS 2 0 rfl rfl (inb_of g13) dX3_most_78 (fun H locs hP hD hS => ?_)
          have hP : va_P D vwCl [(q_t, .inr (3, [.ref q_t_balances, .ref q_t_evenGroups])), (q_t_balances, .inl (cI, 64, .inl a3)), (q_t_evenGroups, .inl (cI, 64, .inl (upd z5.2 z5.1.toNatClampNeg u11))), (q_p0, .inr (1, [.ref q_p0_sums])), (q_p0_sums, .inl (cI, 36, .inl v_p0_sums))] H := hP
          have hD : va_D A0 [(q_t, .inr (3, [.ref q_t_balances, .ref q_t_evenGroups])), (q_t_balances, .inl (cI, 64, .inl a3)), (q_t_evenGroups, .inl (cI, 64, .inl (upd z5.2 z5.1.toNatClampNeg u11))), (q_p0, .inr (1, [.ref q_p0_sums])), (q_p0_sums, .inl (cI, 36, .inl v_p0_sums))] := hD
          refine lv_iinc (v := (z5.1 + 1)) (lv' := [(2, .int (z5.1 + 1)), (0, .ref q_t)]) hx hb dX3_most_79 hl (k := 1) rfl rfl (by decide) rfl (fun ls hl => ?_)
          refine lv_goto (tgt := 62) hx hb dX3_most_82 (by decide) ?_
          obtain rfl := Option.some.inj h
          exact ih ((z5.1 + 1), (upd z5.2 z5.1.toNatClampNeg u11)) _ _ _ hn_e6 hP hD hS (lv_sub hl [1, 0] rfl)
    exact L62_9 FU (1, v_t_evenGroups) _ _ _ he_e6 hP hD hS (lv_sub hl [1, 0] rfl)
  have L2_14 : ∀ (n : Nat) (z1 : Int32 × (Nat → Int32)) (H : Heap) (locs : List Loc) (ls : Array Slot), iter (fX3_most_L2 v_p0_sums) n z1 = some e2 → va_P D vwCl [(q_t, .inr (3, [.ref q_t_balances, .ref q_t_evenGroups])), (q_t_balances, .inl (cI, 64, .inl z1.2)), (q_t_evenGroups, .inl (cI, 64, .inl v_t_evenGroups)), (q_p0, .inr (1, [.ref q_p0_sums])), (q_p0_sums, .inl (cI, 36, .inl v_p0_sums))] H → va_D A0 [(q_t, .inr (3, [.ref q_t_balances, .ref q_t_evenGroups])), (q_t_balances, .inl (cI, 64, .inl z1.2)), (q_t_evenGroups, .inl (cI, 64, .inl v_t_evenGroups)), (q_p0, .inr (1, [.ref q_p0_sums])), (q_p0_sums, .inl (cI, 36, .inl v_p0_sums))] → va_S A0 s.heap H locs → lv_has ls 6 [(0, .ref q_t), (1, .ref q_p0), (2, .int z1.1)] → W p l e ({ frames := 2, cells := 0, slots := 0, locals := 47 } : Room) s m args below meth c H locs 0 0 Q0 (F0 m 2 ls []) := by
    intro n
    induction n with
    | zero => exact fun _ _ _ _ h => (iter_z h).elim
    | succ n ih =>
      intro z1 H locs ls h hP hD hS hl
      obtain ⟨r_e2, h, hn_e2⟩ := iter_s h
      unfold fX3_most_L2 at h
      refine lv_iload_n hx hb dX3_most_2 rfl (lv_at hl 2 rfl) ?_
      refine lv_bipush (v := 6) hx hb dX3_most_3 (by decide) ?_
      refine lv_icmp_ge (tgt := 60) hx hb dX3_most_5 (by decide) (fun c15 => ?_) (fun c15 => ?_)
      · skip
        have h := (if_pos c15).symm.trans h
        obtain rfl := Option.some.inj h
        obtain rfl := Option.some.inj hn_e2
        exact X60_4 z1.2 _ _ _ hc_e2 hP hD hS (lv_sub hl [0] rfl)
      · skip
        have h := (if_neg c15).symm.trans h
        refine lv_aload_n hx hb dX3_most_8 rfl (lv_at hl 1 rfl) ?_
        refine lv_iload_n hx hb dX3_most_9 rfl (lv_at hl 2 rfl) ?_
        obtain ⟨u16, g17, h⟩ := bd_of h
        refine cl_V [(q_t, .inr (3, [.ref q_t_balances, .ref q_t_evenGroups])), (q_t_balances, .inl (cI, 64, .inl z1.2)), (q_t_evenGroups, .inl (cI, 64, .inl v_t_evenGroups)), (q_p0, .inr (1, [.ref q_p0_sums])), (q_p0_sums, .inl (cI, 36, .inl v_p0_sums))] (As := [.int z1.1]) (rest := []) (rv := (some (.int u16))) (c_X1_balance l D cI cJ q_p0 q_p0_sums v_p0_sums z1.1 u16 g17) ⟨hx, hb, hml, hown, hts⟩ (cwV 1 hts gX3_most_X1_balance rfl rfl rfl (by decide +kernel) ⟨(Nat.le_of_ble_eq_true rfl), (Nat.le_of_ble_eq_true rfl)⟩) hK hN hP hD hS [3, 4] rfl (by decide) rfl rfl rfl (q0 := 3) (ci := 1) rfl rfl rfl rfl hl.1 rfl (Nat.le_of_ble_eq_true rfl) dX3_most_10 ⟨Nat.zero_le _, Nat.zero_le _⟩ (fun H locs hP hD hS => ?_)
        show W p l e ({ frames := 2, cells := 0, slots := 0, locals := 47 } : Room) s m args below meth c H locs 0 0 Q0 (F0 m 13 ls [.int u16])
        refine lv_istore_n (lv' := [(3, .int u16), (0, .ref q_t), (1, .ref q_p0), (2, .int z1.1)]) hx hb dX3_most_13 rfl hl (by decide) rfl (fun ls hl => ?_)
        refine lv_iconst (v := 1) hx hb dX3_most_14 (by decide) ?_
        refine lv_iload_n hx hb dX3_most_15 rfl (lv_at hl 3 rfl) ?_
        refine lv_ishl hx hb dX3_most_16 ?_
        refine lv_istore (lv' := [(4, .int (1 <<< (z1.1 &&& 31))), (3, .int u16), (0, .ref q_t), (1, .ref q_p0), (2, .int z1.1)]) hx hb dX3_most_17 hl (by decide) rfl (fun ls hl => ?_)
        refine lv_iconst (v := 0) hx hb dX3_most_19 (by decide) ?_
        refine lv_istore (lv' := [(5, .int 0), (4, .int (1 <<< (z1.1 &&& 31))), (3, .int u16), (0, .ref q_t), (1, .ref q_p0), (2, .int z1.1)]) hx hb dX3_most_20 hl (by decide) rfl (fun ls hl => ?_)
        obtain ⟨e19, he_e19, hc_e19⟩ := bd_of h
        have X54_21 : ∀ (a20 : (Nat → Int32)) (H : Heap) (locs : List Loc) (ls : Array Slot), fX3_most_X22_54 z1 a20 = some r_e2 → va_P D vwCl [(q_t, .inr (3, [.ref q_t_balances, .ref q_t_evenGroups])), (q_t_balances, .inl (cI, 64, .inl a20)), (q_t_evenGroups, .inl (cI, 64, .inl v_t_evenGroups)), (q_p0, .inr (1, [.ref q_p0_sums])), (q_p0_sums, .inl (cI, 36, .inl v_p0_sums))] H → va_D A0 [(q_t, .inr (3, [.ref q_t_balances, .ref q_t_evenGroups])), (q_t_balances, .inl (cI, 64, .inl a20)), (q_t_evenGroups, .inl (cI, 64, .inl v_t_evenGroups)), (q_p0, .inr (1, [.ref q_p0_sums])), (q_p0_sums, .inl (cI, 36, .inl v_p0_sums))] → va_S A0 s.heap H locs → lv_has ls 6 [(0, .ref q_t), (1, .ref q_p0), (2, .int z1.1)] → W p l e ({ frames := 2, cells := 0, slots := 0, locals := 47 } : Room) s m args below meth c H locs 0 0 Q0 (F0 m 54 ls []) := by
          intro a20 H locs ls h hP hD hS hl
          unfold fX3_most_X22_54 at h
          refine lv_iinc (v := (z1.1 + 1)) (lv' := [(2, .int (z1.1 + 1)), (0, .ref q_t), (1, .ref q_p0)]) hx hb dX3_most_54 hl (k := 2) rfl rfl (by decide) rfl (fun ls hl => ?_)
          refine lv_goto (tgt := 2) hx hb dX3_most_57 (by decide) ?_
          obtain rfl := Option.some.inj h
          exact ih ((z1.1 + 1), a20) _ _ _ hn_e2 hP hD hS (lv_sub hl [1, 2, 0] rfl)
        have L22_22 : ∀ (n : Nat) (z18 : Int32 × (Nat → Int32)) (H : Heap) (locs : List Loc) (ls : Array Slot), iter (fX3_most_L22 z1 u16) n z18 = some e19 → va_P D vwCl [(q_t, .inr (3, [.ref q_t_balances, .ref q_t_evenGroups])), (q_t_balances, .inl (cI, 64, .inl z18.2)), (q_t_evenGroups, .inl (cI, 64, .inl v_t_evenGroups)), (q_p0, .inr (1, [.ref q_p0_sums])), (q_p0_sums, .inl (cI, 36, .inl v_p0_sums))] H → va_D A0 [(q_t, .inr (3, [.ref q_t_balances, .ref q_t_evenGroups])), (q_t_balances, .inl (cI, 64, .inl z18.2)), (q_t_evenGroups, .inl (cI, 64, .inl v_t_evenGroups)), (q_p0, .inr (1, [.ref q_p0_sums])), (q_p0_sums, .inl (cI, 36, .inl v_p0_sums))] → va_S A0 s.heap H locs → lv_has ls 6 [(0, .ref q_t), (1, .ref q_p0), (2, .int z1.1), (3, .int u16), (4, .int (1 <<< (z1.1 &&& 31))), (5, .int z18.1)] → W p l e ({ frames := 2, cells := 0, slots := 0, locals := 47 } : Room) s m args below meth c H locs 0 0 Q0 (F0 m 22 ls []) := by
          intro n
          induction n with
          | zero => exact fun _ _ _ _ h => (iter_z h).elim
          | succ n ih =>
            intro z18 H locs ls h hP hD hS hl
            obtain ⟨r_e19, h, hn_e19⟩ := iter_s h
            unfold fX3_most_L22 at h
            refine lv_iload hx hb dX3_most_22 (lv_at hl 5 rfl) ?_
            refine lv_iload hx hb dX3_most_24 (lv_at hl 4 rfl) ?_
            refine lv_icmp_ge (tgt := 54) hx hb dX3_most_26 (by decide) (fun c23 => ?_) (fun c23 => ?_)
            · skip
              have h := (if_pos c23).symm.trans h
              obtain rfl := Option.some.inj h
              obtain rfl := Option.some.inj hn_e19
              exact X54_21 z18.2 _ _ _ hc_e19 hP hD hS (lv_sub hl [0, 1, 2] rfl)
            · skip
              have h := (if_neg c23).symm.trans h
              refine lv_aload_n hx hb dX3_most_29 rfl (lv_at hl 0 rfl) ?_
              refine va_get (own := RX3) (ci := 3) (v := .ref q_t_balances) (C := RX3) (T := TX3) (N := 2) hx hb hts iX3 hown hK hP 0 rfl rfl 0 (by decide) k11 (fun _ h9 => h9) rfl dX3_most_30 ?_
              refine lv_iload hx hb dX3_most_33 (lv_at hl 4 rfl) ?_
              refine lv_iload hx hb dX3_most_35 (lv_at hl 5 rfl) ?_
              refine lv_iadd hx hb dX3_most_37 ?_
              refine lv_aload_n hx hb dX3_most_38 rfl (lv_at hl 0 rfl) ?_
              refine va_get (own := RX3) (ci := 3) (v := .ref q_t_balances) (C := RX3) (T := TX3) (N := 2) hx hb hts iX3 hown hK hP 0 rfl rfl 0 (by decide) k11 (fun _ h9 => h9) rfl dX3_most_39 ?_
              refine lv_iload hx hb dX3_most_42 (lv_at hl 5 rfl) ?_
              obtain ⟨g24, h⟩ := gd_of h
              refine va_iald hx hb hK hP 1 0 rfl rfl (inb_of g24) dX3_most_44 ?_
              refine lv_iload_n hx hb dX3_most_45 rfl (lv_at hl 3 rfl) ?_
              refine lv_iadd hx hb dX3_most_46 ?_
              obtain ⟨g25, h⟩ := gd_of h
              refine va_iast hx hb hK hP hD hS 1 0 rfl rfl (inb_of g25) dX3_most_47 (fun H locs hP hD hS => ?_)
              have hP : va_P D vwCl [(q_t, .inr (3, [.ref q_t_balances, .ref q_t_evenGroups])), (q_t_balances, .inl (cI, 64, .inl (upd z18.2 ((1 <<< (z1.1 &&& 31)) + z18.1).toNatClampNeg ((z18.2 z18.1.toNatClampNeg) + u16)))), (q_t_evenGroups, .inl (cI, 64, .inl v_t_evenGroups)), (q_p0, .inr (1, [.ref q_p0_sums])), (q_p0_sums, .inl (cI, 36, .inl v_p0_sums))] H := hP
              have hD : va_D A0 [(q_t, .inr (3, [.ref q_t_balances, .ref q_t_evenGroups])), (q_t_balances, .inl (cI, 64, .inl (upd z18.2 ((1 <<< (z1.1 &&& 31)) + z18.1).toNatClampNeg ((z18.2 z18.1.toNatClampNeg) + u16)))), (q_t_evenGroups, .inl (cI, 64, .inl v_t_evenGroups)), (q_p0, .inr (1, [.ref q_p0_sums])), (q_p0_sums, .inl (cI, 36, .inl v_p0_sums))] := hD
              refine lv_iinc (v := (z18.1 + 1)) (lv' := [(5, .int (z18.1 + 1)), (0, .ref q_t), (1, .ref q_p0), (2, .int z1.1), (3, .int u16), (4, .int (1 <<< (z1.1 &&& 31)))]) hx hb dX3_most_48 hl (k := 5) rfl rfl (by decide) rfl (fun ls hl => ?_)
              refine lv_goto (tgt := 22) hx hb dX3_most_51 (by decide) ?_
              obtain rfl := Option.some.inj h
              exact ih ((z18.1 + 1), (upd z18.2 ((1 <<< (z1.1 &&& 31)) + z18.1).toNatClampNeg ((z18.2 z18.1.toNatClampNeg) + u16))) _ _ _ hn_e19 hP hD hS (lv_sub hl [1, 2, 3, 4, 5, 0] rfl)
        exact L22_22 FU (0, z1.2) _ _ _ he_e19 hP hD hS (lv_sub hl [3, 4, 5, 2, 1, 0] rfl)
  exact L2_14 FU (0, v_t_balances) _ _ _ he_e2 hP hD hS (lv_sub hl [1, 2, 0] rfl)
