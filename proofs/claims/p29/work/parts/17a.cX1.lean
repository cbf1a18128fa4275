def fX1_sum (v_t_sums : Nat → Int32) (x1 : Int32) (x2 : Int32) : Option (Int32) :=
  gd (inb ((x1 * 6) + x2) 36) (some (v_t_sums ((x1 * 6) + x2).toNatClampNeg))
set_option maxHeartbeats 4000000 in
set_option maxRecDepth 100000 in
theorem c_X1_sum (l : Launch) (D : va_G) (cI cJ : ClassId) (q_t q_t_sums : Nat) (v_t_sums : Nat → Int32) (x1 : Int32) (x2 : Int32) (z : Int32) (h : fX1_sum v_t_sums x1 x2 = some z) : Met l yX1_sum wsX1_sum ({ frames := 0, cells := 0, slots := 0, locals := 0 } : Room) (va_Pc [.ref q_t, .int x1, .int x2] (preG D cI cJ [(q_t, .inr (1, [.ref q_t_sums])), (q_t_sums, .inl (cI, 36, .inl v_t_sums))])) (QG D [(q_t, .inr (1, [.ref q_t_sums])), (q_t_sums, .inl (cI, 36, .inl v_t_sums))] [(q_t, .inr (1, [.ref q_t_sums])), (q_t_sums, .inl (cI, 36, .inl v_t_sums))] (some (.int z))) 0 0 (fr [(q_t, .inr (1, [.ref q_t_sums])), (q_t_sums, .inl (cI, 36, .inl v_t_sums))]) := by
  refine Met.ofW (cc := cX1_sum) (maxL := 3) (ret := (some .int)) (by decide) rfl ?_
  intro p e s m args below meth c s₁ B hml hv
  obtain ⟨hargs, hP, hK, hN, hD0⟩ := hv
  have hx := B.exec
  have hb := B.bytes
  have hr := B.returns
  have hts := atoms_spec (ws := wsX1_sum) B.pre
  have hown : s.vm.findClass RX1 = some m.cls := findClass_of_methodNamed B.named
  have hlocks := B.notSynchronized
  have iX1 : ∀ w ∈ wsX10, w ∈ wsX1_sum := by decide +kernel
  have k9 := hts (.fieldLink RX1 9 "PressedFerns$Debts" "sums" "[I") (by decide +kernel)
  have hD := fr_D hD0
  have hS : va_S (fr [(q_t, .inr (1, [.ref q_t_sums])), (q_t_sums, .inl (cI, 36, .inl v_t_sums))]) s.heap s.heap [] := va_S.rf
  have hl := lv_entry ([.ref q_t, .int x1, .int x2]) (n := 3) (Nat.le_of_ble_eq_true rfl)
  refine W.eq (g2 := F0 m 0 ((lg_sl ([.ref q_t, .int x1, .int x2]) ++ List.replicate (3 - (lg_sl ([.ref q_t, .int x1, .int x2])).length) Slot.unset).toArray) []) (by rw [hargs, lg_entry_eq]) ?_
  generalize (lg_sl ([.ref q_t, .int x1, .int x2]) ++ List.replicate (3 - (lg_sl ([.ref q_t, .int x1, .int x2])).length) Slot.unset).toArray = ls at hl ⊢
  have hl : lv_has ls 3 [(0, .ref q_t), (1, .int x1), (2, .int x2)] := hl
  show W p l e ({ frames := 0, cells := 0, slots := 0, locals := 0 } : Room) s m args below meth c s.heap [] 0 0 (MQ below (QG D [(q_t, .inr (1, [.ref q_t_sums])), (q_t_sums, .inl (cI, 36, .inl v_t_sums))] [(q_t, .inr (1, [.ref q_t_sums])), (q_t_sums, .inl (cI, 36, .inl v_t_sums))] (some (.int z))) args s 0 0 (fr [(q_t, .inr (1, [.ref q_t_sums])), (q_t_sums, .inl (cI, 36, .inl v_t_sums))])) (F0 m 0 ls [])
  generalize hQ0 : (MQ below (QG D [(q_t, .inr (1, [.ref q_t_sums])), (q_t_sums, .inl (cI, 36, .inl v_t_sums))] [(q_t, .inr (1, [.ref q_t_sums])), (q_t_sums, .inl (cI, 36, .inl v_t_sums))] (some (.int z))) args s 0 0 (fr [(q_t, .inr (1, [.ref q_t_sums])), (q_t_sums, .inl (cI, 36, .inl v_t_sums))])) = Q0
  generalize hA0 : fr [(q_t, .inr (1, [.ref q_t_sums])), (q_t_sums, .inl (cI, 36, .inl v_t_sums))] = A0 at hD hS
  unfold fX1_sum at h
  refine lv_aload_n hx hb dX1_sum_0 rfl (lv_at hl 0 rfl) ?_
  refine va_get (own := RX1) (ci := 1) (v := .ref q_t_sums) (C := RX1) (T := TX1) (N := 1) hx hb hts iX1 hown hK hP 0 rfl rfl 0 (by decide) k9 (fun _ h9 => h9) rfl dX1_sum_1 ?_
  refine lv_iload_n hx hb dX1_sum_4 rfl (lv_at hl 1 rfl) ?_
  refine lv_bipush (v := 6) hx hb dX1_sum_5 (by decide) ?_
  refine lv_imul hx hb dX1_sum_7 ?_
  refine lv_iload_n hx hb dX1_sum_8 rfl (lv_at hl 2 rfl) ?_
  refine lv_iadd hx hb dX1_sum_9 ?_
  obtain ⟨g1, h⟩ := gd_of h
  refine va_iald hx hb hK hP 1 0 rfl rfl (inb_of g1) dX1_sum_10 ?_
  obtain rfl := Option.some.inj h
  exact rt_i hA0 hQ0 hx hb hr hlocks hP hS dX1_sum_11
def fX1_put (v_t_sums : Nat → Int32) (x1 : Int32) (x2 : Int32) (x3 : Int32) : Option ((Nat → Int32)) :=
  gd (inb ((x1 * 6) + x2) 36) (some (upd v_t_sums ((x1 * 6) + x2).toNatClampNeg x3))
set_option maxHeartbeats 4000000 in
set_option maxRecDepth 100000 in
theorem c_X1_put (l : Launch) (D : va_G) (cI cJ : ClassId) (q_t q_t_sums : Nat) (v_t_sums : Nat → Int32) (x1 : Int32) (x2 : Int32) (x3 : Int32) (z : (Nat → Int32)) (h : fX1_put v_t_sums x1 x2 x3 = some z) : Met l yX1_put wsX1_put ({ frames := 0, cells := 0, slots := 0, locals := 0 } : Room) (va_Pc [.ref q_t, .int x1, .int x2, .int x3] (preG D cI cJ [(q_t, .inr (1, [.ref q_t_sums])), (q_t_sums, .inl (cI, 36, .inl v_t_sums))])) (QG D [(q_t, .inr (1, [.ref q_t_sums])), (q_t_sums, .inl (cI, 36, .inl v_t_sums))] [(q_t, .inr (1, [.ref q_t_sums])), (q_t_sums, .inl (cI, 36, .inl z))] none) 0 0 (fr [(q_t, .inr (1, [.ref q_t_sums])), (q_t_sums, .inl (cI, 36, .inl v_t_sums))]) := by
  refine Met.ofW (cc := cX1_put) (maxL := 4) (ret := none) (by decide) rfl ?_
  intro p e s m args below meth c s₁ B hml hv
  obtain ⟨hargs, hP, hK, hN, hD0⟩ := hv
  have hx := B.exec
  have hb := B.bytes
  have hr := B.returns
  have hts := atoms_spec (ws := wsX1_put) B.pre
  have hown : s.vm.findClass RX1 = some m.cls := findClass_of_methodNamed B.named
  have hlocks := B.notSynchronized
  have iX1 : ∀ w ∈ wsX10, w ∈ wsX1_put := by decide +kernel
  have k9 := hts (.fieldLink RX1 9 "PressedFerns$Debts" "sums" "[I") (by decide +kernel)
  have hD := fr_D hD0
  have hS : va_S (fr [(q_t, .inr (1, [.ref q_t_sums])), (q_t_sums, .inl (cI, 36, .inl v_t_sums))]) s.heap s.heap [] := va_S.rf
  have hl := lv_entry ([.ref q_t, .int x1, .int x2, .int x3]) (n := 4) (Nat.le_of_ble_eq_true rfl)
  refine W.eq (g2 := F0 m 0 ((lg_sl ([.ref q_t, .int x1, .int x2, .int x3]) ++ List.replicate (4 - (lg_sl ([.ref q_t, .int x1, .int x2, .int x3])).length) Slot.unset).toArray) []) (by rw [hargs, lg_entry_eq]) ?_
  generalize (lg_sl ([.ref q_t, .int x1, .int x2, .int x3]) ++ List.replicate (4 - (lg_sl ([.ref q_t, .int x1, .int x2, .int x3])).length) Slot.unset).toArray = ls at hl ⊢
  have hl : lv_has ls 4 [(0, .ref q_t), (1, .int x1), (2, .int x2), (3, .int x3)] := hl
  show W p l e ({ frames := 0, cells := 0, slots := 0, locals := 0 } : Room) s m args below meth c s.heap [] 0 0 (MQ below (QG D [(q_t, .inr (1, [.ref q_t_sums])), (q_t_sums, .inl (cI, 36, .inl v_t_sums))] [(q_t, .inr (1, [.ref q_t_sums])), (q_t_sums, .inl (cI, 36, .inl z))] none) args s 0 0 (fr [(q_t, .inr (1, [.ref q_t_sums])), (q_t_sums, .inl (cI, 36, .inl v_t_sums))])) (F0 m 0 ls [])
  generalize hQ0 : (MQ below (QG D [(q_t, .inr (1, [.ref q_t_sums])), (q_t_sums, .inl (cI, 36, .inl v_t_sums))] [(q_t, .inr (1, [.ref q_t_sums])), (q_t_sums, .inl (cI, 36, .inl z))] none) args s 0 0 (fr [(q_t, .inr (1, [.ref q_t_sums])), (q_t_sums, .inl (cI, 36, .inl v_t_sums))])) = Q0
  generalize hA0 : fr [(q_t, .inr (1, [.ref q_t_sums])), (q_t_sums, .inl (cI, 36, .inl v_t_sums))] = A0 at hD hS
  unfold fX1_put at h
  refine lv_aload_n hx hb dX1_put_0 rfl (lv_at hl 0 rfl) ?_
  refine va_get (own := RX1) (ci := 1) (v := .ref q_t_sums) (C := RX1) (T := TX1) (N := 1) hx hb hts iX1 hown hK hP 0 rfl rfl 0 (by decide) k9 (fun _ h9 => h9) rfl dX1_put_1 ?_
  refine lv_iload_n hx hb dX1_put_4 rfl (lv_at hl 1 rfl) ?_
  refine lv_bipush (v := 6) hx hb dX1_put_5 (by decide) ?_
  refine lv_imul hx hb dX1_put_7 ?_
  refine lv_iload_n hx hb dX1_put_8 rfl (lv_at hl 2 rfl) ?_
  refine lv_iadd hx hb dX1_put_9 ?_
  refine lv_iload_n hx hb dX1_put_10 rfl (lv_at hl 3 rfl) ?_
  obtain ⟨g1, h⟩ := gd_of h
  refine va_iast hx hb hK hP hD hS 1 0 rfl rfl (inb_of g1) dX1_put_11 (fun H locs hP hD hS => ?_)
  have hP : va_P D vwCl [(q_t, .inr (1, [.ref q_t_sums])), (q_t_sums, .inl (cI, 36, .inl (upd v_t_sums ((x1 * 6) + x2).toNatClampNeg x3)))] H := hP
  have hD : va_D A0 [(q_t, .inr (1, [.ref q_t_sums])), (q_t_sums, .inl (cI, 36, .inl (upd v_t_sums ((x1 * 6) + x2).toNatClampNeg x3)))] := hD
  obtain rfl := Option.some.inj h
  exact rt_v hA0 hQ0 hx hb hr hlocks hP hS dX1_put_12
def fX1_lessen (v_t_sums : Nat → Int32) (x1 : Int32) (x2 : Int32) (x3 : Int32) : Option ((Nat → Int32)) :=
  (fX1_sum v_t_sums x1 x2).bind (fun u1 => (fX1_put v_t_sums x1 x2 (if 0 < (u1 - x3) then (u1 - x3) else 0)).bind (fun u3 => some u3))
set_option maxHeartbeats 4000000 in
set_option maxRecDepth 100000 in
theorem c_X1_lessen (l : Launch) (D : va_G) (cI cJ : ClassId) (q_t q_t_sums : Nat) (v_t_sums : Nat → Int32) (x1 : Int32) (x2 : Int32) (x3 : Int32) (z : (Nat → Int32)) (h : fX1_lessen v_t_sums x1 x2 x3 = some z) : Met l yX1_lessen wsX1_lessen ({ frames := 1, cells := 0, slots := 0, locals := 24 } : Room) (va_Pc [.ref q_t, .int x1, .int x2, .int x3] (preG D cI cJ [(q_t, .inr (1, [.ref q_t_sums])), (q_t_sums, .inl (cI, 36, .inl v_t_sums))])) (QG D [(q_t, .inr (1, [.ref q_t_sums])), (q_t_sums, .inl (cI, 36, .inl v_t_sums))] [(q_t, .inr (1, [.ref q_t_sums])), (q_t_sums, .inl (cI, 36, .inl z))] none) 0 0 (fr [(q_t, .inr (1, [.ref q_t_sums])), (q_t_sums, .inl (cI, 36, .inl v_t_sums))]) := by
  refine Met.ofW (cc := cX1_lessen) (maxL := 4) (ret := none) (by decide) rfl ?_
  intro p e s m args below meth c s₁ B hml hv
  obtain ⟨hargs, hP, hK, hN, hD0⟩ := hv
  have hx := B.exec
  have hb := B.bytes
  have hr := B.returns
  have hts := atoms_spec (ws := wsX1_lessen) B.pre
  have hown : s.vm.findClass RX1 = some m.cls := findClass_of_methodNamed B.named
  have hlocks := B.notSynchronized
  have hD := fr_D hD0
  have hS : va_S (fr [(q_t, .inr (1, [.ref q_t_sums])), (q_t_sums, .inl (cI, 36, .inl v_t_sums))]) s.heap s.heap [] := va_S.rf
  have hl := lv_entry ([.ref q_t, .int x1, .int x2, .int x3]) (n := 4) (Nat.le_of_ble_eq_true rfl)
  refine W.eq (g2 := F0 m 0 ((lg_sl ([.ref q_t, .int x1, .int x2, .int x3]) ++ List.replicate (4 - (lg_sl ([.ref q_t, .int x1, .int x2, .int x3])).length) Slot.unset).toArray) []) (by rw [hargs, lg_entry_eq]) ?_
  generalize (lg_sl ([.ref q_t, .int x1, .int x2, .int x3]) ++ List.replicate (4 - (lg_sl ([.ref q_t, .int x1, .int x2, .int x3])).length) Slot.unset).toArray = ls at hl ⊢
  have hl : lv_has ls 4 [(0, .ref q_t), (1, .int x1), (2, .int x2), (3, .int x3)] := hl
  show W p l e ({ frames := 1, cells := 0, slots := 0, locals := 24 } : Room) s m args below meth c s.heap [] 0 0 (MQ below (QG D [(q_t, .inr (1, [.ref q_t_sums])), (q_t_sums, .inl (cI, 36, .inl v_t_sums))] [(q_t, .inr (1, [.ref q_t_sums])), (q_t_sums, .inl (cI, 36, .inl z))] none) args s 0 0 (fr [(q_t, .inr (1, [.ref q_t_sums])), (q_t_sums, .inl (cI, 36, .inl v_t_sums))])) (F0 m 0 ls [])
  generalize hQ0 : (MQ below (QG D [(q_t, .inr (1, [.ref q_t_sums])), (q_t_sums, .inl (cI, 36, .inl v_t_sums))] [(q_t, .inr (1, [.ref q_t_sums])), (q_t_sums, .inl (cI, 36, .inl z))] none) args s 0 0 (fr [(q_t, .inr (1, [.ref q_t_sums])), (q_t_sums, .inl (cI, 36, .inl v_t_sums))])) = Q0
  generalize hA0 : fr [(q_t, .inr (1, [.ref q_t_sums])), (q_t_sums, .inl (cI, 36, .inl v_t_sums))] = A0 at hD hS
  unfold fX1_lessen at h
  refine lv_aload_n hx hb dX1_lessen_0 rfl (lv_at hl 0 rfl) ?_
  refine lv_iload_n hx hb dX1_lessen_1 rfl (lv_at hl 1 rfl) ?_
  refine lv_iload_n hx hb dX1_lessen_2 rfl (lv_at hl 2 rfl) ?_
  refine lv_iconst (v := 0) hx hb dX1_lessen_3 (by decide) ?_
  refine lv_aload_n hx hb dX1_lessen_4 rfl (lv_at hl 0 rfl) ?_
  refine lv_iload_n hx hb dX1_lessen_5 rfl (lv_at hl 1 rfl) ?_
  refine lv_iload_n hx hb dX1_lessen_6 rfl (lv_at hl 2 rfl) ?_
  obtain ⟨u1, g2, h⟩ := bd_of h
  refine cl_V [(q_t, .inr (1, [.ref q_t_sums])), (q_t_sums, .inl (cI, 36, .inl v_t_sums))] (As := [.int x1, .int x2]) (rest := [.int 0, .int x2, .int x1, .ref q_t]) (rv := (some (.int u1))) (c_X1_sum l D cI cJ q_t q_t_sums v_t_sums x1 x2 u1 g2) ⟨hx, hb, hml, hown, hts⟩ (cwV 2 hts gX1_lessen_X1_sum rfl rfl rfl (by decide +kernel) ⟨(Nat.le_of_ble_eq_true rfl), (Nat.le_of_ble_eq_true rfl)⟩) hK hN hP hD hS [0, 1] rfl (by decide) rfl rfl rfl (q0 := 0) (ci := 1) rfl rfl rfl rfl hl.1 rfl (Nat.le_of_ble_eq_true rfl) dX1_lessen_7 ⟨Nat.zero_le _, Nat.zero_le _⟩ (fun H locs hP hD hS => ?_)
  show W p l e ({ frames := 1, cells := 0, slots := 0, locals := 24 } : Room) s m args below meth c H locs 0 0 Q0 (F0 m 10 ls [.int u1, .int 0, .int x2, .int x1, .ref q_t])
  refine lv_iload_n hx hb dX1_lessen_10 rfl (lv_at hl 3 rfl) ?_
  refine lv_isub hx hb dX1_lessen_11 ?_
  refine va_mmax (own := RX1) hx hb (hml.trans hl.1.symm) hown (hts (.methodLink RX1 19 Lib.Math.max.name) (by decide +kernel)) (hts (.static Lib.Math.max.name) (by decide +kernel)) (hts (.initialized "java/lang/Math") (by decide +kernel)) (hts (.code Lib.Math.max.name Lib.Math.max.code 2 (some .int)) (by decide +kernel)) (Nat.le_of_ble_eq_true rfl) (Nat.le_of_ble_eq_true rfl) (Nat.zero_le _) (Nat.zero_le _) dX1_lessen_12 ?_
  obtain ⟨u3, g4, h⟩ := bd_of h
  refine cl_V [(q_t, .inr (1, [.ref q_t_sums])), (q_t_sums, .inl (cI, 36, .inl u3))] (As := [.int x1, .int x2, .int (if 0 < (u1 - x3) then (u1 - x3) else 0)]) (rest := []) (rv := none) (c_X1_put l D cI cJ q_t q_t_sums v_t_sums x1 x2 (if 0 < (u1 - x3) then (u1 - x3) else 0) u3 g4) ⟨hx, hb, hml, hown, hts⟩ (cwV 3 hts gX1_lessen_X1_put rfl rfl rfl (by decide +kernel) ⟨(Nat.le_of_ble_eq_true rfl), (Nat.le_of_ble_eq_true rfl)⟩) hK hN hP hD hS [0, 1] rfl (by decide) rfl rfl rfl (q0 := 0) (ci := 1) rfl rfl rfl rfl hl.1 rfl (Nat.le_of_ble_eq_true rfl) dX1_lessen_15 ⟨Nat.zero_le _, Nat.zero_le _⟩ (fun H locs hP hD hS => ?_)
  show W p l e ({ frames := 1, cells := 0, slots := 0, locals := 24 } : Room) s m args below meth c H locs 0 0 Q0 (F0 m 18 ls [])
  obtain rfl := Option.some.inj h
  exact rt_v hA0 hQ0 hx hb hr hlocks hP hS dX1_lessen_18
def fX1_total_X13_36  (a3 : Int32) : Option (Int32) :=
  some a3
def fX1_total_L13 (v_t_sums : Nat → Int32) (z1 : Int32 × Int32) : Option ((Int32 × Int32) ⊕ (Int32)) :=
  if 36 ≤ z1.2 then (some (Sum.inr z1.1)) else (gd (inb z1.2 36) (some (Sum.inl ((z1.1 + (v_t_sums z1.2.toNatClampNeg)), (z1.2 + 1)))))
def fX1_total (v_t_sums : Nat → Int32) : Option (Int32) :=
  (iter (fX1_total_L13 v_t_sums) FU (0, 0)).bind (fX1_total_X13_36)
set_option maxHeartbeats 4000000 in
set_option maxRecDepth 100000 in
theorem c_X1_total (l : Launch) (D : va_G) (cI cJ : ClassId) (q_t q_t_sums : Nat) (v_t_sums : Nat → Int32) (z : Int32) (h : fX1_total v_t_sums = some z) : Met l yX1_total wsX1_total ({ frames := 0, cells := 0, slots := 0, locals := 0 } : Room) (va_Pc [.ref q_t] (preG D cI cJ [(q_t, .inr (1, [.ref q_t_sums])), (q_t_sums, .inl (cI, 36, .inl v_t_sums))])) (QG D [(q_t, .inr (1, [.ref q_t_sums])), (q_t_sums, .inl (cI, 36, .inl v_t_sums))] [(q_t, .inr (1, [.ref q_t_sums])), (q_t_sums, .inl (cI, 36, .inl v_t_sums))] (some (.int z))) 0 0 (fr [(q_t, .inr (1, [.ref q_t_sums])), (q_t_sums, .inl (cI, 36, .inl v_t_sums))]) := by
  refine Met.ofW (cc := cX1_total) (maxL := 6) (ret := (some .int)) (by decide) rfl ?_
  intro p e s m args below meth c s₁ B hml hv
  obtain ⟨hargs, hP, hK, hN, hD0⟩ := hv
  have hx := B.exec
  have hb := B.bytes
  have hr := B.returns
  have hts := atoms_spec (ws := wsX1_total) B.pre
  have hown : s.vm.findClass RX1 = some m.cls := findClass_of_methodNamed B.named
  have hlocks := B.notSynchronized
  have iX1 : ∀ w ∈ wsX10, w ∈ wsX1_total := by decide +kernel
  have k9 := hts (.fieldLink RX1 9 "PressedFerns$Debts" "sums" "[I") (by decide +kernel)
  have hD := fr_D hD0
  have hS : va_S (fr [(q_t, .inr (1, [.ref q_t_sums])), (q_t_sums, .inl (cI, 36, .inl v_t_sums))]) s.heap s.heap [] := va_S.rf
  have hl := lv_entry ([.ref q_t]) (n := 6) (Nat.le_of_ble_eq_true rfl)
  refine W.eq (g2 := F0 m 0 ((lg_sl ([.ref q_t]) ++ List.replicate (6 - (lg_sl ([.ref q_t])).length) Slot.unset).toArray) []) (by rw [hargs, lg_entry_eq]) ?_
  generalize (lg_sl ([.ref q_t]) ++ List.replicate (6 - (lg_sl ([.ref q_t])).length) Slot.unset).toArray = ls at hl ⊢
  have hl : lv_has ls 6 [(0, .ref q_t)] := hl
  show W p l e ({ frames := 0, cells := 0, slots := 0, locals := 0 } : Room) s m args below meth c s.heap [] 0 0 (MQ below (QG D [(q_t, .inr (1, [.ref q_t_sums])), (q_t_sums, .inl (cI, 36, .inl v_t_sums))] [(q_t, .inr (1, [.ref q_t_sums])), (q_t_sums, .inl (cI, 36, .inl v_t_sums))] (some (.int z))) args s 0 0 (fr [(q_t, .inr (1, [.ref q_t_sums])), (q_t_sums, .inl (cI, 36, .inl v_t_sums))])) (F0 m 0 ls [])
  generalize hQ0 : (MQ below (QG D [(q_t, .inr (1, [.ref q_t_sums])), (q_t_sums, .inl (cI, 36, .inl v_t_sums))] [(q_t, .inr (1, [.ref q_t_sums])), (q_t_sums, .inl (cI, 36, .inl v_t_sums))] (some (.int z))) args s 0 0 (fr [(q_t, .inr (1, [.ref q_t_sums])), (q_t_sums, .inl (cI, 36, .inl v_t_sums))])) = Q0
  generalize hA0 : fr [(q_t, .inr (1, [.ref q_t_sums])), (q_t_sums, .inl (cI, 36, .inl v_t_sums))] = A0 at hD hS
  unfold fX1_total at h
  refine lv_iconst (v := 0) hx hb dX1_total_0 (by decide) ?_
  refine lv_istore_n (lv' := [(1, .int 0), (0, .ref q_t)]) hx hb dX1_total_1 rfl hl (by decide) rfl (fun ls hl => ?_)
  refine lv_aload_n hx hb dX1_total_2 rfl (lv_at hl 1 rfl) ?_
  refine va_get (own := RX1) (ci := 1) (v := .ref q_t_sums) (C := RX1) (T := TX1) (N := 1) hx hb hts iX1 hown hK hP 0 rfl rfl 0 (by decide) k9 (fun _ h9 => h9) rfl dX1_total_3 ?_
  refine lv_astore_n (lv' := [(2, .ref q_t_sums), (1, .int 0), (0, .ref q_t)]) hx hb dX1_total_6 rfl hl (by decide) rfl (fun ls hl => ?_)
  refine lv_aload_n hx hb dX1_total_7 rfl (lv_at hl 0 rfl) ?_
  refine va_alen (v := 36) hx hb hK hP 1 0 rfl rfl rfl dX1_total_8 ?_
  refine lv_istore_n (lv' := [(3, .int 36), (2, .ref q_t_sums), (1, .int 0), (0, .ref q_t)]) hx hb dX1_total_9 rfl hl (by decide) rfl (fun ls hl => ?_)
  refine lv_iconst (v := 0) hx hb dX1_total_10 (by decide) ?_
  refine lv_istore (lv' := [(4, .int 0), (3, .int 36), (2, .ref q_t_sums), (1, .int 0), (0, .ref q_t)]) hx hb dX1_total_11 hl (by decide) rfl (fun ls hl => ?_)
  obtain ⟨e2, he_e2, hc_e2⟩ := bd_of h
  have X36_4 : ∀ (a3 : Int32) (H : Heap) (locs : List Loc) (ls : Array Slot), fX1_total_X13_36 a3 = some z → va_P D vwCl [(q_t, .inr (1, [.ref q_t_sums])), (q_t_sums, .inl (cI, 36, .inl v_t_sums))] H → va_D A0 [(q_t, .inr (1, [.ref q_t_sums])), (q_t_sums, .inl (cI, 36, .inl v_t_sums))] → va_S A0 s.heap H locs → lv_has ls 6 [(1, .int a3)] → W p l e ({ frames := 0, cells := 0, slots := 0, locals := 0 } : Room) s m args below meth c H locs 0 0 Q0 (F0 m 36 ls []) := by
    intro a3 H locs ls h hP hD hS hl
    unfold fX1_total_X13_36 at h
    refine lv_iload_n hx hb dX1_total_36 rfl (lv_at hl 0 rfl) ?_
    obtain rfl := Option.some.inj h
    exact rt_i hA0 hQ0 hx hb hr hlocks hP hS dX1_total_37
  have L13_5 : ∀ (n : Nat) (z1 : Int32 × Int32) (H : Heap) (locs : List Loc) (ls : Array Slot), iter (fX1_total_L13 v_t_sums) n z1 = some e2 → va_P D vwCl [(q_t, .inr (1, [.ref q_t_sums])), (q_t_sums, .inl (cI, 36, .inl v_t_sums))] H → va_D A0 [(q_t, .inr (1, [.ref q_t_sums])), (q_t_sums, .inl (cI, 36, .inl v_t_sums))] → va_S A0 s.heap H locs → lv_has ls 6 [(1, .int z1.1), (2, .ref q_t_sums), (3, .int 36), (4, .int z1.2)] → W p l e ({ frames := 0, cells := 0, slots := 0, locals := 0 } : Room) s m args below meth c H locs 0 0 Q0 (F0 m 13 ls []) := by
    intro n
    induction n with
    | zero => exact fun _ _ _ _ h => (iter_z h).elim
    | succ n ih =>
      intro z1 H locs ls h hP hD hS hl
      obtain ⟨r_e2, h, hn_e2⟩ := iter_s h
      unfold fX1_total_L13 at h
      refine lv_iload hx hb dX1_total_13 (lv_at hl 3 rfl) ?_
      refine lv_iload_n hx hb dX1_total_15 rfl (lv_at hl 2 rfl) ?_
      refine lv_icmp_ge (tgt := 36) hx hb dX1_total_16 (by decide) (fun c6 => ?_) (fun c6 => ?_)
      · skip
        have h := (if_pos c6).symm.trans h
        obtain rfl := Option.some.inj h
        obtain rfl := Option.some.inj hn_e2
        exact X36_4 z1.1 _ _ _ hc_e2 hP hD hS (lv_sub hl [0] rfl)
      · skip
        have h := (if_neg c6).symm.trans h
        refine lv_aload_n hx hb dX1_total_19 rfl (lv_at hl 1 rfl) ?_
        refine lv_iload hx hb dX1_total_20 (lv_at hl 3 rfl) ?_
        obtain ⟨g7, h⟩ := gd_of h
        refine va_iald hx hb hK hP 1 0 rfl rfl (inb_of g7) dX1_total_22 ?_
        refine lv_istore (lv' := [(5, .int (v_t_sums z1.2.toNatClampNeg)), (1, .int z1.1), (2, .ref q_t_sums), (3, .int 36), (4, .int z1.2)]) hx hb dX1_total_23 hl (by decide) rfl (fun ls hl => ?_)
        refine lv_iload_n hx hb dX1_total_25 rfl (lv_at hl 1 rfl) ?_
        refine lv_iload hx hb dX1_total_26 (lv_at hl 0 rfl) ?_
        refine lv_iadd hx hb dX1_total_28 ?_
        refine lv_istore_n (lv' := [(1, .int (z1.1 + (v_t_sums z1.2.toNatClampNeg))), (5, .int (v_t_sums z1.2.toNatClampNeg)), (2, .ref q_t_sums), (3, .int 36), (4, .int z1.2)]) hx hb dX1_total_29 rfl hl (by decide) rfl (fun ls hl => ?_)
        refine lv_iinc (v := (z1.2 + 1)) (lv' := [(4, .int (z1.2 + 1)), (1, .int (z1.1 + (v_t_sums z1.2.toNatClampNeg))), (5, .int (v_t_sums z1.2.toNatClampNeg)), (2, .ref q_t_sums), (3, .int 36)]) hx hb dX1_total_30 hl (k := 4) rfl rfl (by decide) rfl (fun ls hl => ?_)
        refine lv_goto (tgt := 13) hx hb dX1_total_33 (by decide) ?_
        obtain rfl := Option.some.inj h
        exact ih ((z1.1 + (v_t_sums z1.2.toNatClampNeg)), (z1.2 + 1)) _ _ _ hn_e2 hP hD hS (lv_sub hl [1, 3, 4, 0] rfl)
  exact L13_5 FU (0, 0) _ _ _ he_e2 hP hD hS (lv_sub hl [3, 2, 1, 0] rfl)
def fX1_copyFrom (v_t_sums : Nat → Int32) (v_p0_sums : Nat → Int32) : Option ((Nat → Int32)) :=
  some (va_cpy v_p0_sums v_t_sums (0 : Int32).toNatClampNeg (0 : Int32).toNatClampNeg (36 : Int32).toNatClampNeg)
set_option maxHeartbeats 4000000 in
set_option maxRecDepth 100000 in
theorem c_X1_copyFrom (l : Launch) (D : va_G) (cI cJ : ClassId) (q_t q_t_sums q_p0 q_p0_sums : Nat) (v_t_sums : Nat → Int32) (v_p0_sums : Nat → Int32) (z : (Nat → Int32)) (h : fX1_copyFrom v_t_sums v_p0_sums = some z) : Met l yX1_copyFrom wsX1_copyFrom ({ frames := 1, cells := 0, slots := 0, locals := 60 } : Room) (va_Pc [.ref q_t, .ref q_p0] (preG D cI cJ [(q_t, .inr (1, [.ref q_t_sums])), (q_t_sums, .inl (cI, 36, .inl v_t_sums)), (q_p0, .inr (1, [.ref q_p0_sums])), (q_p0_sums, .inl (cI, 36, .inl v_p0_sums))])) (QG D [(q_t, .inr (1, [.ref q_t_sums])), (q_t_sums, .inl (cI, 36, .inl v_t_sums)), (q_p0, .inr (1, [.ref q_p0_sums])), (q_p0_sums, .inl (cI, 36, .inl v_p0_sums))] [(q_t, .inr (1, [.ref q_t_sums])), (q_t_sums, .inl (cI, 36, .inl z)), (q_p0, .inr (1, [.ref q_p0_sums])), (q_p0_sums, .inl (cI, 36, .inl v_p0_sums))] none) 0 0 (fr [(q_t, .inr (1, [.ref q_t_sums])), (q_t_sums, .inl (cI, 36, .inl v_t_sums)), (q_p0, .inr (1, [.ref q_p0_sums])), (q_p0_sums, .inl (cI, 36, .inl v_p0_sums))]) := by
  refine Met.ofW (cc := cX1_copyFrom) (maxL := 2) (ret := none) (by decide) rfl ?_
  intro p e s m args below meth c s₁ B hml hv
  obtain ⟨hargs, hP, hK, hN, hD0⟩ := hv
  have hx := B.exec
  have hb := B.bytes
  have hr := B.returns
  have hts := atoms_spec (ws := wsX1_copyFrom) B.pre
  have hown : s.vm.findClass RX1 = some m.cls := findClass_of_methodNamed B.named
  have hlocks := B.notSynchronized
  have iX1 : ∀ w ∈ wsX10, w ∈ wsX1_copyFrom := by decide +kernel
  have k9 := hts (.fieldLink RX1 9 "PressedFerns$Debts" "sums" "[I") (by decide +kernel)
  have hD := fr_D hD0
  have hS : va_S (fr [(q_t, .inr (1, [.ref q_t_sums])), (q_t_sums, .inl (cI, 36, .inl v_t_sums)), (q_p0, .inr (1, [.ref q_p0_sums])), (q_p0_sums, .inl (cI, 36, .inl v_p0_sums))]) s.heap s.heap [] := va_S.rf
  have hl := lv_entry ([.ref q_t, .ref q_p0]) (n := 2) (Nat.le_of_ble_eq_true rfl)
  refine W.eq (g2 := F0 m 0 ((lg_sl ([.ref q_t, .ref q_p0]) ++ List.replicate (2 - (lg_sl ([.ref q_t, .ref q_p0])).length) Slot.unset).toArray) []) (by rw [hargs, lg_entry_eq]) ?_
  generalize (lg_sl ([.ref q_t, .ref q_p0]) ++ List.replicate (2 - (lg_sl ([.ref q_t, .ref q_p0])).length) Slot.unset).toArray = ls at hl ⊢
  have hl : lv_has ls 2 [(0, .ref q_t), (1, .ref q_p0)] := hl
  show W p l e ({ frames := 1, cells := 0, slots := 0, locals := 60 } : Room) s m args below meth c s.heap [] 0 0 (MQ below (QG D [(q_t, .inr (1, [.ref q_t_sums])), (q_t_sums, .inl (cI, 36, .inl v_t_sums)), (q_p0, .inr (1, [.ref q_p0_sums])), (q_p0_sums, .inl (cI, 36, .inl v_p0_sums))] [(q_t, .inr (1, [.ref q_t_sums])), (q_t_sums, .inl (cI, 36, .inl z)), (q_p0, .inr (1, [.ref q_p0_sums])), (q_p0_sums, .inl (cI, 36, .inl v_p0_sums))] none) args s 0 0 (fr [(q_t, .inr (1, [.ref q_t_sums])), (q_t_sums, .inl (cI, 36, .inl v_t_sums)), (q_p0, .inr (1, [.ref q_p0_sums])), (q_p0_sums, .inl (cI, 36, .inl v_p0_sums))])) (F0 m 0 ls [])
  generalize hQ0 : (MQ below (QG D [(q_t, .inr (1, [.ref q_t_sums])), (q_t_sums, .inl (cI, 36, .inl v_t_sums)), (q_p0, .inr (1, [.ref q_p0_sums])), (q_p0_sums, .inl (cI, 36, .inl v_p0_sums))] [(q_t, .inr (1, [.ref q_t_sums])), (q_t_sums, .inl (cI, 36, .inl z)), (q_p0, .inr (1, [.ref q_p0_sums])), (q_p0_sums, .inl (cI, 36, .inl v_p0_sums))] none) args s 0 0 (fr [(q_t, .inr (1, [.ref q_t_sums])), (q_t_sums, .inl (cI, 36, .inl v_t_sums)), (q_p0, .inr (1, [.ref q_p0_sums])), (q_p0_sums, .inl (cI, 36, .inl v_p0_sums))])) = Q0
  generalize hA0 : fr [(q_t, .inr (1, [.ref q_t_sums])), (q_t_sums, .inl (cI, 36, .inl v_t_sums)), (q_p0, .inr (1, [.ref q_p0_sums])), (q_p0_sums, .inl (cI, 36, .inl v_p0_sums))] = A0 at hD hS
  unfold fX1_copyFrom at h
  refine lv_aload_n hx hb dX1_copyFrom_0 rfl (lv_at hl 1 rfl) ?_
  refine va_get (own := RX1) (ci := 1) (v := .ref q_p0_sums) (C := RX1) (T := TX1) (N := 1) hx hb hts iX1 hown hK hP 2 rfl rfl 0 (by decide) k9 (fun _ h9 => h9) rfl dX1_copyFrom_1 ?_
  refine lv_iconst (v := 0) hx hb dX1_copyFrom_4 (by decide) ?_
  refine lv_aload_n hx hb dX1_copyFrom_5 rfl (lv_at hl 0 rfl) ?_
  refine va_get (own := RX1) (ci := 1) (v := .ref q_t_sums) (C := RX1) (T := TX1) (N := 1) hx hb hts iX1 hown hK hP 0 rfl rfl 0 (by decide) k9 (fun _ h9 => h9) rfl dX1_copyFrom_6 ?_
  refine lv_iconst (v := 0) hx hb dX1_copyFrom_9 (by decide) ?_
  refine lv_bipush (v := 36) hx hb dX1_copyFrom_10 (by decide) ?_
  refine va_copyi (own := RX1) hx hb (hml.trans hl.1.symm) hown (hts (.methodLink RX1 28 arraycopyName) (by decide +kernel)) (hts (.native arraycopyName) (by decide +kernel)) (hts (.static arraycopyName) (by decide +kernel)) (hts (.initialized "java/lang/System") (by decide +kernel)) hK hP hD hS 3 1 0 0 (ty := .int) rfl rfl rfl rfl rfl (by decide) (by decide) (by decide) (by decide) (by decide) (fun _ _ => rfl) (Nat.le_of_ble_eq_true rfl) (Nat.le_of_ble_eq_true (by decide +kernel)) dX1_copyFrom_12 (fun H locs hP hD hS => ?_)
  have hP : va_P D vwCl [(q_t, .inr (1, [.ref q_t_sums])), (q_t_sums, .inl (cI, 36, .inl (va_cpy v_p0_sums v_t_sums (0 : Int32).toNatClampNeg (0 : Int32).toNatClampNeg (36 : Int32).toNatClampNeg))), (q_p0, .inr (1, [.ref q_p0_sums])), (q_p0_sums, .inl (cI, 36, .inl v_p0_sums))] H := hP
  have hD : va_D A0 [(q_t, .inr (1, [.ref q_t_sums])), (q_t_sums, .inl (cI, 36, .inl (va_cpy v_p0_sums v_t_sums (0 : Int32).toNatClampNeg (0 : Int32).toNatClampNeg (36 : Int32).toNatClampNeg))), (q_p0, .inr (1, [.ref q_p0_sums])), (q_p0_sums, .inl (cI, 36, .inl v_p0_sums))] := hD
  obtain rfl := Option.some.inj h
  exact rt_v hA0 hQ0 hx hb hr hlocks hP hS dX1_copyFrom_15
