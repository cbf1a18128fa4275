def fL_cell (Ls : Nat) (xs : Nat → Int32) (x1 : Int32) : Option (Int32) :=
  if (Int32.ofNat Ls) ≤ x1 then (some (747796405 * (x1 + 1))) else (gd (inb x1 Ls) (some (xs x1.toNatClampNeg)))
set_option maxHeartbeats 4000000 in
set_option maxRecDepth 100000 in
theorem c_L_cell (l : Launch) (D : va_G) (b : Nat) (Ls : Nat) (xs : Nat → Int32) (x1 : Int32) (z : Int32) (h : fL_cell Ls xs x1 = some z) : Met l yL_cell wsL_cell ({ frames := 0, cells := 0, slots := 0, locals := 0 } : Room) (va_Pc [.ref b, .int x1] (preX b Ls xs)) (QG D [] [] (some (.int z))) 0 0 (fr []) := by
  refine Met.ofW (cc := cL_cell) (maxL := 2) (ret := (some .int)) (by decide) rfl ?_
  intro p e s m args below meth c s₁ B hml hv
  obtain ⟨hargs, hX, hbl⟩ := hv
  have hx := B.exec
  have hb := B.bytes
  have hr := B.returns
  have hts := atoms_spec (ws := wsL_cell) B.pre
  have hown : s.vm.findClass RL = some m.cls := findClass_of_methodNamed B.named
  have hlocks := B.notSynchronized
  have hS : va_S (fr []) s.heap s.heap [] := va_S.rf
  have hP : va_P D vwCl [] s.heap := fun k q h => by simp at h
  have hD : va_D (fr []) [] := ⟨fun i j p q h => by simp at h, fun k q h => by simp at h⟩
  have hbA : ¬ fr [] b := fun ⟨k, e, h⟩ => by simp at h
  have hl := lv_entry ([.ref b, .int x1]) (n := 2) (Nat.le_of_ble_eq_true rfl)
  refine W.eq (g2 := F0 m 0 ((lg_sl ([.ref b, .int x1]) ++ List.replicate (2 - (lg_sl ([.ref b, .int x1])).length) Slot.unset).toArray) []) (by rw [hargs, lg_entry_eq]) ?_
  generalize (lg_sl ([.ref b, .int x1]) ++ List.replicate (2 - (lg_sl ([.ref b, .int x1])).length) Slot.unset).toArray = ls at hl ⊢
  have hl : lv_has ls 2 [(0, .ref b), (1, .int x1)] := hl
  show W p l e ({ frames := 0, cells := 0, slots := 0, locals := 0 } : Room) s m args below meth c s.heap [] 0 0 (MQ below (QG D [] [] (some (.int z))) args s 0 0 (fr [])) (F0 m 0 ls [])
  generalize hQ0 : (MQ below (QG D [] [] (some (.int z))) args s 0 0 (fr [])) = Q0
  generalize hA0 : fr [] = A0 at hD hS hbA
  unfold fL_cell at h
  refine lv_iload_n hx hb dL_cell_0 rfl (lv_at hl 1 rfl) ?_
  refine lv_aload_n hx hb dL_cell_1 rfl (lv_at hl 0 rfl) ?_
  refine va_slen hx hb hX hbl hbA hS dL_cell_2 ?_
  refine lv_icmp_ge (tgt := 12) hx hb dL_cell_3 (by decide) (fun c1 => ?_) (fun c1 => ?_)
  · skip
    have h := (if_pos c1).symm.trans h
    refine lv_ldc (own := RL) (v := 747796405) hx hb hown (hts (.constant RL 7 (747796405)) (by decide +kernel)) dL_cell_12 ?_
    refine lv_iload_n hx hb dL_cell_14 rfl (lv_at hl 1 rfl) ?_
    refine lv_iconst (v := 1) hx hb dL_cell_15 (by decide) ?_
    refine lv_iadd hx hb dL_cell_16 ?_
    refine lv_imul hx hb dL_cell_17 ?_
    obtain rfl := Option.some.inj h
    exact rt_i hA0 hQ0 hx hb hr hlocks hP hS dL_cell_18
  · skip
    have h := (if_neg c1).symm.trans h
    refine lv_aload_n hx hb dL_cell_6 rfl (lv_at hl 0 rfl) ?_
    refine lv_iload_n hx hb dL_cell_7 rfl (lv_at hl 1 rfl) ?_
    obtain ⟨g2, h⟩ := gd_of h
    refine va_sld hx hb hX hbl hbA hS (inb_of g2) dL_cell_8 ?_
    refine lv_goto (tgt := 18) hx hb dL_cell_9 (by decide) ?_
    obtain rfl := Option.some.inj h
    exact rt_i hA0 hQ0 hx hb hr hlocks hP hS dL_cell_18
def fL_at (x0 : Int32) (x1 : Int32) : Option (Int32) :=
  gd (nzi x1) (some ((((x0 : Int32).toUInt32 >>> ((1 : Int32).toUInt32 &&& Int32.toUInt32 31)).toInt32) - (((x0 : Int32).toUInt32 >>> ((1 : Int32).toUInt32 &&& Int32.toUInt32 31)).toInt32) / x1 * x1))
set_option maxHeartbeats 4000000 in
set_option maxRecDepth 100000 in
theorem c_L_at (l : Launch) (D : va_G) (cI cJ : ClassId) (x0 : Int32) (x1 : Int32) (z : Int32) (h : fL_at x0 x1 = some z) : Met l yL_at wsL_at ({ frames := 0, cells := 0, slots := 0, locals := 0 } : Room) (va_Pc [.int x0, .int x1] (preG D cI cJ [])) (QG D [] [] (some (.int z))) 0 0 (fr []) := by
  refine Met.ofW (cc := cL_at) (maxL := 2) (ret := (some .int)) (by decide) rfl ?_
  intro p e s m args below meth c s₁ B hml hv
  obtain ⟨hargs, hP, hK, hN, hD0⟩ := hv
  have hx := B.exec
  have hb := B.bytes
  have hr := B.returns
  have hts := atoms_spec (ws := wsL_at) B.pre
  have hown : s.vm.findClass RL = some m.cls := findClass_of_methodNamed B.named
  have hlocks := B.notSynchronized
  have hD := fr_D hD0
  have hS : va_S (fr []) s.heap s.heap [] := va_S.rf
  have hl := lv_entry ([.int x0, .int x1]) (n := 2) (Nat.le_of_ble_eq_true rfl)
  refine W.eq (g2 := F0 m 0 ((lg_sl ([.int x0, .int x1]) ++ List.replicate (2 - (lg_sl ([.int x0, .int x1])).length) Slot.unset).toArray) []) (by rw [hargs, lg_entry_eq]) ?_
  generalize (lg_sl ([.int x0, .int x1]) ++ List.replicate (2 - (lg_sl ([.int x0, .int x1])).length) Slot.unset).toArray = ls at hl ⊢
  have hl : lv_has ls 2 [(0, .int x0), (1, .int x1)] := hl
  show W p l e ({ frames := 0, cells := 0, slots := 0, locals := 0 } : Room) s m args below meth c s.heap [] 0 0 (MQ below (QG D [] [] (some (.int z))) args s 0 0 (fr [])) (F0 m 0 ls [])
  generalize hQ0 : (MQ below (QG D [] [] (some (.int z))) args s 0 0 (fr [])) = Q0
  generalize hA0 : fr [] = A0 at hD hS
  unfold fL_at at h
  refine lv_iload_n hx hb dL_at_0 rfl (lv_at hl 0 rfl) ?_
  refine lv_iconst (v := 1) hx hb dL_at_1 (by decide) ?_
  refine lv_iushr hx hb dL_at_2 rfl ?_
  refine lv_iload_n hx hb dL_at_3 rfl (lv_at hl 1 rfl) ?_
  obtain ⟨g1, h⟩ := gd_of h
  refine lv_irem hx hb dL_at_4 (nzi_of g1) ?_
  obtain rfl := Option.some.inj h
  exact rt_i hA0 hQ0 hx hb hr hlocks hP hS dL_at_5
def fL_bookText_X16_185  (a6 : Int32 × (Nat → Int32) × (Nat → Int32)) : Option (Int32 × (Nat → Int32) × (Nat → Int32)) :=
  some (a6.1, a6.2.1, a6.2.2)
def fL_bookText_J161 (n_p4 : Nat) (z4 : Int32 × Int32 × (Nat → Int32) × (Nat → Int32)) (u10 : Int32) (a17 : Int32) (a20 : Int32 × (Nat → Int32)) : Option ((Int32 × Int32 × (Nat → Int32) × (Nat → Int32)) ⊕ (Int32 × (Nat → Int32) × (Nat → Int32))) :=
  gd (inb a20.1 n_p4) (some (Sum.inl ((a20.1 + 1), (z4.2.1 + 1), (upd (upd z4.2.2.1 (1 + z4.2.1).toNatClampNeg (if 4 ≤ u10 then (u10 - 3) else 0 : Int32)) (11 + z4.2.1).toNatClampNeg a17), (upd a20.2 a20.1.toNatClampNeg (48 + ((upd (upd z4.2.2.1 (1 + z4.2.1).toNatClampNeg (if 4 ≤ u10 then (u10 - 3) else 0 : Int32)) (11 + z4.2.1).toNatClampNeg a17) (11 + z4.2.1).toNatClampNeg))))))
def fL_bookText_J160 (n_p4 : Nat) (z4 : Int32 × Int32 × (Nat → Int32) × (Nat → Int32)) (u10 : Int32) (a17 : Int32) (a24 : Int32) : Option ((Int32 × Int32 × (Nat → Int32) × (Nat → Int32)) ⊕ (Int32 × (Nat → Int32) × (Nat → Int32))) :=
  gd (inb z4.1 n_p4) (fL_bookText_J161 n_p4 z4 u10 a17 ((z4.1 + 1), (upd z4.2.2.2 z4.1.toNatClampNeg a24)))
def fL_bookText_J96 (n_p3 : Nat) (n_p4 : Nat) (z4 : Int32 × Int32 × (Nat → Int32) × (Nat → Int32)) (u10 : Int32) (a17 : Int32) : Option ((Int32 × Int32 × (Nat → Int32) × (Nat → Int32)) ⊕ (Int32 × (Nat → Int32) × (Nat → Int32))) :=
  gd (inb (11 + z4.2.1) n_p3) (if ((upd (upd z4.2.2.1 (1 + z4.2.1).toNatClampNeg (if 4 ≤ u10 then (u10 - 3) else 0 : Int32)) (11 + z4.2.1).toNatClampNeg a17) (1 + z4.2.1).toNatClampNeg) ≤ 0 then (fL_bookText_J161 n_p4 z4 u10 a17 (z4.1, z4.2.2.2)) else (if ((upd (upd z4.2.2.1 (1 + z4.2.1).toNatClampNeg (if 4 ≤ u10 then (u10 - 3) else 0 : Int32)) (11 + z4.2.1).toNatClampNeg a17) (1 + z4.2.1).toNatClampNeg) = 1 then (fL_bookText_J160 n_p4 z4 u10 a17 98) else (if ((upd (upd z4.2.2.1 (1 + z4.2.1).toNatClampNeg (if 4 ≤ u10 then (u10 - 3) else 0 : Int32)) (11 + z4.2.1).toNatClampNeg a17) (1 + z4.2.1).toNatClampNeg) = 2 then (fL_bookText_J160 n_p4 z4 u10 a17 109) else (if ((upd (upd z4.2.2.1 (1 + z4.2.1).toNatClampNeg (if 4 ≤ u10 then (u10 - 3) else 0 : Int32)) (11 + z4.2.1).toNatClampNeg a17) (1 + z4.2.1).toNatClampNeg) = 3 then (fL_bookText_J160 n_p4 z4 u10 a17 112) else (fL_bookText_J160 n_p4 z4 u10 a17 119)))))
def fL_bookText_L16 (n_p3 : Nat) (n_p4 : Nat) (x0 : Int32) (x1 : Int32) (z4 : Int32 × Int32 × (Nat → Int32) × (Nat → Int32)) : Option ((Int32 × Int32 × (Nat → Int32) × (Nat → Int32)) ⊕ (Int32 × (Nat → Int32) × (Nat → Int32))) :=
  if (z4.2.2.1 (0 : Int32).toNatClampNeg) ≤ z4.2.1 then (some (Sum.inr (z4.1, z4.2.2.1, z4.2.2.2))) else ((fL_at (x0 >>> ((2 + (2 * z4.2.1)) &&& 31)) 8).bind (fun u10 => gd (inb (1 + z4.2.1) n_p3) ((fL_at (x1 >>> ((2 * z4.2.1) &&& 31)) 4).bind (fun u15 => if u15 = 0 then (fL_bookText_J96 n_p3 n_p4 z4 u10 9) else ((fL_at (x1 >>> ((2 + (2 * z4.2.1)) &&& 31)) 10).bind (fun u31 => fL_bookText_J96 n_p3 n_p4 z4 u10 u31))))))
def fL_bookText (n_p3 : Nat) (n_p4 : Nat) (v_p3 : Nat → Int32) (v_p4 : Nat → Int32) (x0 : Int32) (x1 : Int32) (x2 : Int32) : Option (Int32 × (Nat → Int32) × (Nat → Int32)) :=
  (fL_at x0 x2).bind (fun u1 => gd (inb 0 n_p3) ((iter (fL_bookText_L16 n_p3 n_p4 x0 x1) FU (0, 0, (upd v_p3 (0 : Int32).toNatClampNeg (1 + u1)), v_p4)).bind (fL_bookText_X16_185)))
set_option maxHeartbeats 4000000 in
set_option maxRecDepth 100000 in
theorem c_L_bookText (l : Launch) (D : va_G) (cI cJ : ClassId) (q_p3 q_p4 : Nat) (n_p3 : Nat) (n_p4 : Nat) (v_p3 : Nat → Int32) (v_p4 : Nat → Int32) (x0 : Int32) (x1 : Int32) (x2 : Int32) (z : Int32 × (Nat → Int32) × (Nat → Int32)) (h : fL_bookText n_p3 n_p4 v_p3 v_p4 x0 x1 x2 = some z) : Met l yL_bookText wsL_bookText ({ frames := 1, cells := 0, slots := 0, locals := 21 } : Room) (va_Pc [.int x0, .int x1, .int x2, .ref q_p3, .ref q_p4] (preG D cI cJ [(q_p3, .inl (cI, n_p3, .inl v_p3)), (q_p4, .inl (cI, n_p4, .inl v_p4))])) (QG D [(q_p3, .inl (cI, n_p3, .inl v_p3)), (q_p4, .inl (cI, n_p4, .inl v_p4))] [(q_p3, .inl (cI, n_p3, .inl z.2.1)), (q_p4, .inl (cI, n_p4, .inl z.2.2))] (some (.int z.1))) 0 0 (fr [(q_p3, .inl (cI, n_p3, .inl v_p3)), (q_p4, .inl (cI, n_p4, .inl v_p4))]) := by
  refine Met.ofW (cc := cL_bookText) (maxL := 8) (ret := (some .int)) (by decide) rfl ?_
  intro p e s m args below meth c s₁ B hml hv
  obtain ⟨hargs, hP, hK, hN, hD0⟩ := hv
  have hx := B.exec
  have hb := B.bytes
  have hr := B.returns
  have hts := atoms_spec (ws := wsL_bookText) B.pre
  have hown : s.vm.findClass RL = some m.cls := findClass_of_methodNamed B.named
  have hlocks := B.notSynchronized
  have hD := fr_D hD0
  have hS : va_S (fr [(q_p3, .inl (cI, n_p3, .inl v_p3)), (q_p4, .inl (cI, n_p4, .inl v_p4))]) s.heap s.heap [] := va_S.rf
  have hl := lv_entry ([.int x0, .int x1, .int x2, .ref q_p3, .ref q_p4]) (n := 8) (Nat.le_of_ble_eq_true rfl)
  refine W.eq (g2 := F0 m 0 ((lg_sl ([.int x0, .int x1, .int x2, .ref q_p3, .ref q_p4]) ++ List.replicate (8 - (lg_sl ([.int x0, .int x1, .int x2, .ref q_p3, .ref q_p4])).length) Slot.unset).toArray) []) (by rw [hargs, lg_entry_eq]) ?_
  generalize (lg_sl ([.int x0, .int x1, .int x2, .ref q_p3, .ref q_p4]) ++ List.replicate (8 - (lg_sl ([.int x0, .int x1, .int x2, .ref q_p3, .ref q_p4])).length) Slot.unset).toArray = ls at hl ⊢
  have hl : lv_has ls 8 [(0, .int x0), (1, .int x1), (2, .int x2), (3, .ref q_p3), (4, .ref q_p4)] := hl
  show W p l e ({ frames := 1, cells := 0, slots := 0, locals := 21 } : Room) s m args below meth c s.heap [] 0 0 (MQ below (QG D [(q_p3, .inl (cI, n_p3, .inl v_p3)), (q_p4, .inl (cI, n_p4, .inl v_p4))] [(q_p3, .inl (cI, n_p3, .inl z.2.1)), (q_p4, .inl (cI, n_p4, .inl z.2.2))] (some (.int z.1))) args s 0 0 (fr [(q_p3, .inl (cI, n_p3, .inl v_p3)), (q_p4, .inl (cI, n_p4, .inl v_p4))])) (F0 m 0 ls [])
  generalize hQ0 : (MQ below (QG D [(q_p3, .inl (cI, n_p3, .inl v_p3)), (q_p4, .inl (cI, n_p4, .inl v_p4))] [(q_p3, .inl (cI, n_p3, .inl z.2.1)), (q_p4, .inl (cI, n_p4, .inl z.2.2))] (some (.int z.1))) args s 0 0 (fr [(q_p3, .inl (cI, n_p3, .inl v_p3)), (q_p4, .inl (cI, n_p4, .inl v_p4))])) = Q0
  generalize hA0 : fr [(q_p3, .inl (cI, n_p3, .inl v_p3)), (q_p4, .inl (cI, n_p4, .inl v_p4))] = A0 at hD hS
  unfold fL_bookText at h
  refine lv_iconst (v := 0) hx hb dL_bookText_0 (by decide) ?_
  refine lv_istore (lv' := [(5, .int 0), (0, .int x0), (1, .int x1), (2, .int x2), (3, .ref q_p3), (4, .ref q_p4)]) hx hb dL_bookText_1 hl (by decide) rfl (fun ls hl => ?_)
  refine lv_aload_n hx hb dL_bookText_3 rfl (lv_at hl 4 rfl) ?_
  refine lv_iconst (v := 0) hx hb dL_bookText_4 (by decide) ?_
  refine lv_iconst (v := 1) hx hb dL_bookText_5 (by decide) ?_
  refine lv_iload_n hx hb dL_bookText_6 rfl (lv_at hl 1 rfl) ?_
  refine lv_iload_n hx hb dL_bookText_7 rfl (lv_at hl 3 rfl) ?_
  obtain ⟨u1, g2, h⟩ := bd_of h
  refine cl_S [(q_p3, .inl (cI, n_p3, .inl v_p3)), (q_p4, .inl (cI, n_p4, .inl v_p4))] (As := [.int x0, .int x2]) (rest := [.int 1, .int 0, .ref q_p3]) (rv := (some (.int u1))) (c_L_at l D cI cJ x0 x2 u1 g2) ⟨hx, hb, hml, hown, hts⟩ (va_cwS 2 hts gL_bookText_L_at rfl rfl rfl (by decide +kernel) ⟨(Nat.le_of_ble_eq_true rfl), (Nat.le_of_ble_eq_true rfl)⟩) hK hN hP hD hS [] rfl (by decide) rfl rfl rfl rfl hl.1 rfl (Nat.le_of_ble_eq_true rfl) dL_bookText_8 ⟨Nat.zero_le _, Nat.zero_le _⟩ (fun H locs hP hD hS => ?_)
  show W p l e ({ frames := 1, cells := 0, slots := 0, locals := 21 } : Room) s m args below meth c H locs 0 0 Q0 (F0 m 11 ls [.int u1, .int 1, .int 0, .ref q_p3])
  refine lv_iadd hx hb dL_bookText_11 ?_
  obtain ⟨g3, h⟩ := gd_of h
  refine va_iast hx hb hK hP hD hS 0 0 rfl rfl (inb_of g3) dL_bookText_12 (fun H locs hP hD hS => ?_)
  have hP : va_P D vwCl [(q_p3, .inl (cI, n_p3, .inl (upd v_p3 (0 : Int32).toNatClampNeg (1 + u1)))), (q_p4, .inl (cI, n_p4, .inl v_p4))] H := hP
  have hD : va_D A0 [(q_p3, .inl (cI, n_p3, .inl (upd v_p3 (0 : Int32).toNatClampNeg (1 + u1)))), (q_p4, .inl (cI, n_p4, .inl v_p4))] := hD
  refine lv_iconst (v := 0) hx hb dL_bookText_13 (by decide) ?_
  refine lv_istore (lv' := [(6, .int 0), (5, .int 0), (0, .int x0), (1, .int x1), (2, .int x2), (3, .ref q_p3), (4, .ref q_p4)]) hx hb dL_bookText_14 hl (by decide) rfl (fun ls hl => ?_)
  obtain ⟨e5, he_e5, hc_e5⟩ := bd_of h
  have X185_7 : ∀ (a6 : Int32 × (Nat → Int32) × (Nat → Int32)) (H : Heap) (locs : List Loc) (ls : Array Slot), fL_bookText_X16_185 a6 = some z → va_P D vwCl [(q_p3, .inl (cI, n_p3, .inl a6.2.1)), (q_p4, .inl (cI, n_p4, .inl a6.2.2))] H → va_D A0 [(q_p3, .inl (cI, n_p3, .inl a6.2.1)), (q_p4, .inl (cI, n_p4, .inl a6.2.2))] → va_S A0 s.heap H locs → lv_has ls 8 [(5, .int a6.1)] → W p l e ({ frames := 1, cells := 0, slots := 0, locals := 21 } : Room) s m args below meth c H locs 0 0 Q0 (F0 m 185 ls []) := by
    intro a6 H locs ls h hP hD hS hl
    unfold fL_bookText_X16_185 at h
    refine lv_iload hx hb dL_bookText_185 (lv_at hl 0 rfl) ?_
    obtain rfl := Option.some.inj h
    exact rt_i hA0 hQ0 hx hb hr hlocks hP hS dL_bookText_187
  have L16_8 : ∀ (n : Nat) (z4 : Int32 × Int32 × (Nat → Int32) × (Nat → Int32)) (H : Heap) (locs : List Loc) (ls : Array Slot), iter (fL_bookText_L16 n_p3 n_p4 x0 x1) n z4 = some e5 → va_P D vwCl [(q_p3, .inl (cI, n_p3, .inl z4.2.2.1)), (q_p4, .inl (cI, n_p4, .inl z4.2.2.2))] H → va_D A0 [(q_p3, .inl (cI, n_p3, .inl z4.2.2.1)), (q_p4, .inl (cI, n_p4, .inl z4.2.2.2))] → va_S A0 s.heap H locs → lv_has ls 8 [(0, .int x0), (1, .int x1), (3, .ref q_p3), (4, .ref q_p4), (5, .int z4.1), (6, .int z4.2.1)] → W p l e ({ frames := 1, cells := 0, slots := 0, locals := 21 } : Room) s m args below meth c H locs 0 0 Q0 (F0 m 16 ls []) := by
    intro n
    induction n with
    | zero => exact fun _ _ _ _ h => (iter_z h).elim
    | succ n ih =>
      intro z4 H locs ls h hP hD hS hl
      obtain ⟨r_e5, h, hn_e5⟩ := iter_s h
      unfold fL_bookText_L16 at h
      refine lv_iload hx hb dL_bookText_16 (lv_at hl 5 rfl) ?_
      refine lv_aload_n hx hb dL_bookText_18 rfl (lv_at hl 2 rfl) ?_
      refine lv_iconst (v := 0) hx hb dL_bookText_19 (by decide) ?_
      refine va_iald hx hb hK hP 0 0 rfl rfl (inb_of g3) dL_bookText_20 ?_
      refine lv_icmp_ge (tgt := 185) hx hb dL_bookText_21 (by decide) (fun c9 => ?_) (fun c9 => ?_)
      · skip
        have h := (if_pos c9).symm.trans h
        obtain rfl := Option.some.inj h
        obtain rfl := Option.some.inj hn_e5
        exact X185_7 (z4.1, z4.2.2.1, z4.2.2.2) _ _ _ hc_e5 hP hD hS (lv_sub hl [4] rfl)
      · skip
        have h := (if_neg c9).symm.trans h
        refine lv_iload_n hx hb dL_bookText_24 rfl (lv_at hl 0 rfl) ?_
        refine lv_iconst (v := 2) hx hb dL_bookText_25 (by decide) ?_
        refine lv_iconst (v := 2) hx hb dL_bookText_26 (by decide) ?_
        refine lv_iload hx hb dL_bookText_27 (lv_at hl 5 rfl) ?_
        refine lv_imul hx hb dL_bookText_29 ?_
        refine lv_iadd hx hb dL_bookText_30 ?_
        refine lv_ishr hx hb dL_bookText_31 ?_
        refine lv_bipush (v := 8) hx hb dL_bookText_32 (by decide) ?_
        obtain ⟨u10, g11, h⟩ := bd_of h
        refine cl_S [(q_p3, .inl (cI, n_p3, .inl z4.2.2.1)), (q_p4, .inl (cI, n_p4, .inl z4.2.2.2))] (As := [.int (x0 >>> ((2 + (2 * z4.2.1)) &&& 31)), .int 8]) (rest := []) (rv := (some (.int u10))) (c_L_at l D cI cJ (x0 >>> ((2 + (2 * z4.2.1)) &&& 31)) 8 u10 g11) ⟨hx, hb, hml, hown, hts⟩ (va_cwS 2 hts gL_bookText_L_at rfl rfl rfl (by decide +kernel) ⟨(Nat.le_of_ble_eq_true rfl), (Nat.le_of_ble_eq_true rfl)⟩) hK hN hP hD hS [] rfl (by decide) rfl rfl rfl rfl hl.1 rfl (Nat.le_of_ble_eq_true rfl) dL_bookText_34 ⟨Nat.zero_le _, Nat.zero_le _⟩ (fun H locs hP hD hS => ?_)
        show W p l e ({ frames := 1, cells := 0, slots := 0, locals := 21 } : Room) s m args below meth c H locs 0 0 Q0 (F0 m 37 ls [.int u10])
        refine lv_istore (lv' := [(7, .int u10), (0, .int x0), (1, .int x1), (3, .ref q_p3), (4, .ref q_p4), (5, .int z4.1), (6, .int z4.2.1)]) hx hb dL_bookText_37 hl (by decide) rfl (fun ls hl => ?_)
        refine lv_aload_n hx hb dL_bookText_39 rfl (lv_at hl 3 rfl) ?_
        refine lv_iconst (v := 1) hx hb dL_bookText_40 (by decide) ?_
        refine lv_iload hx hb dL_bookText_41 (lv_at hl 6 rfl) ?_
        refine lv_iadd hx hb dL_bookText_43 ?_
        refine lv_iload hx hb dL_bookText_44 (lv_at hl 0 rfl) ?_
        refine lv_iconst (v := 4) hx hb dL_bookText_46 (by decide) ?_
        have K58_12 : ∀ (w13 : Int32) (H : Heap) (locs : List Loc) (ls : Array Slot), w13 = (if 4 ≤ u10 then (u10 - 3) else 0 : Int32) → va_P D vwCl [(q_p3, .inl (cI, n_p3, .inl z4.2.2.1)), (q_p4, .inl (cI, n_p4, .inl z4.2.2.2))] H → va_D A0 [(q_p3, .inl (cI, n_p3, .inl z4.2.2.1)), (q_p4, .inl (cI, n_p4, .inl z4.2.2.2))] → va_S A0 s.heap H locs → lv_has ls 8 [(0, .int x0), (1, .int x1), (3, .ref q_p3), (4, .ref q_p4), (5, .int z4.1), (6, .int z4.2.1)] → W p l e ({ frames := 1, cells := 0, slots := 0, locals := 21 } : Room) s m args below meth c H locs 0 0 Q0 (F0 m 58 ls [.int w13, .int (1 + z4.2.1), .ref q_p3]) := by
          intro w13 H locs ls e_w13 hP hD hS hl
          subst e_w13
          obtain ⟨g14, h⟩ := gd_of h
          refine va_iast hx hb hK hP hD hS 0 0 rfl rfl (inb_of g14) dL_bookText_58 (fun H locs hP hD hS => ?_)
          have hP : va_P D vwCl [(q_p3, .inl (cI, n_p3, .inl (upd z4.2.2.1 (1 + z4.2.1).toNatClampNeg (if 4 ≤ u10 then (u10 - 3) else 0 : Int32)))), (q_p4, .inl (cI, n_p4, .inl z4.2.2.2))] H := hP
          have hD : va_D A0 [(q_p3, .inl (cI, n_p3, .inl (upd z4.2.2.1 (1 + z4.2.1).toNatClampNeg (if 4 ≤ u10 then (u10 - 3) else 0 : Int32)))), (q_p4, .inl (cI, n_p4, .inl z4.2.2.2))] := hD
          refine lv_aload_n hx hb dL_bookText_59 rfl (lv_at hl 2 rfl) ?_
          refine lv_bipush (v := 11) hx hb dL_bookText_60 (by decide) ?_
          refine lv_iload hx hb dL_bookText_62 (lv_at hl 5 rfl) ?_
          refine lv_iadd hx hb dL_bookText_64 ?_
          refine lv_iload_n hx hb dL_bookText_65 rfl (lv_at hl 1 rfl) ?_
          refine lv_iconst (v := 2) hx hb dL_bookText_66 (by decide) ?_
          refine lv_iload hx hb dL_bookText_67 (lv_at hl 5 rfl) ?_
          refine lv_imul hx hb dL_bookText_69 ?_
          refine lv_ishr hx hb dL_bookText_70 ?_
          refine lv_iconst (v := 4) hx hb dL_bookText_71 (by decide) ?_
          obtain ⟨u15, g16, h⟩ := bd_of h
          refine cl_S [(q_p3, .inl (cI, n_p3, .inl (upd z4.2.2.1 (1 + z4.2.1).toNatClampNeg (if 4 ≤ u10 then (u10 - 3) else 0 : Int32)))), (q_p4, .inl (cI, n_p4, .inl z4.2.2.2))] (As := [.int (x1 >>> ((2 * z4.2.1) &&& 31)), .int 4]) (rest := [.int (11 + z4.2.1), .ref q_p3]) (rv := (some (.int u15))) (c_L_at l D cI cJ (x1 >>> ((2 * z4.2.1) &&& 31)) 4 u15 g16) ⟨hx, hb, hml, hown, hts⟩ (va_cwS 2 hts gL_bookText_L_at rfl rfl rfl (by decide +kernel) ⟨(Nat.le_of_ble_eq_true rfl), (Nat.le_of_ble_eq_true rfl)⟩) hK hN hP hD hS [] rfl (by decide) rfl rfl rfl rfl hl.1 rfl (Nat.le_of_ble_eq_true rfl) dL_bookText_72 ⟨Nat.zero_le _, Nat.zero_le _⟩ (fun H locs hP hD hS => ?_)
          show W p l e ({ frames := 1, cells := 0, slots := 0, locals := 21 } : Room) s m args below meth c H locs 0 0 Q0 (F0 m 75 ls [.int u15, .int (11 + z4.2.1), .ref q_p3])
          have J96_18 : ∀ (a17 : Int32) (H : Heap) (locs : List Loc) (ls : Array Slot), fL_bookText_J96 n_p3 n_p4 z4 u10 a17 = some r_e5 → va_P D vwCl [(q_p3, .inl (cI, n_p3, .inl (upd z4.2.2.1 (1 + z4.2.1).toNatClampNeg (if 4 ≤ u10 then (u10 - 3) else 0 : Int32)))), (q_p4, .inl (cI, n_p4, .inl z4.2.2.2))] H → va_D A0 [(q_p3, .inl (cI, n_p3, .inl (upd z4.2.2.1 (1 + z4.2.1).toNatClampNeg (if 4 ≤ u10 then (u10 - 3) else 0 : Int32)))), (q_p4, .inl (cI, n_p4, .inl z4.2.2.2))] → va_S A0 s.heap H locs → lv_has ls 8 [(0, .int x0), (1, .int x1), (3, .ref q_p3), (4, .ref q_p4), (5, .int z4.1), (6, .int z4.2.1)] → W p l e ({ frames := 1, cells := 0, slots := 0, locals := 21 } : Room) s m args below meth c H locs 0 0 Q0 (F0 m 96 ls [.int a17, .int (11 + z4.2.1), .ref q_p3]) := by
            intro a17 H locs ls h hP hD hS hl
            unfold fL_bookText_J96 at h
            obtain ⟨g19, h⟩ := gd_of h
            refine va_iast hx hb hK hP hD hS 0 0 rfl rfl (inb_of g19) dL_bookText_96 (fun H locs hP hD hS => ?_)
            have hP : va_P D vwCl [(q_p3, .inl (cI, n_p3, .inl (upd (upd z4.2.2.1 (1 + z4.2.1).toNatClampNeg (if 4 ≤ u10 then (u10 - 3) else 0 : Int32)) (11 + z4.2.1).toNatClampNeg a17))), (q_p4, .inl (cI, n_p4, .inl z4.2.2.2))] H := hP
            have hD : va_D A0 [(q_p3, .inl (cI, n_p3, .inl (upd (upd z4.2.2.1 (1 + z4.2.1).toNatClampNeg (if 4 ≤ u10 then (u10 - 3) else 0 : Int32)) (11 + z4.2.1).toNatClampNeg a17))), (q_p4, .inl (cI, n_p4, .inl z4.2.2.2))] := hD
            refine lv_aload_n hx hb dL_bookText_97 rfl (lv_at hl 2 rfl) ?_
            refine lv_iconst (v := 1) hx hb dL_bookText_98 (by decide) ?_
            refine lv_iload hx hb dL_bookText_99 (lv_at hl 5 rfl) ?_
            refine lv_iadd hx hb dL_bookText_101 ?_
            refine va_iald hx hb hK hP 0 0 rfl rfl (inb_of g14) dL_bookText_102 ?_
            have J161_21 : ∀ (a20 : Int32 × (Nat → Int32)) (H : Heap) (locs : List Loc) (ls : Array Slot), fL_bookText_J161 n_p4 z4 u10 a17 a20 = some r_e5 → va_P D vwCl [(q_p3, .inl (cI, n_p3, .inl (upd (upd z4.2.2.1 (1 + z4.2.1).toNatClampNeg (if 4 ≤ u10 then (u10 - 3) else 0 : Int32)) (11 + z4.2.1).toNatClampNeg a17))), (q_p4, .inl (cI, n_p4, .inl a20.2))] H → va_D A0 [(q_p3, .inl (cI, n_p3, .inl (upd (upd z4.2.2.1 (1 + z4.2.1).toNatClampNeg (if 4 ≤ u10 then (u10 - 3) else 0 : Int32)) (11 + z4.2.1).toNatClampNeg a17))), (q_p4, .inl (cI, n_p4, .inl a20.2))] → va_S A0 s.heap H locs → lv_has ls 8 [(0, .int x0), (1, .int x1), (3, .ref q_p3), (4, .ref q_p4), (5, .int a20.1), (6, .int z4.2.1)] → W p l e ({ frames := 1, cells := 0, slots := 0, locals := 21 } : Room) s m args below meth c H locs 0 0 Q0 (F0 m 161 ls []) := by
              intro a20 H locs ls h hP hD hS hl
              unfold fL_bookText_J161 at h
              refine lv_aload hx hb dL_bookText_161 (lv_at hl 3 rfl) ?_
              refine lv_iload hx hb dL_bookText_163 (lv_at hl 4 rfl) ?_
              refine lv_iinc (v := (a20.1 + 1)) (lv' := [(5, .int (a20.1 + 1)), (0, .int x0), (1, .int x1), (3, .ref q_p3), (4, .ref q_p4), (6, .int z4.2.1)]) hx hb dL_bookText_165 hl (k := 4) rfl rfl (by decide) rfl (fun ls hl => ?_)
              refine lv_bipush (v := 48) hx hb dL_bookText_168 (by decide) ?_
              refine lv_aload_n hx hb dL_bookText_170 rfl (lv_at hl 3 rfl) ?_
              refine lv_bipush (v := 11) hx hb dL_bookText_171 (by decide) ?_
              refine lv_iload hx hb dL_bookText_173 (lv_at hl 5 rfl) ?_
              refine lv_iadd hx hb dL_bookText_175 ?_
              refine va_iald hx hb hK hP 0 0 rfl rfl (inb_of g19) dL_bookText_176 ?_
              refine lv_iadd hx hb dL_bookText_177 ?_
              obtain ⟨g22, h⟩ := gd_of h
              refine va_iast hx hb hK hP hD hS 1 0 rfl rfl (inb_of g22) dL_bookText_178 (fun H locs hP hD hS => ?_)
              have hP : va_P D vwCl [(q_p3, .inl (cI, n_p3, .inl (upd (upd z4.2.2.1 (1 + z4.2.1).toNatClampNeg (if 4 ≤ u10 then (u10 - 3) else 0 : Int32)) (11 + z4.2.1).toNatClampNeg a17))), (q_p4, .inl (cI, n_p4, .inl (upd a20.2 a20.1.toNatClampNeg (48 + ((upd (upd z4.2.2.1 (1 + z4.2.1).toNatClampNeg (if 4 ≤ u10 then (u10 - 3) else 0 : Int32)) (11 + z4.2.1).toNatClampNeg a17) (11 + z4.2.1).toNatClampNeg)))))] H := hP
              have hD : va_D A0 [(q_p3, .inl (cI, n_p3, .inl (upd (upd z4.2.2.1 (1 + z4.2.1).toNatClampNeg (if 4 ≤ u10 then (u10 - 3) else 0 : Int32)) (11 + z4.2.1).toNatClampNeg a17))), (q_p4, .inl (cI, n_p4, .inl (upd a20.2 a20.1.toNatClampNeg (48 + ((upd (upd z4.2.2.1 (1 + z4.2.1).toNatClampNeg (if 4 ≤ u10 then (u10 - 3) else 0 : Int32)) (11 + z4.2.1).toNatClampNeg a17) (11 + z4.2.1).toNatClampNeg)))))] := hD
              refine lv_iinc (v := (z4.2.1 + 1)) (lv' := [(6, .int (z4.2.1 + 1)), (5, .int (a20.1 + 1)), (0, .int x0), (1, .int x1), (3, .ref q_p3), (4, .ref q_p4)]) hx hb dL_bookText_179 hl (k := 5) rfl rfl (by decide) rfl (fun ls hl => ?_)
              refine lv_goto (tgt := 16) hx hb dL_bookText_182 (by decide) ?_
              obtain rfl := Option.some.inj h
              exact ih ((a20.1 + 1), (z4.2.1 + 1), (upd (upd z4.2.2.1 (1 + z4.2.1).toNatClampNeg (if 4 ≤ u10 then (u10 - 3) else 0 : Int32)) (11 + z4.2.1).toNatClampNeg a17), (upd a20.2 a20.1.toNatClampNeg (48 + ((upd (upd z4.2.2.1 (1 + z4.2.1).toNatClampNeg (if 4 ≤ u10 then (u10 - 3) else 0 : Int32)) (11 + z4.2.1).toNatClampNeg a17) (11 + z4.2.1).toNatClampNeg)))) _ _ _ hn_e5 hP hD hS (lv_sub hl [2, 3, 4, 5, 1, 0] rfl)
            refine lv_if_le (tgt := 161) hx hb dL_bookText_103 (by decide) (fun c23 => ?_) (fun c23 => ?_)
            · skip
              have h := (if_pos c23).symm.trans h
              exact J161_21 (z4.1, z4.2.2.2) _ _ _ h hP hD hS (lv_sub hl [0, 1, 2, 3, 4, 5] rfl)
            · skip
              have h := (if_neg c23).symm.trans h
              refine lv_aload hx hb dL_bookText_106 (lv_at hl 3 rfl) ?_
              refine lv_iload hx hb dL_bookText_108 (lv_at hl 4 rfl) ?_
              refine lv_iinc (v := (z4.1 + 1)) (lv' := [(5, .int (z4.1 + 1)), (0, .int x0), (1, .int x1), (3, .ref q_p3), (4, .ref q_p4), (6, .int z4.2.1)]) hx hb dL_bookText_110 hl (k := 4) rfl rfl (by decide) rfl (fun ls hl => ?_)
              refine lv_aload_n hx hb dL_bookText_113 rfl (lv_at hl 3 rfl) ?_
              refine lv_iconst (v := 1) hx hb dL_bookText_114 (by decide) ?_
              refine lv_iload hx hb dL_bookText_115 (lv_at hl 5 rfl) ?_
              refine lv_iadd hx hb dL_bookText_117 ?_
              refine va_iald hx hb hK hP 0 0 rfl rfl (inb_of g14) dL_bookText_118 ?_
              refine lv_iconst (v := 1) hx hb dL_bookText_119 (by decide) ?_
              have J160_25 : ∀ (a24 : Int32) (H : Heap) (locs : List Loc) (ls : Array Slot), fL_bookText_J160 n_p4 z4 u10 a17 a24 = some r_e5 → va_P D vwCl [(q_p3, .inl (cI, n_p3, .inl (upd (upd z4.2.2.1 (1 + z4.2.1).toNatClampNeg (if 4 ≤ u10 then (u10 - 3) else 0 : Int32)) (11 + z4.2.1).toNatClampNeg a17))), (q_p4, .inl (cI, n_p4, .inl z4.2.2.2))] H → va_D A0 [(q_p3, .inl (cI, n_p3, .inl (upd (upd z4.2.2.1 (1 + z4.2.1).toNatClampNeg (if 4 ≤ u10 then (u10 - 3) else 0 : Int32)) (11 + z4.2.1).toNatClampNeg a17))), (q_p4, .inl (cI, n_p4, .inl z4.2.2.2))] → va_S A0 s.heap H locs → lv_has ls 8 [(0, .int x0), (1, .int x1), (3, .ref q_p3), (4, .ref q_p4), (5, .int (z4.1 + 1)), (6, .int z4.2.1)] → W p l e ({ frames := 1, cells := 0, slots := 0, locals := 21 } : Room) s m args below meth c H locs 0 0 Q0 (F0 m 160 ls [.int a24, .int z4.1, .ref q_p4]) := by
                intro a24 H locs ls h hP hD hS hl
                unfold fL_bookText_J160 at h
                obtain ⟨g26, h⟩ := gd_of h
                refine va_iast hx hb hK hP hD hS 1 0 rfl rfl (inb_of g26) dL_bookText_160 (fun H locs hP hD hS => ?_)
                have hP : va_P D vwCl [(q_p3, .inl (cI, n_p3, .inl (upd (upd z4.2.2.1 (1 + z4.2.1).toNatClampNeg (if 4 ≤ u10 then (u10 - 3) else 0 : Int32)) (11 + z4.2.1).toNatClampNeg a17))), (q_p4, .inl (cI, n_p4, .inl (upd z4.2.2.2 z4.1.toNatClampNeg a24)))] H := hP
                have hD : va_D A0 [(q_p3, .inl (cI, n_p3, .inl (upd (upd z4.2.2.1 (1 + z4.2.1).toNatClampNeg (if 4 ≤ u10 then (u10 - 3) else 0 : Int32)) (11 + z4.2.1).toNatClampNeg a17))), (q_p4, .inl (cI, n_p4, .inl (upd z4.2.2.2 z4.1.toNatClampNeg a24)))] := hD
                exact J161_21 ((z4.1 + 1), (upd z4.2.2.2 z4.1.toNatClampNeg a24)) _ _ _ h hP hD hS (lv_sub hl [0, 1, 2, 3, 4, 5] rfl)
              refine lv_icmp_ne (tgt := 128) hx hb dL_bookText_120 (by decide) (fun c27 => ?_) (fun c27 => ?_)
              · skip
                have h := (if_neg c27).symm.trans h
                refine lv_aload_n hx hb dL_bookText_128 rfl (lv_at hl 3 rfl) ?_
                refine lv_iconst (v := 1) hx hb dL_bookText_129 (by decide) ?_
                refine lv_iload hx hb dL_bookText_130 (lv_at hl 5 rfl) ?_
                refine lv_iadd hx hb dL_bookText_132 ?_
                refine va_iald hx hb hK hP 0 0 rfl rfl (inb_of g14) dL_bookText_133 ?_
                refine lv_iconst (v := 2) hx hb dL_bookText_134 (by decide) ?_
                refine lv_icmp_ne (tgt := 143) hx hb dL_bookText_135 (by decide) (fun c28 => ?_) (fun c28 => ?_)
                · skip
                  have h := (if_neg c28).symm.trans h
                  refine lv_aload_n hx hb dL_bookText_143 rfl (lv_at hl 3 rfl) ?_
                  refine lv_iconst (v := 1) hx hb dL_bookText_144 (by decide) ?_
                  refine lv_iload hx hb dL_bookText_145 (lv_at hl 5 rfl) ?_
                  refine lv_iadd hx hb dL_bookText_147 ?_
                  refine va_iald hx hb hK hP 0 0 rfl rfl (inb_of g14) dL_bookText_148 ?_
                  refine lv_iconst (v := 3) hx hb dL_bookText_149 (by decide) ?_
                  refine lv_icmp_ne (tgt := 158) hx hb dL_bookText_150 (by decide) (fun c29 => ?_) (fun c29 => ?_)
                  · skip
                    have h := (if_neg c29).symm.trans h
                    refine lv_bipush (v := 119) hx hb dL_bookText_158 (by decide) ?_
                    exact J160_25 119 _ _ _ h hP hD hS (lv_sub hl [1, 2, 3, 4, 0, 5] rfl)
                  · skip
                    have h := (if_pos c29).symm.trans h
                    refine lv_bipush (v := 112) hx hb dL_bookText_153 (by decide) ?_
                    refine lv_goto (tgt := 160) hx hb dL_bookText_155 (by decide) ?_
                    exact J160_25 112 _ _ _ h hP hD hS (lv_sub hl [1, 2, 3, 4, 0, 5] rfl)
                · skip
                  have h := (if_pos c28).symm.trans h
                  refine lv_bipush (v := 109) hx hb dL_bookText_138 (by decide) ?_
                  refine lv_goto (tgt := 160) hx hb dL_bookText_140 (by decide) ?_
                  exact J160_25 109 _ _ _ h hP hD hS (lv_sub hl [1, 2, 3, 4, 0, 5] rfl)
              · skip
                have h := (if_pos c27).symm.trans h
                refine lv_bipush (v := 98) hx hb dL_bookText_123 (by decide) ?_
                refine lv_goto (tgt := 160) hx hb dL_bookText_125 (by decide) ?_
                exact J160_25 98 _ _ _ h hP hD hS (lv_sub hl [1, 2, 3, 4, 0, 5] rfl)
          refine lv_if_ne (tgt := 83) hx hb dL_bookText_75 (by decide) (fun c30 => ?_) (fun c30 => ?_)
          · skip
            have h := (if_neg c30).symm.trans h
            refine lv_iload_n hx hb dL_bookText_83 rfl (lv_at hl 1 rfl) ?_
            refine lv_iconst (v := 2) hx hb dL_bookText_84 (by decide) ?_
            refine lv_iconst (v := 2) hx hb dL_bookText_85 (by decide) ?_
            refine lv_iload hx hb dL_bookText_86 (lv_at hl 5 rfl) ?_
            refine lv_imul hx hb dL_bookText_88 ?_
            refine lv_iadd hx hb dL_bookText_89 ?_
            refine lv_ishr hx hb dL_bookText_90 ?_
            refine lv_bipush (v := 10) hx hb dL_bookText_91 (by decide) ?_
            obtain ⟨u31, g32, h⟩ := bd_of h
            refine cl_S [(q_p3, .inl (cI, n_p3, .inl (upd z4.2.2.1 (1 + z4.2.1).toNatClampNeg (if 4 ≤ u10 then (u10 - 3) else 0 : Int32)))), (q_p4, .inl (cI, n_p4, .inl z4.2.2.2))] (As := [.int (x1 >>> ((2 + (2 * z4.2.1)) &&& 31)), .int 10]) (rest := [.int (11 + z4.2.1), .ref q_p3]) (rv := (some (.int u31))) (c_L_at l D cI cJ (x1 >>> ((2 + (2 * z4.2.1)) &&& 31)) 10 u31 g32) ⟨hx, hb, hml, hown, hts⟩ (va_cwS 2 hts gL_bookText_L_at rfl rfl rfl (by decide +kernel) ⟨(Nat.le_of_ble_eq_true rfl), (Nat.le_of_ble_eq_true rfl)⟩) hK hN hP hD hS [] rfl (by decide) rfl rfl rfl rfl hl.1 rfl (Nat.le_of_ble_eq_true rfl) dL_bookText_93 ⟨Nat.zero_le _, Nat.zero_le _⟩ (fun H locs hP hD hS => ?_)
            show W p l e ({ frames := 1, cells := 0, slots := 0, locals := 21 } : Room) s m args below meth c H locs 0 0 Q0 (F0 m 96 ls [.int u31, .int (11 + z4.2.1), .ref q_p3])
            exact J96_18 u31 _ _ _ h hP hD hS (lv_sub hl [0, 1, 2, 3, 4, 5] rfl)
          · skip
            have h := (if_pos c30).symm.trans h
            refine lv_bipush (v := 9) hx hb dL_bookText_78 (by decide) ?_
            refine lv_goto (tgt := 96) hx hb dL_bookText_80 (by decide) ?_
            exact J96_18 9 _ _ _ h hP hD hS (lv_sub hl [0, 1, 2, 3, 4, 5] rfl)
        refine lv_icmp_ge (tgt := 54) hx hb dL_bookText_47 (by decide) (fun c33 => ?_) (fun c33 => ?_)
        · skip
          refine lv_iload hx hb dL_bookText_54 (lv_at hl 0 rfl) ?_
          refine lv_iconst (v := 3) hx hb dL_bookText_56 (by decide) ?_
          refine lv_isub hx hb dL_bookText_57 ?_
          exact K58_12 ((u10 - 3)) _ _ _ (by rw [if_pos c33]) hP hD hS (lv_sub hl [1, 2, 3, 4, 5, 6] rfl)
        · skip
          refine lv_iconst (v := 0) hx hb dL_bookText_50 (by decide) ?_
          refine lv_goto (tgt := 58) hx hb dL_bookText_51 (by decide) ?_
          exact K58_12 0 _ _ _ (by rw [if_neg c33]) hP hD hS (lv_sub hl [1, 2, 3, 4, 5, 6] rfl)
  exact L16_8 FU (0, 0, (upd v_p3 (0 : Int32).toNatClampNeg (1 + u1)), v_p4) _ _ _ he_e5 hP hD hS (lv_sub hl [2, 3, 5, 6, 1, 0] rfl)
def fL_write_X2_21  (a3 : Int32 × (Nat → Int32)) : Option (Int32 × Int32 × (Nat → Int32)) :=
  some (0, a3.1, a3.2)
def fL_write_X2_29  (a5 : Int32 × (Nat → Int32)) : Option (Int32 × Int32 × (Nat → Int32)) :=
  some (1, a5.1, a5.2)
def fL_write_L2 (n_p1 : Nat) (v_p0_isKept : Int32) (v_p1 : Nat → Int32) (x2 : Int32) (z1 : Int32 × Int32 × (Nat → Int32)) : Option ((Int32 × Int32 × (Nat → Int32)) ⊕ ((Int32 × (Nat → Int32)) ⊕ (Int32 × (Nat → Int32)))) :=
  if x2 ≤ z1.1 then (some (Sum.inr (Sum.inr (z1.2.1, z1.2.2)))) else (gd (inb z1.1 n_p1) ((fX10_letters v_p0_isKept z1.2.1 z1.2.2 (((v_p1 z1.1.toNatClampNeg) : Int32).toInt64)).bind (fun u10 => if u10.1 = (z1.1 + 1) then (some (Sum.inl ((z1.1 + 1), u10.2.1, u10.2.2))) else (some (Sum.inr (Sum.inl (u10.2.1, u10.2.2)))))))
def fL_write (n_p1 : Nat) (v_p0_isKept : Int32) (v_p0_page_size : Int32) (v_p0_page_codes : Nat → Int32) (v_p1 : Nat → Int32) (x2 : Int32) : Option (Int32 × Int32 × (Nat → Int32)) :=
  (iter (fL_write_L2 n_p1 v_p0_isKept v_p1 x2) FU (0, v_p0_page_size, v_p0_page_codes)).bind (Sum.elim (fL_write_X2_21) (fL_write_X2_29))
set_option maxHeartbeats 4000000 in
set_option maxRecDepth 100000 in
theorem c_L_write (l : Launch) (D : va_G) (cI cJ : ClassId) (q_p0 q_p0_now q_p0_kept q_p0_tried q_p0_page q_p0_page_codes q_p0_purse q_p0_rings q_p0_groups q_p0_chances q_p0_ways q_p0_draws q_p1 : Nat) (n_p1 : Nat) (v_p0_isKept : Int32) (v_p0_page_size : Int32) (v_p0_page_codes : Nat → Int32) (v_p1 : Nat → Int32) (x2 : Int32) (z : Int32 × Int32 × (Nat → Int32)) (h : fL_write n_p1 v_p0_isKept v_p0_page_size v_p0_page_codes v_p1 x2 = some z) : Met l yL_write wsL_write ({ frames := 3, cells := 0, slots := 0, locals := 70 } : Room) (va_Pc [.ref q_p0, .ref q_p1, .int x2] (preG D cI cJ [(q_p0, .inr (9, [.ref q_p0_now, .ref q_p0_kept, .ref q_p0_tried, .int v_p0_isKept, .ref q_p0_page, .ref q_p0_purse, .ref q_p0_rings, .ref q_p0_groups, .ref q_p0_chances, .ref q_p0_ways, .ref q_p0_draws])), (q_p0_page, .inr (5, [.ref q_p0_page_codes, .int v_p0_page_size])), (q_p0_page_codes, .inl (cI, 22, .inl v_p0_page_codes)), (q_p1, .inl (cI, n_p1, .inl v_p1))])) (QG D [(q_p0, .inr (9, [.ref q_p0_now, .ref q_p0_kept, .ref q_p0_tried, .int v_p0_isKept, .ref q_p0_page, .ref q_p0_purse, .ref q_p0_rings, .ref q_p0_groups, .ref q_p0_chances, .ref q_p0_ways, .ref q_p0_draws])), (q_p0_page, .inr (5, [.ref q_p0_page_codes, .int v_p0_page_size])), (q_p0_page_codes, .inl (cI, 22, .inl v_p0_page_codes)), (q_p1, .inl (cI, n_p1, .inl v_p1))] [(q_p0, .inr (9, [.ref q_p0_now, .ref q_p0_kept, .ref q_p0_tried, .int v_p0_isKept, .ref q_p0_page, .ref q_p0_purse, .ref q_p0_rings, .ref q_p0_groups, .ref q_p0_chances, .ref q_p0_ways, .ref q_p0_draws])), (q_p0_page, .inr (5, [.ref q_p0_page_codes, .int z.2.1])), (q_p0_page_codes, .inl (cI, 22, .inl z.2.2)), (q_p1, .inl (cI, n_p1, .inl v_p1))] (some (.int z.1))) 0 0 (fr [(q_p0, .inr (9, [.ref q_p0_now, .ref q_p0_kept, .ref q_p0_tried, .int v_p0_isKept, .ref q_p0_page, .ref q_p0_purse, .ref q_p0_rings, .ref q_p0_groups, .ref q_p0_chances, .ref q_p0_ways, .ref q_p0_draws])), (q_p0_page, .inr (5, [.ref q_p0_page_codes, .int v_p0_page_size])), (q_p0_page_codes, .inl (cI, 22, .inl v_p0_page_codes)), (q_p1, .inl (cI, n_p1, .inl v_p1))]) := by
  refine Met.ofW (cc := cL_write) (maxL := 4) (ret := (some .boolean)) (by decide) rfl ?_
  intro p e s m args below meth c s₁ B hml hv
  obtain ⟨hargs, hP, hK, hN, hD0⟩ := hv
  have hx := B.exec
  have hb := B.bytes
  have hr := B.returns
  have hts := atoms_spec (ws := wsL_write) B.pre
  have hown : s.vm.findClass RL = some m.cls := findClass_of_methodNamed B.named
  have hlocks := B.notSynchronized
  have hD := fr_D hD0
  have hS : va_S (fr [(q_p0, .inr (9, [.ref q_p0_now, .ref q_p0_kept, .ref q_p0_tried, .int v_p0_isKept, .ref q_p0_page, .ref q_p0_purse, .ref q_p0_rings, .ref q_p0_groups, .ref q_p0_chances, .ref q_p0_ways, .ref q_p0_draws])), (q_p0_page, .inr (5, [.ref q_p0_page_codes, .int v_p0_page_size])), (q_p0_page_codes, .inl (cI, 22, .inl v_p0_page_codes)), (q_p1, .inl (cI, n_p1, .inl v_p1))]) s.heap s.heap [] := va_S.rf
  have hl := lv_entry ([.ref q_p0, .ref q_p1, .int x2]) (n := 4) (Nat.le_of_ble_eq_true rfl)
  refine W.eq (g2 := F0 m 0 ((lg_sl ([.ref q_p0, .ref q_p1, .int x2]) ++ List.replicate (4 - (lg_sl ([.ref q_p0, .ref q_p1, .int x2])).length) Slot.unset).toArray) []) (by rw [hargs, lg_entry_eq]) ?_
  generalize (lg_sl ([.ref q_p0, .ref q_p1, .int x2]) ++ List.replicate (4 - (lg_sl ([.ref q_p0, .ref q_p1, .int x2])).length) Slot.unset).toArray = ls at hl ⊢
  have hl : lv_has ls 4 [(0, .ref q_p0), (1, .ref q_p1), (2, .int x2)] := hl
  show W p l e ({ frames := 3, cells := 0, slots := 0, locals := 70 } : Room) s m args below meth c s.heap [] 0 0 (MQ below (QG D [(q_p0, .inr (9, [.ref q_p0_now, .ref q_p0_kept, .ref q_p0_tried, .int v_p0_isKept, .ref q_p0_page, .ref q_p0_purse, .ref q_p0_rings, .ref q_p0_groups, .ref q_p0_chances, .ref q_p0_ways, .ref q_p0_draws])), (q_p0_page, .inr (5, [.ref q_p0_page_codes, .int v_p0_page_size])), (q_p0_page_codes, .inl (cI, 22, .inl v_p0_page_codes)), (q_p1, .inl (cI, n_p1, .inl v_p1))] [(q_p0, .inr (9, [.ref q_p0_now, .ref q_p0_kept, .ref q_p0_tried, .int v_p0_isKept, .ref q_p0_page, .ref q_p0_purse, .ref q_p0_rings, .ref q_p0_groups, .ref q_p0_chances, .ref q_p0_ways, .ref q_p0_draws])), (q_p0_page, .inr (5, [.ref q_p0_page_codes, .int z.2.1])), (q_p0_page_codes, .inl (cI, 22, .inl z.2.2)), (q_p1, .inl (cI, n_p1, .inl v_p1))] (some (.int z.1))) args s 0 0 (fr [(q_p0, .inr (9, [.ref q_p0_now, .ref q_p0_kept, .ref q_p0_tried, .int v_p0_isKept, .ref q_p0_page, .ref q_p0_purse, .ref q_p0_rings, .ref q_p0_groups, .ref q_p0_chances, .ref q_p0_ways, .ref q_p0_draws])), (q_p0_page, .inr (5, [.ref q_p0_page_codes, .int v_p0_page_size])), (q_p0_page_codes, .inl (cI, 22, .inl v_p0_page_codes)), (q_p1, .inl (cI, n_p1, .inl v_p1))])) (F0 m 0 ls [])
  generalize hQ0 : (MQ below (QG D [(q_p0, .inr (9, [.ref q_p0_now, .ref q_p0_kept, .ref q_p0_tried, .int v_p0_isKept, .ref q_p0_page, .ref q_p0_purse, .ref q_p0_rings, .ref q_p0_groups, .ref q_p0_chances, .ref q_p0_ways, .ref q_p0_draws])), (q_p0_page, .inr (5, [.ref q_p0_page_codes, .int v_p0_page_size])), (q_p0_page_codes, .inl (cI, 22, .inl v_p0_page_codes)), (q_p1, .inl (cI, n_p1, .inl v_p1))] [(q_p0, .inr (9, [.ref q_p0_now, .ref q_p0_kept, .ref q_p0_tried, .int v_p0_isKept, .ref q_p0_page, .ref q_p0_purse, .ref q_p0_rings, .ref q_p0_groups, .ref q_p0_chances, .ref q_p0_ways, .ref q_p0_draws])), (q_p0_page, .inr (5, [.ref q_p0_page_codes, .int z.2.1])), (q_p0_page_codes, .inl (cI, 22, .inl z.2.2)), (q_p1, .inl (cI, n_p1, .inl v_p1))] (some (.int z.1))) args s 0 0 (fr [(q_p0, .inr (9, [.ref q_p0_now, .ref q_p0_kept, .ref q_p0_tried, .int v_p0_isKept, .ref q_p0_page, .ref q_p0_purse, .ref q_p0_rings, .ref q_p0_groups, .ref q_p0_chances, .ref q_p0_ways, .ref q_p0_draws])), (q_p0_page, .inr (5, [.ref q_p0_page_codes, .int v_p0_page_size])), (q_p0_page_codes, .inl (cI, 22, .inl v_p0_page_codes)), (q_p1, .inl (cI, n_p1, .inl v_p1))])) = Q0
  generalize hA0 : fr [(q_p0, .inr (9, [.ref q_p0_now, .ref q_p0_kept, .ref q_p0_tried, .int v_p0_isKept, .ref q_p0_page, .ref q_p0_purse, .ref q_p0_rings, .ref q_p0_groups, .ref q_p0_chances, .ref q_p0_ways, .ref q_p0_draws])), (q_p0_page, .inr (5, [.ref q_p0_page_codes, .int v_p0_page_size])), (q_p0_page_codes, .inl (cI, 22, .inl v_p0_page_codes)), (q_p1, .inl (cI, n_p1, .inl v_p1))] = A0 at hD hS
  unfold fL_write at h
  refine lv_iconst (v := 0) hx hb dL_write_0 (by decide) ?_
  refine lv_istore_n (lv' := [(3, .int 0), (0, .ref q_p0), (1, .ref q_p1), (2, .int x2)]) hx hb dL_write_1 rfl hl (by decide) rfl (fun ls hl => ?_)
  obtain ⟨e2, he_e2, hc_e2⟩ := bd_of h
  have X21_4 : ∀ (a3 : Int32 × (Nat → Int32)) (H : Heap) (locs : List Loc) (ls : Array Slot), fL_write_X2_21 a3 = some z → va_P D vwCl [(q_p0, .inr (9, [.ref q_p0_now, .ref q_p0_kept, .ref q_p0_tried, .int v_p0_isKept, .ref q_p0_page, .ref q_p0_purse, .ref q_p0_rings, .ref q_p0_groups, .ref q_p0_chances, .ref q_p0_ways, .ref q_p0_draws])), (q_p0_page, .inr (5, [.ref q_p0_page_codes, .int a3.1])), (q_p0_page_codes, .inl (cI, 22, .inl a3.2)), (q_p1, .inl (cI, n_p1, .inl v_p1))] H → va_D A0 [(q_p0, .inr (9, [.ref q_p0_now, .ref q_p0_kept, .ref q_p0_tried, .int v_p0_isKept, .ref q_p0_page, .ref q_p0_purse, .ref q_p0_rings, .ref q_p0_groups, .ref q_p0_chances, .ref q_p0_ways, .ref q_p0_draws])), (q_p0_page, .inr (5, [.ref q_p0_page_codes, .int a3.1])), (q_p0_page_codes, .inl (cI, 22, .inl a3.2)), (q_p1, .inl (cI, n_p1, .inl v_p1))] → va_S A0 s.heap H locs → lv_has ls 4 [] → W p l e ({ frames := 3, cells := 0, slots := 0, locals := 70 } : Room) s m args below meth c H locs 0 0 Q0 (F0 m 21 ls []) := by
    intro a3 H locs ls h hP hD hS hl
    unfold fL_write_X2_21 at h
    refine lv_iconst (v := 0) hx hb dL_write_21 (by decide) ?_
    obtain rfl := Option.some.inj h
    exact rt_z hA0 hQ0 hx hb hr hlocks rfl hP hS dL_write_22
  have X29_6 : ∀ (a5 : Int32 × (Nat → Int32)) (H : Heap) (locs : List Loc) (ls : Array Slot), fL_write_X2_29 a5 = some z → va_P D vwCl [(q_p0, .inr (9, [.ref q_p0_now, .ref q_p0_kept, .ref q_p0_tried, .int v_p0_isKept, .ref q_p0_page, .ref q_p0_purse, .ref q_p0_rings, .ref q_p0_groups, .ref q_p0_chances, .ref q_p0_ways, .ref q_p0_draws])), (q_p0_page, .inr (5, [.ref q_p0_page_codes, .int a5.1])), (q_p0_page_codes, .inl (cI, 22, .inl a5.2)), (q_p1, .inl (cI, n_p1, .inl v_p1))] H → va_D A0 [(q_p0, .inr (9, [.ref q_p0_now, .ref q_p0_kept, .ref q_p0_tried, .int v_p0_isKept, .ref q_p0_page, .ref q_p0_purse, .ref q_p0_rings, .ref q_p0_groups, .ref q_p0_chances, .ref q_p0_ways, .ref q_p0_draws])), (q_p0_page, .inr (5, [.ref q_p0_page_codes, .int a5.1])), (q_p0_page_codes, .inl (cI, 22, .inl a5.2)), (q_p1, .inl (cI, n_p1, .inl v_p1))] → va_S A0 s.heap H locs → lv_has ls 4 [] → W p l e ({ frames := 3, cells := 0, slots := 0, locals := 70 } : Room) s m args below meth c H locs 0 0 Q0 (F0 m 29 ls []) := by
    intro a5 H locs ls h hP hD hS hl
    unfold fL_write_X2_29 at h
    refine lv_iconst (v := 1) hx hb dL_write_29 (by decide) ?_
    obtain rfl := Option.some.inj h
    exact rt_z hA0 hQ0 hx hb hr hlocks rfl hP hS dL_write_30
  have L2_7 : ∀ (n : Nat) (z1 : Int32 × Int32 × (Nat → Int32)) (H : Heap) (locs : List Loc) (ls : Array Slot), iter (fL_write_L2 n_p1 v_p0_isKept v_p1 x2) n z1 = some e2 → va_P D vwCl [(q_p0, .inr (9, [.ref q_p0_now, .ref q_p0_kept, .ref q_p0_tried, .int v_p0_isKept, .ref q_p0_page, .ref q_p0_purse, .ref q_p0_rings, .ref q_p0_groups, .ref q_p0_chances, .ref q_p0_ways, .ref q_p0_draws])), (q_p0_page, .inr (5, [.ref q_p0_page_codes, .int z1.2.1])), (q_p0_page_codes, .inl (cI, 22, .inl z1.2.2)), (q_p1, .inl (cI, n_p1, .inl v_p1))] H → va_D A0 [(q_p0, .inr (9, [.ref q_p0_now, .ref q_p0_kept, .ref q_p0_tried, .int v_p0_isKept, .ref q_p0_page, .ref q_p0_purse, .ref q_p0_rings, .ref q_p0_groups, .ref q_p0_chances, .ref q_p0_ways, .ref q_p0_draws])), (q_p0_page, .inr (5, [.ref q_p0_page_codes, .int z1.2.1])), (q_p0_page_codes, .inl (cI, 22, .inl z1.2.2)), (q_p1, .inl (cI, n_p1, .inl v_p1))] → va_S A0 s.heap H locs → lv_has ls 4 [(0, .ref q_p0), (1, .ref q_p1), (2, .int x2), (3, .int z1.1)] → W p l e ({ frames := 3, cells := 0, slots := 0, locals := 70 } : Room) s m args below meth c H locs 0 0 Q0 (F0 m 2 ls []) := by
    intro n
    induction n with
    | zero => exact fun _ _ _ _ h => (iter_z h).elim
    | succ n ih =>
      intro z1 H locs ls h hP hD hS hl
      obtain ⟨r_e2, h, hn_e2⟩ := iter_s h
      unfold fL_write_L2 at h
      refine lv_iload_n hx hb dL_write_2 rfl (lv_at hl 3 rfl) ?_
      refine lv_iload_n hx hb dL_write_3 rfl (lv_at hl 2 rfl) ?_
      refine lv_icmp_ge (tgt := 29) hx hb dL_write_4 (by decide) (fun c8 => ?_) (fun c8 => ?_)
      · skip
        have h := (if_pos c8).symm.trans h
        obtain rfl := Option.some.inj h
        obtain rfl := Option.some.inj hn_e2
        exact X29_6 (z1.2.1, z1.2.2) _ _ _ hc_e2 hP hD hS (lv_sub hl [] rfl)
      · skip
        have h := (if_neg c8).symm.trans h
        refine lv_aload_n hx hb dL_write_7 rfl (lv_at hl 0 rfl) ?_
        refine lv_aload_n hx hb dL_write_8 rfl (lv_at hl 1 rfl) ?_
        refine lv_iload_n hx hb dL_write_9 rfl (lv_at hl 3 rfl) ?_
        obtain ⟨g9, h⟩ := gd_of h
        refine va_iald hx hb hK hP 3 0 rfl rfl (inb_of g9) dL_write_10 ?_
        refine lv_i2l hx hb dL_write_11 rfl ?_
        obtain ⟨u10, g11, h⟩ := bd_of h
        refine cl_V [(q_p0, .inr (9, [.ref q_p0_now, .ref q_p0_kept, .ref q_p0_tried, .int v_p0_isKept, .ref q_p0_page, .ref q_p0_purse, .ref q_p0_rings, .ref q_p0_groups, .ref q_p0_chances, .ref q_p0_ways, .ref q_p0_draws])), (q_p0_page, .inr (5, [.ref q_p0_page_codes, .int u10.2.1])), (q_p0_page_codes, .inl (cI, 22, .inl u10.2.2)), (q_p1, .inl (cI, n_p1, .inl v_p1))] (As := [.long (((v_p1 z1.1.toNatClampNeg) : Int32).toInt64)]) (rest := []) (rv := (some (.int u10.1))) (c_X10_letters l D cI cJ q_p0 q_p0_now q_p0_kept q_p0_tried q_p0_page q_p0_page_codes q_p0_purse q_p0_rings q_p0_groups q_p0_chances q_p0_ways q_p0_draws v_p0_isKept z1.2.1 z1.2.2 (((v_p1 z1.1.toNatClampNeg) : Int32).toInt64) u10 g11) ⟨hx, hb, hml, hown, hts⟩ (cwV 1 hts gL_write_X10_letters rfl rfl rfl (by decide +kernel) ⟨(Nat.le_of_ble_eq_true rfl), (Nat.le_of_ble_eq_true rfl)⟩) hK hN hP hD hS [0, 1, 2] rfl (by decide) rfl rfl rfl (q0 := 0) (ci := 9) rfl rfl rfl rfl hl.1 rfl (Nat.le_of_ble_eq_true rfl) dL_write_12 ⟨Nat.zero_le _, Nat.zero_le _⟩ (fun H locs hP hD hS => ?_)
        show W p l e ({ frames := 3, cells := 0, slots := 0, locals := 70 } : Room) s m args below meth c H locs 0 0 Q0 (F0 m 15 ls [.int u10.1])
        refine lv_iload_n hx hb dL_write_15 rfl (lv_at hl 3 rfl) ?_
        refine lv_iconst (v := 1) hx hb dL_write_16 (by decide) ?_
        refine lv_iadd hx hb dL_write_17 ?_
        refine lv_icmp_eq (tgt := 23) hx hb dL_write_18 (by decide) (fun c12 => ?_) (fun c12 => ?_)
        · skip
          have h := (if_pos c12).symm.trans h
          refine lv_iinc (v := (z1.1 + 1)) (lv' := [(3, .int (z1.1 + 1)), (0, .ref q_p0), (1, .ref q_p1), (2, .int x2)]) hx hb dL_write_23 hl (k := 3) rfl rfl (by decide) rfl (fun ls hl => ?_)
          refine lv_goto (tgt := 2) hx hb dL_write_26 (by decide) ?_
          obtain rfl := Option.some.inj h
          exact ih ((z1.1 + 1), u10.2.1, u10.2.2) _ _ _ hn_e2 hP hD hS (lv_sub hl [1, 2, 3, 0] rfl)
        · skip
          have h := (if_neg c12).symm.trans h
          obtain rfl := Option.some.inj h
          obtain rfl := Option.some.inj hn_e2
          exact X21_4 (u10.2.1, u10.2.2) _ _ _ hc_e2 hP hD hS (lv_sub hl [] rfl)
  exact L2_7 FU (0, v_p0_page_size, v_p0_page_codes) _ _ _ he_e2 hP hD hS (lv_sub hl [1, 2, 3, 0] rfl)
def fL_add_X30_53 (v_p0 : Nat → Int32) (x2 : Int32) (x3 : Int32) (x4 : Int32) (a7 : (Nat → Int32)) : Option ((Nat → Int32) × (Nat → Int32)) :=
  some ((upd (upd (upd (upd v_p0 (1 + (v_p0 (0 : Int32).toNatClampNeg)).toNatClampNeg x2) (11 + ((upd v_p0 (1 + (v_p0 (0 : Int32).toNatClampNeg)).toNatClampNeg x2) (0 : Int32).toNatClampNeg)).toNatClampNeg x3) (21 + ((upd (upd v_p0 (1 + (v_p0 (0 : Int32).toNatClampNeg)).toNatClampNeg x2) (11 + ((upd v_p0 (1 + (v_p0 (0 : Int32).toNatClampNeg)).toNatClampNeg x2) (0 : Int32).toNatClampNeg)).toNatClampNeg x3) (0 : Int32).toNatClampNeg)).toNatClampNeg x4) (0 : Int32).toNatClampNeg (((upd (upd (upd v_p0 (1 + (v_p0 (0 : Int32).toNatClampNeg)).toNatClampNeg x2) (11 + ((upd v_p0 (1 + (v_p0 (0 : Int32).toNatClampNeg)).toNatClampNeg x2) (0 : Int32).toNatClampNeg)).toNatClampNeg x3) (21 + ((upd (upd v_p0 (1 + (v_p0 (0 : Int32).toNatClampNeg)).toNatClampNeg x2) (11 + ((upd v_p0 (1 + (v_p0 (0 : Int32).toNatClampNeg)).toNatClampNeg x2) (0 : Int32).toNatClampNeg)).toNatClampNeg x3) (0 : Int32).toNatClampNeg)).toNatClampNeg x4) (0 : Int32).toNatClampNeg) + 1)), a7)
def fL_add_L30 (n_p1 : Nat) (v_p0 : Nat → Int32) (x2 : Int32) (x3 : Int32) (x4 : Int32) (z5 : Int32 × (Nat → Int32)) : Option ((Int32 × (Nat → Int32)) ⊕ ((Nat → Int32))) :=
  if 4 ≤ z5.1 then (some (Sum.inr z5.2)) else (gd (inb ((4 * ((upd (upd (upd v_p0 (1 + (v_p0 (0 : Int32).toNatClampNeg)).toNatClampNeg x2) (11 + ((upd v_p0 (1 + (v_p0 (0 : Int32).toNatClampNeg)).toNatClampNeg x2) (0 : Int32).toNatClampNeg)).toNatClampNeg x3) (21 + ((upd (upd v_p0 (1 + (v_p0 (0 : Int32).toNatClampNeg)).toNatClampNeg x2) (11 + ((upd v_p0 (1 + (v_p0 (0 : Int32).toNatClampNeg)).toNatClampNeg x2) (0 : Int32).toNatClampNeg)).toNatClampNeg x3) (0 : Int32).toNatClampNeg)).toNatClampNeg x4) (0 : Int32).toNatClampNeg)) + z5.1) n_p1) (some (Sum.inl ((z5.1 + 1), (upd z5.2 ((4 * ((upd (upd (upd v_p0 (1 + (v_p0 (0 : Int32).toNatClampNeg)).toNatClampNeg x2) (11 + ((upd v_p0 (1 + (v_p0 (0 : Int32).toNatClampNeg)).toNatClampNeg x2) (0 : Int32).toNatClampNeg)).toNatClampNeg x3) (21 + ((upd (upd v_p0 (1 + (v_p0 (0 : Int32).toNatClampNeg)).toNatClampNeg x2) (11 + ((upd v_p0 (1 + (v_p0 (0 : Int32).toNatClampNeg)).toNatClampNeg x2) (0 : Int32).toNatClampNeg)).toNatClampNeg x3) (0 : Int32).toNatClampNeg)).toNatClampNeg x4) (0 : Int32).toNatClampNeg)) + z5.1).toNatClampNeg (-1))))))
def fL_add (n_p0 : Nat) (n_p1 : Nat) (v_p0 : Nat → Int32) (v_p1 : Nat → Int32) (x2 : Int32) (x3 : Int32) (x4 : Int32) : Option ((Nat → Int32) × (Nat → Int32)) :=
  gd (inb 0 n_p0) (gd (inb (1 + (v_p0 (0 : Int32).toNatClampNeg)) n_p0) (gd (inb (11 + ((upd v_p0 (1 + (v_p0 (0 : Int32).toNatClampNeg)).toNatClampNeg x2) (0 : Int32).toNatClampNeg)) n_p0) (gd (inb (21 + ((upd (upd v_p0 (1 + (v_p0 (0 : Int32).toNatClampNeg)).toNatClampNeg x2) (11 + ((upd v_p0 (1 + (v_p0 (0 : Int32).toNatClampNeg)).toNatClampNeg x2) (0 : Int32).toNatClampNeg)).toNatClampNeg x3) (0 : Int32).toNatClampNeg)) n_p0) ((iter (fL_add_L30 n_p1 v_p0 x2 x3 x4) FU (0, v_p1)).bind (fL_add_X30_53 v_p0 x2 x3 x4)))))
set_option maxHeartbeats 4000000 in
set_option maxRecDepth 100000 in
theorem c_L_add (l : Launch) (D : va_G) (cI cJ : ClassId) (q_p0 q_p1 : Nat) (n_p0 : Nat) (n_p1 : Nat) (v_p0 : Nat → Int32) (v_p1 : Nat → Int32) (x2 : Int32) (x3 : Int32) (x4 : Int32) (z : (Nat → Int32) × (Nat → Int32)) (h : fL_add n_p0 n_p1 v_p0 v_p1 x2 x3 x4 = some z) : Met l yL_add wsL_add ({ frames := 0, cells := 0, slots := 0, locals := 0 } : Room) (va_Pc [.ref q_p0, .ref q_p1, .int x2, .int x3, .int x4] (preG D cI cJ [(q_p0, .inl (cI, n_p0, .inl v_p0)), (q_p1, .inl (cI, n_p1, .inl v_p1))])) (QG D [(q_p0, .inl (cI, n_p0, .inl v_p0)), (q_p1, .inl (cI, n_p1, .inl v_p1))] [(q_p0, .inl (cI, n_p0, .inl z.1)), (q_p1, .inl (cI, n_p1, .inl z.2))] none) 0 0 (fr [(q_p0, .inl (cI, n_p0, .inl v_p0)), (q_p1, .inl (cI, n_p1, .inl v_p1))]) := by
  refine Met.ofW (cc := cL_add) (maxL := 6) (ret := none) (by decide) rfl ?_
  intro p e s m args below meth c s₁ B hml hv
  obtain ⟨hargs, hP, hK, hN, hD0⟩ := hv
  have hx := B.exec
  have hb := B.bytes
  have hr := B.returns
  have hts := atoms_spec (ws := wsL_add) B.pre
  have hown : s.vm.findClass RL = some m.cls := findClass_of_methodNamed B.named
  have hlocks := B.notSynchronized
  have hD := fr_D hD0
  have hS : va_S (fr [(q_p0, .inl (cI, n_p0, .inl v_p0)), (q_p1, .inl (cI, n_p1, .inl v_p1))]) s.heap s.heap [] := va_S.rf
  have hl := lv_entry ([.ref q_p0, .ref q_p1, .int x2, .int x3, .int x4]) (n := 6) (Nat.le_of_ble_eq_true rfl)
  refine W.eq (g2 := F0 m 0 ((lg_sl ([.ref q_p0, .ref q_p1, .int x2, .int x3, .int x4]) ++ List.replicate (6 - (lg_sl ([.ref q_p0, .ref q_p1, .int x2, .int x3, .int x4])).length) Slot.unset).toArray) []) (by rw [hargs, lg_entry_eq]) ?_
  generalize (lg_sl ([.ref q_p0, .ref q_p1, .int x2, .int x3, .int x4]) ++ List.replicate (6 - (lg_sl ([.ref q_p0, .ref q_p1, .int x2, .int x3, .int x4])).length) Slot.unset).toArray = ls at hl ⊢
  have hl : lv_has ls 6 [(0, .ref q_p0), (1, .ref q_p1), (2, .int x2), (3, .int x3), (4, .int x4)] := hl
  show W p l e ({ frames := 0, cells := 0, slots := 0, locals := 0 } : Room) s m args below meth c s.heap [] 0 0 (MQ below (QG D [(q_p0, .inl (cI, n_p0, .inl v_p0)), (q_p1, .inl (cI, n_p1, .inl v_p1))] [(q_p0, .inl (cI, n_p0, .inl z.1)), (q_p1, .inl (cI, n_p1, .inl z.2))] none) args s 0 0 (fr [(q_p0, .inl (cI, n_p0, .inl v_p0)), (q_p1, .inl (cI, n_p1, .inl v_p1))])) (F0 m 0 ls [])
  generalize hQ0 : (MQ below (QG D [(q_p0, .inl (cI, n_p0, .inl v_p0)), (q_p1, .inl (cI, n_p1, .inl v_p1))] [(q_p0, .inl (cI, n_p0, .inl z.1)), (q_p1, .inl (cI, n_p1, .inl z.2))] none) args s 0 0 (fr [(q_p0, .inl (cI, n_p0, .inl v_p0)), (q_p1, .inl (cI, n_p1, .inl v_p1))])) = Q0
  generalize hA0 : fr [(q_p0, .inl (cI, n_p0, .inl v_p0)), (q_p1, .inl (cI, n_p1, .inl v_p1))] = A0 at hD hS
  unfold fL_add at h
  refine lv_aload_n hx hb dL_add_0 rfl (lv_at hl 0 rfl) ?_
  refine lv_iconst (v := 1) hx hb dL_add_1 (by decide) ?_
  refine lv_aload_n hx hb dL_add_2 rfl (lv_at hl 0 rfl) ?_
  refine lv_iconst (v := 0) hx hb dL_add_3 (by decide) ?_
  obtain ⟨g1, h⟩ := gd_of h
  refine va_iald hx hb hK hP 0 0 rfl rfl (inb_of g1) dL_add_4 ?_
  refine lv_iadd hx hb dL_add_5 ?_
  refine lv_iload_n hx hb dL_add_6 rfl (lv_at hl 2 rfl) ?_
  obtain ⟨g2, h⟩ := gd_of h
  refine va_iast hx hb hK hP hD hS 0 0 rfl rfl (inb_of g2) dL_add_7 (fun H locs hP hD hS => ?_)
  have hP : va_P D vwCl [(q_p0, .inl (cI, n_p0, .inl (upd v_p0 (1 + (v_p0 (0 : Int32).toNatClampNeg)).toNatClampNeg x2))), (q_p1, .inl (cI, n_p1, .inl v_p1))] H := hP
  have hD : va_D A0 [(q_p0, .inl (cI, n_p0, .inl (upd v_p0 (1 + (v_p0 (0 : Int32).toNatClampNeg)).toNatClampNeg x2))), (q_p1, .inl (cI, n_p1, .inl v_p1))] := hD
  refine lv_aload_n hx hb dL_add_8 rfl (lv_at hl 0 rfl) ?_
  refine lv_bipush (v := 11) hx hb dL_add_9 (by decide) ?_
  refine lv_aload_n hx hb dL_add_11 rfl (lv_at hl 0 rfl) ?_
  refine lv_iconst (v := 0) hx hb dL_add_12 (by decide) ?_
  refine va_iald hx hb hK hP 0 0 rfl rfl (inb_of g1) dL_add_13 ?_
  refine lv_iadd hx hb dL_add_14 ?_
  refine lv_iload_n hx hb dL_add_15 rfl (lv_at hl 3 rfl) ?_
  obtain ⟨g3, h⟩ := gd_of h
  refine va_iast hx hb hK hP hD hS 0 0 rfl rfl (inb_of g3) dL_add_16 (fun H locs hP hD hS => ?_)
  have hP : va_P D vwCl [(q_p0, .inl (cI, n_p0, .inl (upd (upd v_p0 (1 + (v_p0 (0 : Int32).toNatClampNeg)).toNatClampNeg x2) (11 + ((upd v_p0 (1 + (v_p0 (0 : Int32).toNatClampNeg)).toNatClampNeg x2) (0 : Int32).toNatClampNeg)).toNatClampNeg x3))), (q_p1, .inl (cI, n_p1, .inl v_p1))] H := hP
  have hD : va_D A0 [(q_p0, .inl (cI, n_p0, .inl (upd (upd v_p0 (1 + (v_p0 (0 : Int32).toNatClampNeg)).toNatClampNeg x2) (11 + ((upd v_p0 (1 + (v_p0 (0 : Int32).toNatClampNeg)).toNatClampNeg x2) (0 : Int32).toNatClampNeg)).toNatClampNeg x3))), (q_p1, .inl (cI, n_p1, .inl v_p1))] := hD
  refine lv_aload_n hx hb dL_add_17 rfl (lv_at hl 0 rfl) ?_
  refine lv_bipush (v := 21) hx hb dL_add_18 (by decide) ?_
  refine lv_aload_n hx hb dL_add_20 rfl (lv_at hl 0 rfl) ?_
  refine lv_iconst (v := 0) hx hb dL_add_21 (by decide) ?_
  refine va_iald hx hb hK hP 0 0 rfl rfl (inb_of g1) dL_add_22 ?_
  refine lv_iadd hx hb dL_add_23 ?_
  refine lv_iload hx hb dL_add_24 (lv_at hl 4 rfl) ?_
  obtain ⟨g4, h⟩ := gd_of h
  refine va_iast hx hb hK hP hD hS 0 0 rfl rfl (inb_of g4) dL_add_26 (fun H locs hP hD hS => ?_)
  have hP : va_P D vwCl [(q_p0, .inl (cI, n_p0, .inl (upd (upd (upd v_p0 (1 + (v_p0 (0 : Int32).toNatClampNeg)).toNatClampNeg x2) (11 + ((upd v_p0 (1 + (v_p0 (0 : Int32).toNatClampNeg)).toNatClampNeg x2) (0 : Int32).toNatClampNeg)).toNatClampNeg x3) (21 + ((upd (upd v_p0 (1 + (v_p0 (0 : Int32).toNatClampNeg)).toNatClampNeg x2) (11 + ((upd v_p0 (1 + (v_p0 (0 : Int32).toNatClampNeg)).toNatClampNeg x2) (0 : Int32).toNatClampNeg)).toNatClampNeg x3) (0 : Int32).toNatClampNeg)).toNatClampNeg x4))), (q_p1, .inl (cI, n_p1, .inl v_p1))] H := hP
  have hD : va_D A0 [(q_p0, .inl (cI, n_p0, .inl (upd (upd (upd v_p0 (1 + (v_p0 (0 : Int32).toNatClampNeg)).toNatClampNeg x2) (11 + ((upd v_p0 (1 + (v_p0 (0 : Int32).toNatClampNeg)).toNatClampNeg x2) (0 : Int32).toNatClampNeg)).toNatClampNeg x3) (21 + ((upd (upd v_p0 (1 + (v_p0 (0 : Int32).toNatClampNeg)).toNatClampNeg x2) (11 + ((upd v_p0 (1 + (v_p0 (0 : Int32).toNatClampNeg)).toNatClampNeg x2) (0 : Int32).toNatClampNeg)).toNatClampNeg x3) (0 : Int32).toNatClampNeg)).toNatClampNeg x4))), (q_p1, .inl (cI, n_p1, .inl v_p1))] := hD
  refine lv_iconst (v := 0) hx hb dL_add_27 (by decide) ?_
  refine lv_istore (lv' := [(5, .int 0), (0, .ref q_p0), (1, .ref q_p1), (2, .int x2), (3, .int x3), (4, .int x4)]) hx hb dL_add_28 hl (by decide) rfl (fun ls hl => ?_)
  obtain ⟨e6, he_e6, hc_e6⟩ := bd_of h
  have X53_8 : ∀ (a7 : (Nat → Int32)) (H : Heap) (locs : List Loc) (ls : Array Slot), fL_add_X30_53 v_p0 x2 x3 x4 a7 = some z → va_P D vwCl [(q_p0, .inl (cI, n_p0, .inl (upd (upd (upd v_p0 (1 + (v_p0 (0 : Int32).toNatClampNeg)).toNatClampNeg x2) (11 + ((upd v_p0 (1 + (v_p0 (0 : Int32).toNatClampNeg)).toNatClampNeg x2) (0 : Int32).toNatClampNeg)).toNatClampNeg x3) (21 + ((upd (upd v_p0 (1 + (v_p0 (0 : Int32).toNatClampNeg)).toNatClampNeg x2) (11 + ((upd v_p0 (1 + (v_p0 (0 : Int32).toNatClampNeg)).toNatClampNeg x2) (0 : Int32).toNatClampNeg)).toNatClampNeg x3) (0 : Int32).toNatClampNeg)).toNatClampNeg x4))), (q_p1, .inl (cI, n_p1, .inl a7))] H → va_D A0 [(q_p0, .inl (cI, n_p0, .inl (upd (upd (upd v_p0 (1 + (v_p0 (0 : Int32).toNatClampNeg)).toNatClampNeg x2) (11 + ((upd v_p0 (1 + (v_p0 (0 : Int32).toNatClampNeg)).toNatClampNeg x2) (0 : Int32).toNatClampNeg)).toNatClampNeg x3) (21 + ((upd (upd v_p0 (1 + (v_p0 (0 : Int32).toNatClampNeg)).toNatClampNeg x2) (11 + ((upd v_p0 (1 + (v_p0 (0 : Int32).toNatClampNeg)).toNatClampNeg x2) (0 : Int32).toNatClampNeg)).toNatClampNeg x3) (0 : Int32).toNatClampNeg)).toNatClampNeg x4))), (q_p1, .inl (cI, n_p1, .inl a7))] → va_S A0 s.heap H locs → lv_has ls 6 [(0, .ref q_p0)] → W p l e ({ frames := 0, cells := 0, slots := 0, locals := 0 } : Room) s m args below meth c H locs 0 0 Q0 (F0 m 53 ls []) := by
    intro a7 H locs ls h hP hD hS hl
    unfold fL_add_X30_53 at h
    refine lv_aload_n hx hb dL_add_53 rfl (lv_at hl 0 rfl) ?_
    refine lv_iconst (v := 0) hx hb dL_add_54 (by decide) ?_
    refine lv_dup2_11 hx hb dL_add_55 rfl rfl ?_
    refine va_iald hx hb hK hP 0 0 rfl rfl (inb_of g1) dL_add_56 ?_
    refine lv_iconst (v := 1) hx hb dL_add_57 (by decide) ?_
    refine lv_iadd hx hb dL_add_58 ?_
    refine va_iast hx hb hK hP hD hS 0 0 rfl rfl (inb_of g1) dL_add_59 (fun H locs hP hD hS => ?_)
    have hP : va_P D vwCl [(q_p0, .inl (cI, n_p0, .inl (upd (upd (upd (upd v_p0 (1 + (v_p0 (0 : Int32).toNatClampNeg)).toNatClampNeg x2) (11 + ((upd v_p0 (1 + (v_p0 (0 : Int32).toNatClampNeg)).toNatClampNeg x2) (0 : Int32).toNatClampNeg)).toNatClampNeg x3) (21 + ((upd (upd v_p0 (1 + (v_p0 (0 : Int32).toNatClampNeg)).toNatClampNeg x2) (11 + ((upd v_p0 (1 + (v_p0 (0 : Int32).toNatClampNeg)).toNatClampNeg x2) (0 : Int32).toNatClampNeg)).toNatClampNeg x3) (0 : Int32).toNatClampNeg)).toNatClampNeg x4) (0 : Int32).toNatClampNeg (((upd (upd (upd v_p0 (1 + (v_p0 (0 : Int32).toNatClampNeg)).toNatClampNeg x2) (11 + ((upd v_p0 (1 + (v_p0 (0 : Int32).toNatClampNeg)).toNatClampNeg x2) (0 : Int32).toNatClampNeg)).toNatClampNeg x3) (21 + ((upd (upd v_p0 (1 + (v_p0 (0 : Int32).toNatClampNeg)).toNatClampNeg x2) (11 + ((upd v_p0 (1 + (v_p0 (0 : Int32).toNatClampNeg)).toNatClampNeg x2) (0 : Int32).toNatClampNeg)).toNatClampNeg x3) (0 : Int32).toNatClampNeg)).toNatClampNeg x4) (0 : Int32).toNatClampNeg) + 1)))), (q_p1, .inl (cI, n_p1, .inl a7))] H := hP
    have hD : va_D A0 [(q_p0, .inl (cI, n_p0, .inl (upd (upd (upd (upd v_p0 (1 + (v_p0 (0 : Int32).toNatClampNeg)).toNatClampNeg x2) (11 + ((upd v_p0 (1 + (v_p0 (0 : Int32).toNatClampNeg)).toNatClampNeg x2) (0 : Int32).toNatClampNeg)).toNatClampNeg x3) (21 + ((upd (upd v_p0 (1 + (v_p0 (0 : Int32).toNatClampNeg)).toNatClampNeg x2) (11 + ((upd v_p0 (1 + (v_p0 (0 : Int32).toNatClampNeg)).toNatClampNeg x2) (0 : Int32).toNatClampNeg)).toNatClampNeg x3) (0 : Int32).toNatClampNeg)).toNatClampNeg x4) (0 : Int32).toNatClampNeg (((upd (upd (upd v_p0 (1 + (v_p0 (0 : Int32).toNatClampNeg)).toNatClampNeg x2) (11 + ((upd v_p0 (1 + (v_p0 (0 : Int32).toNatClampNeg)).toNatClampNeg x2) (0 : Int32).toNatClampNeg)).toNatClampNeg x3) (21 + ((upd (upd v_p0 (1 + (v_p0 (0 : Int32).toNatClampNeg)).toNatClampNeg x2) (11 + ((upd v_p0 (1 + (v_p0 (0 : Int32).toNatClampNeg)).toNatClampNeg x2) (0 : Int32).toNatClampNeg)).toNatClampNeg x3) (0 : Int32).toNatClampNeg)).toNatClampNeg x4) (0 : Int32).toNatClampNeg) + 1)))), (q_p1, .inl (cI, n_p1, .inl a7))] := hD
    obtain rfl := Option.some.inj h
    exact rt_v hA0 hQ0 hx hb hr hlocks hP hS dL_add_60
  have L30_9 : ∀ (n : Nat) (z5 : Int32 × (Nat → Int32)) (H : Heap) (locs : List Loc) (ls : Array Slot), iter (fL_add_L30 n_p1 v_p0 x2 x3 x4) n z5 = some e6 → va_P D vwCl [(q_p0, .inl (cI, n_p0, .inl (upd (upd (upd v_p0 (1 + (v_p0 (0 : Int32).toNatClampNeg)).toNatClampNeg x2) (11 + ((upd v_p0 (1 + (v_p0 (0 : Int32).toNatClampNeg)).toNatClampNeg x2) (0 : Int32).toNatClampNeg)).toNatClampNeg x3) (21 + ((upd (upd v_p0 (1 + (v_p0 (0 : Int32).toNatClampNeg)).toNatClampNeg x2) (11 + ((upd v_p0 (1 + (v_p0 (0 : Int32).toNatClampNeg)).toNatClampNeg x2) (0 : Int32).toNatClampNeg)).toNatClampNeg x3) (0 : Int32).toNatClampNeg)).toNatClampNeg x4))), (q_p1, .inl (cI, n_p1, .inl z5.2))] H → va_D A0 [(q_p0, .inl (cI, n_p0, .inl (upd (upd (upd v_p0 (1 + (v_p0 (0 : Int32).toNatClampNeg)).toNatClampNeg x2) (11 + ((upd v_p0 (1 + (v_p0 (0 : Int32).toNatClampNeg)).toNatClampNeg x2) (0 : Int32).toNatClampNeg)).toNatClampNeg x3) (21 + ((upd (upd v_p0 (1 + (v_p0 (0 : Int32).toNatClampNeg)).toNatClampNeg x2) (11 + ((upd v_p0 (1 + (v_p0 (0 : Int32).toNatClampNeg)).toNatClampNeg x2) (0 : Int32).toNatClampNeg)).toNatClampNeg x3) (0 : Int32).toNatClampNeg)).toNatClampNeg x4))), (q_p1, .inl (cI, n_p1, .inl z5.2))] → va_S A0 s.heap H locs → lv_has ls 6 [(0, .ref q_p0), (1, .ref q_p1), (5, .int z5.1)] → W p l e ({ frames := 0, cells := 0, slots := 0, locals := 0 } : Room) s m args below meth c H locs 0 0 Q0 (F0 m 30 ls []) := by
    intro n
    induction n with
    | zero => exact fun _ _ _ _ h => (iter_z h).elim
    | succ n ih =>
      intro z5 H locs ls h hP hD hS hl
      obtain ⟨r_e6, h, hn_e6⟩ := iter_s h
      unfold fL_add_L30 at h
      refine lv_iload hx hb dL_add_30 (lv_at hl 2 rfl) ?_
      refine lv_iconst (v := 4) hx hb dL_add_32 (by decide) ?_
      refine lv_icmp_ge (tgt := 53) hx hb dL_add_33 (by decide) (fun c10 => ?_) (fun c10 => ?_)
      · skip
        have h := (if_pos c10).symm.trans h
        obtain rfl := Option.some.inj h
        obtain rfl := Option.some.inj hn_e6
        exact X53_8 z5.2 _ _ _ hc_e6 hP hD hS (lv_sub hl [0] rfl)
      · skip
        have h := (if_neg c10).symm.trans h
        refine lv_aload_n hx hb dL_add_36 rfl (lv_at hl 1 rfl) ?_
        refine lv_iconst (v := 4) hx hb dL_add_37 (by decide) ?_
        refine lv_aload_n hx hb dL_add_38 rfl (lv_at hl 0 rfl) ?_
        refine lv_iconst (v := 0) hx hb dL_add_39 (by decide) ?_
        refine va_iald hx hb hK hP 0 0 rfl rfl (inb_of g1) dL_add_40 ?_
        refine lv_imul hx hb dL_add_41 ?_
        refine lv_iload hx hb dL_add_42 (lv_at hl 2 rfl) ?_
        refine lv_iadd hx hb dL_add_44 ?_
        refine lv_iconst (v := (-1)) hx hb dL_add_45 (by decide) ?_
        obtain ⟨g11, h⟩ := gd_of h
        refine va_iast hx hb hK hP hD hS 1 0 rfl rfl (inb_of g11) dL_add_46 (fun H locs hP hD hS => ?_)
        have hP : va_P D vwCl [(q_p0, .inl (cI, n_p0, .inl (upd (upd (upd v_p0 (1 + (v_p0 (0 : Int32).toNatClampNeg)).toNatClampNeg x2) (11 + ((upd v_p0 (1 + (v_p0 (0 : Int32).toNatClampNeg)).toNatClampNeg x2) (0 : Int32).toNatClampNeg)).toNatClampNeg x3) (21 + ((upd (upd v_p0 (1 + (v_p0 (0 : Int32).toNatClampNeg)).toNatClampNeg x2) (11 + ((upd v_p0 (1 + (v_p0 (0 : Int32).toNatClampNeg)).toNatClampNeg x2) (0 : Int32).toNatClampNeg)).toNatClampNeg x3) (0 : Int32).toNatClampNeg)).toNatClampNeg x4))), (q_p1, .inl (cI, n_p1, .inl (upd z5.2 ((4 * ((upd (upd (upd v_p0 (1 + (v_p0 (0 : Int32).toNatClampNeg)).toNatClampNeg x2) (11 + ((upd v_p0 (1 + (v_p0 (0 : Int32).toNatClampNeg)).toNatClampNeg x2) (0 : Int32).toNatClampNeg)).toNatClampNeg x3) (21 + ((upd (upd v_p0 (1 + (v_p0 (0 : Int32).toNatClampNeg)).toNatClampNeg x2) (11 + ((upd v_p0 (1 + (v_p0 (0 : Int32).toNatClampNeg)).toNatClampNeg x2) (0 : Int32).toNatClampNeg)).toNatClampNeg x3) (0 : Int32).toNatClampNeg)).toNatClampNeg x4) (0 : Int32).toNatClampNeg)) + z5.1).toNatClampNeg (-1))))] H := hP
        have hD : va_D A0 [(q_p0, .inl (cI, n_p0, .inl (upd (upd (upd v_p0 (1 + (v_p0 (0 : Int32).toNatClampNeg)).toNatClampNeg x2) (11 + ((upd v_p0 (1 + (v_p0 (0 : Int32).toNatClampNeg)).toNatClampNeg x2) (0 : Int32).toNatClampNeg)).toNatClampNeg x3) (21 + ((upd (upd v_p0 (1 + (v_p0 (0 : Int32).toNatClampNeg)).toNatClampNeg x2) (11 + ((upd v_p0 (1 + (v_p0 (0 : Int32).toNatClampNeg)).toNatClampNeg x2) (0 : Int32).toNatClampNeg)).toNatClampNeg x3) (0 : Int32).toNatClampNeg)).toNatClampNeg x4))), (q_p1, .inl (cI, n_p1, .inl (upd z5.2 ((4 * ((upd (upd (upd v_p0 (1 + (v_p0 (0 : Int32).toNatClampNeg)).toNatClampNeg x2) (11 + ((upd v_p0 (1 + (v_p0 (0 : Int32).toNatClampNeg)).toNatClampNeg x2) (0 : Int32).toNatClampNeg)).toNatClampNeg x3) (21 + ((upd (upd v_p0 (1 + (v_p0 (0 : Int32).toNatClampNeg)).toNatClampNeg x2) (11 + ((upd v_p0 (1 + (v_p0 (0 : Int32).toNatClampNeg)).toNatClampNeg x2) (0 : Int32).toNatClampNeg)).toNatClampNeg x3) (0 : Int32).toNatClampNeg)).toNatClampNeg x4) (0 : Int32).toNatClampNeg)) + z5.1).toNatClampNeg (-1))))] := hD
        refine lv_iinc (v := (z5.1 + 1)) (lv' := [(5, .int (z5.1 + 1)), (0, .ref q_p0), (1, .ref q_p1)]) hx hb dL_add_47 hl (k := 2) rfl rfl (by decide) rfl (fun ls hl => ?_)
        refine lv_goto (tgt := 30) hx hb dL_add_50 (by decide) ?_
        obtain rfl := Option.some.inj h
        exact ih ((z5.1 + 1), (upd z5.2 ((4 * ((upd (upd (upd v_p0 (1 + (v_p0 (0 : Int32).toNatClampNeg)).toNatClampNeg x2) (11 + ((upd v_p0 (1 + (v_p0 (0 : Int32).toNatClampNeg)).toNatClampNeg x2) (0 : Int32).toNatClampNeg)).toNatClampNeg x3) (21 + ((upd (upd v_p0 (1 + (v_p0 (0 : Int32).toNatClampNeg)).toNatClampNeg x2) (11 + ((upd v_p0 (1 + (v_p0 (0 : Int32).toNatClampNeg)).toNatClampNeg x2) (0 : Int32).toNatClampNeg)).toNatClampNeg x3) (0 : Int32).toNatClampNeg)).toNatClampNeg x4) (0 : Int32).toNatClampNeg)) + z5.1).toNatClampNeg (-1))) _ _ _ hn_e6 hP hD hS (lv_sub hl [1, 2, 0] rfl)
  exact L30_9 FU (0, v_p1) _ _ _ he_e6 hP hD hS (lv_sub hl [1, 2, 0] rfl)
def fL_book_X115_154 (u5 : Int32 × Int32 × (Nat → Int32)) (u13 : Int32 × Int32 × (Nat → Int32) × (Nat → Int32) × (Nat → Int32) × (Nat → Int32) × Int32) (a18 : (Nat → Int32) × (Nat → Int32)) : Option (Int32 × Int32 × (Nat → Int32) × (Nat → Int32) × (Nat → Int32) × (Nat → Int32) × Int32 × (Nat → Int32) × (Nat → Int32) × (Nat → Int32)) :=
  some (1, u13.2.1, u13.2.2.1, u13.2.2.2.1, u13.2.2.2.2.1, u13.2.2.2.2.2.1, u13.2.2.2.2.2.2, u5.2.2, a18.1, a18.2)
def fL_book_L115 (n_p4 : Nat) (n_p5 : Nat) (u1 : Int32 × (Nat → Int32) × (Nat → Int32)) (u3 : Int32) (z16 : Int32 × (Nat → Int32) × (Nat → Int32)) : Option ((Int32 × (Nat → Int32) × (Nat → Int32)) ⊕ ((Nat → Int32) × (Nat → Int32))) :=
  if (u1.2.1 (0 : Int32).toNatClampNeg) ≤ z16.1 then (some (Sum.inr (z16.2.1, z16.2.2))) else (gd (inb (1 + z16.1) 21) (gd (inb (11 + z16.1) 21) ((fL_add n_p4 n_p5 z16.2.1 z16.2.2 (u1.2.1 (1 + z16.1).toNatClampNeg) (u1.2.1 (11 + z16.1).toNatClampNeg) u3).bind (fun u24 => some (Sum.inl ((z16.1 + 1), u24.1, u24.2))))))
def fL_book (n_p4 : Nat) (n_p5 : Nat) (v_p0_isKept : Int32) (v_p0_now_size : Int32) (v_p0_now_lostByHands : Int32) (v_p0_now_lostByMould : Int32) (v_p0_now_kinds : Nat → Int32) (v_p0_now_leaflets : Nat → Int32) (v_p0_now_owners : Nat → Int32) (v_p0_now_tears : Nat → Int32) (v_p0_page_size : Int32) (v_p0_page_codes : Nat → Int32) (v_p4 : Nat → Int32) (v_p5 : Nat → Int32) (x1 : Int32) (x2 : Int32) (x3 : Int32) : Option (Int32 × Int32 × (Nat → Int32) × (Nat → Int32) × (Nat → Int32) × (Nat → Int32) × Int32 × (Nat → Int32) × (Nat → Int32) × (Nat → Int32)) :=
  (fL_bookText 21 20 (fun _ => 0) (fun _ => 0) x1 x2 x3).bind (fun u1 => (fL_at (x1 >>> (22 &&& 31)) 6).bind (fun u3 => (fL_write 20 v_p0_isKept v_p0_page_size v_p0_page_codes u1.2.2 u1.1).bind (fun u5 => if u5.1 = 0 then (some (0, v_p0_now_size, v_p0_now_kinds, v_p0_now_leaflets, v_p0_now_owners, v_p0_now_tears, u5.2.1, u5.2.2, v_p4, v_p5)) else ((fX10_fault v_p0_isKept u5.2.1 u5.2.2).bind (fun u8 => if u8 = u1.1 then (gd (inb 0 n_p4) (if ((v_p4 (0 : Int32).toNatClampNeg) + (u1.2.1 (0 : Int32).toNatClampNeg)) ≤ 10 then ((fX10_book v_p0_isKept v_p0_now_size v_p0_now_lostByHands v_p0_now_lostByMould v_p0_now_kinds v_p0_now_leaflets v_p0_now_owners v_p0_now_tears u5.2.1 u5.2.2 u3).bind (fun u13 => if u13.1 = (u1.2.1 (0 : Int32).toNatClampNeg) then ((iter (fL_book_L115 n_p4 n_p5 u1 u3) FU (0, v_p4, v_p5)).bind (fL_book_X115_154 u5 u13)) else (some (0, u13.2.1, u13.2.2.1, u13.2.2.2.1, u13.2.2.2.2.1, u13.2.2.2.2.2.1, u13.2.2.2.2.2.2, u5.2.2, v_p4, v_p5)))) else ((fX10_book v_p0_isKept v_p0_now_size v_p0_now_lostByHands v_p0_now_lostByMould v_p0_now_kinds v_p0_now_leaflets v_p0_now_owners v_p0_now_tears u5.2.1 u5.2.2 u3).bind (fun u26 => if u26.1 = (-104) then ((fX10_blank v_p0_isKept u26.2.2.2.2.2.2).bind (fun u29 => if u29.1 = u1.1 then (some (1, u26.2.1, u26.2.2.1, u26.2.2.2.1, u26.2.2.2.2.1, u26.2.2.2.2.2.1, u29.2, u5.2.2, v_p4, v_p5)) else (some (0, u26.2.1, u26.2.2.1, u26.2.2.2.1, u26.2.2.2.2.1, u26.2.2.2.2.2.1, u29.2, u5.2.2, v_p4, v_p5)))) else (some (0, u26.2.1, u26.2.2.1, u26.2.2.2.1, u26.2.2.2.2.1, u26.2.2.2.2.2.1, u26.2.2.2.2.2.2, u5.2.2, v_p4, v_p5)))))) else (some (0, v_p0_now_size, v_p0_now_kinds, v_p0_now_leaflets, v_p0_now_owners, v_p0_now_tears, u5.2.1, u5.2.2, v_p4, v_p5)))))))
set_option maxHeartbeats 4000000 in
set_option maxRecDepth 100000 in
theorem c_L_book (l : Launch) (D : va_G) (cI cJ : ClassId) (sz : Nat) (q_p0 q_p0_now q_p0_now_kinds q_p0_now_leaflets q_p0_now_owners q_p0_now_tears q_p0_now_debts q_p0_kept q_p0_tried q_p0_page q_p0_page_codes q_p0_purse q_p0_rings q_p0_groups q_p0_chances q_p0_ways q_p0_draws q_p4 q_p5 : Nat) (n_p4 : Nat) (n_p5 : Nat) (v_p0_isKept : Int32) (v_p0_now_size : Int32) (v_p0_now_lostByHands : Int32) (v_p0_now_lostByMould : Int32) (v_p0_now_kinds : Nat → Int32) (v_p0_now_leaflets : Nat → Int32) (v_p0_now_owners : Nat → Int32) (v_p0_now_tears : Nat → Int32) (v_p0_page_size : Int32) (v_p0_page_codes : Nat → Int32) (v_p4 : Nat → Int32) (v_p5 : Nat → Int32) (x1 : Int32) (x2 : Int32) (x3 : Int32) (z : Int32 × Int32 × (Nat → Int32) × (Nat → Int32) × (Nat → Int32) × (Nat → Int32) × Int32 × (Nat → Int32) × (Nat → Int32) × (Nat → Int32)) (h : fL_book n_p4 n_p5 v_p0_isKept v_p0_now_size v_p0_now_lostByHands v_p0_now_lostByMould v_p0_now_kinds v_p0_now_leaflets v_p0_now_owners v_p0_now_tears v_p0_page_size v_p0_page_codes v_p4 v_p5 x1 x2 x3 = some z) : Met l yL_book wsL_book ({ frames := 4, cells := 2, slots := 41, locals := 93 } : Room) (va_Pc [.ref q_p0, .int x1, .int x2, .int x3, .ref q_p4, .ref q_p5] (preA D cI cJ sz [(q_p0, .inr (9, [.ref q_p0_now, .ref q_p0_kept, .ref q_p0_tried, .int v_p0_isKept, .ref q_p0_page, .ref q_p0_purse, .ref q_p0_rings, .ref q_p0_groups, .ref q_p0_chances, .ref q_p0_ways, .ref q_p0_draws])), (q_p0_now, .inr (4, [.ref q_p0_now_kinds, .ref q_p0_now_leaflets, .ref q_p0_now_owners, .ref q_p0_now_tears, .ref q_p0_now_debts, .int v_p0_now_size, .int v_p0_now_lostByHands, .int v_p0_now_lostByMould])), (q_p0_now_kinds, .inl (cI, 10, .inl v_p0_now_kinds)), (q_p0_now_leaflets, .inl (cI, 10, .inl v_p0_now_leaflets)), (q_p0_now_owners, .inl (cI, 10, .inl v_p0_now_owners)), (q_p0_now_tears, .inl (cI, 40, .inl v_p0_now_tears)), (q_p0_page, .inr (5, [.ref q_p0_page_codes, .int v_p0_page_size])), (q_p0_page_codes, .inl (cI, 22, .inl v_p0_page_codes)), (q_p4, .inl (cI, n_p4, .inl v_p4)), (q_p5, .inl (cI, n_p5, .inl v_p5))])) (QA D [(q_p0, .inr (9, [.ref q_p0_now, .ref q_p0_kept, .ref q_p0_tried, .int v_p0_isKept, .ref q_p0_page, .ref q_p0_purse, .ref q_p0_rings, .ref q_p0_groups, .ref q_p0_chances, .ref q_p0_ways, .ref q_p0_draws])), (q_p0_now, .inr (4, [.ref q_p0_now_kinds, .ref q_p0_now_leaflets, .ref q_p0_now_owners, .ref q_p0_now_tears, .ref q_p0_now_debts, .int v_p0_now_size, .int v_p0_now_lostByHands, .int v_p0_now_lostByMould])), (q_p0_now_kinds, .inl (cI, 10, .inl v_p0_now_kinds)), (q_p0_now_leaflets, .inl (cI, 10, .inl v_p0_now_leaflets)), (q_p0_now_owners, .inl (cI, 10, .inl v_p0_now_owners)), (q_p0_now_tears, .inl (cI, 40, .inl v_p0_now_tears)), (q_p0_page, .inr (5, [.ref q_p0_page_codes, .int v_p0_page_size])), (q_p0_page_codes, .inl (cI, 22, .inl v_p0_page_codes)), (q_p4, .inl (cI, n_p4, .inl v_p4)), (q_p5, .inl (cI, n_p5, .inl v_p5))] sz [(q_p0, .inr (9, [.ref q_p0_now, .ref q_p0_kept, .ref q_p0_tried, .int v_p0_isKept, .ref q_p0_page, .ref q_p0_purse, .ref q_p0_rings, .ref q_p0_groups, .ref q_p0_chances, .ref q_p0_ways, .ref q_p0_draws])), (q_p0_now, .inr (4, [.ref q_p0_now_kinds, .ref q_p0_now_leaflets, .ref q_p0_now_owners, .ref q_p0_now_tears, .ref q_p0_now_debts, .int z.2.1, .int v_p0_now_lostByHands, .int v_p0_now_lostByMould])), (q_p0_now_kinds, .inl (cI, 10, .inl z.2.2.1)), (q_p0_now_leaflets, .inl (cI, 10, .inl z.2.2.2.1)), (q_p0_now_owners, .inl (cI, 10, .inl z.2.2.2.2.1)), (q_p0_now_tears, .inl (cI, 40, .inl z.2.2.2.2.2.1)), (q_p0_page, .inr (5, [.ref q_p0_page_codes, .int z.2.2.2.2.2.2.1])), (q_p0_page_codes, .inl (cI, 22, .inl z.2.2.2.2.2.2.2.1)), (q_p4, .inl (cI, n_p4, .inl z.2.2.2.2.2.2.2.2.1)), (q_p5, .inl (cI, n_p5, .inl z.2.2.2.2.2.2.2.2.2))] (some (.int z.1))) 2 41 (va_A [(q_p0, .inr (9, [.ref q_p0_now, .ref q_p0_kept, .ref q_p0_tried, .int v_p0_isKept, .ref q_p0_page, .ref q_p0_purse, .ref q_p0_rings, .ref q_p0_groups, .ref q_p0_chances, .ref q_p0_ways, .ref q_p0_draws])), (q_p0_now, .inr (4, [.ref q_p0_now_kinds, .ref q_p0_now_leaflets, .ref q_p0_now_owners, .ref q_p0_now_tears, .ref q_p0_now_debts, .int v_p0_now_size, .int v_p0_now_lostByHands, .int v_p0_now_lostByMould])), (q_p0_now_kinds, .inl (cI, 10, .inl v_p0_now_kinds)), (q_p0_now_leaflets, .inl (cI, 10, .inl v_p0_now_leaflets)), (q_p0_now_owners, .inl (cI, 10, .inl v_p0_now_owners)), (q_p0_now_tears, .inl (cI, 40, .inl v_p0_now_tears)), (q_p0_page, .inr (5, [.ref q_p0_page_codes, .int v_p0_page_size])), (q_p0_page_codes, .inl (cI, 22, .inl v_p0_page_codes)), (q_p4, .inl (cI, n_p4, .inl v_p4)), (q_p5, .inl (cI, n_p5, .inl v_p5))] sz) := by
  refine Met.ofW (cc := cL_book) (maxL := 11) (ret := (some .boolean)) (by decide) rfl ?_
  intro p e s m args below meth c s₁ B hml hv
  obtain ⟨hargs, hsz, hP, hK, hN, hD0⟩ := hv
  subst hsz
  have hx := B.exec
  have hb := B.bytes
  have hr := B.returns
  have hts := atoms_spec (ws := wsL_book) B.pre
  have hown : s.vm.findClass RL = some m.cls := findClass_of_methodNamed B.named
  have hlocks := B.notSynchronized
  have hD := hD0.self (sz := s.heap.size)
  have hA : ∀ q : Nat, s.heap.size ≤ q → va_A [(q_p0, .inr (9, [.ref q_p0_now, .ref q_p0_kept, .ref q_p0_tried, .int v_p0_isKept, .ref q_p0_page, .ref q_p0_purse, .ref q_p0_rings, .ref q_p0_groups, .ref q_p0_chances, .ref q_p0_ways, .ref q_p0_draws])), (q_p0_now, .inr (4, [.ref q_p0_now_kinds, .ref q_p0_now_leaflets, .ref q_p0_now_owners, .ref q_p0_now_tears, .ref q_p0_now_debts, .int v_p0_now_size, .int v_p0_now_lostByHands, .int v_p0_now_lostByMould])), (q_p0_now_kinds, .inl (cI, 10, .inl v_p0_now_kinds)), (q_p0_now_leaflets, .inl (cI, 10, .inl v_p0_now_leaflets)), (q_p0_now_owners, .inl (cI, 10, .inl v_p0_now_owners)), (q_p0_now_tears, .inl (cI, 40, .inl v_p0_now_tears)), (q_p0_page, .inr (5, [.ref q_p0_page_codes, .int v_p0_page_size])), (q_p0_page_codes, .inl (cI, 22, .inl v_p0_page_codes)), (q_p4, .inl (cI, n_p4, .inl v_p4)), (q_p5, .inl (cI, n_p5, .inl v_p5))] s.heap.size q := fun q h => Or.inr h
  have hS : va_S (va_A [(q_p0, .inr (9, [.ref q_p0_now, .ref q_p0_kept, .ref q_p0_tried, .int v_p0_isKept, .ref q_p0_page, .ref q_p0_purse, .ref q_p0_rings, .ref q_p0_groups, .ref q_p0_chances, .ref q_p0_ways, .ref q_p0_draws])), (q_p0_now, .inr (4, [.ref q_p0_now_kinds, .ref q_p0_now_leaflets, .ref q_p0_now_owners, .ref q_p0_now_tears, .ref q_p0_now_debts, .int v_p0_now_size, .int v_p0_now_lostByHands, .int v_p0_now_lostByMould])), (q_p0_now_kinds, .inl (cI, 10, .inl v_p0_now_kinds)), (q_p0_now_leaflets, .inl (cI, 10, .inl v_p0_now_leaflets)), (q_p0_now_owners, .inl (cI, 10, .inl v_p0_now_owners)), (q_p0_now_tears, .inl (cI, 40, .inl v_p0_now_tears)), (q_p0_page, .inr (5, [.ref q_p0_page_codes, .int v_p0_page_size])), (q_p0_page_codes, .inl (cI, 22, .inl v_p0_page_codes)), (q_p4, .inl (cI, n_p4, .inl v_p4)), (q_p5, .inl (cI, n_p5, .inl v_p5))] s.heap.size) s.heap s.heap [] := va_S.rf
  have hl := lv_entry ([.ref q_p0, .int x1, .int x2, .int x3, .ref q_p4, .ref q_p5]) (n := 11) (Nat.le_of_ble_eq_true rfl)
  refine W.eq (g2 := F0 m 0 ((lg_sl ([.ref q_p0, .int x1, .int x2, .int x3, .ref q_p4, .ref q_p5]) ++ List.replicate (11 - (lg_sl ([.ref q_p0, .int x1, .int x2, .int x3, .ref q_p4, .ref q_p5])).length) Slot.unset).toArray) []) (by rw [hargs, lg_entry_eq]) ?_
  generalize (lg_sl ([.ref q_p0, .int x1, .int x2, .int x3, .ref q_p4, .ref q_p5]) ++ List.replicate (11 - (lg_sl ([.ref q_p0, .int x1, .int x2, .int x3, .ref q_p4, .ref q_p5])).length) Slot.unset).toArray = ls at hl ⊢
  have hl : lv_has ls 11 [(0, .ref q_p0), (1, .int x1), (2, .int x2), (3, .int x3), (4, .ref q_p4), (5, .ref q_p5)] := hl
  show W p l e ({ frames := 4, cells := 2, slots := 41, locals := 93 } : Room) s m args below meth c s.heap [] 0 0 (MQ below (QA D [(q_p0, .inr (9, [.ref q_p0_now, .ref q_p0_kept, .ref q_p0_tried, .int v_p0_isKept, .ref q_p0_page, .ref q_p0_purse, .ref q_p0_rings, .ref q_p0_groups, .ref q_p0_chances, .ref q_p0_ways, .ref q_p0_draws])), (q_p0_now, .inr (4, [.ref q_p0_now_kinds, .ref q_p0_now_leaflets, .ref q_p0_now_owners, .ref q_p0_now_tears, .ref q_p0_now_debts, .int v_p0_now_size, .int v_p0_now_lostByHands, .int v_p0_now_lostByMould])), (q_p0_now_kinds, .inl (cI, 10, .inl v_p0_now_kinds)), (q_p0_now_leaflets, .inl (cI, 10, .inl v_p0_now_leaflets)), (q_p0_now_owners, .inl (cI, 10, .inl v_p0_now_owners)), (q_p0_now_tears, .inl (cI, 40, .inl v_p0_now_tears)), (q_p0_page, .inr (5, [.ref q_p0_page_codes, .int v_p0_page_size])), (q_p0_page_codes, .inl (cI, 22, .inl v_p0_page_codes)), (q_p4, .inl (cI, n_p4, .inl v_p4)), (q_p5, .inl (cI, n_p5, .inl v_p5))] s.heap.size [(q_p0, .inr (9, [.ref q_p0_now, .ref q_p0_kept, .ref q_p0_tried, .int v_p0_isKept, .ref q_p0_page, .ref q_p0_purse, .ref q_p0_rings, .ref q_p0_groups, .ref q_p0_chances, .ref q_p0_ways, .ref q_p0_draws])), (q_p0_now, .inr (4, [.ref q_p0_now_kinds, .ref q_p0_now_leaflets, .ref q_p0_now_owners, .ref q_p0_now_tears, .ref q_p0_now_debts, .int z.2.1, .int v_p0_now_lostByHands, .int v_p0_now_lostByMould])), (q_p0_now_kinds, .inl (cI, 10, .inl z.2.2.1)), (q_p0_now_leaflets, .inl (cI, 10, .inl z.2.2.2.1)), (q_p0_now_owners, .inl (cI, 10, .inl z.2.2.2.2.1)), (q_p0_now_tears, .inl (cI, 40, .inl z.2.2.2.2.2.1)), (q_p0_page, .inr (5, [.ref q_p0_page_codes, .int z.2.2.2.2.2.2.1])), (q_p0_page_codes, .inl (cI, 22, .inl z.2.2.2.2.2.2.2.1)), (q_p4, .inl (cI, n_p4, .inl z.2.2.2.2.2.2.2.2.1)), (q_p5, .inl (cI, n_p5, .inl z.2.2.2.2.2.2.2.2.2))] (some (.int z.1))) args s 2 41 (va_A [(q_p0, .inr (9, [.ref q_p0_now, .ref q_p0_kept, .ref q_p0_tried, .int v_p0_isKept, .ref q_p0_page, .ref q_p0_purse, .ref q_p0_rings, .ref q_p0_groups, .ref q_p0_chances, .ref q_p0_ways, .ref q_p0_draws])), (q_p0_now, .inr (4, [.ref q_p0_now_kinds, .ref q_p0_now_leaflets, .ref q_p0_now_owners, .ref q_p0_now_tears, .ref q_p0_now_debts, .int v_p0_now_size, .int v_p0_now_lostByHands, .int v_p0_now_lostByMould])), (q_p0_now_kinds, .inl (cI, 10, .inl v_p0_now_kinds)), (q_p0_now_leaflets, .inl (cI, 10, .inl v_p0_now_leaflets)), (q_p0_now_owners, .inl (cI, 10, .inl v_p0_now_owners)), (q_p0_now_tears, .inl (cI, 40, .inl v_p0_now_tears)), (q_p0_page, .inr (5, [.ref q_p0_page_codes, .int v_p0_page_size])), (q_p0_page_codes, .inl (cI, 22, .inl v_p0_page_codes)), (q_p4, .inl (cI, n_p4, .inl v_p4)), (q_p5, .inl (cI, n_p5, .inl v_p5))] s.heap.size)) (F0 m 0 ls [])
  generalize hQ0 : (MQ below (QA D [(q_p0, .inr (9, [.ref q_p0_now, .ref q_p0_kept, .ref q_p0_tried, .int v_p0_isKept, .ref q_p0_page, .ref q_p0_purse, .ref q_p0_rings, .ref q_p0_groups, .ref q_p0_chances, .ref q_p0_ways, .ref q_p0_draws])), (q_p0_now, .inr (4, [.ref q_p0_now_kinds, .ref q_p0_now_leaflets, .ref q_p0_now_owners, .ref q_p0_now_tears, .ref q_p0_now_debts, .int v_p0_now_size, .int v_p0_now_lostByHands, .int v_p0_now_lostByMould])), (q_p0_now_kinds, .inl (cI, 10, .inl v_p0_now_kinds)), (q_p0_now_leaflets, .inl (cI, 10, .inl v_p0_now_leaflets)), (q_p0_now_owners, .inl (cI, 10, .inl v_p0_now_owners)), (q_p0_now_tears, .inl (cI, 40, .inl v_p0_now_tears)), (q_p0_page, .inr (5, [.ref q_p0_page_codes, .int v_p0_page_size])), (q_p0_page_codes, .inl (cI, 22, .inl v_p0_page_codes)), (q_p4, .inl (cI, n_p4, .inl v_p4)), (q_p5, .inl (cI, n_p5, .inl v_p5))] s.heap.size [(q_p0, .inr (9, [.ref q_p0_now, .ref q_p0_kept, .ref q_p0_tried, .int v_p0_isKept, .ref q_p0_page, .ref q_p0_purse, .ref q_p0_rings, .ref q_p0_groups, .ref q_p0_chances, .ref q_p0_ways, .ref q_p0_draws])), (q_p0_now, .inr (4, [.ref q_p0_now_kinds, .ref q_p0_now_leaflets, .ref q_p0_now_owners, .ref q_p0_now_tears, .ref q_p0_now_debts, .int z.2.1, .int v_p0_now_lostByHands, .int v_p0_now_lostByMould])), (q_p0_now_kinds, .inl (cI, 10, .inl z.2.2.1)), (q_p0_now_leaflets, .inl (cI, 10, .inl z.2.2.2.1)), (q_p0_now_owners, .inl (cI, 10, .inl z.2.2.2.2.1)), (q_p0_now_tears, .inl (cI, 40, .inl z.2.2.2.2.2.1)), (q_p0_page, .inr (5, [.ref q_p0_page_codes, .int z.2.2.2.2.2.2.1])), (q_p0_page_codes, .inl (cI, 22, .inl z.2.2.2.2.2.2.2.1)), (q_p4, .inl (cI, n_p4, .inl z.2.2.2.2.2.2.2.2.1)), (q_p5, .inl (cI, n_p5, .inl z.2.2.2.2.2.2.2.2.2))] (some (.int z.1))) args s 2 41 (va_A [(q_p0, .inr (9, [.ref q_p0_now, .ref q_p0_kept, .ref q_p0_tried, .int v_p0_isKept, .ref q_p0_page, .ref q_p0_purse, .ref q_p0_rings, .ref q_p0_groups, .ref q_p0_chances, .ref q_p0_ways, .ref q_p0_draws])), (q_p0_now, .inr (4, [.ref q_p0_now_kinds, .ref q_p0_now_leaflets, .ref q_p0_now_owners, .ref q_p0_now_tears, .ref q_p0_now_debts, .int v_p0_now_size, .int v_p0_now_lostByHands, .int v_p0_now_lostByMould])), (q_p0_now_kinds, .inl (cI, 10, .inl v_p0_now_kinds)), (q_p0_now_leaflets, .inl (cI, 10, .inl v_p0_now_leaflets)), (q_p0_now_owners, .inl (cI, 10, .inl v_p0_now_owners)), (q_p0_now_tears, .inl (cI, 40, .inl v_p0_now_tears)), (q_p0_page, .inr (5, [.ref q_p0_page_codes, .int v_p0_page_size])), (q_p0_page_codes, .inl (cI, 22, .inl v_p0_page_codes)), (q_p4, .inl (cI, n_p4, .inl v_p4)), (q_p5, .inl (cI, n_p5, .inl v_p5))] s.heap.size)) = Q0
  generalize hA0 : va_A [(q_p0, .inr (9, [.ref q_p0_now, .ref q_p0_kept, .ref q_p0_tried, .int v_p0_isKept, .ref q_p0_page, .ref q_p0_purse, .ref q_p0_rings, .ref q_p0_groups, .ref q_p0_chances, .ref q_p0_ways, .ref q_p0_draws])), (q_p0_now, .inr (4, [.ref q_p0_now_kinds, .ref q_p0_now_leaflets, .ref q_p0_now_owners, .ref q_p0_now_tears, .ref q_p0_now_debts, .int v_p0_now_size, .int v_p0_now_lostByHands, .int v_p0_now_lostByMould])), (q_p0_now_kinds, .inl (cI, 10, .inl v_p0_now_kinds)), (q_p0_now_leaflets, .inl (cI, 10, .inl v_p0_now_leaflets)), (q_p0_now_owners, .inl (cI, 10, .inl v_p0_now_owners)), (q_p0_now_tears, .inl (cI, 40, .inl v_p0_now_tears)), (q_p0_page, .inr (5, [.ref q_p0_page_codes, .int v_p0_page_size])), (q_p0_page_codes, .inl (cI, 22, .inl v_p0_page_codes)), (q_p4, .inl (cI, n_p4, .inl v_p4)), (q_p5, .inl (cI, n_p5, .inl v_p5))] s.heap.size = A0 at hD hS hA
  unfold fL_book at h
  refine lv_bipush (v := 21) hx hb dL_book_0 (by decide) ?_
  refine va_newa (atype := .int) hx hb (hts (.arrayClass .int) (by decide +kernel)) rfl hK hP hD hS hA (a0 := (21, .inl (fun _ => 0))) (N' := 21) (fun _ => rfl) (by decide) (by decide) (by decide) (Nat.le_of_ble_eq_true rfl) (Nat.le_of_ble_eq_true rfl) dL_book_2 (fun q_n2 cA H hK1 hP hD hS => ?_)
  have hcA := tyI_eq hK1
  rw [hcA] at hP hD
  have hP : va_P D vwCl [(q_p0, .inr (9, [.ref q_p0_now, .ref q_p0_kept, .ref q_p0_tried, .int v_p0_isKept, .ref q_p0_page, .ref q_p0_purse, .ref q_p0_rings, .ref q_p0_groups, .ref q_p0_chances, .ref q_p0_ways, .ref q_p0_draws])), (q_p0_now, .inr (4, [.ref q_p0_now_kinds, .ref q_p0_now_leaflets, .ref q_p0_now_owners, .ref q_p0_now_tears, .ref q_p0_now_debts, .int v_p0_now_size, .int v_p0_now_lostByHands, .int v_p0_now_lostByMould])), (q_p0_now_kinds, .inl (cI, 10, .inl v_p0_now_kinds)), (q_p0_now_leaflets, .inl (cI, 10, .inl v_p0_now_leaflets)), (q_p0_now_owners, .inl (cI, 10, .inl v_p0_now_owners)), (q_p0_now_tears, .inl (cI, 40, .inl v_p0_now_tears)), (q_p0_page, .inr (5, [.ref q_p0_page_codes, .int v_p0_page_size])), (q_p0_page_codes, .inl (cI, 22, .inl v_p0_page_codes)), (q_p4, .inl (cI, n_p4, .inl v_p4)), (q_p5, .inl (cI, n_p5, .inl v_p5)), (q_n2, .inl (cI, 21, .inl (fun _ => 0)))] H := hP
  have hD : va_D A0 [(q_p0, .inr (9, [.ref q_p0_now, .ref q_p0_kept, .ref q_p0_tried, .int v_p0_isKept, .ref q_p0_page, .ref q_p0_purse, .ref q_p0_rings, .ref q_p0_groups, .ref q_p0_chances, .ref q_p0_ways, .ref q_p0_draws])), (q_p0_now, .inr (4, [.ref q_p0_now_kinds, .ref q_p0_now_leaflets, .ref q_p0_now_owners, .ref q_p0_now_tears, .ref q_p0_now_debts, .int v_p0_now_size, .int v_p0_now_lostByHands, .int v_p0_now_lostByMould])), (q_p0_now_kinds, .inl (cI, 10, .inl v_p0_now_kinds)), (q_p0_now_leaflets, .inl (cI, 10, .inl v_p0_now_leaflets)), (q_p0_now_owners, .inl (cI, 10, .inl v_p0_now_owners)), (q_p0_now_tears, .inl (cI, 40, .inl v_p0_now_tears)), (q_p0_page, .inr (5, [.ref q_p0_page_codes, .int v_p0_page_size])), (q_p0_page_codes, .inl (cI, 22, .inl v_p0_page_codes)), (q_p4, .inl (cI, n_p4, .inl v_p4)), (q_p5, .inl (cI, n_p5, .inl v_p5)), (q_n2, .inl (cI, 21, .inl (fun _ => 0)))] := hD
  refine W.widen (k := 1) (n := 21) (Nat.le_of_ble_eq_true rfl) (Nat.le_of_ble_eq_true rfl) ?_
  refine lv_astore (lv' := [(6, .ref q_n2), (0, .ref q_p0), (1, .int x1), (2, .int x2), (3, .int x3), (4, .ref q_p4), (5, .ref q_p5)]) hx hb dL_book_4 hl (by decide) rfl (fun ls hl => ?_)
  refine lv_bipush (v := 20) hx hb dL_book_6 (by decide) ?_
  refine va_newa (atype := .int) hx hb (hts (.arrayClass .int) (by decide +kernel)) rfl hK hP hD hS hA (a0 := (20, .inl (fun _ => 0))) (N' := 20) (fun _ => rfl) (by decide) (by decide) (by decide) (Nat.le_of_ble_eq_true rfl) (Nat.le_of_ble_eq_true rfl) dL_book_8 (fun q_n8 cA H hK1 hP hD hS => ?_)
  have hcA := tyI_eq hK1
  rw [hcA] at hP hD
  have hP : va_P D vwCl [(q_p0, .inr (9, [.ref q_p0_now, .ref q_p0_kept, .ref q_p0_tried, .int v_p0_isKept, .ref q_p0_page, .ref q_p0_purse, .ref q_p0_rings, .ref q_p0_groups, .ref q_p0_chances, .ref q_p0_ways, .ref q_p0_draws])), (q_p0_now, .inr (4, [.ref q_p0_now_kinds, .ref q_p0_now_leaflets, .ref q_p0_now_owners, .ref q_p0_now_tears, .ref q_p0_now_debts, .int v_p0_now_size, .int v_p0_now_lostByHands, .int v_p0_now_lostByMould])), (q_p0_now_kinds, .inl (cI, 10, .inl v_p0_now_kinds)), (q_p0_now_leaflets, .inl (cI, 10, .inl v_p0_now_leaflets)), (q_p0_now_owners, .inl (cI, 10, .inl v_p0_now_owners)), (q_p0_now_tears, .inl (cI, 40, .inl v_p0_now_tears)), (q_p0_page, .inr (5, [.ref q_p0_page_codes, .int v_p0_page_size])), (q_p0_page_codes, .inl (cI, 22, .inl v_p0_page_codes)), (q_p4, .inl (cI, n_p4, .inl v_p4)), (q_p5, .inl (cI, n_p5, .inl v_p5)), (q_n2, .inl (cI, 21, .inl (fun _ => 0))), (q_n8, .inl (cI, 20, .inl (fun _ => 0)))] H := hP
  have hD : va_D A0 [(q_p0, .inr (9, [.ref q_p0_now, .ref q_p0_kept, .ref q_p0_tried, .int v_p0_isKept, .ref q_p0_page, .ref q_p0_purse, .ref q_p0_rings, .ref q_p0_groups, .ref q_p0_chances, .ref q_p0_ways, .ref q_p0_draws])), (q_p0_now, .inr (4, [.ref q_p0_now_kinds, .ref q_p0_now_leaflets, .ref q_p0_now_owners, .ref q_p0_now_tears, .ref q_p0_now_debts, .int v_p0_now_size, .int v_p0_now_lostByHands, .int v_p0_now_lostByMould])), (q_p0_now_kinds, .inl (cI, 10, .inl v_p0_now_kinds)), (q_p0_now_leaflets, .inl (cI, 10, .inl v_p0_now_leaflets)), (q_p0_now_owners, .inl (cI, 10, .inl v_p0_now_owners)), (q_p0_now_tears, .inl (cI, 40, .inl v_p0_now_tears)), (q_p0_page, .inr (5, [.ref q_p0_page_codes, .int v_p0_page_size])), (q_p0_page_codes, .inl (cI, 22, .inl v_p0_page_codes)), (q_p4, .inl (cI, n_p4, .inl v_p4)), (q_p5, .inl (cI, n_p5, .inl v_p5)), (q_n2, .inl (cI, 21, .inl (fun _ => 0))), (q_n8, .inl (cI, 20, .inl (fun _ => 0)))] := hD
  refine W.widen (k := 2) (n := 41) (Nat.le_of_ble_eq_true rfl) (Nat.le_of_ble_eq_true rfl) ?_
  refine lv_astore (lv' := [(7, .ref q_n8), (6, .ref q_n2), (0, .ref q_p0), (1, .int x1), (2, .int x2), (3, .int x3), (4, .ref q_p4), (5, .ref q_p5)]) hx hb dL_book_10 hl (by decide) rfl (fun ls hl => ?_)
  refine lv_iload_n hx hb dL_book_12 rfl (lv_at hl 3 rfl) ?_
  refine lv_iload_n hx hb dL_book_13 rfl (lv_at hl 4 rfl) ?_
  refine lv_iload_n hx hb dL_book_14 rfl (lv_at hl 5 rfl) ?_
  refine lv_aload hx hb dL_book_15 (lv_at hl 1 rfl) ?_
  refine lv_aload hx hb dL_book_17 (lv_at hl 0 rfl) ?_
  obtain ⟨u1, g2, h⟩ := bd_of h
  refine cl_S [(q_p0, .inr (9, [.ref q_p0_now, .ref q_p0_kept, .ref q_p0_tried, .int v_p0_isKept, .ref q_p0_page, .ref q_p0_purse, .ref q_p0_rings, .ref q_p0_groups, .ref q_p0_chances, .ref q_p0_ways, .ref q_p0_draws])), (q_p0_now, .inr (4, [.ref q_p0_now_kinds, .ref q_p0_now_leaflets, .ref q_p0_now_owners, .ref q_p0_now_tears, .ref q_p0_now_debts, .int v_p0_now_size, .int v_p0_now_lostByHands, .int v_p0_now_lostByMould])), (q_p0_now_kinds, .inl (cI, 10, .inl v_p0_now_kinds)), (q_p0_now_leaflets, .inl (cI, 10, .inl v_p0_now_leaflets)), (q_p0_now_owners, .inl (cI, 10, .inl v_p0_now_owners)), (q_p0_now_tears, .inl (cI, 40, .inl v_p0_now_tears)), (q_p0_page, .inr (5, [.ref q_p0_page_codes, .int v_p0_page_size])), (q_p0_page_codes, .inl (cI, 22, .inl v_p0_page_codes)), (q_p4, .inl (cI, n_p4, .inl v_p4)), (q_p5, .inl (cI, n_p5, .inl v_p5)), (q_n2, .inl (cI, 21, .inl u1.2.1)), (q_n8, .inl (cI, 20, .inl u1.2.2))] (As := [.int x1, .int x2, .int x3, .ref q_n2, .ref q_n8]) (rest := []) (rv := (some (.int u1.1))) (c_L_bookText l D cI cJ q_n2 q_n8 21 20 (fun _ => 0) (fun _ => 0) x1 x2 x3 u1 g2) ⟨hx, hb, hml, hown, hts⟩ (va_cwS 5 hts gL_book_L_bookText rfl rfl rfl (by decide +kernel) ⟨(Nat.le_of_ble_eq_true rfl), (Nat.le_of_ble_eq_true rfl)⟩) hK hN hP hD hS [10, 11] rfl (by decide) rfl rfl rfl rfl hl.1 rfl (Nat.le_of_ble_eq_true rfl) dL_book_19 ⟨Nat.le_of_ble_eq_true rfl, Nat.le_of_ble_eq_true rfl⟩ (fun H locs hP hD hS => ?_)
  show W p l e ({ frames := 4, cells := 2, slots := 41, locals := 93 } : Room) s m args below meth c H locs 2 41 Q0 (F0 m 22 ls [.int u1.1])
  refine lv_istore (lv' := [(8, .int u1.1), (7, .ref q_n8), (6, .ref q_n2), (0, .ref q_p0), (1, .int x1), (2, .int x2), (3, .int x3), (4, .ref q_p4), (5, .ref q_p5)]) hx hb dL_book_22 hl (by decide) rfl (fun ls hl => ?_)
  refine lv_iload_n hx hb dL_book_24 rfl (lv_at hl 4 rfl) ?_
  refine lv_bipush (v := 22) hx hb dL_book_25 (by decide) ?_
  refine lv_ishr hx hb dL_book_27 ?_
  refine lv_bipush (v := 6) hx hb dL_book_28 (by decide) ?_
  obtain ⟨u3, g4, h⟩ := bd_of h
  refine cl_S [(q_p0, .inr (9, [.ref q_p0_now, .ref q_p0_kept, .ref q_p0_tried, .int v_p0_isKept, .ref q_p0_page, .ref q_p0_purse, .ref q_p0_rings, .ref q_p0_groups, .ref q_p0_chances, .ref q_p0_ways, .ref q_p0_draws])), (q_p0_now, .inr (4, [.ref q_p0_now_kinds, .ref q_p0_now_leaflets, .ref q_p0_now_owners, .ref q_p0_now_tears, .ref q_p0_now_debts, .int v_p0_now_size, .int v_p0_now_lostByHands, .int v_p0_now_lostByMould])), (q_p0_now_kinds, .inl (cI, 10, .inl v_p0_now_kinds)), (q_p0_now_leaflets, .inl (cI, 10, .inl v_p0_now_leaflets)), (q_p0_now_owners, .inl (cI, 10, .inl v_p0_now_owners)), (q_p0_now_tears, .inl (cI, 40, .inl v_p0_now_tears)), (q_p0_page, .inr (5, [.ref q_p0_page_codes, .int v_p0_page_size])), (q_p0_page_codes, .inl (cI, 22, .inl v_p0_page_codes)), (q_p4, .inl (cI, n_p4, .inl v_p4)), (q_p5, .inl (cI, n_p5, .inl v_p5)), (q_n2, .inl (cI, 21, .inl u1.2.1)), (q_n8, .inl (cI, 20, .inl u1.2.2))] (As := [.int (x1 >>> (22 &&& 31)), .int 6]) (rest := []) (rv := (some (.int u3))) (c_L_at l D cI cJ (x1 >>> (22 &&& 31)) 6 u3 g4) ⟨hx, hb, hml, hown, hts⟩ (va_cwS 2 hts gL_book_L_at rfl rfl rfl (by decide +kernel) ⟨(Nat.le_of_ble_eq_true rfl), (Nat.le_of_ble_eq_true rfl)⟩) hK hN hP hD hS [] rfl (by decide) rfl rfl rfl rfl hl.1 rfl (Nat.le_of_ble_eq_true rfl) dL_book_30 ⟨Nat.le_of_ble_eq_true rfl, Nat.le_of_ble_eq_true rfl⟩ (fun H locs hP hD hS => ?_)
  show W p l e ({ frames := 4, cells := 2, slots := 41, locals := 93 } : Room) s m args below meth c H locs 2 41 Q0 (F0 m 33 ls [.int u3])
  refine lv_istore (lv' := [(9, .int u3), (8, .int u1.1), (7, .ref q_n8), (6, .ref q_n2), (0, .ref q_p0), (1, .int x1), (2, .int x2), (3, .int x3), (4, .ref q_p4), (5, .ref q_p5)]) hx hb dL_book_33 hl (by decide) rfl (fun ls hl => ?_)
  refine lv_aload_n hx hb dL_book_35 rfl (lv_at hl 4 rfl) ?_
  refine lv_aload hx hb dL_book_36 (lv_at hl 2 rfl) ?_
  refine lv_iload hx hb dL_book_38 (lv_at hl 1 rfl) ?_
  obtain ⟨u5, g6, h⟩ := bd_of h
  refine cl_S [(q_p0, .inr (9, [.ref q_p0_now, .ref q_p0_kept, .ref q_p0_tried, .int v_p0_isKept, .ref q_p0_page, .ref q_p0_purse, .ref q_p0_rings, .ref q_p0_groups, .ref q_p0_chances, .ref q_p0_ways, .ref q_p0_draws])), (q_p0_now, .inr (4, [.ref q_p0_now_kinds, .ref q_p0_now_leaflets, .ref q_p0_now_owners, .ref q_p0_now_tears, .ref q_p0_now_debts, .int v_p0_now_size, .int v_p0_now_lostByHands, .int v_p0_now_lostByMould])), (q_p0_now_kinds, .inl (cI, 10, .inl v_p0_now_kinds)), (q_p0_now_leaflets, .inl (cI, 10, .inl v_p0_now_leaflets)), (q_p0_now_owners, .inl (cI, 10, .inl v_p0_now_owners)), (q_p0_now_tears, .inl (cI, 40, .inl v_p0_now_tears)), (q_p0_page, .inr (5, [.ref q_p0_page_codes, .int u5.2.1])), (q_p0_page_codes, .inl (cI, 22, .inl u5.2.2)), (q_p4, .inl (cI, n_p4, .inl v_p4)), (q_p5, .inl (cI, n_p5, .inl v_p5)), (q_n2, .inl (cI, 21, .inl u1.2.1)), (q_n8, .inl (cI, 20, .inl u1.2.2))] (As := [.ref q_p0, .ref q_n8, .int u1.1]) (rest := []) (rv := (some (.int u5.1))) (c_L_write l D cI cJ q_p0 q_p0_now q_p0_kept q_p0_tried q_p0_page q_p0_page_codes q_p0_purse q_p0_rings q_p0_groups q_p0_chances q_p0_ways q_p0_draws q_n8 20 v_p0_isKept v_p0_page_size v_p0_page_codes u1.2.2 u1.1 u5 g6) ⟨hx, hb, hml, hown, hts⟩ (va_cwS 3 hts gL_book_L_write rfl rfl rfl (by decide +kernel) ⟨(Nat.le_of_ble_eq_true rfl), (Nat.le_of_ble_eq_true rfl)⟩) hK hN hP hD hS [0, 6, 7, 11] rfl (by decide) rfl rfl rfl rfl hl.1 rfl (Nat.le_of_ble_eq_true rfl) dL_book_40 ⟨Nat.le_of_ble_eq_true rfl, Nat.le_of_ble_eq_true rfl⟩ (fun H locs hP hD hS => ?_)
  show W p l e ({ frames := 4, cells := 2, slots := 41, locals := 93 } : Room) s m args below meth c H locs 2 41 Q0 (F0 m 43 ls [.int u5.1])
  refine lv_if_eq (tgt := 55) hx hb dL_book_43 (by decide) (fun c7 => ?_) (fun c7 => ?_)
  · skip
    have h := (if_pos c7).symm.trans h
    refine lv_iconst (v := 0) hx hb dL_book_55 (by decide) ?_
    obtain rfl := Option.some.inj h
    exact rtA_z hA0 hQ0 hx hb hr hlocks rfl (hP.sub [0, 1, 2, 3, 4, 5, 6, 7, 8, 9] rfl) hS dL_book_56
  · skip
    have h := (if_neg c7).symm.trans h
    refine lv_aload_n hx hb dL_book_46 rfl (lv_at hl 4 rfl) ?_
    obtain ⟨u8, g9, h⟩ := bd_of h
    refine cl_V [(q_p0, .inr (9, [.ref q_p0_now, .ref q_p0_kept, .ref q_p0_tried, .int v_p0_isKept, .ref q_p0_page, .ref q_p0_purse, .ref q_p0_rings, .ref q_p0_groups, .ref q_p0_chances, .ref q_p0_ways, .ref q_p0_draws])), (q_p0_now, .inr (4, [.ref q_p0_now_kinds, .ref q_p0_now_leaflets, .ref q_p0_now_owners, .ref q_p0_now_tears, .ref q_p0_now_debts, .int v_p0_now_size, .int v_p0_now_lostByHands, .int v_p0_now_lostByMould])), (q_p0_now_kinds, .inl (cI, 10, .inl v_p0_now_kinds)), (q_p0_now_leaflets, .inl (cI, 10, .inl v_p0_now_leaflets)), (q_p0_now_owners, .inl (cI, 10, .inl v_p0_now_owners)), (q_p0_now_tears, .inl (cI, 40, .inl v_p0_now_tears)), (q_p0_page, .inr (5, [.ref q_p0_page_codes, .int u5.2.1])), (q_p0_page_codes, .inl (cI, 22, .inl u5.2.2)), (q_p4, .inl (cI, n_p4, .inl v_p4)), (q_p5, .inl (cI, n_p5, .inl v_p5)), (q_n2, .inl (cI, 21, .inl u1.2.1)), (q_n8, .inl (cI, 20, .inl u1.2.2))] (As := []) (rest := []) (rv := (some (.int u8))) (c_X10_fault l D cI cJ q_p0 q_p0_now q_p0_kept q_p0_tried q_p0_page q_p0_page_codes q_p0_purse q_p0_rings q_p0_groups q_p0_chances q_p0_ways q_p0_draws v_p0_isKept u5.2.1 u5.2.2 u8 g9) ⟨hx, hb, hml, hown, hts⟩ (cwV 0 hts gL_book_X10_fault rfl rfl rfl (by decide +kernel) ⟨(Nat.le_of_ble_eq_true rfl), (Nat.le_of_ble_eq_true rfl)⟩) hK hN hP hD hS [0, 6, 7] rfl (by decide) rfl rfl rfl (q0 := 0) (ci := 9) rfl rfl rfl rfl hl.1 rfl (Nat.le_of_ble_eq_true rfl) dL_book_47 ⟨Nat.le_of_ble_eq_true rfl, Nat.le_of_ble_eq_true rfl⟩ (fun H locs hP hD hS => ?_)
    show W p l e ({ frames := 4, cells := 2, slots := 41, locals := 93 } : Room) s m args below meth c H locs 2 41 Q0 (F0 m 50 ls [.int u8])
    refine lv_iload hx hb dL_book_50 (lv_at hl 1 rfl) ?_
    refine lv_icmp_eq (tgt := 57) hx hb dL_book_52 (by decide) (fun c10 => ?_) (fun c10 => ?_)
    · skip
      have h := (if_pos c10).symm.trans h
      refine lv_aload hx hb dL_book_57 (lv_at hl 8 rfl) ?_
      refine lv_iconst (v := 0) hx hb dL_book_59 (by decide) ?_
      obtain ⟨g11, h⟩ := gd_of h
      refine va_iald hx hb hK hP 8 0 rfl rfl (inb_of g11) dL_book_60 ?_
      refine lv_aload hx hb dL_book_61 (lv_at hl 3 rfl) ?_
      refine lv_iconst (v := 0) hx hb dL_book_63 (by decide) ?_
      refine va_iald hx hb hK hP 10 0 rfl rfl (inb_of (by decide)) dL_book_64 ?_
      refine lv_iadd hx hb dL_book_65 ?_
      refine lv_bipush (v := 10) hx hb dL_book_66 (by decide) ?_
      refine lv_icmp_le (tgt := 97) hx hb dL_book_68 (by decide) (fun c12 => ?_) (fun c12 => ?_)
      · skip
        have h := (if_pos c12).symm.trans h
        refine lv_aload_n hx hb dL_book_97 rfl (lv_at hl 4 rfl) ?_
        refine lv_iload hx hb dL_book_98 (lv_at hl 0 rfl) ?_
        obtain ⟨u13, g14, h⟩ := bd_of h
        refine cl_V [(q_p0, .inr (9, [.ref q_p0_now, .ref q_p0_kept, .ref q_p0_tried, .int v_p0_isKept, .ref q_p0_page, .ref q_p0_purse, .ref q_p0_rings, .ref q_p0_groups, .ref q_p0_chances, .ref q_p0_ways, .ref q_p0_draws])), (q_p0_now, .inr (4, [.ref q_p0_now_kinds, .ref q_p0_now_leaflets, .ref q_p0_now_owners, .ref q_p0_now_tears, .ref q_p0_now_debts, .int u13.2.1, .int v_p0_now_lostByHands, .int v_p0_now_lostByMould])), (q_p0_now_kinds, .inl (cI, 10, .inl u13.2.2.1)), (q_p0_now_leaflets, .inl (cI, 10, .inl u13.2.2.2.1)), (q_p0_now_owners, .inl (cI, 10, .inl u13.2.2.2.2.1)), (q_p0_now_tears, .inl (cI, 40, .inl u13.2.2.2.2.2.1)), (q_p0_page, .inr (5, [.ref q_p0_page_codes, .int u13.2.2.2.2.2.2])), (q_p0_page_codes, .inl (cI, 22, .inl u5.2.2)), (q_p4, .inl (cI, n_p4, .inl v_p4)), (q_p5, .inl (cI, n_p5, .inl v_p5)), (q_n2, .inl (cI, 21, .inl u1.2.1)), (q_n8, .inl (cI, 20, .inl u1.2.2))] (As := [.int u3]) (rest := []) (rv := (some (.int u13.1))) (c_X10_book l D cI cJ q_p0 q_p0_now q_p0_now_kinds q_p0_now_leaflets q_p0_now_owners q_p0_now_tears q_p0_now_debts q_p0_kept q_p0_tried q_p0_page q_p0_page_codes q_p0_purse q_p0_rings q_p0_groups q_p0_chances q_p0_ways q_p0_draws v_p0_isKept v_p0_now_size v_p0_now_lostByHands v_p0_now_lostByMould v_p0_now_kinds v_p0_now_leaflets v_p0_now_owners v_p0_now_tears u5.2.1 u5.2.2 u3 u13 g14) ⟨hx, hb, hml, hown, hts⟩ (cwV 1 hts gL_book_X10_book rfl rfl rfl (by decide +kernel) ⟨(Nat.le_of_ble_eq_true rfl), (Nat.le_of_ble_eq_true rfl)⟩) hK hN hP hD hS [0, 1, 2, 3, 4, 5, 6, 7] rfl (by decide) rfl rfl rfl (q0 := 0) (ci := 9) rfl rfl rfl rfl hl.1 rfl (Nat.le_of_ble_eq_true rfl) dL_book_100 ⟨Nat.le_of_ble_eq_true rfl, Nat.le_of_ble_eq_true rfl⟩ (fun H locs hP hD hS => ?_)
        show W p l e ({ frames := 4, cells := 2, slots := 41, locals := 93 } : Room) s m args below meth c H locs 2 41 Q0 (F0 m 103 ls [.int u13.1])
        refine lv_aload hx hb dL_book_103 (lv_at hl 3 rfl) ?_
        refine lv_iconst (v := 0) hx hb dL_book_105 (by decide) ?_
        refine va_iald hx hb hK hP 10 0 rfl rfl (inb_of (by decide)) dL_book_106 ?_
        refine lv_icmp_eq (tgt := 112) hx hb dL_book_107 (by decide) (fun c15 => ?_) (fun c15 => ?_)
        · skip
          have h := (if_pos c15).symm.trans h
          refine lv_iconst (v := 0) hx hb dL_book_112 (by decide) ?_
          refine lv_istore (lv' := [(10, .int 0), (9, .int u3), (8, .int u1.1), (7, .ref q_n8), (6, .ref q_n2), (0, .ref q_p0), (1, .int x1), (2, .int x2), (3, .int x3), (4, .ref q_p4), (5, .ref q_p5)]) hx hb dL_book_113 hl (by decide) rfl (fun ls hl => ?_)
          obtain ⟨e17, he_e17, hc_e17⟩ := bd_of h
          have X154_19 : ∀ (a18 : (Nat → Int32) × (Nat → Int32)) (H : Heap) (locs : List Loc) (ls : Array Slot), fL_book_X115_154 u5 u13 a18 = some z → va_P D vwCl [(q_p0, .inr (9, [.ref q_p0_now, .ref q_p0_kept, .ref q_p0_tried, .int v_p0_isKept, .ref q_p0_page, .ref q_p0_purse, .ref q_p0_rings, .ref q_p0_groups, .ref q_p0_chances, .ref q_p0_ways, .ref q_p0_draws])), (q_p0_now, .inr (4, [.ref q_p0_now_kinds, .ref q_p0_now_leaflets, .ref q_p0_now_owners, .ref q_p0_now_tears, .ref q_p0_now_debts, .int u13.2.1, .int v_p0_now_lostByHands, .int v_p0_now_lostByMould])), (q_p0_now_kinds, .inl (cI, 10, .inl u13.2.2.1)), (q_p0_now_leaflets, .inl (cI, 10, .inl u13.2.2.2.1)), (q_p0_now_owners, .inl (cI, 10, .inl u13.2.2.2.2.1)), (q_p0_now_tears, .inl (cI, 40, .inl u13.2.2.2.2.2.1)), (q_p0_page, .inr (5, [.ref q_p0_page_codes, .int u13.2.2.2.2.2.2])), (q_p0_page_codes, .inl (cI, 22, .inl u5.2.2)), (q_p4, .inl (cI, n_p4, .inl a18.1)), (q_p5, .inl (cI, n_p5, .inl a18.2)), (q_n2, .inl (cI, 21, .inl u1.2.1)), (q_n8, .inl (cI, 20, .inl u1.2.2))] H → va_D A0 [(q_p0, .inr (9, [.ref q_p0_now, .ref q_p0_kept, .ref q_p0_tried, .int v_p0_isKept, .ref q_p0_page, .ref q_p0_purse, .ref q_p0_rings, .ref q_p0_groups, .ref q_p0_chances, .ref q_p0_ways, .ref q_p0_draws])), (q_p0_now, .inr (4, [.ref q_p0_now_kinds, .ref q_p0_now_leaflets, .ref q_p0_now_owners, .ref q_p0_now_tears, .ref q_p0_now_debts, .int u13.2.1, .int v_p0_now_lostByHands, .int v_p0_now_lostByMould])), (q_p0_now_kinds, .inl (cI, 10, .inl u13.2.2.1)), (q_p0_now_leaflets, .inl (cI, 10, .inl u13.2.2.2.1)), (q_p0_now_owners, .inl (cI, 10, .inl u13.2.2.2.2.1)), (q_p0_now_tears, .inl (cI, 40, .inl u13.2.2.2.2.2.1)), (q_p0_page, .inr (5, [.ref q_p0_page_codes, .int u13.2.2.2.2.2.2])), (q_p0_page_codes, .inl (cI, 22, .inl u5.2.2)), (q_p4, .inl (cI, n_p4, .inl a18.1)), (q_p5, .inl (cI, n_p5, .inl a18.2)), (q_n2, .inl (cI, 21, .inl u1.2.1)), (q_n8, .inl (cI, 20, .inl u1.2.2))] → va_S A0 s.heap H locs → lv_has ls 11 [] → W p l e ({ frames := 4, cells := 2, slots := 41, locals := 93 } : Room) s m args below meth c H locs 2 41 Q0 (F0 m 154 ls []) := by
            intro a18 H locs ls h hP hD hS hl
            unfold fL_book_X115_154 at h
            refine lv_iconst (v := 1) hx hb dL_book_154 (by decide) ?_
            obtain rfl := Option.some.inj h
            exact rtA_z hA0 hQ0 hx hb hr hlocks rfl (hP.sub [0, 1, 2, 3, 4, 5, 6, 7, 8, 9] rfl) hS dL_book_155
          have L115_20 : ∀ (n : Nat) (z16 : Int32 × (Nat → Int32) × (Nat → Int32)) (H : Heap) (locs : List Loc) (ls : Array Slot), iter (fL_book_L115 n_p4 n_p5 u1 u3) n z16 = some e17 → va_P D vwCl [(q_p0, .inr (9, [.ref q_p0_now, .ref q_p0_kept, .ref q_p0_tried, .int v_p0_isKept, .ref q_p0_page, .ref q_p0_purse, .ref q_p0_rings, .ref q_p0_groups, .ref q_p0_chances, .ref q_p0_ways, .ref q_p0_draws])), (q_p0_now, .inr (4, [.ref q_p0_now_kinds, .ref q_p0_now_leaflets, .ref q_p0_now_owners, .ref q_p0_now_tears, .ref q_p0_now_debts, .int u13.2.1, .int v_p0_now_lostByHands, .int v_p0_now_lostByMould])), (q_p0_now_kinds, .inl (cI, 10, .inl u13.2.2.1)), (q_p0_now_leaflets, .inl (cI, 10, .inl u13.2.2.2.1)), (q_p0_now_owners, .inl (cI, 10, .inl u13.2.2.2.2.1)), (q_p0_now_tears, .inl (cI, 40, .inl u13.2.2.2.2.2.1)), (q_p0_page, .inr (5, [.ref q_p0_page_codes, .int u13.2.2.2.2.2.2])), (q_p0_page_codes, .inl (cI, 22, .inl u5.2.2)), (q_p4, .inl (cI, n_p4, .inl z16.2.1)), (q_p5, .inl (cI, n_p5, .inl z16.2.2)), (q_n2, .inl (cI, 21, .inl u1.2.1)), (q_n8, .inl (cI, 20, .inl u1.2.2))] H → va_D A0 [(q_p0, .inr (9, [.ref q_p0_now, .ref q_p0_kept, .ref q_p0_tried, .int v_p0_isKept, .ref q_p0_page, .ref q_p0_purse, .ref q_p0_rings, .ref q_p0_groups, .ref q_p0_chances, .ref q_p0_ways, .ref q_p0_draws])), (q_p0_now, .inr (4, [.ref q_p0_now_kinds, .ref q_p0_now_leaflets, .ref q_p0_now_owners, .ref q_p0_now_tears, .ref q_p0_now_debts, .int u13.2.1, .int v_p0_now_lostByHands, .int v_p0_now_lostByMould])), (q_p0_now_kinds, .inl (cI, 10, .inl u13.2.2.1)), (q_p0_now_leaflets, .inl (cI, 10, .inl u13.2.2.2.1)), (q_p0_now_owners, .inl (cI, 10, .inl u13.2.2.2.2.1)), (q_p0_now_tears, .inl (cI, 40, .inl u13.2.2.2.2.2.1)), (q_p0_page, .inr (5, [.ref q_p0_page_codes, .int u13.2.2.2.2.2.2])), (q_p0_page_codes, .inl (cI, 22, .inl u5.2.2)), (q_p4, .inl (cI, n_p4, .inl z16.2.1)), (q_p5, .inl (cI, n_p5, .inl z16.2.2)), (q_n2, .inl (cI, 21, .inl u1.2.1)), (q_n8, .inl (cI, 20, .inl u1.2.2))] → va_S A0 s.heap H locs → lv_has ls 11 [(4, .ref q_p4), (5, .ref q_p5), (6, .ref q_n2), (9, .int u3), (10, .int z16.1)] → W p l e ({ frames := 4, cells := 2, slots := 41, locals := 93 } : Room) s m args below meth c H locs 2 41 Q0 (F0 m 115 ls []) := by
            intro n
            induction n with
            | zero => exact fun _ _ _ _ h => (iter_z h).elim
            | succ n ih =>
              intro z16 H locs ls h hP hD hS hl
              obtain ⟨r_e17, h, hn_e17⟩ := iter_s h
              unfold fL_book_L115 at h
              refine lv_iload hx hb dL_book_115 (lv_at hl 4 rfl) ?_
              refine lv_aload hx hb dL_book_117 (lv_at hl 2 rfl) ?_
              refine lv_iconst (v := 0) hx hb dL_book_119 (by decide) ?_
              refine va_iald hx hb hK hP 10 0 rfl rfl (inb_of (by decide)) dL_book_120 ?_
              refine lv_icmp_ge (tgt := 154) hx hb dL_book_121 (by decide) (fun c21 => ?_) (fun c21 => ?_)
              · skip
                have h := (if_pos c21).symm.trans h
                obtain rfl := Option.some.inj h
                obtain rfl := Option.some.inj hn_e17
                exact X154_19 (z16.2.1, z16.2.2) _ _ _ hc_e17 hP hD hS (lv_sub hl [] rfl)
              · skip
                have h := (if_neg c21).symm.trans h
                refine lv_aload hx hb dL_book_124 (lv_at hl 0 rfl) ?_
                refine lv_aload hx hb dL_book_126 (lv_at hl 1 rfl) ?_
                refine lv_aload hx hb dL_book_128 (lv_at hl 2 rfl) ?_
                refine lv_iconst (v := 1) hx hb dL_book_130 (by decide) ?_
                refine lv_iload hx hb dL_book_131 (lv_at hl 4 rfl) ?_
                refine lv_iadd hx hb dL_book_133 ?_
                obtain ⟨g22, h⟩ := gd_of h
                refine va_iald hx hb hK hP 10 0 rfl rfl (inb_of g22) dL_book_134 ?_
                refine lv_aload hx hb dL_book_135 (lv_at hl 2 rfl) ?_
                refine lv_bipush (v := 11) hx hb dL_book_137 (by decide) ?_
                refine lv_iload hx hb dL_book_139 (lv_at hl 4 rfl) ?_
                refine lv_iadd hx hb dL_book_141 ?_
                obtain ⟨g23, h⟩ := gd_of h
                refine va_iald hx hb hK hP 10 0 rfl rfl (inb_of g23) dL_book_142 ?_
                refine lv_iload hx hb dL_book_143 (lv_at hl 3 rfl) ?_
                obtain ⟨u24, g25, h⟩ := bd_of h
                refine cl_S [(q_p0, .inr (9, [.ref q_p0_now, .ref q_p0_kept, .ref q_p0_tried, .int v_p0_isKept, .ref q_p0_page, .ref q_p0_purse, .ref q_p0_rings, .ref q_p0_groups, .ref q_p0_chances, .ref q_p0_ways, .ref q_p0_draws])), (q_p0_now, .inr (4, [.ref q_p0_now_kinds, .ref q_p0_now_leaflets, .ref q_p0_now_owners, .ref q_p0_now_tears, .ref q_p0_now_debts, .int u13.2.1, .int v_p0_now_lostByHands, .int v_p0_now_lostByMould])), (q_p0_now_kinds, .inl (cI, 10, .inl u13.2.2.1)), (q_p0_now_leaflets, .inl (cI, 10, .inl u13.2.2.2.1)), (q_p0_now_owners, .inl (cI, 10, .inl u13.2.2.2.2.1)), (q_p0_now_tears, .inl (cI, 40, .inl u13.2.2.2.2.2.1)), (q_p0_page, .inr (5, [.ref q_p0_page_codes, .int u13.2.2.2.2.2.2])), (q_p0_page_codes, .inl (cI, 22, .inl u5.2.2)), (q_p4, .inl (cI, n_p4, .inl u24.1)), (q_p5, .inl (cI, n_p5, .inl u24.2)), (q_n2, .inl (cI, 21, .inl u1.2.1)), (q_n8, .inl (cI, 20, .inl u1.2.2))] (As := [.ref q_p4, .ref q_p5, .int (u1.2.1 (1 + z16.1).toNatClampNeg), .int (u1.2.1 (11 + z16.1).toNatClampNeg), .int u3]) (rest := []) (rv := none) (c_L_add l D cI cJ q_p4 q_p5 n_p4 n_p5 z16.2.1 z16.2.2 (u1.2.1 (1 + z16.1).toNatClampNeg) (u1.2.1 (11 + z16.1).toNatClampNeg) u3 u24 g25) ⟨hx, hb, hml, hown, hts⟩ (va_cwS 5 hts gL_book_L_add rfl rfl rfl (by decide +kernel) ⟨(Nat.le_of_ble_eq_true rfl), (Nat.le_of_ble_eq_true rfl)⟩) hK hN hP hD hS [8, 9] rfl (by decide) rfl rfl rfl rfl hl.1 rfl (Nat.le_of_ble_eq_true rfl) dL_book_145 ⟨Nat.le_of_ble_eq_true rfl, Nat.le_of_ble_eq_true rfl⟩ (fun H locs hP hD hS => ?_)
                show W p l e ({ frames := 4, cells := 2, slots := 41, locals := 93 } : Room) s m args below meth c H locs 2 41 Q0 (F0 m 148 ls [])
                refine lv_iinc (v := (z16.1 + 1)) (lv' := [(10, .int (z16.1 + 1)), (4, .ref q_p4), (5, .ref q_p5), (6, .ref q_n2), (9, .int u3)]) hx hb dL_book_148 hl (k := 4) rfl rfl (by decide) rfl (fun ls hl => ?_)
                refine lv_goto (tgt := 115) hx hb dL_book_151 (by decide) ?_
                obtain rfl := Option.some.inj h
                exact ih ((z16.1 + 1), u24.1, u24.2) _ _ _ hn_e17 hP hD hS (lv_sub hl [1, 2, 3, 4, 0] rfl)
          exact L115_20 FU (0, v_p4, v_p5) _ _ _ he_e17 hP hD hS (lv_sub hl [9, 10, 4, 1, 0] rfl)
        · skip
          have h := (if_neg c15).symm.trans h
          refine lv_iconst (v := 0) hx hb dL_book_110 (by decide) ?_
          obtain rfl := Option.some.inj h
          exact rtA_z hA0 hQ0 hx hb hr hlocks rfl (hP.sub [0, 1, 2, 3, 4, 5, 6, 7, 8, 9] rfl) hS dL_book_111
      · skip
        have h := (if_neg c12).symm.trans h
        refine lv_aload_n hx hb dL_book_71 rfl (lv_at hl 4 rfl) ?_
        refine lv_iload hx hb dL_book_72 (lv_at hl 0 rfl) ?_
        obtain ⟨u26, g27, h⟩ := bd_of h
        refine cl_V [(q_p0, .inr (9, [.ref q_p0_now, .ref q_p0_kept, .ref q_p0_tried, .int v_p0_isKept, .ref q_p0_page, .ref q_p0_purse, .ref q_p0_rings, .ref q_p0_groups, .ref q_p0_chances, .ref q_p0_ways, .ref q_p0_draws])), (q_p0_now, .inr (4, [.ref q_p0_now_kinds, .ref q_p0_now_leaflets, .ref q_p0_now_owners, .ref q_p0_now_tears, .ref q_p0_now_debts, .int u26.2.1, .int v_p0_now_lostByHands, .int v_p0_now_lostByMould])), (q_p0_now_kinds, .inl (cI, 10, .inl u26.2.2.1)), (q_p0_now_leaflets, .inl (cI, 10, .inl u26.2.2.2.1)), (q_p0_now_owners, .inl (cI, 10, .inl u26.2.2.2.2.1)), (q_p0_now_tears, .inl (cI, 40, .inl u26.2.2.2.2.2.1)), (q_p0_page, .inr (5, [.ref q_p0_page_codes, .int u26.2.2.2.2.2.2])), (q_p0_page_codes, .inl (cI, 22, .inl u5.2.2)), (q_p4, .inl (cI, n_p4, .inl v_p4)), (q_p5, .inl (cI, n_p5, .inl v_p5)), (q_n2, .inl (cI, 21, .inl u1.2.1)), (q_n8, .inl (cI, 20, .inl u1.2.2))] (As := [.int u3]) (rest := []) (rv := (some (.int u26.1))) (c_X10_book l D cI cJ q_p0 q_p0_now q_p0_now_kinds q_p0_now_leaflets q_p0_now_owners q_p0_now_tears q_p0_now_debts q_p0_kept q_p0_tried q_p0_page q_p0_page_codes q_p0_purse q_p0_rings q_p0_groups q_p0_chances q_p0_ways q_p0_draws v_p0_isKept v_p0_now_size v_p0_now_lostByHands v_p0_now_lostByMould v_p0_now_kinds v_p0_now_leaflets v_p0_now_owners v_p0_now_tears u5.2.1 u5.2.2 u3 u26 g27) ⟨hx, hb, hml, hown, hts⟩ (cwV 1 hts gL_book_X10_book rfl rfl rfl (by decide +kernel) ⟨(Nat.le_of_ble_eq_true rfl), (Nat.le_of_ble_eq_true rfl)⟩) hK hN hP hD hS [0, 1, 2, 3, 4, 5, 6, 7] rfl (by decide) rfl rfl rfl (q0 := 0) (ci := 9) rfl rfl rfl rfl hl.1 rfl (Nat.le_of_ble_eq_true rfl) dL_book_74 ⟨Nat.le_of_ble_eq_true rfl, Nat.le_of_ble_eq_true rfl⟩ (fun H locs hP hD hS => ?_)
        show W p l e ({ frames := 4, cells := 2, slots := 41, locals := 93 } : Room) s m args below meth c H locs 2 41 Q0 (F0 m 77 ls [.int u26.1])
        refine lv_bipush (v := (-104)) hx hb dL_book_77 (by decide) ?_
        refine lv_icmp_ne (tgt := 95) hx hb dL_book_79 (by decide) (fun c28 => ?_) (fun c28 => ?_)
        · skip
          have h := (if_neg c28).symm.trans h
          refine lv_iconst (v := 0) hx hb dL_book_95 (by decide) ?_
          obtain rfl := Option.some.inj h
          exact rtA_z hA0 hQ0 hx hb hr hlocks rfl (hP.sub [0, 1, 2, 3, 4, 5, 6, 7, 8, 9] rfl) hS dL_book_96
        · skip
          have h := (if_pos c28).symm.trans h
          refine lv_aload_n hx hb dL_book_82 rfl (lv_at hl 4 rfl) ?_
          obtain ⟨u29, g30, h⟩ := bd_of h
          refine cl_V [(q_p0, .inr (9, [.ref q_p0_now, .ref q_p0_kept, .ref q_p0_tried, .int v_p0_isKept, .ref q_p0_page, .ref q_p0_purse, .ref q_p0_rings, .ref q_p0_groups, .ref q_p0_chances, .ref q_p0_ways, .ref q_p0_draws])), (q_p0_now, .inr (4, [.ref q_p0_now_kinds, .ref q_p0_now_leaflets, .ref q_p0_now_owners, .ref q_p0_now_tears, .ref q_p0_now_debts, .int u26.2.1, .int v_p0_now_lostByHands, .int v_p0_now_lostByMould])), (q_p0_now_kinds, .inl (cI, 10, .inl u26.2.2.1)), (q_p0_now_leaflets, .inl (cI, 10, .inl u26.2.2.2.1)), (q_p0_now_owners, .inl (cI, 10, .inl u26.2.2.2.2.1)), (q_p0_now_tears, .inl (cI, 40, .inl u26.2.2.2.2.2.1)), (q_p0_page, .inr (5, [.ref q_p0_page_codes, .int u29.2])), (q_p0_page_codes, .inl (cI, 22, .inl u5.2.2)), (q_p4, .inl (cI, n_p4, .inl v_p4)), (q_p5, .inl (cI, n_p5, .inl v_p5)), (q_n2, .inl (cI, 21, .inl u1.2.1)), (q_n8, .inl (cI, 20, .inl u1.2.2))] (As := []) (rest := []) (rv := (some (.int u29.1))) (c_X10_blank l D cI cJ q_p0 q_p0_now q_p0_kept q_p0_tried q_p0_page q_p0_page_codes q_p0_purse q_p0_rings q_p0_groups q_p0_chances q_p0_ways q_p0_draws v_p0_isKept u26.2.2.2.2.2.2 u29 g30) ⟨hx, hb, hml, hown, hts⟩ (cwV 0 hts gL_book_X10_blank rfl rfl rfl (by decide +kernel) ⟨(Nat.le_of_ble_eq_true rfl), (Nat.le_of_ble_eq_true rfl)⟩) hK hN hP hD hS [0, 6] rfl (by decide) rfl rfl rfl (q0 := 0) (ci := 9) rfl rfl rfl rfl hl.1 rfl (Nat.le_of_ble_eq_true rfl) dL_book_83 ⟨Nat.le_of_ble_eq_true rfl, Nat.le_of_ble_eq_true rfl⟩ (fun H locs hP hD hS => ?_)
          show W p l e ({ frames := 4, cells := 2, slots := 41, locals := 93 } : Room) s m args below meth c H locs 2 41 Q0 (F0 m 86 ls [.int u29.1])
          refine lv_iload hx hb dL_book_86 (lv_at hl 1 rfl) ?_
          refine lv_icmp_ne (tgt := 95) hx hb dL_book_88 (by decide) (fun c31 => ?_) (fun c31 => ?_)
          · skip
            have h := (if_neg c31).symm.trans h
            refine lv_iconst (v := 0) hx hb dL_book_95 (by decide) ?_
            obtain rfl := Option.some.inj h
            exact rtA_z hA0 hQ0 hx hb hr hlocks rfl (hP.sub [0, 1, 2, 3, 4, 5, 6, 7, 8, 9] rfl) hS dL_book_96
          · skip
            have h := (if_pos c31).symm.trans h
            refine lv_iconst (v := 1) hx hb dL_book_91 (by decide) ?_
            refine lv_goto (tgt := 96) hx hb dL_book_92 (by decide) ?_
            obtain rfl := Option.some.inj h
            exact rtA_z hA0 hQ0 hx hb hr hlocks rfl (hP.sub [0, 1, 2, 3, 4, 5, 6, 7, 8, 9] rfl) hS dL_book_96
    · skip
      have h := (if_neg c10).symm.trans h
      refine lv_iconst (v := 0) hx hb dL_book_55 (by decide) ?_
      obtain rfl := Option.some.inj h
      exact rtA_z hA0 hQ0 hx hb hr hlocks rfl (hP.sub [0, 1, 2, 3, 4, 5, 6, 7, 8, 9] rfl) hS dL_book_56
def fL_hand (x0 : Int32) (x1 : Int32) : Int32 :=
  if x1 ≤ (if x0 = 0 then 1 else (if x0 = 1 then 2 else (if x0 = 4 then 3 else (if x0 = 2 then (if x1 ≤ 5 then 1 else 0 : Int32) else (if x1 = 9 then 0 else 1 : Int32) : Int32) : Int32) : Int32) : Int32) then (0) else ((x1 - (if x0 = 0 then 1 else (if x0 = 1 then 2 else (if x0 = 4 then 3 else (if x0 = 2 then (if x1 ≤ 5 then 1 else 0 : Int32) else (if x1 = 9 then 0 else 1 : Int32) : Int32) : Int32) : Int32) : Int32)))
set_option maxHeartbeats 4000000 in
set_option maxRecDepth 100000 in
theorem c_L_hand (l : Launch) (D : va_G) (cI cJ : ClassId) (x0 : Int32) (x1 : Int32) : Met l yL_hand wsL_hand ({ frames := 0, cells := 0, slots := 0, locals := 0 } : Room) (va_Pc [.int x0, .int x1] (preG D cI cJ [])) (QG D [] [] (some (.int (fL_hand x0 x1)))) 0 0 (fr []) := by
  generalize h : fL_hand x0 x1 = z
  refine Met.ofW (cc := cL_hand) (maxL := 3) (ret := (some .int)) (by decide) rfl ?_
  intro p e s m args below meth c s₁ B hml hv
  obtain ⟨hargs, hP, hK, hN, hD0⟩ := hv
  have hx := B.exec
  have hb := B.bytes
  have hr := B.returns
  have hts := atoms_spec (ws := wsL_hand) B.pre
  have hown : s.vm.findClass RL = some m.cls := findClass_of_methodNamed B.named
  have hlocks := B.notSynchronized
  have hD := fr_D hD0
  have hS : va_S (fr []) s.heap s.heap [] := va_S.rf
  have hl := lv_entry ([.int x0, .int x1]) (n := 3) (Nat.le_of_ble_eq_true rfl)
  refine W.eq (g2 := F0 m 0 ((lg_sl ([.int x0, .int x1]) ++ List.replicate (3 - (lg_sl ([.int x0, .int x1])).length) Slot.unset).toArray) []) (by rw [hargs, lg_entry_eq]) ?_
  generalize (lg_sl ([.int x0, .int x1]) ++ List.replicate (3 - (lg_sl ([.int x0, .int x1])).length) Slot.unset).toArray = ls at hl ⊢
  have hl : lv_has ls 3 [(0, .int x0), (1, .int x1)] := hl
  show W p l e ({ frames := 0, cells := 0, slots := 0, locals := 0 } : Room) s m args below meth c s.heap [] 0 0 (MQ below (QG D [] [] (some (.int z))) args s 0 0 (fr [])) (F0 m 0 ls [])
  generalize hQ0 : (MQ below (QG D [] [] (some (.int z))) args s 0 0 (fr [])) = Q0
  generalize hA0 : fr [] = A0 at hD hS
  unfold fL_hand at h
  refine lv_iload_n hx hb dL_hand_0 rfl (lv_at hl 0 rfl) ?_
  have K55_1 : ∀ (w2 : Int32) (H : Heap) (locs : List Loc) (ls : Array Slot), w2 = (if x0 = 0 then 1 else (if x0 = 1 then 2 else (if x0 = 4 then 3 else (if x0 = 2 then (if x1 ≤ 5 then 1 else 0 : Int32) else (if x1 = 9 then 0 else 1 : Int32) : Int32) : Int32) : Int32) : Int32) → va_P D vwCl [] H → va_D A0 [] → va_S A0 s.heap H locs → lv_has ls 3 [(1, .int x1)] → W p l e ({ frames := 0, cells := 0, slots := 0, locals := 0 } : Room) s m args below meth c H locs 0 0 Q0 (F0 m 55 ls [.int w2]) := by
    intro w2 H locs ls e_w2 hP hD hS hl
    subst e_w2
    refine lv_istore_n (lv' := [(2, .int (if x0 = 0 then 1 else (if x0 = 1 then 2 else (if x0 = 4 then 3 else (if x0 = 2 then (if x1 ≤ 5 then 1 else 0 : Int32) else (if x1 = 9 then 0 else 1 : Int32) : Int32) : Int32) : Int32) : Int32)), (1, .int x1)]) hx hb dL_hand_55 rfl hl (by decide) rfl (fun ls hl => ?_)
    refine lv_iload_n hx hb dL_hand_56 rfl (lv_at hl 1 rfl) ?_
    refine lv_iload_n hx hb dL_hand_57 rfl (lv_at hl 0 rfl) ?_
    refine lv_icmp_le (tgt := 67) hx hb dL_hand_58 (by decide) (fun c3 => ?_) (fun c3 => ?_)
    · skip
      have h := (if_pos c3).symm.trans h
      refine lv_iconst (v := 0) hx hb dL_hand_67 (by decide) ?_
      subst h
      exact rt_i hA0 hQ0 hx hb hr hlocks hP hS dL_hand_68
    · skip
      have h := (if_neg c3).symm.trans h
      refine lv_iload_n hx hb dL_hand_61 rfl (lv_at hl 1 rfl) ?_
      refine lv_iload_n hx hb dL_hand_62 rfl (lv_at hl 0 rfl) ?_
      refine lv_isub hx hb dL_hand_63 ?_
      refine lv_goto (tgt := 68) hx hb dL_hand_64 (by decide) ?_
      subst h
      exact rt_i hA0 hQ0 hx hb hr hlocks hP hS dL_hand_68
  refine lv_if_ne (tgt := 8) hx hb dL_hand_1 (by decide) (fun c4 => ?_) (fun c4 => ?_)
  · skip
    refine lv_iload_n hx hb dL_hand_8 rfl (lv_at hl 0 rfl) ?_
    refine lv_iconst (v := 1) hx hb dL_hand_9 (by decide) ?_
    refine lv_icmp_ne (tgt := 17) hx hb dL_hand_10 (by decide) (fun c5 => ?_) (fun c5 => ?_)
    · skip
      refine lv_iload_n hx hb dL_hand_17 rfl (lv_at hl 0 rfl) ?_
      refine lv_iconst (v := 4) hx hb dL_hand_18 (by decide) ?_
      refine lv_icmp_ne (tgt := 26) hx hb dL_hand_19 (by decide) (fun c6 => ?_) (fun c6 => ?_)
      · skip
        refine lv_iload_n hx hb dL_hand_26 rfl (lv_at hl 0 rfl) ?_
        refine lv_iconst (v := 2) hx hb dL_hand_27 (by decide) ?_
        refine lv_icmp_ne (tgt := 44) hx hb dL_hand_28 (by decide) (fun c7 => ?_) (fun c7 => ?_)
        · skip
          refine lv_iload_n hx hb dL_hand_44 rfl (lv_at hl 1 rfl) ?_
          refine lv_bipush (v := 9) hx hb dL_hand_45 (by decide) ?_
          refine lv_icmp_ne (tgt := 54) hx hb dL_hand_47 (by decide) (fun c8 => ?_) (fun c8 => ?_)
          · skip
            refine lv_iconst (v := 1) hx hb dL_hand_54 (by decide) ?_
            exact K55_1 1 _ _ _ (by rw [if_neg c4, if_neg c5, if_neg c6, if_neg c7, if_neg c8]) hP hD hS (lv_sub hl [1] rfl)
          · skip
            refine lv_iconst (v := 0) hx hb dL_hand_50 (by decide) ?_
            refine lv_goto (tgt := 55) hx hb dL_hand_51 (by decide) ?_
            exact K55_1 0 _ _ _ (by rw [if_neg c4, if_neg c5, if_neg c6, if_neg c7, if_pos c8]) hP hD hS (lv_sub hl [1] rfl)
        · skip
          refine lv_iload_n hx hb dL_hand_31 rfl (lv_at hl 1 rfl) ?_
          refine lv_iconst (v := 5) hx hb dL_hand_32 (by decide) ?_
          refine lv_icmp_le (tgt := 40) hx hb dL_hand_33 (by decide) (fun c9 => ?_) (fun c9 => ?_)
          · skip
            refine lv_iconst (v := 1) hx hb dL_hand_40 (by decide) ?_
            refine lv_goto (tgt := 55) hx hb dL_hand_41 (by decide) ?_
            exact K55_1 1 _ _ _ (by rw [if_neg c4, if_neg c5, if_neg c6, if_pos c7, if_pos c9]) hP hD hS (lv_sub hl [1] rfl)
          · skip
            refine lv_iconst (v := 0) hx hb dL_hand_36 (by decide) ?_
            refine lv_goto (tgt := 55) hx hb dL_hand_37 (by decide) ?_
            exact K55_1 0 _ _ _ (by rw [if_neg c4, if_neg c5, if_neg c6, if_pos c7, if_neg c9]) hP hD hS (lv_sub hl [1] rfl)
      · skip
        refine lv_iconst (v := 3) hx hb dL_hand_22 (by decide) ?_
        refine lv_goto (tgt := 55) hx hb dL_hand_23 (by decide) ?_
        exact K55_1 3 _ _ _ (by rw [if_neg c4, if_neg c5, if_pos c6]) hP hD hS (lv_sub hl [1] rfl)
    · skip
      refine lv_iconst (v := 2) hx hb dL_hand_13 (by decide) ?_
      refine lv_goto (tgt := 55) hx hb dL_hand_14 (by decide) ?_
      exact K55_1 2 _ _ _ (by rw [if_neg c4, if_pos c5]) hP hD hS (lv_sub hl [1] rfl)
  · skip
    refine lv_iconst (v := 1) hx hb dL_hand_4 (by decide) ?_
    refine lv_goto (tgt := 55) hx hb dL_hand_5 (by decide) ?_
    exact K55_1 1 _ _ _ (by rw [if_pos c4]) hP hD hS (lv_sub hl [1] rfl)
def fL_damp (x0 : Int32) (x1 : Int32) : Int32 :=
  if x1 ≤ (if x0 = 3 then 0 else (if x0 = 4 then 2 else 1 : Int32) : Int32) then (0) else ((x1 - (if x0 = 3 then 0 else (if x0 = 4 then 2 else 1 : Int32) : Int32)))
set_option maxHeartbeats 4000000 in
set_option maxRecDepth 100000 in
theorem c_L_damp (l : Launch) (D : va_G) (cI cJ : ClassId) (x0 : Int32) (x1 : Int32) : Met l yL_damp wsL_damp ({ frames := 0, cells := 0, slots := 0, locals := 0 } : Room) (va_Pc [.int x0, .int x1] (preG D cI cJ [])) (QG D [] [] (some (.int (fL_damp x0 x1)))) 0 0 (fr []) := by
  generalize h : fL_damp x0 x1 = z
  refine Met.ofW (cc := cL_damp) (maxL := 3) (ret := (some .int)) (by decide) rfl ?_
  intro p e s m args below meth c s₁ B hml hv
  obtain ⟨hargs, hP, hK, hN, hD0⟩ := hv
  have hx := B.exec
  have hb := B.bytes
  have hr := B.returns
  have hts := atoms_spec (ws := wsL_damp) B.pre
  have hown : s.vm.findClass RL = some m.cls := findClass_of_methodNamed B.named
  have hlocks := B.notSynchronized
  have hD := fr_D hD0
  have hS : va_S (fr []) s.heap s.heap [] := va_S.rf
  have hl := lv_entry ([.int x0, .int x1]) (n := 3) (Nat.le_of_ble_eq_true rfl)
  refine W.eq (g2 := F0 m 0 ((lg_sl ([.int x0, .int x1]) ++ List.replicate (3 - (lg_sl ([.int x0, .int x1])).length) Slot.unset).toArray) []) (by rw [hargs, lg_entry_eq]) ?_
  generalize (lg_sl ([.int x0, .int x1]) ++ List.replicate (3 - (lg_sl ([.int x0, .int x1])).length) Slot.unset).toArray = ls at hl ⊢
  have hl : lv_has ls 3 [(0, .int x0), (1, .int x1)] := hl
  show W p l e ({ frames := 0, cells := 0, slots := 0, locals := 0 } : Room) s m args below meth c s.heap [] 0 0 (MQ below (QG D [] [] (some (.int z))) args s 0 0 (fr [])) (F0 m 0 ls [])
  generalize hQ0 : (MQ below (QG D [] [] (some (.int z))) args s 0 0 (fr [])) = Q0
  generalize hA0 : fr [] = A0 at hD hS
  unfold fL_damp at h
  refine lv_iload_n hx hb dL_damp_0 rfl (lv_at hl 0 rfl) ?_
  refine lv_iconst (v := 3) hx hb dL_damp_1 (by decide) ?_
  have K19_1 : ∀ (w2 : Int32) (H : Heap) (locs : List Loc) (ls : Array Slot), w2 = (if x0 = 3 then 0 else (if x0 = 4 then 2 else 1 : Int32) : Int32) → va_P D vwCl [] H → va_D A0 [] → va_S A0 s.heap H locs → lv_has ls 3 [(1, .int x1)] → W p l e ({ frames := 0, cells := 0, slots := 0, locals := 0 } : Room) s m args below meth c H locs 0 0 Q0 (F0 m 19 ls [.int w2]) := by
    intro w2 H locs ls e_w2 hP hD hS hl
    subst e_w2
    refine lv_istore_n (lv' := [(2, .int (if x0 = 3 then 0 else (if x0 = 4 then 2 else 1 : Int32) : Int32)), (1, .int x1)]) hx hb dL_damp_19 rfl hl (by decide) rfl (fun ls hl => ?_)
    refine lv_iload_n hx hb dL_damp_20 rfl (lv_at hl 1 rfl) ?_
    refine lv_iload_n hx hb dL_damp_21 rfl (lv_at hl 0 rfl) ?_
    refine lv_icmp_le (tgt := 31) hx hb dL_damp_22 (by decide) (fun c3 => ?_) (fun c3 => ?_)
    · skip
      have h := (if_pos c3).symm.trans h
      refine lv_iconst (v := 0) hx hb dL_damp_31 (by decide) ?_
      subst h
      exact rt_i hA0 hQ0 hx hb hr hlocks hP hS dL_damp_32
    · skip
      have h := (if_neg c3).symm.trans h
      refine lv_iload_n hx hb dL_damp_25 rfl (lv_at hl 1 rfl) ?_
      refine lv_iload_n hx hb dL_damp_26 rfl (lv_at hl 0 rfl) ?_
      refine lv_isub hx hb dL_damp_27 ?_
      refine lv_goto (tgt := 32) hx hb dL_damp_28 (by decide) ?_
      subst h
      exact rt_i hA0 hQ0 hx hb hr hlocks hP hS dL_damp_32
  refine lv_icmp_ne (tgt := 9) hx hb dL_damp_2 (by decide) (fun c4 => ?_) (fun c4 => ?_)
  · skip
    refine lv_iload_n hx hb dL_damp_9 rfl (lv_at hl 0 rfl) ?_
    refine lv_iconst (v := 4) hx hb dL_damp_10 (by decide) ?_
    refine lv_icmp_ne (tgt := 18) hx hb dL_damp_11 (by decide) (fun c5 => ?_) (fun c5 => ?_)
    · skip
      refine lv_iconst (v := 1) hx hb dL_damp_18 (by decide) ?_
      exact K19_1 1 _ _ _ (by rw [if_neg c4, if_neg c5]) hP hD hS (lv_sub hl [1] rfl)
    · skip
      refine lv_iconst (v := 2) hx hb dL_damp_14 (by decide) ?_
      refine lv_goto (tgt := 19) hx hb dL_damp_15 (by decide) ?_
      exact K19_1 2 _ _ _ (by rw [if_neg c4, if_pos c5]) hP hD hS (lv_sub hl [1] rfl)
  · skip
    refine lv_iconst (v := 0) hx hb dL_damp_5 (by decide) ?_
    refine lv_goto (tgt := 19) hx hb dL_damp_6 (by decide) ?_
    exact K19_1 0 _ _ _ (by rw [if_pos c4]) hP hD hS (lv_sub hl [1] rfl)
def fL_goes_X3_32 (n_p0 : Nat) (n_p1 : Nat) (v_p0 : Nat → Int32) (x2 : Int32) (x3 : Int32) (a3 : (Nat → Int32)) : Option ((Nat → Int32) × (Nat → Int32)) :=
  gd (inb (21 + x2) n_p0) (gd (inb (4 * x2) n_p1) (gd (inb (1 + x2) n_p0) (gd (inb (11 + x2) n_p0) (gd (inb 31 n_p0) (some ((upd (upd (upd v_p0 (31 : Int32).toNatClampNeg ((v_p0 (31 : Int32).toNatClampNeg) + ((v_p0 (11 + x2).toNatClampNeg) - (fL_hand (v_p0 (1 + x2).toNatClampNeg) (v_p0 (11 + x2).toNatClampNeg))))) (11 + x2).toNatClampNeg (fL_hand (v_p0 (1 + x2).toNatClampNeg) (v_p0 (11 + x2).toNatClampNeg))) (21 + x2).toNatClampNeg x3), (upd a3 (4 * x2).toNatClampNeg (v_p0 (21 + x2).toNatClampNeg))))))))
def fL_goes_L3 (n_p1 : Nat) (x2 : Int32) (z1 : Int32 × (Nat → Int32)) : Option ((Int32 × (Nat → Int32)) ⊕ ((Nat → Int32))) :=
  if z1.1 ≤ 0 then (some (Sum.inr z1.2)) else (gd (inb (((4 * x2) + z1.1) - 1) n_p1) (gd (inb ((4 * x2) + z1.1) n_p1) (some (Sum.inl ((z1.1 + (-1)), (upd z1.2 ((4 * x2) + z1.1).toNatClampNeg (z1.2 (((4 * x2) + z1.1) - 1).toNatClampNeg)))))))
def fL_goes (n_p0 : Nat) (n_p1 : Nat) (v_p0 : Nat → Int32) (v_p1 : Nat → Int32) (x2 : Int32) (x3 : Int32) : Option ((Nat → Int32) × (Nat → Int32)) :=
  (iter (fL_goes_L3 n_p1 x2) FU (3, v_p1)).bind (fL_goes_X3_32 n_p0 n_p1 v_p0 x2 x3)
set_option maxHeartbeats 4000000 in
set_option maxRecDepth 100000 in
theorem c_L_goes (l : Launch) (D : va_G) (cI cJ : ClassId) (q_p0 q_p1 : Nat) (n_p0 : Nat) (n_p1 : Nat) (v_p0 : Nat → Int32) (v_p1 : Nat → Int32) (x2 : Int32) (x3 : Int32) (z : (Nat → Int32) × (Nat → Int32)) (h : fL_goes n_p0 n_p1 v_p0 v_p1 x2 x3 = some z) : Met l yL_goes wsL_goes ({ frames := 1, cells := 0, slots := 0, locals := 22 } : Room) (va_Pc [.ref q_p0, .ref q_p1, .int x2, .int x3] (preG D cI cJ [(q_p0, .inl (cI, n_p0, .inl v_p0)), (q_p1, .inl (cI, n_p1, .inl v_p1))])) (QG D [(q_p0, .inl (cI, n_p0, .inl v_p0)), (q_p1, .inl (cI, n_p1, .inl v_p1))] [(q_p0, .inl (cI, n_p0, .inl z.1)), (q_p1, .inl (cI, n_p1, .inl z.2))] none) 0 0 (fr [(q_p0, .inl (cI, n_p0, .inl v_p0)), (q_p1, .inl (cI, n_p1, .inl v_p1))]) := by
  refine Met.ofW (cc := cL_goes) (maxL := 5) (ret := none) (by decide) rfl ?_
  intro p e s m args below meth c s₁ B hml hv
  obtain ⟨hargs, hP, hK, hN, hD0⟩ := hv
  have hx := B.exec
  have hb := B.bytes
  have hr := B.returns
  have hts := atoms_spec (ws := wsL_goes) B.pre
  have hown : s.vm.findClass RL = some m.cls := findClass_of_methodNamed B.named
  have hlocks := B.notSynchronized
  have hD := fr_D hD0
  have hS : va_S (fr [(q_p0, .inl (cI, n_p0, .inl v_p0)), (q_p1, .inl (cI, n_p1, .inl v_p1))]) s.heap s.heap [] := va_S.rf
  have hl := lv_entry ([.ref q_p0, .ref q_p1, .int x2, .int x3]) (n := 5) (Nat.le_of_ble_eq_true rfl)
  refine W.eq (g2 := F0 m 0 ((lg_sl ([.ref q_p0, .ref q_p1, .int x2, .int x3]) ++ List.replicate (5 - (lg_sl ([.ref q_p0, .ref q_p1, .int x2, .int x3])).length) Slot.unset).toArray) []) (by rw [hargs, lg_entry_eq]) ?_
  generalize (lg_sl ([.ref q_p0, .ref q_p1, .int x2, .int x3]) ++ List.replicate (5 - (lg_sl ([.ref q_p0, .ref q_p1, .int x2, .int x3])).length) Slot.unset).toArray = ls at hl ⊢
  have hl : lv_has ls 5 [(0, .ref q_p0), (1, .ref q_p1), (2, .int x2), (3, .int x3)] := hl
  show W p l e ({ frames := 1, cells := 0, slots := 0, locals := 22 } : Room) s m args below meth c s.heap [] 0 0 (MQ below (QG D [(q_p0, .inl (cI, n_p0, .inl v_p0)), (q_p1, .inl (cI, n_p1, .inl v_p1))] [(q_p0, .inl (cI, n_p0, .inl z.1)), (q_p1, .inl (cI, n_p1, .inl z.2))] none) args s 0 0 (fr [(q_p0, .inl (cI, n_p0, .inl v_p0)), (q_p1, .inl (cI, n_p1, .inl v_p1))])) (F0 m 0 ls [])
  generalize hQ0 : (MQ below (QG D [(q_p0, .inl (cI, n_p0, .inl v_p0)), (q_p1, .inl (cI, n_p1, .inl v_p1))] [(q_p0, .inl (cI, n_p0, .inl z.1)), (q_p1, .inl (cI, n_p1, .inl z.2))] none) args s 0 0 (fr [(q_p0, .inl (cI, n_p0, .inl v_p0)), (q_p1, .inl (cI, n_p1, .inl v_p1))])) = Q0
  generalize hA0 : fr [(q_p0, .inl (cI, n_p0, .inl v_p0)), (q_p1, .inl (cI, n_p1, .inl v_p1))] = A0 at hD hS
  unfold fL_goes at h
  refine lv_iconst (v := 3) hx hb dL_goes_0 (by decide) ?_
  refine lv_istore (lv' := [(4, .int 3), (0, .ref q_p0), (1, .ref q_p1), (2, .int x2), (3, .int x3)]) hx hb dL_goes_1 hl (by decide) rfl (fun ls hl => ?_)
  obtain ⟨e2, he_e2, hc_e2⟩ := bd_of h
  have X32_4 : ∀ (a3 : (Nat → Int32)) (H : Heap) (locs : List Loc) (ls : Array Slot), fL_goes_X3_32 n_p0 n_p1 v_p0 x2 x3 a3 = some z → va_P D vwCl [(q_p0, .inl (cI, n_p0, .inl v_p0)), (q_p1, .inl (cI, n_p1, .inl a3))] H → va_D A0 [(q_p0, .inl (cI, n_p0, .inl v_p0)), (q_p1, .inl (cI, n_p1, .inl a3))] → va_S A0 s.heap H locs → lv_has ls 5 [(0, .ref q_p0), (1, .ref q_p1), (2, .int x2), (3, .int x3)] → W p l e ({ frames := 1, cells := 0, slots := 0, locals := 22 } : Room) s m args below meth c H locs 0 0 Q0 (F0 m 32 ls []) := by
    intro a3 H locs ls h hP hD hS hl
    unfold fL_goes_X3_32 at h
    refine lv_aload_n hx hb dL_goes_32 rfl (lv_at hl 1 rfl) ?_
    refine lv_iconst (v := 4) hx hb dL_goes_33 (by decide) ?_
    refine lv_iload_n hx hb dL_goes_34 rfl (lv_at hl 2 rfl) ?_
    refine lv_imul hx hb dL_goes_35 ?_
    refine lv_aload_n hx hb dL_goes_36 rfl (lv_at hl 0 rfl) ?_
    refine lv_bipush (v := 21) hx hb dL_goes_37 (by decide) ?_
    refine lv_iload_n hx hb dL_goes_39 rfl (lv_at hl 2 rfl) ?_
    refine lv_iadd hx hb dL_goes_40 ?_
    obtain ⟨g5, h⟩ := gd_of h
    refine va_iald hx hb hK hP 0 0 rfl rfl (inb_of g5) dL_goes_41 ?_
    obtain ⟨g6, h⟩ := gd_of h
    refine va_iast hx hb hK hP hD hS 1 0 rfl rfl (inb_of g6) dL_goes_42 (fun H locs hP hD hS => ?_)
    have hP : va_P D vwCl [(q_p0, .inl (cI, n_p0, .inl v_p0)), (q_p1, .inl (cI, n_p1, .inl (upd a3 (4 * x2).toNatClampNeg (v_p0 (21 + x2).toNatClampNeg))))] H := hP
    have hD : va_D A0 [(q_p0, .inl (cI, n_p0, .inl v_p0)), (q_p1, .inl (cI, n_p1, .inl (upd a3 (4 * x2).toNatClampNeg (v_p0 (21 + x2).toNatClampNeg))))] := hD
    refine lv_aload_n hx hb dL_goes_43 rfl (lv_at hl 0 rfl) ?_
    refine lv_iconst (v := 1) hx hb dL_goes_44 (by decide) ?_
    refine lv_iload_n hx hb dL_goes_45 rfl (lv_at hl 2 rfl) ?_
    refine lv_iadd hx hb dL_goes_46 ?_
    obtain ⟨g7, h⟩ := gd_of h
    refine va_iald hx hb hK hP 0 0 rfl rfl (inb_of g7) dL_goes_47 ?_
    refine lv_aload_n hx hb dL_goes_48 rfl (lv_at hl 0 rfl) ?_
    refine lv_bipush (v := 11) hx hb dL_goes_49 (by decide) ?_
    refine lv_iload_n hx hb dL_goes_51 rfl (lv_at hl 2 rfl) ?_
    refine lv_iadd hx hb dL_goes_52 ?_
    obtain ⟨g8, h⟩ := gd_of h
    refine va_iald hx hb hK hP 0 0 rfl rfl (inb_of g8) dL_goes_53 ?_
    refine cl_S [(q_p0, .inl (cI, n_p0, .inl v_p0)), (q_p1, .inl (cI, n_p1, .inl (upd a3 (4 * x2).toNatClampNeg (v_p0 (21 + x2).toNatClampNeg))))] (As := [.int (v_p0 (1 + x2).toNatClampNeg), .int (v_p0 (11 + x2).toNatClampNeg)]) (rest := []) (rv := (some (.int (fL_hand (v_p0 (1 + x2).toNatClampNeg) (v_p0 (11 + x2).toNatClampNeg))))) (c_L_hand l D cI cJ (v_p0 (1 + x2).toNatClampNeg) (v_p0 (11 + x2).toNatClampNeg)) ⟨hx, hb, hml, hown, hts⟩ (va_cwS 2 hts gL_goes_L_hand rfl rfl rfl (by decide +kernel) ⟨(Nat.le_of_ble_eq_true rfl), (Nat.le_of_ble_eq_true rfl)⟩) hK hN hP hD hS [] rfl (by decide) rfl rfl rfl rfl hl.1 rfl (Nat.le_of_ble_eq_true rfl) dL_goes_54 ⟨Nat.zero_le _, Nat.zero_le _⟩ (fun H locs hP hD hS => ?_)
    show W p l e ({ frames := 1, cells := 0, slots := 0, locals := 22 } : Room) s m args below meth c H locs 0 0 Q0 (F0 m 57 ls [.int (fL_hand (v_p0 (1 + x2).toNatClampNeg) (v_p0 (11 + x2).toNatClampNeg))])
    refine lv_istore (lv' := [(4, .int (fL_hand (v_p0 (1 + x2).toNatClampNeg) (v_p0 (11 + x2).toNatClampNeg))), (0, .ref q_p0), (1, .ref q_p1), (2, .int x2), (3, .int x3)]) hx hb dL_goes_57 hl (by decide) rfl (fun ls hl => ?_)
    refine lv_aload_n hx hb dL_goes_59 rfl (lv_at hl 1 rfl) ?_
    refine lv_bipush (v := 31) hx hb dL_goes_60 (by decide) ?_
    refine lv_dup2_11 hx hb dL_goes_62 rfl rfl ?_
    obtain ⟨g9, h⟩ := gd_of h
    refine va_iald hx hb hK hP 0 0 rfl rfl (inb_of g9) dL_goes_63 ?_
    refine lv_aload_n hx hb dL_goes_64 rfl (lv_at hl 1 rfl) ?_
    refine lv_bipush (v := 11) hx hb dL_goes_65 (by decide) ?_
    refine lv_iload_n hx hb dL_goes_67 rfl (lv_at hl 3 rfl) ?_
    refine lv_iadd hx hb dL_goes_68 ?_
    refine va_iald hx hb hK hP 0 0 rfl rfl (inb_of g8) dL_goes_69 ?_
    refine lv_iload hx hb dL_goes_70 (lv_at hl 0 rfl) ?_
    refine lv_isub hx hb dL_goes_72 ?_
    refine lv_iadd hx hb dL_goes_73 ?_
    refine va_iast hx hb hK hP hD hS 0 0 rfl rfl (inb_of g9) dL_goes_74 (fun H locs hP hD hS => ?_)
    have hP : va_P D vwCl [(q_p0, .inl (cI, n_p0, .inl (upd v_p0 (31 : Int32).toNatClampNeg ((v_p0 (31 : Int32).toNatClampNeg) + ((v_p0 (11 + x2).toNatClampNeg) - (fL_hand (v_p0 (1 + x2).toNatClampNeg) (v_p0 (11 + x2).toNatClampNeg))))))), (q_p1, .inl (cI, n_p1, .inl (upd a3 (4 * x2).toNatClampNeg (v_p0 (21 + x2).toNatClampNeg))))] H := hP
    have hD : va_D A0 [(q_p0, .inl (cI, n_p0, .inl (upd v_p0 (31 : Int32).toNatClampNeg ((v_p0 (31 : Int32).toNatClampNeg) + ((v_p0 (11 + x2).toNatClampNeg) - (fL_hand (v_p0 (1 + x2).toNatClampNeg) (v_p0 (11 + x2).toNatClampNeg))))))), (q_p1, .inl (cI, n_p1, .inl (upd a3 (4 * x2).toNatClampNeg (v_p0 (21 + x2).toNatClampNeg))))] := hD
    refine lv_aload_n hx hb dL_goes_75 rfl (lv_at hl 1 rfl) ?_
    refine lv_bipush (v := 11) hx hb dL_goes_76 (by decide) ?_
    refine lv_iload_n hx hb dL_goes_78 rfl (lv_at hl 3 rfl) ?_
    refine lv_iadd hx hb dL_goes_79 ?_
    refine lv_iload hx hb dL_goes_80 (lv_at hl 0 rfl) ?_
    refine va_iast hx hb hK hP hD hS 0 0 rfl rfl (inb_of g8) dL_goes_82 (fun H locs hP hD hS => ?_)
    have hP : va_P D vwCl [(q_p0, .inl (cI, n_p0, .inl (upd (upd v_p0 (31 : Int32).toNatClampNeg ((v_p0 (31 : Int32).toNatClampNeg) + ((v_p0 (11 + x2).toNatClampNeg) - (fL_hand (v_p0 (1 + x2).toNatClampNeg) (v_p0 (11 + x2).toNatClampNeg))))) (11 + x2).toNatClampNeg (fL_hand (v_p0 (1 + x2).toNatClampNeg) (v_p0 (11 + x2).toNatClampNeg))))), (q_p1, .inl (cI, n_p1, .inl (upd a3 (4 * x2).toNatClampNeg (v_p0 (21 + x2).toNatClampNeg))))] H := hP
    have hD : va_D A0 [(q_p0, .inl (cI, n_p0, .inl (upd (upd v_p0 (31 : Int32).toNatClampNeg ((v_p0 (31 : Int32).toNatClampNeg) + ((v_p0 (11 + x2).toNatClampNeg) - (fL_hand (v_p0 (1 + x2).toNatClampNeg) (v_p0 (11 + x2).toNatClampNeg))))) (11 + x2).toNatClampNeg (fL_hand (v_p0 (1 + x2).toNatClampNeg) (v_p0 (11 + x2).toNatClampNeg))))), (q_p1, .inl (cI, n_p1, .inl (upd a3 (4 * x2).toNatClampNeg (v_p0 (21 + x2).toNatClampNeg))))] := hD
    refine lv_aload_n hx hb dL_goes_83 rfl (lv_at hl 1 rfl) ?_
    refine lv_bipush (v := 21) hx hb dL_goes_84 (by decide) ?_
    refine lv_iload_n hx hb dL_goes_86 rfl (lv_at hl 3 rfl) ?_
    refine lv_iadd hx hb dL_goes_87 ?_
    refine lv_iload_n hx hb dL_goes_88 rfl (lv_at hl 4 rfl) ?_
    refine va_iast hx hb hK hP hD hS 0 0 rfl rfl (inb_of g5) dL_goes_89 (fun H locs hP hD hS => ?_)
    have hP : va_P D vwCl [(q_p0, .inl (cI, n_p0, .inl (upd (upd (upd v_p0 (31 : Int32).toNatClampNeg ((v_p0 (31 : Int32).toNatClampNeg) + ((v_p0 (11 + x2).toNatClampNeg) - (fL_hand (v_p0 (1 + x2).toNatClampNeg) (v_p0 (11 + x2).toNatClampNeg))))) (11 + x2).toNatClampNeg (fL_hand (v_p0 (1 + x2).toNatClampNeg) (v_p0 (11 + x2).toNatClampNeg))) (21 + x2).toNatClampNeg x3))), (q_p1, .inl (cI, n_p1, .inl (upd a3 (4 * x2).toNatClampNeg (v_p0 (21 + x2).toNatClampNeg))))] H := hP
    have hD : va_D A0 [(q_p0, .inl (cI, n_p0, .inl (upd (upd (upd v_p0 (31 : Int32).toNatClampNeg ((v_p0 (31 : Int32).toNatClampNeg) + ((v_p0 (11 + x2).toNatClampNeg) - (fL_hand (v_p0 (1 + x2).toNatClampNeg) (v_p0 (11 + x2).toNatClampNeg))))) (11 + x2).toNatClampNeg (fL_hand (v_p0 (1 + x2).toNatClampNeg) (v_p0 (11 + x2).toNatClampNeg))) (21 + x2).toNatClampNeg x3))), (q_p1, .inl (cI, n_p1, .inl (upd a3 (4 * x2).toNatClampNeg (v_p0 (21 + x2).toNatClampNeg))))] := hD
    obtain rfl := Option.some.inj h
    exact rt_v hA0 hQ0 hx hb hr hlocks hP hS dL_goes_90
  have L3_10 : ∀ (n : Nat) (z1 : Int32 × (Nat → Int32)) (H : Heap) (locs : List Loc) (ls : Array Slot), iter (fL_goes_L3 n_p1 x2) n z1 = some e2 → va_P D vwCl [(q_p0, .inl (cI, n_p0, .inl v_p0)), (q_p1, .inl (cI, n_p1, .inl z1.2))] H → va_D A0 [(q_p0, .inl (cI, n_p0, .inl v_p0)), (q_p1, .inl (cI, n_p1, .inl z1.2))] → va_S A0 s.heap H locs → lv_has ls 5 [(0, .ref q_p0), (1, .ref q_p1), (2, .int x2), (3, .int x3), (4, .int z1.1)] → W p l e ({ frames := 1, cells := 0, slots := 0, locals := 22 } : Room) s m args below meth c H locs 0 0 Q0 (F0 m 3 ls []) := by
    intro n
    induction n with
    | zero => exact fun _ _ _ _ h => (iter_z h).elim
    | succ n ih =>
      intro z1 H locs ls h hP hD hS hl
      obtain ⟨r_e2, h, hn_e2⟩ := iter_s h
      unfold fL_goes_L3 at h
      refine lv_iload hx hb dL_goes_3 (lv_at hl 4 rfl) ?_
      refine lv_if_le (tgt := 32) hx hb dL_goes_5 (by decide) (fun c11 => ?_) (fun c11 => ?_)
      · skip
        have h := (if_pos c11).symm.trans h
        obtain rfl := Option.some.inj h
        obtain rfl := Option.some.inj hn_e2
        exact X32_4 z1.2 _ _ _ hc_e2 hP hD hS (lv_sub hl [0, 1, 2, 3] rfl)
      · skip
        have h := (if_neg c11).symm.trans h
        refine lv_aload_n hx hb dL_goes_8 rfl (lv_at hl 1 rfl) ?_
        refine lv_iconst (v := 4) hx hb dL_goes_9 (by decide) ?_
        refine lv_iload_n hx hb dL_goes_10 rfl (lv_at hl 2 rfl) ?_
        refine lv_imul hx hb dL_goes_11 ?_
        refine lv_iload hx hb dL_goes_12 (lv_at hl 4 rfl) ?_
        refine lv_iadd hx hb dL_goes_14 ?_
        refine lv_aload_n hx hb dL_goes_15 rfl (lv_at hl 1 rfl) ?_
        refine lv_iconst (v := 4) hx hb dL_goes_16 (by decide) ?_
        refine lv_iload_n hx hb dL_goes_17 rfl (lv_at hl 2 rfl) ?_
        refine lv_imul hx hb dL_goes_18 ?_
        refine lv_iload hx hb dL_goes_19 (lv_at hl 4 rfl) ?_
        refine lv_iadd hx hb dL_goes_21 ?_
        refine lv_iconst (v := 1) hx hb dL_goes_22 (by decide) ?_
        refine lv_isub hx hb dL_goes_23 ?_
        obtain ⟨g12, h⟩ := gd_of h
        refine va_iald hx hb hK hP 1 0 rfl rfl (inb_of g12) dL_goes_24 ?_
        obtain ⟨g13, h⟩ := gd_of h
        refine va_iast hx hb hK hP hD hS 1 0 rfl rfl (inb_of g13) dL_goes_25 (fun H locs hP hD hS => ?_)
        have hP : va_P D vwCl [(q_p0, .inl (cI, n_p0, .inl v_p0)), (q_p1, .inl (cI, n_p1, .inl (upd z1.2 ((4 * x2) + z1.1).toNatClampNeg (z1.2 (((4 * x2) + z1.1) - 1).toNatClampNeg))))] H := hP
        have hD : va_D A0 [(q_p0, .inl (cI, n_p0, .inl v_p0)), (q_p1, .inl (cI, n_p1, .inl (upd z1.2 ((4 * x2) + z1.1).toNatClampNeg (z1.2 (((4 * x2) + z1.1) - 1).toNatClampNeg))))] := hD
        refine lv_iinc (v := (z1.1 + (-1))) (lv' := [(4, .int (z1.1 + (-1))), (0, .ref q_p0), (1, .ref q_p1), (2, .int x2), (3, .int x3)]) hx hb dL_goes_26 hl (k := 4) rfl rfl (by decide) rfl (fun ls hl => ?_)
        refine lv_goto (tgt := 3) hx hb dL_goes_29 (by decide) ?_
        obtain rfl := Option.some.inj h
        exact ih ((z1.1 + (-1)), (upd z1.2 ((4 * x2) + z1.1).toNatClampNeg (z1.2 (((4 * x2) + z1.1) - 1).toNatClampNeg))) _ _ _ hn_e2 hP hD hS (lv_sub hl [1, 2, 3, 4, 0] rfl)
  exact L3_10 FU (3, v_p1) _ _ _ he_e2 hP hD hS (lv_sub hl [1, 2, 3, 4, 0] rfl)
def fL_month_X4_62 (n_p0 : Nat) (a3 : Int32 × (Nat → Int32)) : Option (Int32 × (Nat → Int32)) :=
  gd (inb 32 n_p0) (some (a3.1, (upd a3.2 (32 : Int32).toNatClampNeg ((a3.2 (32 : Int32).toNatClampNeg) + a3.1))))
def fL_month_J56 (z1 : Int32 × Int32 × (Nat → Int32)) (a10 : Int32 × (Nat → Int32)) : Option ((Int32 × Int32 × (Nat → Int32)) ⊕ (Int32 × (Nat → Int32))) :=
  some (Sum.inl (a10.1, (z1.2.1 + 1), a10.2))
def fL_month_L4 (n_p0 : Nat) (z1 : Int32 × Int32 × (Nat → Int32)) : Option ((Int32 × Int32 × (Nat → Int32)) ⊕ (Int32 × (Nat → Int32))) :=
  gd (inb 0 n_p0) (if (z1.2.2 (0 : Int32).toNatClampNeg) ≤ z1.2.1 then (some (Sum.inr (z1.1, z1.2.2))) else (gd (inb (21 + z1.2.1) n_p0) (if 0 ≤ (z1.2.2 (21 + z1.2.1).toNatClampNeg) then (gd (inb (1 + z1.2.1) n_p0) (gd (inb (11 + z1.2.1) n_p0) (fL_month_J56 z1 ((z1.1 + ((z1.2.2 (11 + z1.2.1).toNatClampNeg) - (fL_damp (z1.2.2 (1 + z1.2.1).toNatClampNeg) (z1.2.2 (11 + z1.2.1).toNatClampNeg)))), (upd z1.2.2 (11 + z1.2.1).toNatClampNeg (fL_damp (z1.2.2 (1 + z1.2.1).toNatClampNeg) (z1.2.2 (11 + z1.2.1).toNatClampNeg))))))) else (fL_month_J56 z1 (z1.1, z1.2.2)))))
def fL_month (n_p0 : Nat) (v_p0 : Nat → Int32) : Option (Int32 × (Nat → Int32)) :=
  (iter (fL_month_L4 n_p0) FU (0, 0, v_p0)).bind (fL_month_X4_62 n_p0)
set_option maxHeartbeats 4000000 in
set_option maxRecDepth 100000 in
theorem c_L_month (l : Launch) (D : va_G) (cI cJ : ClassId) (q_p0 : Nat) (n_p0 : Nat) (v_p0 : Nat → Int32) (z : Int32 × (Nat → Int32)) (h : fL_month n_p0 v_p0 = some z) : Met l yL_month wsL_month ({ frames := 1, cells := 0, slots := 0, locals := 22 } : Room) (va_Pc [.ref q_p0] (preG D cI cJ [(q_p0, .inl (cI, n_p0, .inl v_p0))])) (QG D [(q_p0, .inl (cI, n_p0, .inl v_p0))] [(q_p0, .inl (cI, n_p0, .inl z.2))] (some (.int z.1))) 0 0 (fr [(q_p0, .inl (cI, n_p0, .inl v_p0))]) := by
  refine Met.ofW (cc := cL_month) (maxL := 4) (ret := (some .int)) (by decide) rfl ?_
  intro p e s m args below meth c s₁ B hml hv
  obtain ⟨hargs, hP, hK, hN, hD0⟩ := hv
  have hx := B.exec
  have hb := B.bytes
  have hr := B.returns
  have hts := atoms_spec (ws := wsL_month) B.pre
  have hown : s.vm.findClass RL = some m.cls := findClass_of_methodNamed B.named
  have hlocks := B.notSynchronized
  have hD := fr_D hD0
  have hS : va_S (fr [(q_p0, .inl (cI, n_p0, .inl v_p0))]) s.heap s.heap [] := va_S.rf
  have hl := lv_entry ([.ref q_p0]) (n := 4) (Nat.le_of_ble_eq_true rfl)
  refine W.eq (g2 := F0 m 0 ((lg_sl ([.ref q_p0]) ++ List.replicate (4 - (lg_sl ([.ref q_p0])).length) Slot.unset).toArray) []) (by rw [hargs, lg_entry_eq]) ?_
  generalize (lg_sl ([.ref q_p0]) ++ List.replicate (4 - (lg_sl ([.ref q_p0])).length) Slot.unset).toArray = ls at hl ⊢
  have hl : lv_has ls 4 [(0, .ref q_p0)] := hl
  show W p l e ({ frames := 1, cells := 0, slots := 0, locals := 22 } : Room) s m args below meth c s.heap [] 0 0 (MQ below (QG D [(q_p0, .inl (cI, n_p0, .inl v_p0))] [(q_p0, .inl (cI, n_p0, .inl z.2))] (some (.int z.1))) args s 0 0 (fr [(q_p0, .inl (cI, n_p0, .inl v_p0))])) (F0 m 0 ls [])
  generalize hQ0 : (MQ below (QG D [(q_p0, .inl (cI, n_p0, .inl v_p0))] [(q_p0, .inl (cI, n_p0, .inl z.2))] (some (.int z.1))) args s 0 0 (fr [(q_p0, .inl (cI, n_p0, .inl v_p0))])) = Q0
  generalize hA0 : fr [(q_p0, .inl (cI, n_p0, .inl v_p0))] = A0 at hD hS
  unfold fL_month at h
  refine lv_iconst (v := 0) hx hb dL_month_0 (by decide) ?_
  refine lv_istore_n (lv' := [(1, .int 0), (0, .ref q_p0)]) hx hb dL_month_1 rfl hl (by decide) rfl (fun ls hl => ?_)
  refine lv_iconst (v := 0) hx hb dL_month_2 (by decide) ?_
  refine lv_istore_n (lv' := [(2, .int 0), (1, .int 0), (0, .ref q_p0)]) hx hb dL_month_3 rfl hl (by decide) rfl (fun ls hl => ?_)
  obtain ⟨e2, he_e2, hc_e2⟩ := bd_of h
  have X62_4 : ∀ (a3 : Int32 × (Nat → Int32)) (H : Heap) (locs : List Loc) (ls : Array Slot), fL_month_X4_62 n_p0 a3 = some z → va_P D vwCl [(q_p0, .inl (cI, n_p0, .inl a3.2))] H → va_D A0 [(q_p0, .inl (cI, n_p0, .inl a3.2))] → va_S A0 s.heap H locs → lv_has ls 4 [(0, .ref q_p0), (1, .int a3.1)] → W p l e ({ frames := 1, cells := 0, slots := 0, locals := 22 } : Room) s m args below meth c H locs 0 0 Q0 (F0 m 62 ls []) := by
    intro a3 H locs ls h hP hD hS hl
    unfold fL_month_X4_62 at h
    refine lv_aload_n hx hb dL_month_62 rfl (lv_at hl 0 rfl) ?_
    refine lv_bipush (v := 32) hx hb dL_month_63 (by decide) ?_
    refine lv_dup2_11 hx hb dL_month_65 rfl rfl ?_
    obtain ⟨g5, h⟩ := gd_of h
    refine va_iald hx hb hK hP 0 0 rfl rfl (inb_of g5) dL_month_66 ?_
    refine lv_iload_n hx hb dL_month_67 rfl (lv_at hl 1 rfl) ?_
    refine lv_iadd hx hb dL_month_68 ?_
    refine va_iast hx hb hK hP hD hS 0 0 rfl rfl (inb_of g5) dL_month_69 (fun H locs hP hD hS => ?_)
    have hP : va_P D vwCl [(q_p0, .inl (cI, n_p0, .inl (upd a3.2 (32 : Int32).toNatClampNeg ((a3.2 (32 : Int32).toNatClampNeg) + a3.1))))] H := hP
    have hD : va_D A0 [(q_p0, .inl (cI, n_p0, .inl (upd a3.2 (32 : Int32).toNatClampNeg ((a3.2 (32 : Int32).toNatClampNeg) + a3.1))))] := hD
    refine lv_iload_n hx hb dL_month_70 rfl (lv_at hl 1 rfl) ?_
    obtain rfl := Option.some.inj h
    exact rt_i hA0 hQ0 hx hb hr hlocks hP hS dL_month_71
  have L4_6 : ∀ (n : Nat) (z1 : Int32 × Int32 × (Nat → Int32)) (H : Heap) (locs : List Loc) (ls : Array Slot), iter (fL_month_L4 n_p0) n z1 = some e2 → va_P D vwCl [(q_p0, .inl (cI, n_p0, .inl z1.2.2))] H → va_D A0 [(q_p0, .inl (cI, n_p0, .inl z1.2.2))] → va_S A0 s.heap H locs → lv_has ls 4 [(0, .ref q_p0), (1, .int z1.1), (2, .int z1.2.1)] → W p l e ({ frames := 1, cells := 0, slots := 0, locals := 22 } : Room) s m args below meth c H locs 0 0 Q0 (F0 m 4 ls []) := by
    intro n
    induction n with
    | zero => exact fun _ _ _ _ h => (iter_z h).elim
    | succ n ih =>
      intro z1 H locs ls h hP hD hS hl
      obtain ⟨r_e2, h, hn_e2⟩ := iter_s h
      unfold fL_month_L4 at h
      refine lv_iload_n hx hb dL_month_4 rfl (lv_at hl 2 rfl) ?_
      refine lv_aload_n hx hb dL_month_5 rfl (lv_at hl 0 rfl) ?_
      refine lv_iconst (v := 0) hx hb dL_month_6 (by decide) ?_
      obtain ⟨g7, h⟩ := gd_of h
      refine va_iald hx hb hK hP 0 0 rfl rfl (inb_of g7) dL_month_7 ?_
      refine lv_icmp_ge (tgt := 62) hx hb dL_month_8 (by decide) (fun c8 => ?_) (fun c8 => ?_)
      · skip
        have h := (if_pos c8).symm.trans h
        obtain rfl := Option.some.inj h
        obtain rfl := Option.some.inj hn_e2
        exact X62_4 (z1.1, z1.2.2) _ _ _ hc_e2 hP hD hS (lv_sub hl [0, 1] rfl)
      · skip
        have h := (if_neg c8).symm.trans h
        refine lv_aload_n hx hb dL_month_11 rfl (lv_at hl 0 rfl) ?_
        refine lv_bipush (v := 21) hx hb dL_month_12 (by decide) ?_
        refine lv_iload_n hx hb dL_month_14 rfl (lv_at hl 2 rfl) ?_
        refine lv_iadd hx hb dL_month_15 ?_
        obtain ⟨g9, h⟩ := gd_of h
        refine va_iald hx hb hK hP 0 0 rfl rfl (inb_of g9) dL_month_16 ?_
        have J56_11 : ∀ (a10 : Int32 × (Nat → Int32)) (H : Heap) (locs : List Loc) (ls : Array Slot), fL_month_J56 z1 a10 = some r_e2 → va_P D vwCl [(q_p0, .inl (cI, n_p0, .inl a10.2))] H → va_D A0 [(q_p0, .inl (cI, n_p0, .inl a10.2))] → va_S A0 s.heap H locs → lv_has ls 4 [(0, .ref q_p0), (1, .int a10.1), (2, .int z1.2.1)] → W p l e ({ frames := 1, cells := 0, slots := 0, locals := 22 } : Room) s m args below meth c H locs 0 0 Q0 (F0 m 56 ls []) := by
          intro a10 H locs ls h hP hD hS hl
          unfold fL_month_J56 at h
          refine lv_iinc (v := (z1.2.1 + 1)) (lv' := [(2, .int (z1.2.1 + 1)), (0, .ref q_p0), (1, .int a10.1)]) hx hb dL_month_56 hl (k := 2) rfl rfl (by decide) rfl (fun ls hl => ?_)
          refine lv_goto (tgt := 4) hx hb dL_month_59 (by decide) ?_
          obtain rfl := Option.some.inj h
          exact ih (a10.1, (z1.2.1 + 1), a10.2) _ _ _ hn_e2 hP hD hS (lv_sub hl [1, 2, 0] rfl)
        refine lv_if_ge (tgt := 23) hx hb dL_month_17 (by decide) (fun c12 => ?_) (fun c12 => ?_)
        · skip
          have h := (if_pos c12).symm.trans h
          refine lv_aload_n hx hb dL_month_23 rfl (lv_at hl 0 rfl) ?_
          refine lv_iconst (v := 1) hx hb dL_month_24 (by decide) ?_
          refine lv_iload_n hx hb dL_month_25 rfl (lv_at hl 2 rfl) ?_
          refine lv_iadd hx hb dL_month_26 ?_
          obtain ⟨g13, h⟩ := gd_of h
          refine va_iald hx hb hK hP 0 0 rfl rfl (inb_of g13) dL_month_27 ?_
          refine lv_aload_n hx hb dL_month_28 rfl (lv_at hl 0 rfl) ?_
          refine lv_bipush (v := 11) hx hb dL_month_29 (by decide) ?_
          refine lv_iload_n hx hb dL_month_31 rfl (lv_at hl 2 rfl) ?_
          refine lv_iadd hx hb dL_month_32 ?_
          obtain ⟨g14, h⟩ := gd_of h
          refine va_iald hx hb hK hP 0 0 rfl rfl (inb_of g14) dL_month_33 ?_
          refine cl_S [(q_p0, .inl (cI, n_p0, .inl z1.2.2))] (As := [.int (z1.2.2 (1 + z1.2.1).toNatClampNeg), .int (z1.2.2 (11 + z1.2.1).toNatClampNeg)]) (rest := []) (rv := (some (.int (fL_damp (z1.2.2 (1 + z1.2.1).toNatClampNeg) (z1.2.2 (11 + z1.2.1).toNatClampNeg))))) (c_L_damp l D cI cJ (z1.2.2 (1 + z1.2.1).toNatClampNeg) (z1.2.2 (11 + z1.2.1).toNatClampNeg)) ⟨hx, hb, hml, hown, hts⟩ (va_cwS 2 hts gL_month_L_damp rfl rfl rfl (by decide +kernel) ⟨(Nat.le_of_ble_eq_true rfl), (Nat.le_of_ble_eq_true rfl)⟩) hK hN hP hD hS [] rfl (by decide) rfl rfl rfl rfl hl.1 rfl (Nat.le_of_ble_eq_true rfl) dL_month_34 ⟨Nat.zero_le _, Nat.zero_le _⟩ (fun H locs hP hD hS => ?_)
          show W p l e ({ frames := 1, cells := 0, slots := 0, locals := 22 } : Room) s m args below meth c H locs 0 0 Q0 (F0 m 37 ls [.int (fL_damp (z1.2.2 (1 + z1.2.1).toNatClampNeg) (z1.2.2 (11 + z1.2.1).toNatClampNeg))])
          refine lv_istore_n (lv' := [(3, .int (fL_damp (z1.2.2 (1 + z1.2.1).toNatClampNeg) (z1.2.2 (11 + z1.2.1).toNatClampNeg))), (0, .ref q_p0), (1, .int z1.1), (2, .int z1.2.1)]) hx hb dL_month_37 rfl hl (by decide) rfl (fun ls hl => ?_)
          refine lv_iload_n hx hb dL_month_38 rfl (lv_at hl 2 rfl) ?_
          refine lv_aload_n hx hb dL_month_39 rfl (lv_at hl 1 rfl) ?_
          refine lv_bipush (v := 11) hx hb dL_month_40 (by decide) ?_
          refine lv_iload_n hx hb dL_month_42 rfl (lv_at hl 3 rfl) ?_
          refine lv_iadd hx hb dL_month_43 ?_
          refine va_iald hx hb hK hP 0 0 rfl rfl (inb_of g14) dL_month_44 ?_
          refine lv_iload_n hx hb dL_month_45 rfl (lv_at hl 0 rfl) ?_
          refine lv_isub hx hb dL_month_46 ?_
          refine lv_iadd hx hb dL_month_47 ?_
          refine lv_istore_n (lv' := [(1, .int (z1.1 + ((z1.2.2 (11 + z1.2.1).toNatClampNeg) - (fL_damp (z1.2.2 (1 + z1.2.1).toNatClampNeg) (z1.2.2 (11 + z1.2.1).toNatClampNeg))))), (3, .int (fL_damp (z1.2.2 (1 + z1.2.1).toNatClampNeg) (z1.2.2 (11 + z1.2.1).toNatClampNeg))), (0, .ref q_p0), (2, .int z1.2.1)]) hx hb dL_month_48 rfl hl (by decide) rfl (fun ls hl => ?_)
          refine lv_aload_n hx hb dL_month_49 rfl (lv_at hl 2 rfl) ?_
          refine lv_bipush (v := 11) hx hb dL_month_50 (by decide) ?_
          refine lv_iload_n hx hb dL_month_52 rfl (lv_at hl 3 rfl) ?_
          refine lv_iadd hx hb dL_month_53 ?_
          refine lv_iload_n hx hb dL_month_54 rfl (lv_at hl 1 rfl) ?_
          refine va_iast hx hb hK hP hD hS 0 0 rfl rfl (inb_of g14) dL_month_55 (fun H locs hP hD hS => ?_)
          have hP : va_P D vwCl [(q_p0, .inl (cI, n_p0, .inl (upd z1.2.2 (11 + z1.2.1).toNatClampNeg (fL_damp (z1.2.2 (1 + z1.2.1).toNatClampNeg) (z1.2.2 (11 + z1.2.1).toNatClampNeg)))))] H := hP
          have hD : va_D A0 [(q_p0, .inl (cI, n_p0, .inl (upd z1.2.2 (11 + z1.2.1).toNatClampNeg (fL_damp (z1.2.2 (1 + z1.2.1).toNatClampNeg) (z1.2.2 (11 + z1.2.1).toNatClampNeg)))))] := hD
          exact J56_11 ((z1.1 + ((z1.2.2 (11 + z1.2.1).toNatClampNeg) - (fL_damp (z1.2.2 (1 + z1.2.1).toNatClampNeg) (z1.2.2 (11 + z1.2.1).toNatClampNeg)))), (upd z1.2.2 (11 + z1.2.1).toNatClampNeg (fL_damp (z1.2.2 (1 + z1.2.1).toNatClampNeg) (z1.2.2 (11 + z1.2.1).toNatClampNeg)))) _ _ _ h hP hD hS (lv_sub hl [2, 0, 3] rfl)
        · skip
          have h := (if_neg c12).symm.trans h
          refine lv_goto (tgt := 56) hx hb dL_month_20 (by decide) ?_
          exact J56_11 (z1.1, z1.2.2) _ _ _ h hP hD hS (lv_sub hl [0, 1, 2] rfl)
  exact L4_6 FU (0, 0, v_p0) _ _ _ he_e2 hP hD hS (lv_sub hl [2, 1, 0] rfl)
def fL_june_X9_103  (a4 : Int32 × (Nat → Int32) × (Nat → Int32)) : Option (Int32 × (Nat → Int32) × (Nat → Int32)) :=
  some (a4.1, a4.2.1, a4.2.2)
def fL_june_J97 (z2 : Int32 × Int32 × (Nat → Int32) × (Nat → Int32)) (a12 : Int32 × (Nat → Int32) × (Nat → Int32)) : Option ((Int32 × Int32 × (Nat → Int32) × (Nat → Int32)) ⊕ (Int32 × (Nat → Int32) × (Nat → Int32))) :=
  some (Sum.inl (a12.1, (z2.2.1 + 1), a12.2.1, a12.2.2))
def fL_june_X22_68 (n_p0 : Nat) (n_p1 : Nat) (z2 : Int32 × Int32 × (Nat → Int32) × (Nat → Int32)) (a10 : Int32) : Option ((Int32 × Int32 × (Nat → Int32) × (Nat → Int32)) ⊕ (Int32 × (Nat → Int32) × (Nat → Int32))) :=
  if a10 = 0 then (fL_june_J97 z2 (z2.1, z2.2.2.1, z2.2.2.2)) else (if (z2.2.2.1 (0 : Int32).toNatClampNeg) = 10 then (fL_june_J97 z2 (z2.1, z2.2.2.1, z2.2.2.2)) else ((fL_add n_p0 n_p1 z2.2.2.1 z2.2.2.2 0 9 z2.2.1).bind (fun u16 => fL_june_J97 z2 ((z2.1 + 1), u16.1, u16.2))))
def fL_june_J58 (z8 : Int32 × Int32) (a21 : Unit) : Option ((Int32 × Int32) ⊕ (Int32)) :=
  some (Sum.inl ((z8.1 ||| 0), (z8.2 + 1)))
def fL_june_J59 (z8 : Int32 × Int32) (a23 : Int32) : Option ((Int32 × Int32) ⊕ (Int32)) :=
  some (Sum.inl ((z8.1 ||| a23), (z8.2 + 1)))
def fL_june_L22 (n_p0 : Nat) (v_p0 : Nat → Int32) (z2 : Int32 × Int32 × (Nat → Int32) × (Nat → Int32)) (z8 : Int32 × Int32) : Option ((Int32 × Int32) ⊕ (Int32)) :=
  if (v_p0 (0 : Int32).toNatClampNeg) ≤ z8.2 then (some (Sum.inr z8.1)) else (gd (inb (21 + z8.2) n_p0) (if (z2.2.2.1 (21 + z8.2).toNatClampNeg) = z2.2.1 then (gd (inb (11 + z8.2) n_p0) (if (z2.2.2.1 (11 + z8.2).toNatClampNeg) = 9 then (fL_june_J59 z8 1) else (fL_june_J58 z8 ()))) else (fL_june_J58 z8 ())))
def fL_june_L9 (n_p0 : Nat) (n_p1 : Nat) (v_p0 : Nat → Int32) (z2 : Int32 × Int32 × (Nat → Int32) × (Nat → Int32)) : Option ((Int32 × Int32 × (Nat → Int32) × (Nat → Int32)) ⊕ (Int32 × (Nat → Int32) × (Nat → Int32))) :=
  if 6 ≤ z2.2.1 then (some (Sum.inr (z2.1, z2.2.2.1, z2.2.2.2))) else ((iter (fL_june_L22 n_p0 v_p0 z2) FU (0, 0)).bind (fL_june_X22_68 n_p0 n_p1 z2))
def fL_june (n_p0 : Nat) (n_p1 : Nat) (v_p0 : Nat → Int32) (v_p1 : Nat → Int32) : Option (Int32 × (Nat → Int32) × (Nat → Int32)) :=
  gd (inb 0 n_p0) ((iter (fL_june_L9 n_p0 n_p1 v_p0) FU (0, 0, v_p0, v_p1)).bind (fL_june_X9_103))
set_option maxHeartbeats 4000000 in
set_option maxRecDepth 100000 in
theorem c_L_june (l : Launch) (D : va_G) (cI cJ : ClassId) (q_p0 q_p1 : Nat) (n_p0 : Nat) (n_p1 : Nat) (v_p0 : Nat → Int32) (v_p1 : Nat → Int32) (z : Int32 × (Nat → Int32) × (Nat → Int32)) (h : fL_june n_p0 n_p1 v_p0 v_p1 = some z) : Met l yL_june wsL_june ({ frames := 1, cells := 0, slots := 0, locals := 25 } : Room) (va_Pc [.ref q_p0, .ref q_p1] (preG D cI cJ [(q_p0, .inl (cI, n_p0, .inl v_p0)), (q_p1, .inl (cI, n_p1, .inl v_p1))])) (QG D [(q_p0, .inl (cI, n_p0, .inl v_p0)), (q_p1, .inl (cI, n_p1, .inl v_p1))] [(q_p0, .inl (cI, n_p0, .inl z.2.1)), (q_p1, .inl (cI, n_p1, .inl z.2.2))] (some (.int z.1))) 0 0 (fr [(q_p0, .inl (cI, n_p0, .inl v_p0)), (q_p1, .inl (cI, n_p1, .inl v_p1))]) := by
  refine Met.ofW (cc := cL_june) (maxL := 7) (ret := (some .int)) (by decide) rfl ?_
  intro p e s m args below meth c s₁ B hml hv
  obtain ⟨hargs, hP, hK, hN, hD0⟩ := hv
  have hx := B.exec
  have hb := B.bytes
  have hr := B.returns
  have hts := atoms_spec (ws := wsL_june) B.pre
  have hown : s.vm.findClass RL = some m.cls := findClass_of_methodNamed B.named
  have hlocks := B.notSynchronized
  have hD := fr_D hD0
  have hS : va_S (fr [(q_p0, .inl (cI, n_p0, .inl v_p0)), (q_p1, .inl (cI, n_p1, .inl v_p1))]) s.heap s.heap [] := va_S.rf
  have hl := lv_entry ([.ref q_p0, .ref q_p1]) (n := 7) (Nat.le_of_ble_eq_true rfl)
  refine W.eq (g2 := F0 m 0 ((lg_sl ([.ref q_p0, .ref q_p1]) ++ List.replicate (7 - (lg_sl ([.ref q_p0, .ref q_p1])).length) Slot.unset).toArray) []) (by rw [hargs, lg_entry_eq]) ?_
  generalize (lg_sl ([.ref q_p0, .ref q_p1]) ++ List.replicate (7 - (lg_sl ([.ref q_p0, .ref q_p1])).length) Slot.unset).toArray = ls at hl ⊢
  have hl : lv_has ls 7 [(0, .ref q_p0), (1, .ref q_p1)] := hl
  show W p l e ({ frames := 1, cells := 0, slots := 0, locals := 25 } : Room) s m args below meth c s.heap [] 0 0 (MQ below (QG D [(q_p0, .inl (cI, n_p0, .inl v_p0)), (q_p1, .inl (cI, n_p1, .inl v_p1))] [(q_p0, .inl (cI, n_p0, .inl z.2.1)), (q_p1, .inl (cI, n_p1, .inl z.2.2))] (some (.int z.1))) args s 0 0 (fr [(q_p0, .inl (cI, n_p0, .inl v_p0)), (q_p1, .inl (cI, n_p1, .inl v_p1))])) (F0 m 0 ls [])
  generalize hQ0 : (MQ below (QG D [(q_p0, .inl (cI, n_p0, .inl v_p0)), (q_p1, .inl (cI, n_p1, .inl v_p1))] [(q_p0, .inl (cI, n_p0, .inl z.2.1)), (q_p1, .inl (cI, n_p1, .inl z.2.2))] (some (.int z.1))) args s 0 0 (fr [(q_p0, .inl (cI, n_p0, .inl v_p0)), (q_p1, .inl (cI, n_p1, .inl v_p1))])) = Q0
  generalize hA0 : fr [(q_p0, .inl (cI, n_p0, .inl v_p0)), (q_p1, .inl (cI, n_p1, .inl v_p1))] = A0 at hD hS
  unfold fL_june at h
  refine lv_iconst (v := 0) hx hb dL_june_0 (by decide) ?_
  refine lv_istore_n (lv' := [(2, .int 0), (0, .ref q_p0), (1, .ref q_p1)]) hx hb dL_june_1 rfl hl (by decide) rfl (fun ls hl => ?_)
  refine lv_aload_n hx hb dL_june_2 rfl (lv_at hl 1 rfl) ?_
  refine lv_iconst (v := 0) hx hb dL_june_3 (by decide) ?_
  obtain ⟨g1, h⟩ := gd_of h
  refine va_iald hx hb hK hP 0 0 rfl rfl (inb_of g1) dL_june_4 ?_
  refine lv_istore_n (lv' := [(3, .int (v_p0 (0 : Int32).toNatClampNeg)), (2, .int 0), (0, .ref q_p0), (1, .ref q_p1)]) hx hb dL_june_5 rfl hl (by decide) rfl (fun ls hl => ?_)
  refine lv_iconst (v := 0) hx hb dL_june_6 (by decide) ?_
  refine lv_istore (lv' := [(4, .int 0), (3, .int (v_p0 (0 : Int32).toNatClampNeg)), (2, .int 0), (0, .ref q_p0), (1, .ref q_p1)]) hx hb dL_june_7 hl (by decide) rfl (fun ls hl => ?_)
  obtain ⟨e3, he_e3, hc_e3⟩ := bd_of h
  have X103_5 : ∀ (a4 : Int32 × (Nat → Int32) × (Nat → Int32)) (H : Heap) (locs : List Loc) (ls : Array Slot), fL_june_X9_103 a4 = some z → va_P D vwCl [(q_p0, .inl (cI, n_p0, .inl a4.2.1)), (q_p1, .inl (cI, n_p1, .inl a4.2.2))] H → va_D A0 [(q_p0, .inl (cI, n_p0, .inl a4.2.1)), (q_p1, .inl (cI, n_p1, .inl a4.2.2))] → va_S A0 s.heap H locs → lv_has ls 7 [(2, .int a4.1)] → W p l e ({ frames := 1, cells := 0, slots := 0, locals := 25 } : Room) s m args below meth c H locs 0 0 Q0 (F0 m 103 ls []) := by
    intro a4 H locs ls h hP hD hS hl
    unfold fL_june_X9_103 at h
    refine lv_iload_n hx hb dL_june_103 rfl (lv_at hl 0 rfl) ?_
    obtain rfl := Option.some.inj h
    exact rt_i hA0 hQ0 hx hb hr hlocks hP hS dL_june_104
  have L9_6 : ∀ (n : Nat) (z2 : Int32 × Int32 × (Nat → Int32) × (Nat → Int32)) (H : Heap) (locs : List Loc) (ls : Array Slot), iter (fL_june_L9 n_p0 n_p1 v_p0) n z2 = some e3 → va_P D vwCl [(q_p0, .inl (cI, n_p0, .inl z2.2.2.1)), (q_p1, .inl (cI, n_p1, .inl z2.2.2.2))] H → va_D A0 [(q_p0, .inl (cI, n_p0, .inl z2.2.2.1)), (q_p1, .inl (cI, n_p1, .inl z2.2.2.2))] → va_S A0 s.heap H locs → lv_has ls 7 [(0, .ref q_p0), (1, .ref q_p1), (2, .int z2.1), (3, .int (v_p0 (0 : Int32).toNatClampNeg)), (4, .int z2.2.1)] → W p l e ({ frames := 1, cells := 0, slots := 0, locals := 25 } : Room) s m args below meth c H locs 0 0 Q0 (F0 m 9 ls []) := by
    intro n
    induction n with
    | zero => exact fun _ _ _ _ h => (iter_z h).elim
    | succ n ih =>
      intro z2 H locs ls h hP hD hS hl
      obtain ⟨r_e3, h, hn_e3⟩ := iter_s h
      unfold fL_june_L9 at h
      refine lv_iload hx hb dL_june_9 (lv_at hl 4 rfl) ?_
      refine lv_bipush (v := 6) hx hb dL_june_11 (by decide) ?_
      refine lv_icmp_ge (tgt := 103) hx hb dL_june_13 (by decide) (fun c7 => ?_) (fun c7 => ?_)
      · skip
        have h := (if_pos c7).symm.trans h
        obtain rfl := Option.some.inj h
        obtain rfl := Option.some.inj hn_e3
        exact X103_5 (z2.1, z2.2.2.1, z2.2.2.2) _ _ _ hc_e3 hP hD hS (lv_sub hl [2] rfl)
      · skip
        have h := (if_neg c7).symm.trans h
        refine lv_iconst (v := 0) hx hb dL_june_16 (by decide) ?_
        refine lv_istore (lv' := [(5, .int 0), (0, .ref q_p0), (1, .ref q_p1), (2, .int z2.1), (3, .int (v_p0 (0 : Int32).toNatClampNeg)), (4, .int z2.2.1)]) hx hb dL_june_17 hl (by decide) rfl (fun ls hl => ?_)
        refine lv_iconst (v := 0) hx hb dL_june_19 (by decide) ?_
        refine lv_istore (lv' := [(6, .int 0), (5, .int 0), (0, .ref q_p0), (1, .ref q_p1), (2, .int z2.1), (3, .int (v_p0 (0 : Int32).toNatClampNeg)), (4, .int z2.2.1)]) hx hb dL_june_20 hl (by decide) rfl (fun ls hl => ?_)
        obtain ⟨e9, he_e9, hc_e9⟩ := bd_of h
        have X68_11 : ∀ (a10 : Int32) (H : Heap) (locs : List Loc) (ls : Array Slot), fL_june_X22_68 n_p0 n_p1 z2 a10 = some r_e3 → va_P D vwCl [(q_p0, .inl (cI, n_p0, .inl z2.2.2.1)), (q_p1, .inl (cI, n_p1, .inl z2.2.2.2))] H → va_D A0 [(q_p0, .inl (cI, n_p0, .inl z2.2.2.1)), (q_p1, .inl (cI, n_p1, .inl z2.2.2.2))] → va_S A0 s.heap H locs → lv_has ls 7 [(0, .ref q_p0), (1, .ref q_p1), (2, .int z2.1), (3, .int (v_p0 (0 : Int32).toNatClampNeg)), (4, .int z2.2.1), (5, .int a10)] → W p l e ({ frames := 1, cells := 0, slots := 0, locals := 25 } : Room) s m args below meth c H locs 0 0 Q0 (F0 m 68 ls []) := by
          intro a10 H locs ls h hP hD hS hl
          unfold fL_june_X22_68 at h
          refine lv_iload hx hb dL_june_68 (lv_at hl 5 rfl) ?_
          have J97_13 : ∀ (a12 : Int32 × (Nat → Int32) × (Nat → Int32)) (H : Heap) (locs : List Loc) (ls : Array Slot), fL_june_J97 z2 a12 = some r_e3 → va_P D vwCl [(q_p0, .inl (cI, n_p0, .inl a12.2.1)), (q_p1, .inl (cI, n_p1, .inl a12.2.2))] H → va_D A0 [(q_p0, .inl (cI, n_p0, .inl a12.2.1)), (q_p1, .inl (cI, n_p1, .inl a12.2.2))] → va_S A0 s.heap H locs → lv_has ls 7 [(0, .ref q_p0), (1, .ref q_p1), (2, .int a12.1), (3, .int (v_p0 (0 : Int32).toNatClampNeg)), (4, .int z2.2.1)] → W p l e ({ frames := 1, cells := 0, slots := 0, locals := 25 } : Room) s m args below meth c H locs 0 0 Q0 (F0 m 97 ls []) := by
            intro a12 H locs ls h hP hD hS hl
            unfold fL_june_J97 at h
            refine lv_iinc (v := (z2.2.1 + 1)) (lv' := [(4, .int (z2.2.1 + 1)), (0, .ref q_p0), (1, .ref q_p1), (2, .int a12.1), (3, .int (v_p0 (0 : Int32).toNatClampNeg))]) hx hb dL_june_97 hl (k := 4) rfl rfl (by decide) rfl (fun ls hl => ?_)
            refine lv_goto (tgt := 9) hx hb dL_june_100 (by decide) ?_
            obtain rfl := Option.some.inj h
            exact ih (a12.1, (z2.2.1 + 1), a12.2.1, a12.2.2) _ _ _ hn_e3 hP hD hS (lv_sub hl [1, 2, 3, 4, 0] rfl)
          refine lv_if_eq (tgt := 97) hx hb dL_june_70 (by decide) (fun c14 => ?_) (fun c14 => ?_)
          · skip
            have h := (if_pos c14).symm.trans h
            exact J97_13 (z2.1, z2.2.2.1, z2.2.2.2) _ _ _ h hP hD hS (lv_sub hl [0, 1, 2, 3, 4] rfl)
          · skip
            have h := (if_neg c14).symm.trans h
            refine lv_aload_n hx hb dL_june_73 rfl (lv_at hl 0 rfl) ?_
            refine lv_iconst (v := 0) hx hb dL_june_74 (by decide) ?_
            refine va_iald hx hb hK hP 0 0 rfl rfl (inb_of g1) dL_june_75 ?_
            refine lv_bipush (v := 10) hx hb dL_june_76 (by decide) ?_
            refine lv_icmp_ne (tgt := 84) hx hb dL_june_78 (by decide) (fun c15 => ?_) (fun c15 => ?_)
            · skip
              have h := (if_neg c15).symm.trans h
              refine lv_aload_n hx hb dL_june_84 rfl (lv_at hl 0 rfl) ?_
              refine lv_aload_n hx hb dL_june_85 rfl (lv_at hl 1 rfl) ?_
              refine lv_iconst (v := 0) hx hb dL_june_86 (by decide) ?_
              refine lv_bipush (v := 9) hx hb dL_june_87 (by decide) ?_
              refine lv_iload hx hb dL_june_89 (lv_at hl 4 rfl) ?_
              obtain ⟨u16, g17, h⟩ := bd_of h
              refine cl_S [(q_p0, .inl (cI, n_p0, .inl u16.1)), (q_p1, .inl (cI, n_p1, .inl u16.2))] (As := [.ref q_p0, .ref q_p1, .int 0, .int 9, .int z2.2.1]) (rest := []) (rv := none) (c_L_add l D cI cJ q_p0 q_p1 n_p0 n_p1 z2.2.2.1 z2.2.2.2 0 9 z2.2.1 u16 g17) ⟨hx, hb, hml, hown, hts⟩ (va_cwS 5 hts gL_june_L_add rfl rfl rfl (by decide +kernel) ⟨(Nat.le_of_ble_eq_true rfl), (Nat.le_of_ble_eq_true rfl)⟩) hK hN hP hD hS [0, 1] rfl (by decide) rfl rfl rfl rfl hl.1 rfl (Nat.le_of_ble_eq_true rfl) dL_june_91 ⟨Nat.zero_le _, Nat.zero_le _⟩ (fun H locs hP hD hS => ?_)
              show W p l e ({ frames := 1, cells := 0, slots := 0, locals := 25 } : Room) s m args below meth c H locs 0 0 Q0 (F0 m 94 ls [])
              refine lv_iinc (v := (z2.1 + 1)) (lv' := [(2, .int (z2.1 + 1)), (0, .ref q_p0), (1, .ref q_p1), (3, .int (v_p0 (0 : Int32).toNatClampNeg)), (4, .int z2.2.1), (5, .int a10)]) hx hb dL_june_94 hl (k := 2) rfl rfl (by decide) rfl (fun ls hl => ?_)
              exact J97_13 ((z2.1 + 1), u16.1, u16.2) _ _ _ h hP hD hS (lv_sub hl [1, 2, 0, 3, 4] rfl)
            · skip
              have h := (if_pos c15).symm.trans h
              refine lv_goto (tgt := 97) hx hb dL_june_81 (by decide) ?_
              exact J97_13 (z2.1, z2.2.2.1, z2.2.2.2) _ _ _ h hP hD hS (lv_sub hl [0, 1, 2, 3, 4] rfl)
        have L22_18 : ∀ (n : Nat) (z8 : Int32 × Int32) (H : Heap) (locs : List Loc) (ls : Array Slot), iter (fL_june_L22 n_p0 v_p0 z2) n z8 = some e9 → va_P D vwCl [(q_p0, .inl (cI, n_p0, .inl z2.2.2.1)), (q_p1, .inl (cI, n_p1, .inl z2.2.2.2))] H → va_D A0 [(q_p0, .inl (cI, n_p0, .inl z2.2.2.1)), (q_p1, .inl (cI, n_p1, .inl z2.2.2.2))] → va_S A0 s.heap H locs → lv_has ls 7 [(0, .ref q_p0), (1, .ref q_p1), (2, .int z2.1), (3, .int (v_p0 (0 : Int32).toNatClampNeg)), (4, .int z2.2.1), (5, .int z8.1), (6, .int z8.2)] → W p l e ({ frames := 1, cells := 0, slots := 0, locals := 25 } : Room) s m args below meth c H locs 0 0 Q0 (F0 m 22 ls []) := by
          intro n
          induction n with
          | zero => exact fun _ _ _ _ h => (iter_z h).elim
          | succ n ih =>
            intro z8 H locs ls h hP hD hS hl
            obtain ⟨r_e9, h, hn_e9⟩ := iter_s h
            unfold fL_june_L22 at h
            refine lv_iload hx hb dL_june_22 (lv_at hl 6 rfl) ?_
            refine lv_iload_n hx hb dL_june_24 rfl (lv_at hl 3 rfl) ?_
            refine lv_icmp_ge (tgt := 68) hx hb dL_june_25 (by decide) (fun c19 => ?_) (fun c19 => ?_)
            · skip
              have h := (if_pos c19).symm.trans h
              obtain rfl := Option.some.inj h
              obtain rfl := Option.some.inj hn_e9
              exact X68_11 z8.1 _ _ _ hc_e9 hP hD hS (lv_sub hl [0, 1, 2, 3, 4, 5] rfl)
            · skip
              have h := (if_neg c19).symm.trans h
              refine lv_iload hx hb dL_june_28 (lv_at hl 5 rfl) ?_
              refine lv_aload_n hx hb dL_june_30 rfl (lv_at hl 0 rfl) ?_
              refine lv_bipush (v := 21) hx hb dL_june_31 (by decide) ?_
              refine lv_iload hx hb dL_june_33 (lv_at hl 6 rfl) ?_
              refine lv_iadd hx hb dL_june_35 ?_
              obtain ⟨g20, h⟩ := gd_of h
              refine va_iald hx hb hK hP 0 0 rfl rfl (inb_of g20) dL_june_36 ?_
              refine lv_iload hx hb dL_june_37 (lv_at hl 4 rfl) ?_
              have J58_22 : ∀ (a21 : Unit) (H : Heap) (locs : List Loc) (ls : Array Slot), fL_june_J58 z8 a21 = some r_e9 → va_P D vwCl [(q_p0, .inl (cI, n_p0, .inl z2.2.2.1)), (q_p1, .inl (cI, n_p1, .inl z2.2.2.2))] H → va_D A0 [(q_p0, .inl (cI, n_p0, .inl z2.2.2.1)), (q_p1, .inl (cI, n_p1, .inl z2.2.2.2))] → va_S A0 s.heap H locs → lv_has ls 7 [(0, .ref q_p0), (1, .ref q_p1), (2, .int z2.1), (3, .int (v_p0 (0 : Int32).toNatClampNeg)), (4, .int z2.2.1), (6, .int z8.2)] → W p l e ({ frames := 1, cells := 0, slots := 0, locals := 25 } : Room) s m args below meth c H locs 0 0 Q0 (F0 m 58 ls [.int z8.1]) := by
                intro a21 H locs ls h hP hD hS hl
                unfold fL_june_J58 at h
                refine lv_iconst (v := 0) hx hb dL_june_58 (by decide) ?_
                refine lv_ior hx hb dL_june_59 ?_
                refine lv_istore (lv' := [(5, .int (z8.1 ||| 0)), (0, .ref q_p0), (1, .ref q_p1), (2, .int z2.1), (3, .int (v_p0 (0 : Int32).toNatClampNeg)), (4, .int z2.2.1), (6, .int z8.2)]) hx hb dL_june_60 hl (by decide) rfl (fun ls hl => ?_)
                refine lv_iinc (v := (z8.2 + 1)) (lv' := [(6, .int (z8.2 + 1)), (5, .int (z8.1 ||| 0)), (0, .ref q_p0), (1, .ref q_p1), (2, .int z2.1), (3, .int (v_p0 (0 : Int32).toNatClampNeg)), (4, .int z2.2.1)]) hx hb dL_june_62 hl (k := 6) rfl rfl (by decide) rfl (fun ls hl => ?_)
                refine lv_goto (tgt := 22) hx hb dL_june_65 (by decide) ?_
                obtain rfl := Option.some.inj h
                exact ih ((z8.1 ||| 0), (z8.2 + 1)) _ _ _ hn_e9 hP hD hS (lv_sub hl [2, 3, 4, 5, 6, 1, 0] rfl)
              have J59_24 : ∀ (a23 : Int32) (H : Heap) (locs : List Loc) (ls : Array Slot), fL_june_J59 z8 a23 = some r_e9 → va_P D vwCl [(q_p0, .inl (cI, n_p0, .inl z2.2.2.1)), (q_p1, .inl (cI, n_p1, .inl z2.2.2.2))] H → va_D A0 [(q_p0, .inl (cI, n_p0, .inl z2.2.2.1)), (q_p1, .inl (cI, n_p1, .inl z2.2.2.2))] → va_S A0 s.heap H locs → lv_has ls 7 [(0, .ref q_p0), (1, .ref q_p1), (2, .int z2.1), (3, .int (v_p0 (0 : Int32).toNatClampNeg)), (4, .int z2.2.1), (6, .int z8.2)] → W p l e ({ frames := 1, cells := 0, slots := 0, locals := 25 } : Room) s m args below meth c H locs 0 0 Q0 (F0 m 59 ls [.int a23, .int z8.1]) := by
                intro a23 H locs ls h hP hD hS hl
                unfold fL_june_J59 at h
                refine lv_ior hx hb dL_june_59 ?_
                refine lv_istore (lv' := [(5, .int (z8.1 ||| a23)), (0, .ref q_p0), (1, .ref q_p1), (2, .int z2.1), (3, .int (v_p0 (0 : Int32).toNatClampNeg)), (4, .int z2.2.1), (6, .int z8.2)]) hx hb dL_june_60 hl (by decide) rfl (fun ls hl => ?_)
                refine lv_iinc (v := (z8.2 + 1)) (lv' := [(6, .int (z8.2 + 1)), (5, .int (z8.1 ||| a23)), (0, .ref q_p0), (1, .ref q_p1), (2, .int z2.1), (3, .int (v_p0 (0 : Int32).toNatClampNeg)), (4, .int z2.2.1)]) hx hb dL_june_62 hl (k := 6) rfl rfl (by decide) rfl (fun ls hl => ?_)
                refine lv_goto (tgt := 22) hx hb dL_june_65 (by decide) ?_
                obtain rfl := Option.some.inj h
                exact ih ((z8.1 ||| a23), (z8.2 + 1)) _ _ _ hn_e9 hP hD hS (lv_sub hl [2, 3, 4, 5, 6, 1, 0] rfl)
              refine lv_icmp_ne (tgt := 58) hx hb dL_june_39 (by decide) (fun c25 => ?_) (fun c25 => ?_)
              · skip
                have h := (if_neg c25).symm.trans h
                exact J58_22 () _ _ _ h hP hD hS (lv_sub hl [0, 1, 2, 3, 4, 6] rfl)
              · skip
                have h := (if_pos c25).symm.trans h
                refine lv_aload_n hx hb dL_june_42 rfl (lv_at hl 0 rfl) ?_
                refine lv_bipush (v := 11) hx hb dL_june_43 (by decide) ?_
                refine lv_iload hx hb dL_june_45 (lv_at hl 6 rfl) ?_
                refine lv_iadd hx hb dL_june_47 ?_
                obtain ⟨g26, h⟩ := gd_of h
                refine va_iald hx hb hK hP 0 0 rfl rfl (inb_of g26) dL_june_48 ?_
                refine lv_bipush (v := 9) hx hb dL_june_49 (by decide) ?_
                refine lv_icmp_ne (tgt := 58) hx hb dL_june_51 (by decide) (fun c27 => ?_) (fun c27 => ?_)
                · skip
                  have h := (if_neg c27).symm.trans h
                  exact J58_22 () _ _ _ h hP hD hS (lv_sub hl [0, 1, 2, 3, 4, 6] rfl)
                · skip
                  have h := (if_pos c27).symm.trans h
                  refine lv_iconst (v := 1) hx hb dL_june_54 (by decide) ?_
                  refine lv_goto (tgt := 59) hx hb dL_june_55 (by decide) ?_
                  exact J59_24 1 _ _ _ h hP hD hS (lv_sub hl [0, 1, 2, 3, 4, 6] rfl)
        exact L22_18 FU (0, 0) _ _ _ he_e9 hP hD hS (lv_sub hl [2, 3, 4, 5, 6, 1, 0] rfl)
  exact L9_6 FU (0, 0, v_p0, v_p1) _ _ _ he_e3 hP hD hS (lv_sub hl [3, 4, 2, 1, 0] rfl)
