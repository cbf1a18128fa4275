def fX5_lossByMould (x0 : Int32) : Int32 :=
  if x0 = 3 then (0) else (if x0 = 4 then (2) else (1))
set_option maxHeartbeats 4000000 in
set_option maxRecDepth 100000 in
theorem c_X5_lossByMould (l : Launch) (D : va_G) (cI cJ : ClassId) (x0 : Int32) : Met l yX5_lossByMould wsX5_lossByMould ({ frames := 0, cells := 0, slots := 0, locals := 0 } : Room) (va_Pc [.int x0] (preG D cI cJ [])) (QG D [] [] (some (.int (fX5_lossByMould x0)))) 0 0 (fr []) := by
  generalize h : fX5_lossByMould x0 = z
  refine Met.ofW (cc := cX5_lossByMould) (maxL := 1) (ret := (some .int)) (by decide) rfl ?_
  intro p e s m args below meth c s₁ B hml hv
  obtain ⟨hargs, hP, hK, hN, hD0⟩ := hv
  have hx := B.exec
  have hb := B.bytes
  have hr := B.returns
  have hts := atoms_spec (ws := wsX5_lossByMould) B.pre
  have hown : s.vm.findClass RX5 = some m.cls := findClass_of_methodNamed B.named
  have hlocks := B.notSynchronized
  have hD := fr_D hD0
  have hS : va_S (fr []) s.heap s.heap [] := va_S.rf
  have hl := lv_entry ([.int x0]) (n := 1) (Nat.le_of_ble_eq_true rfl)
  refine W.eq (g2 := F0 m 0 ((lg_sl ([.int x0]) ++ List.replicate (1 - (lg_sl ([.int x0])).length) Slot.unset).toArray) []) (by rw [hargs, lg_entry_eq]) ?_
  generalize (lg_sl ([.int x0]) ++ List.replicate (1 - (lg_sl ([.int x0])).length) Slot.unset).toArray = ls at hl ⊢
  have hl : lv_has ls 1 [(0, .int x0)] := hl
  show W p l e ({ frames := 0, cells := 0, slots := 0, locals := 0 } : Room) s m args below meth c s.heap [] 0 0 (MQ below (QG D [] [] (some (.int z))) args s 0 0 (fr [])) (F0 m 0 ls [])
  generalize hQ0 : (MQ below (QG D [] [] (some (.int z))) args s 0 0 (fr [])) = Q0
  generalize hA0 : fr [] = A0 at hD hS
  unfold fX5_lossByMould at h
  refine lv_iload_n hx hb dX5_lossByMould_0 rfl (lv_at hl 0 rfl) ?_
  refine lv_iconst (v := 3) hx hb dX5_lossByMould_1 (by decide) ?_
  refine lv_icmp_ne (tgt := 7) hx hb dX5_lossByMould_2 (by decide) (fun c1 => ?_) (fun c1 => ?_)
  · skip
    have h := (if_neg c1).symm.trans h
    refine lv_iload_n hx hb dX5_lossByMould_7 rfl (lv_at hl 0 rfl) ?_
    refine lv_iconst (v := 4) hx hb dX5_lossByMould_8 (by decide) ?_
    refine lv_icmp_ne (tgt := 16) hx hb dX5_lossByMould_9 (by decide) (fun c2 => ?_) (fun c2 => ?_)
    · skip
      have h := (if_neg c2).symm.trans h
      refine lv_iconst (v := 1) hx hb dX5_lossByMould_16 (by decide) ?_
      subst h
      exact rt_i hA0 hQ0 hx hb hr hlocks hP hS dX5_lossByMould_17
    · skip
      have h := (if_pos c2).symm.trans h
      refine lv_iconst (v := 2) hx hb dX5_lossByMould_12 (by decide) ?_
      refine lv_goto (tgt := 17) hx hb dX5_lossByMould_13 (by decide) ?_
      subst h
      exact rt_i hA0 hQ0 hx hb hr hlocks hP hS dX5_lossByMould_17
  · skip
    have h := (if_pos c1).symm.trans h
    refine lv_iconst (v := 0) hx hb dX5_lossByMould_5 (by decide) ?_
    subst h
    exact rt_i hA0 hQ0 hx hb hr hlocks hP hS dX5_lossByMould_6
def fX5_behindDamp (x0 : Int32) (x1 : Int32) : Int32 :=
  (if 0 < (x1 - (fX5_lossByMould x0)) then (x1 - (fX5_lossByMould x0)) else 0)
set_option maxHeartbeats 4000000 in
set_option maxRecDepth 100000 in
theorem c_X5_behindDamp (l : Launch) (D : va_G) (cI cJ : ClassId) (x0 : Int32) (x1 : Int32) : Met l yX5_behindDamp wsX5_behindDamp ({ frames := 1, cells := 0, slots := 0, locals := 24 } : Room) (va_Pc [.int x0, .int x1] (preG D cI cJ [])) (QG D [] [] (some (.int (fX5_behindDamp x0 x1)))) 0 0 (fr []) := by
  generalize h : fX5_behindDamp x0 x1 = z
  refine Met.ofW (cc := cX5_behindDamp) (maxL := 2) (ret := (some .int)) (by decide) rfl ?_
  intro p e s m args below meth c s₁ B hml hv
  obtain ⟨hargs, hP, hK, hN, hD0⟩ := hv
  have hx := B.exec
  have hb := B.bytes
  have hr := B.returns
  have hts := atoms_spec (ws := wsX5_behindDamp) B.pre
  have hown : s.vm.findClass RX5 = some m.cls := findClass_of_methodNamed B.named
  have hlocks := B.notSynchronized
  have hD := fr_D hD0
  have hS : va_S (fr []) s.heap s.heap [] := va_S.rf
  have hl := lv_entry ([.int x0, .int x1]) (n := 2) (Nat.le_of_ble_eq_true rfl)
  refine W.eq (g2 := F0 m 0 ((lg_sl ([.int x0, .int x1]) ++ List.replicate (2 - (lg_sl ([.int x0, .int x1])).length) Slot.unset).toArray) []) (by rw [hargs, lg_entry_eq]) ?_
  generalize (lg_sl ([.int x0, .int x1]) ++ List.replicate (2 - (lg_sl ([.int x0, .int x1])).length) Slot.unset).toArray = ls at hl ⊢
  have hl : lv_has ls 2 [(0, .int x0), (1, .int x1)] := hl
  show W p l e ({ frames := 1, cells := 0, slots := 0, locals := 24 } : Room) s m args below meth c s.heap [] 0 0 (MQ below (QG D [] [] (some (.int z))) args s 0 0 (fr [])) (F0 m 0 ls [])
  generalize hQ0 : (MQ below (QG D [] [] (some (.int z))) args s 0 0 (fr [])) = Q0
  generalize hA0 : fr [] = A0 at hD hS
  unfold fX5_behindDamp at h
  refine lv_iconst (v := 0) hx hb dX5_behindDamp_0 (by decide) ?_
  refine lv_iload_n hx hb dX5_behindDamp_1 rfl (lv_at hl 1 rfl) ?_
  refine lv_iload_n hx hb dX5_behindDamp_2 rfl (lv_at hl 0 rfl) ?_
  refine cl_S [] (As := [.int x0]) (rest := [.int x1, .int 0]) (rv := (some (.int (fX5_lossByMould x0)))) (c_X5_lossByMould l D cI cJ x0) ⟨hx, hb, hml, hown, hts⟩ (va_cwS 1 hts gX5_behindDamp_X5_lossByMould rfl rfl rfl (by decide +kernel) ⟨(Nat.le_of_ble_eq_true rfl), (Nat.le_of_ble_eq_true rfl)⟩) hK hN hP hD hS [] rfl (by decide) rfl rfl rfl rfl hl.1 rfl (Nat.le_of_ble_eq_true rfl) dX5_behindDamp_3 ⟨Nat.zero_le _, Nat.zero_le _⟩ (fun H locs hP hD hS => ?_)
  show W p l e ({ frames := 1, cells := 0, slots := 0, locals := 24 } : Room) s m args below meth c H locs 0 0 Q0 (F0 m 6 ls [.int (fX5_lossByMould x0), .int x1, .int 0])
  refine lv_isub hx hb dX5_behindDamp_6 ?_
  refine va_mmax (own := RX5) hx hb (hml.trans hl.1.symm) hown (hts (.methodLink RX5 15 Lib.Math.max.name) (by decide +kernel)) (hts (.static Lib.Math.max.name) (by decide +kernel)) (hts (.initialized "java/lang/Math") (by decide +kernel)) (hts (.code Lib.Math.max.name Lib.Math.max.code 2 (some .int)) (by decide +kernel)) (Nat.le_of_ble_eq_true rfl) (Nat.le_of_ble_eq_true rfl) (Nat.zero_le _) (Nat.zero_le _) dX5_behindDamp_7 ?_
  subst h
  exact rt_i hA0 hQ0 hx hb hr hlocks hP hS dX5_behindDamp_10
def fX5_lossByHand (x0 : Int32) (x1 : Int32) : Int32 :=
  if x0 = 1 then (2) else (if x0 = 2 then (if x1 ≤ 5 then (1) else (0)) else (if x0 = 3 then (if x1 = 9 then (0) else (1)) else (if x0 = 4 then (3) else (1))))
set_option maxHeartbeats 4000000 in
set_option maxRecDepth 100000 in
theorem c_X5_lossByHand (l : Launch) (D : va_G) (cI cJ : ClassId) (x0 : Int32) (x1 : Int32) : Met l yX5_lossByHand wsX5_lossByHand ({ frames := 0, cells := 0, slots := 0, locals := 0 } : Room) (va_Pc [.int x0, .int x1] (preG D cI cJ [])) (QG D [] [] (some (.int (fX5_lossByHand x0 x1)))) 0 0 (fr []) := by
  generalize h : fX5_lossByHand x0 x1 = z
  refine Met.ofW (cc := cX5_lossByHand) (maxL := 2) (ret := (some .int)) (by decide) rfl ?_
  intro p e s m args below meth c s₁ B hml hv
  obtain ⟨hargs, hP, hK, hN, hD0⟩ := hv
  have hx := B.exec
  have hb := B.bytes
  have hr := B.returns
  have hts := atoms_spec (ws := wsX5_lossByHand) B.pre
  have hown : s.vm.findClass RX5 = some m.cls := findClass_of_methodNamed B.named
  have hlocks := B.notSynchronized
  have hD := fr_D hD0
  have hS : va_S (fr []) s.heap s.heap [] := va_S.rf
  have hl := lv_entry ([.int x0, .int x1]) (n := 2) (Nat.le_of_ble_eq_true rfl)
  refine W.eq (g2 := F0 m 0 ((lg_sl ([.int x0, .int x1]) ++ List.replicate (2 - (lg_sl ([.int x0, .int x1])).length) Slot.unset).toArray) []) (by rw [hargs, lg_entry_eq]) ?_
  generalize (lg_sl ([.int x0, .int x1]) ++ List.replicate (2 - (lg_sl ([.int x0, .int x1])).length) Slot.unset).toArray = ls at hl ⊢
  have hl : lv_has ls 2 [(0, .int x0), (1, .int x1)] := hl
  show W p l e ({ frames := 0, cells := 0, slots := 0, locals := 0 } : Room) s m args below meth c s.heap [] 0 0 (MQ below (QG D [] [] (some (.int z))) args s 0 0 (fr [])) (F0 m 0 ls [])
  generalize hQ0 : (MQ below (QG D [] [] (some (.int z))) args s 0 0 (fr [])) = Q0
  generalize hA0 : fr [] = A0 at hD hS
  unfold fX5_lossByHand at h
  refine lv_iload_n hx hb dX5_lossByHand_0 rfl (lv_at hl 0 rfl) ?_
  by_cases c1 : x0 = 1
  · have h := (if_pos c1).symm.trans h
    refine lv_tableIn (off := 31) (tgt := 32) hx hb dX5_lossByHand_1 (by rw [c1]; decide) (by rw [c1]; decide) (by rw [c1]; decide) (by decide) ?_
    refine lv_iconst (v := 2) hx hb dX5_lossByHand_32 (by decide) ?_
    subst h
    exact rt_i hA0 hQ0 hx hb hr hlocks hP hS dX5_lossByHand_33
  have h := (if_neg c1).symm.trans h
  by_cases c2 : x0 = 2
  · have h := (if_pos c2).symm.trans h
    refine lv_tableIn (off := 33) (tgt := 34) hx hb dX5_lossByHand_1 (by rw [c2]; decide) (by rw [c2]; decide) (by rw [c2]; decide) (by decide) ?_
    refine lv_iload_n hx hb dX5_lossByHand_34 rfl (lv_at hl 1 rfl) ?_
    refine lv_iconst (v := 5) hx hb dX5_lossByHand_35 (by decide) ?_
    refine lv_icmp_le (tgt := 43) hx hb dX5_lossByHand_36 (by decide) (fun c3 => ?_) (fun c3 => ?_)
    · skip
      have h := (if_pos c3).symm.trans h
      refine lv_iconst (v := 1) hx hb dX5_lossByHand_43 (by decide) ?_
      subst h
      exact rt_i hA0 hQ0 hx hb hr hlocks hP hS dX5_lossByHand_44
    · skip
      have h := (if_neg c3).symm.trans h
      refine lv_iconst (v := 0) hx hb dX5_lossByHand_39 (by decide) ?_
      refine lv_goto (tgt := 44) hx hb dX5_lossByHand_40 (by decide) ?_
      subst h
      exact rt_i hA0 hQ0 hx hb hr hlocks hP hS dX5_lossByHand_44
  have h := (if_neg c2).symm.trans h
  by_cases c4 : x0 = 3
  · have h := (if_pos c4).symm.trans h
    refine lv_tableIn (off := 44) (tgt := 45) hx hb dX5_lossByHand_1 (by rw [c4]; decide) (by rw [c4]; decide) (by rw [c4]; decide) (by decide) ?_
    refine lv_iload_n hx hb dX5_lossByHand_45 rfl (lv_at hl 1 rfl) ?_
    refine lv_bipush (v := 9) hx hb dX5_lossByHand_46 (by decide) ?_
    refine lv_icmp_ne (tgt := 55) hx hb dX5_lossByHand_48 (by decide) (fun c5 => ?_) (fun c5 => ?_)
    · skip
      have h := (if_neg c5).symm.trans h
      refine lv_iconst (v := 1) hx hb dX5_lossByHand_55 (by decide) ?_
      subst h
      exact rt_i hA0 hQ0 hx hb hr hlocks hP hS dX5_lossByHand_56
    · skip
      have h := (if_pos c5).symm.trans h
      refine lv_iconst (v := 0) hx hb dX5_lossByHand_51 (by decide) ?_
      refine lv_goto (tgt := 56) hx hb dX5_lossByHand_52 (by decide) ?_
      subst h
      exact rt_i hA0 hQ0 hx hb hr hlocks hP hS dX5_lossByHand_56
  have h := (if_neg c4).symm.trans h
  by_cases c6 : x0 = 4
  · have h := (if_pos c6).symm.trans h
    refine lv_tableIn (off := 56) (tgt := 57) hx hb dX5_lossByHand_1 (by rw [c6]; decide) (by rw [c6]; decide) (by rw [c6]; decide) (by decide) ?_
    refine lv_iconst (v := 3) hx hb dX5_lossByHand_57 (by decide) ?_
    subst h
    exact rt_i hA0 hQ0 hx hb hr hlocks hP hS dX5_lossByHand_58
  have h := (if_neg c6).symm.trans h
  refine lv_tableOut (tgt := 59) hx hb dX5_lossByHand_1 (by
      have n_c1 := lv_neT (a := 1) c1 (by decide)
      have n_c2 := lv_neT (a := 2) c2 (by decide)
      have n_c4 := lv_neT (a := 3) c4 (by decide)
      have n_c6 := lv_neT (a := 4) c6 (by decide)
      omega) (by decide) ?_
  refine lv_iconst (v := 1) hx hb dX5_lossByHand_59 (by decide) ?_
  subst h
  exact rt_i hA0 hQ0 hx hb hr hlocks hP hS dX5_lossByHand_60
def fX5_behindHand (x0 : Int32) (x1 : Int32) : Int32 :=
  (if 0 < (x1 - (fX5_lossByHand x0 x1)) then (x1 - (fX5_lossByHand x0 x1)) else 0)
set_option maxHeartbeats 4000000 in
set_option maxRecDepth 100000 in
theorem c_X5_behindHand (l : Launch) (D : va_G) (cI cJ : ClassId) (x0 : Int32) (x1 : Int32) : Met l yX5_behindHand wsX5_behindHand ({ frames := 1, cells := 0, slots := 0, locals := 24 } : Room) (va_Pc [.int x0, .int x1] (preG D cI cJ [])) (QG D [] [] (some (.int (fX5_behindHand x0 x1)))) 0 0 (fr []) := by
  generalize h : fX5_behindHand x0 x1 = z
  refine Met.ofW (cc := cX5_behindHand) (maxL := 2) (ret := (some .int)) (by decide) rfl ?_
  intro p e s m args below meth c s₁ B hml hv
  obtain ⟨hargs, hP, hK, hN, hD0⟩ := hv
  have hx := B.exec
  have hb := B.bytes
  have hr := B.returns
  have hts := atoms_spec (ws := wsX5_behindHand) B.pre
  have hown : s.vm.findClass RX5 = some m.cls := findClass_of_methodNamed B.named
  have hlocks := B.notSynchronized
  have hD := fr_D hD0
  have hS : va_S (fr []) s.heap s.heap [] := va_S.rf
  have hl := lv_entry ([.int x0, .int x1]) (n := 2) (Nat.le_of_ble_eq_true rfl)
  refine W.eq (g2 := F0 m 0 ((lg_sl ([.int x0, .int x1]) ++ List.replicate (2 - (lg_sl ([.int x0, .int x1])).length) Slot.unset).toArray) []) (by rw [hargs, lg_entry_eq]) ?_
  generalize (lg_sl ([.int x0, .int x1]) ++ List.replicate (2 - (lg_sl ([.int x0, .int x1])).length) Slot.unset).toArray = ls at hl ⊢
  have hl : lv_has ls 2 [(0, .int x0), (1, .int x1)] := hl
  show W p l e ({ frames := 1, cells := 0, slots := 0, locals := 24 } : Room) s m args below meth c s.heap [] 0 0 (MQ below (QG D [] [] (some (.int z))) args s 0 0 (fr [])) (F0 m 0 ls [])
  generalize hQ0 : (MQ below (QG D [] [] (some (.int z))) args s 0 0 (fr [])) = Q0
  generalize hA0 : fr [] = A0 at hD hS
  unfold fX5_behindHand at h
  refine lv_iconst (v := 0) hx hb dX5_behindHand_0 (by decide) ?_
  refine lv_iload_n hx hb dX5_behindHand_1 rfl (lv_at hl 1 rfl) ?_
  refine lv_iload_n hx hb dX5_behindHand_2 rfl (lv_at hl 0 rfl) ?_
  refine lv_iload_n hx hb dX5_behindHand_3 rfl (lv_at hl 1 rfl) ?_
  refine cl_S [] (As := [.int x0, .int x1]) (rest := [.int x1, .int 0]) (rv := (some (.int (fX5_lossByHand x0 x1)))) (c_X5_lossByHand l D cI cJ x0 x1) ⟨hx, hb, hml, hown, hts⟩ (va_cwS 2 hts gX5_behindHand_X5_lossByHand rfl rfl rfl (by decide +kernel) ⟨(Nat.le_of_ble_eq_true rfl), (Nat.le_of_ble_eq_true rfl)⟩) hK hN hP hD hS [] rfl (by decide) rfl rfl rfl rfl hl.1 rfl (Nat.le_of_ble_eq_true rfl) dX5_behindHand_4 ⟨Nat.zero_le _, Nat.zero_le _⟩ (fun H locs hP hD hS => ?_)
  show W p l e ({ frames := 1, cells := 0, slots := 0, locals := 24 } : Room) s m args below meth c H locs 0 0 Q0 (F0 m 7 ls [.int (fX5_lossByHand x0 x1), .int x1, .int 0])
  refine lv_isub hx hb dX5_behindHand_7 ?_
  refine va_mmax (own := RX5) hx hb (hml.trans hl.1.symm) hown (hts (.methodLink RX5 15 Lib.Math.max.name) (by decide +kernel)) (hts (.static Lib.Math.max.name) (by decide +kernel)) (hts (.initialized "java/lang/Math") (by decide +kernel)) (hts (.code Lib.Math.max.name Lib.Math.max.code 2 (some .int)) (by decide +kernel)) (Nat.le_of_ble_eq_true rfl) (Nat.le_of_ble_eq_true rfl) (Nat.zero_le _) (Nat.zero_le _) dX5_behindHand_8 ?_
  subst h
  exact rt_i hA0 hQ0 hx hb hr hlocks hP hS dX5_behindHand_11
def fX5_isAlso (x0 : Int32) (x1 : Int32) : Int32 :=
  if x1 = 0 then (1) else (if x1 = x0 then (1) else (if x1 = 1 then (if x0 = 4 then (1) else (0)) else (0)))
set_option maxHeartbeats 4000000 in
set_option maxRecDepth 100000 in
theorem c_X5_isAlso (l : Launch) (D : va_G) (cI cJ : ClassId) (x0 : Int32) (x1 : Int32) : Met l yX5_isAlso wsX5_isAlso ({ frames := 0, cells := 0, slots := 0, locals := 0 } : Room) (va_Pc [.int x0, .int x1] (preG D cI cJ [])) (QG D [] [] (some (.int (fX5_isAlso x0 x1)))) 0 0 (fr []) := by
  generalize h : fX5_isAlso x0 x1 = z
  refine Met.ofW (cc := cX5_isAlso) (maxL := 2) (ret := (some .boolean)) (by decide) rfl ?_
  intro p e s m args below meth c s₁ B hml hv
  obtain ⟨hargs, hP, hK, hN, hD0⟩ := hv
  have hx := B.exec
  have hb := B.bytes
  have hr := B.returns
  have hts := atoms_spec (ws := wsX5_isAlso) B.pre
  have hown : s.vm.findClass RX5 = some m.cls := findClass_of_methodNamed B.named
  have hlocks := B.notSynchronized
  have hD := fr_D hD0
  have hS : va_S (fr []) s.heap s.heap [] := va_S.rf
  have hl := lv_entry ([.int x0, .int x1]) (n := 2) (Nat.le_of_ble_eq_true rfl)
  refine W.eq (g2 := F0 m 0 ((lg_sl ([.int x0, .int x1]) ++ List.replicate (2 - (lg_sl ([.int x0, .int x1])).length) Slot.unset).toArray) []) (by rw [hargs, lg_entry_eq]) ?_
  generalize (lg_sl ([.int x0, .int x1]) ++ List.replicate (2 - (lg_sl ([.int x0, .int x1])).length) Slot.unset).toArray = ls at hl ⊢
  have hl : lv_has ls 2 [(0, .int x0), (1, .int x1)] := hl
  show W p l e ({ frames := 0, cells := 0, slots := 0, locals := 0 } : Room) s m args below meth c s.heap [] 0 0 (MQ below (QG D [] [] (some (.int z))) args s 0 0 (fr [])) (F0 m 0 ls [])
  generalize hQ0 : (MQ below (QG D [] [] (some (.int z))) args s 0 0 (fr [])) = Q0
  generalize hA0 : fr [] = A0 at hD hS
  unfold fX5_isAlso at h
  refine lv_iload_n hx hb dX5_isAlso_0 rfl (lv_at hl 1 rfl) ?_
  refine lv_if_eq (tgt := 19) hx hb dX5_isAlso_1 (by decide) (fun c1 => ?_) (fun c1 => ?_)
  · skip
    have h := (if_pos c1).symm.trans h
    refine lv_iconst (v := 1) hx hb dX5_isAlso_19 (by decide) ?_
    refine lv_goto (tgt := 24) hx hb dX5_isAlso_20 (by decide) ?_
    subst h
    exact rt_z hA0 hQ0 hx hb hr hlocks rfl hP hS dX5_isAlso_24
  · skip
    have h := (if_neg c1).symm.trans h
    refine lv_iload_n hx hb dX5_isAlso_4 rfl (lv_at hl 1 rfl) ?_
    refine lv_iload_n hx hb dX5_isAlso_5 rfl (lv_at hl 0 rfl) ?_
    refine lv_icmp_eq (tgt := 19) hx hb dX5_isAlso_6 (by decide) (fun c2 => ?_) (fun c2 => ?_)
    · skip
      have h := (if_pos c2).symm.trans h
      refine lv_iconst (v := 1) hx hb dX5_isAlso_19 (by decide) ?_
      refine lv_goto (tgt := 24) hx hb dX5_isAlso_20 (by decide) ?_
      subst h
      exact rt_z hA0 hQ0 hx hb hr hlocks rfl hP hS dX5_isAlso_24
    · skip
      have h := (if_neg c2).symm.trans h
      refine lv_iload_n hx hb dX5_isAlso_9 rfl (lv_at hl 1 rfl) ?_
      refine lv_iconst (v := 1) hx hb dX5_isAlso_10 (by decide) ?_
      refine lv_icmp_ne (tgt := 23) hx hb dX5_isAlso_11 (by decide) (fun c3 => ?_) (fun c3 => ?_)
      · skip
        have h := (if_neg c3).symm.trans h
        refine lv_iconst (v := 0) hx hb dX5_isAlso_23 (by decide) ?_
        subst h
        exact rt_z hA0 hQ0 hx hb hr hlocks rfl hP hS dX5_isAlso_24
      · skip
        have h := (if_pos c3).symm.trans h
        refine lv_iload_n hx hb dX5_isAlso_14 rfl (lv_at hl 0 rfl) ?_
        refine lv_iconst (v := 4) hx hb dX5_isAlso_15 (by decide) ?_
        refine lv_icmp_ne (tgt := 23) hx hb dX5_isAlso_16 (by decide) (fun c4 => ?_) (fun c4 => ?_)
        · skip
          have h := (if_neg c4).symm.trans h
          refine lv_iconst (v := 0) hx hb dX5_isAlso_23 (by decide) ?_
          subst h
          exact rt_z hA0 hQ0 hx hb hr hlocks rfl hP hS dX5_isAlso_24
        · skip
          have h := (if_pos c4).symm.trans h
          refine lv_iconst (v := 1) hx hb dX5_isAlso_19 (by decide) ?_
          refine lv_goto (tgt := 24) hx hb dX5_isAlso_20 (by decide) ?_
          subst h
          exact rt_z hA0 hQ0 hx hb hr hlocks rfl hP hS dX5_isAlso_24
theorem zb_X5_isAlso (x0 : Int32) (x1 : Int32) : narrow .boolean (.int (fX5_isAlso x0 x1)) = .int (fX5_isAlso x0 x1) := by
  unfold fX5_isAlso
  repeat' split
  all_goals rfl
def fX5_ofLetter (x0 : Int32) : Int32 :=
  if x0 = 98 then (1) else (if x0 = 109 then (2) else (if x0 = 112 then (3) else (if x0 = 119 then (4) else ((-1)))))
set_option maxHeartbeats 4000000 in
set_option maxRecDepth 100000 in
theorem c_X5_ofLetter (l : Launch) (D : va_G) (cI cJ : ClassId) (x0 : Int32) : Met l yX5_ofLetter wsX5_ofLetter ({ frames := 0, cells := 0, slots := 0, locals := 0 } : Room) (va_Pc [.int x0] (preG D cI cJ [])) (QG D [] [] (some (.int (fX5_ofLetter x0)))) 0 0 (fr []) := by
  generalize h : fX5_ofLetter x0 = z
  refine Met.ofW (cc := cX5_ofLetter) (maxL := 1) (ret := (some .int)) (by decide) rfl ?_
  intro p e s m args below meth c s₁ B hml hv
  obtain ⟨hargs, hP, hK, hN, hD0⟩ := hv
  have hx := B.exec
  have hb := B.bytes
  have hr := B.returns
  have hts := atoms_spec (ws := wsX5_ofLetter) B.pre
  have hown : s.vm.findClass RX5 = some m.cls := findClass_of_methodNamed B.named
  have hlocks := B.notSynchronized
  have hD := fr_D hD0
  have hS : va_S (fr []) s.heap s.heap [] := va_S.rf
  have hl := lv_entry ([.int x0]) (n := 1) (Nat.le_of_ble_eq_true rfl)
  refine W.eq (g2 := F0 m 0 ((lg_sl ([.int x0]) ++ List.replicate (1 - (lg_sl ([.int x0])).length) Slot.unset).toArray) []) (by rw [hargs, lg_entry_eq]) ?_
  generalize (lg_sl ([.int x0]) ++ List.replicate (1 - (lg_sl ([.int x0])).length) Slot.unset).toArray = ls at hl ⊢
  have hl : lv_has ls 1 [(0, .int x0)] := hl
  show W p l e ({ frames := 0, cells := 0, slots := 0, locals := 0 } : Room) s m args below meth c s.heap [] 0 0 (MQ below (QG D [] [] (some (.int z))) args s 0 0 (fr [])) (F0 m 0 ls [])
  generalize hQ0 : (MQ below (QG D [] [] (some (.int z))) args s 0 0 (fr [])) = Q0
  generalize hA0 : fr [] = A0 at hD hS
  unfold fX5_ofLetter at h
  refine lv_iload_n hx hb dX5_ofLetter_0 rfl (lv_at hl 0 rfl) ?_
  by_cases c1 : x0 = 98
  · have h := (if_pos c1).symm.trans h
    refine lv_lookup (off := 43) (tgt := 44) hx hb dX5_ofLetter_1 (by decide) (by rw [c1]; decide) (by decide) ?_
    refine lv_iconst (v := 1) hx hb dX5_ofLetter_44 (by decide) ?_
    subst h
    exact rt_i hA0 hQ0 hx hb hr hlocks hP hS dX5_ofLetter_45
  have h := (if_neg c1).symm.trans h
  by_cases c2 : x0 = 109
  · have h := (if_pos c2).symm.trans h
    refine lv_lookup (off := 45) (tgt := 46) hx hb dX5_ofLetter_1 (by decide) (by rw [c2]; decide) (by decide) ?_
    refine lv_iconst (v := 2) hx hb dX5_ofLetter_46 (by decide) ?_
    subst h
    exact rt_i hA0 hQ0 hx hb hr hlocks hP hS dX5_ofLetter_47
  have h := (if_neg c2).symm.trans h
  by_cases c3 : x0 = 112
  · have h := (if_pos c3).symm.trans h
    refine lv_lookup (off := 47) (tgt := 48) hx hb dX5_ofLetter_1 (by decide) (by rw [c3]; decide) (by decide) ?_
    refine lv_iconst (v := 3) hx hb dX5_ofLetter_48 (by decide) ?_
    subst h
    exact rt_i hA0 hQ0 hx hb hr hlocks hP hS dX5_ofLetter_49
  have h := (if_neg c3).symm.trans h
  by_cases c4 : x0 = 119
  · have h := (if_pos c4).symm.trans h
    refine lv_lookup (off := 49) (tgt := 50) hx hb dX5_ofLetter_1 (by decide) (by rw [c4]; decide) (by decide) ?_
    refine lv_iconst (v := 4) hx hb dX5_ofLetter_50 (by decide) ?_
    subst h
    exact rt_i hA0 hQ0 hx hb hr hlocks hP hS dX5_ofLetter_51
  have h := (if_neg c4).symm.trans h
  refine lv_lookup (off := 51) (tgt := 52) hx hb dX5_ofLetter_1 (by decide) ((lv_osw (a := 98) c1 (by decide)).trans ((lv_osw (a := 109) c2 (by decide)).trans ((lv_osw (a := 112) c3 (by decide)).trans ((lv_osw (a := 119) c4 (by decide)).trans rfl)))) (by decide) ?_
  refine lv_iconst (v := (-1)) hx hb dX5_ofLetter_52 (by decide) ?_
  subst h
  exact rt_i hA0 hQ0 hx hb hr hlocks hP hS dX5_ofLetter_53
