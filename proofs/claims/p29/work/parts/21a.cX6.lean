def fX6_codeIn (x0 : Int64) (x2 : Int32) : Int32 :=
  ((((((x0 : Int64).toUInt64 >>> (((8 * x2) : Int32).toInt64.toUInt64 &&& Int64.toUInt64 63)).toInt64) : Int64).toInt32) &&& 255)
set_option maxHeartbeats 4000000 in
set_option maxRecDepth 100000 in
theorem c_X6_codeIn (l : Launch) (D : va_G) (cI cJ : ClassId) (x0 : Int64) (x2 : Int32) : Met l yX6_codeIn wsX6_codeIn ({ frames := 0, cells := 0, slots := 0, locals := 0 } : Room) (va_Pc [.long x0, .int x2] (preG D cI cJ [])) (QG D [] [] (some (.int (fX6_codeIn x0 x2)))) 0 0 (fr []) := by
  generalize h : fX6_codeIn x0 x2 = z
  refine Met.ofW (cc := cX6_codeIn) (maxL := 3) (ret := (some .int)) (by decide) rfl ?_
  intro p e s m args below meth c s₁ B hml hv
  obtain ⟨hargs, hP, hK, hN, hD0⟩ := hv
  have hx := B.exec
  have hb := B.bytes
  have hr := B.returns
  have hts := atoms_spec (ws := wsX6_codeIn) B.pre
  have hown : s.vm.findClass RX6 = some m.cls := findClass_of_methodNamed B.named
  have hlocks := B.notSynchronized
  have hD := fr_D hD0
  have hS : va_S (fr []) s.heap s.heap [] := va_S.rf
  have hl := lv_entry ([.long x0, .int x2]) (n := 3) (Nat.le_of_ble_eq_true rfl)
  refine W.eq (g2 := F0 m 0 ((lg_sl ([.long x0, .int x2]) ++ List.replicate (3 - (lg_sl ([.long x0, .int x2])).length) Slot.unset).toArray) []) (by rw [hargs, lg_entry_eq]) ?_
  generalize (lg_sl ([.long x0, .int x2]) ++ List.replicate (3 - (lg_sl ([.long x0, .int x2])).length) Slot.unset).toArray = ls at hl ⊢
  have hl : lv_has ls 3 [(0, .long x0), (2, .int x2)] := hl
  show W p l e ({ frames := 0, cells := 0, slots := 0, locals := 0 } : Room) s m args below meth c s.heap [] 0 0 (MQ below (QG D [] [] (some (.int z))) args s 0 0 (fr [])) (F0 m 0 ls [])
  generalize hQ0 : (MQ below (QG D [] [] (some (.int z))) args s 0 0 (fr [])) = Q0
  generalize hA0 : fr [] = A0 at hD hS
  unfold fX6_codeIn at h
  refine lv_lload_n hx hb dX6_codeIn_0 rfl (lv_at hl 0 rfl) ?_
  refine lv_bipush (v := 8) hx hb dX6_codeIn_1 (by decide) ?_
  refine lv_iload_n hx hb dX6_codeIn_3 rfl (lv_at hl 1 rfl) ?_
  refine lv_imul hx hb dX6_codeIn_4 ?_
  refine lv_lushr hx hb dX6_codeIn_5 rfl ?_
  refine lv_l2i hx hb dX6_codeIn_6 rfl ?_
  refine lv_sipush (v := 255) hx hb dX6_codeIn_7 (by decide) ?_
  refine lv_iand hx hb dX6_codeIn_10 ?_
  subst h
  exact rt_i hA0 hQ0 hx hb hr hlocks hP hS dX6_codeIn_11
def fX6_lettersIn_X7_38  (a3 : Unit) : Option (Int32) :=
  some (-1)
def fX6_lettersIn_X7_59  (a5 : Int32) : Option (Int32) :=
  some a5
def fX6_lettersIn_J40 (x0 : Int64) (z1 : Int32 × Int32 × Int32) (a10 : Unit) : Option ((Int32 × Int32 × Int32) ⊕ ((Unit) ⊕ (Int32))) :=
  some (Sum.inl ((if (fX6_codeIn x0 z1.2.2) = 0 then z1.1 else (z1.1 + 1) : Int32), (if (fX6_codeIn x0 z1.2.2) = 0 then 1 else z1.2.1 : Int32), (z1.2.2 + 1)))
def fX6_lettersIn_L7 (x0 : Int64) (z1 : Int32 × Int32 × Int32) : Option ((Int32 × Int32 × Int32) ⊕ ((Unit) ⊕ (Int32))) :=
  if 8 ≤ z1.2.2 then (some (Sum.inr (Sum.inr z1.1))) else (if 126 < (fX6_codeIn x0 z1.2.2) then (some (Sum.inr (Sum.inl ()))) else (if z1.2.1 = 0 then (fX6_lettersIn_J40 x0 z1 ()) else (if (fX6_codeIn x0 z1.2.2) = 0 then (fX6_lettersIn_J40 x0 z1 ()) else (some (Sum.inr (Sum.inl ()))))))
def fX6_lettersIn (x0 : Int64) : Option (Int32) :=
  (iter (fX6_lettersIn_L7 x0) FU (0, 0, 0)).bind (Sum.elim (fX6_lettersIn_X7_38) (fX6_lettersIn_X7_59))
set_option maxHeartbeats 4000000 in
set_option maxRecDepth 100000 in
theorem c_X6_lettersIn (l : Launch) (D : va_G) (cI cJ : ClassId) (x0 : Int64) (z : Int32) (h : fX6_lettersIn x0 = some z) : Met l yX6_lettersIn wsX6_lettersIn ({ frames := 1, cells := 0, slots := 0, locals := 22 } : Room) (va_Pc [.long x0] (preG D cI cJ [])) (QG D [] [] (some (.int z))) 0 0 (fr []) := by
  refine Met.ofW (cc := cX6_lettersIn) (maxL := 6) (ret := (some .int)) (by decide) rfl ?_
  intro p e s m args below meth c s₁ B hml hv
  obtain ⟨hargs, hP, hK, hN, hD0⟩ := hv
  have hx := B.exec
  have hb := B.bytes
  have hr := B.returns
  have hts := atoms_spec (ws := wsX6_lettersIn) B.pre
  have hown : s.vm.findClass RX6 = some m.cls := findClass_of_methodNamed B.named
  have hlocks := B.notSynchronized
  have hD := fr_D hD0
  have hS : va_S (fr []) s.heap s.heap [] := va_S.rf
  have hl := lv_entry ([.long x0]) (n := 6) (Nat.le_of_ble_eq_true rfl)
  refine W.eq (g2 := F0 m 0 ((lg_sl ([.long x0]) ++ List.replicate (6 - (lg_sl ([.long x0])).length) Slot.unset).toArray) []) (by rw [hargs, lg_entry_eq]) ?_
  generalize (lg_sl ([.long x0]) ++ List.replicate (6 - (lg_sl ([.long x0])).length) Slot.unset).toArray = ls at hl ⊢
  have hl : lv_has ls 6 [(0, .long x0)] := hl
  show W p l e ({ frames := 1, cells := 0, slots := 0, locals := 22 } : Room) s m args below meth c s.heap [] 0 0 (MQ below (QG D [] [] (some (.int z))) args s 0 0 (fr [])) (F0 m 0 ls [])
  generalize hQ0 : (MQ below (QG D [] [] (some (.int z))) args s 0 0 (fr [])) = Q0
  generalize hA0 : fr [] = A0 at hD hS
  unfold fX6_lettersIn at h
  refine lv_iconst (v := 0) hx hb dX6_lettersIn_0 (by decide) ?_
  refine lv_istore_n (lv' := [(2, .int 0), (0, .long x0)]) hx hb dX6_lettersIn_1 rfl hl (by decide) rfl (fun ls hl => ?_)
  refine lv_iconst (v := 0) hx hb dX6_lettersIn_2 (by decide) ?_
  refine lv_istore_n (lv' := [(3, .int 0), (2, .int 0), (0, .long x0)]) hx hb dX6_lettersIn_3 rfl hl (by decide) rfl (fun ls hl => ?_)
  refine lv_iconst (v := 0) hx hb dX6_lettersIn_4 (by decide) ?_
  refine lv_istore (lv' := [(4, .int 0), (3, .int 0), (2, .int 0), (0, .long x0)]) hx hb dX6_lettersIn_5 hl (by decide) rfl (fun ls hl => ?_)
  obtain ⟨e2, he_e2, hc_e2⟩ := bd_of h
  have X38_4 : ∀ (a3 : Unit) (H : Heap) (locs : List Loc) (ls : Array Slot), fX6_lettersIn_X7_38 a3 = some z → va_P D vwCl [] H → va_D A0 [] → va_S A0 s.heap H locs → lv_has ls 6 [] → W p l e ({ frames := 1, cells := 0, slots := 0, locals := 22 } : Room) s m args below meth c H locs 0 0 Q0 (F0 m 38 ls []) := by
    intro a3 H locs ls h hP hD hS hl
    unfold fX6_lettersIn_X7_38 at h
    refine lv_iconst (v := (-1)) hx hb dX6_lettersIn_38 (by decide) ?_
    obtain rfl := Option.some.inj h
    exact rt_i hA0 hQ0 hx hb hr hlocks hP hS dX6_lettersIn_39
  have X59_6 : ∀ (a5 : Int32) (H : Heap) (locs : List Loc) (ls : Array Slot), fX6_lettersIn_X7_59 a5 = some z → va_P D vwCl [] H → va_D A0 [] → va_S A0 s.heap H locs → lv_has ls 6 [(2, .int a5)] → W p l e ({ frames := 1, cells := 0, slots := 0, locals := 22 } : Room) s m args below meth c H locs 0 0 Q0 (F0 m 59 ls []) := by
    intro a5 H locs ls h hP hD hS hl
    unfold fX6_lettersIn_X7_59 at h
    refine lv_iload_n hx hb dX6_lettersIn_59 rfl (lv_at hl 0 rfl) ?_
    obtain rfl := Option.some.inj h
    exact rt_i hA0 hQ0 hx hb hr hlocks hP hS dX6_lettersIn_60
  have L7_7 : ∀ (n : Nat) (z1 : Int32 × Int32 × Int32) (H : Heap) (locs : List Loc) (ls : Array Slot), iter (fX6_lettersIn_L7 x0) n z1 = some e2 → va_P D vwCl [] H → va_D A0 [] → va_S A0 s.heap H locs → lv_has ls 6 [(0, .long x0), (2, .int z1.1), (3, .int z1.2.1), (4, .int z1.2.2)] → W p l e ({ frames := 1, cells := 0, slots := 0, locals := 22 } : Room) s m args below meth c H locs 0 0 Q0 (F0 m 7 ls []) := by
    intro n
    induction n with
    | zero => exact fun _ _ _ _ h => (iter_z h).elim
    | succ n ih =>
      intro z1 H locs ls h hP hD hS hl
      obtain ⟨r_e2, h, hn_e2⟩ := iter_s h
      unfold fX6_lettersIn_L7 at h
      refine lv_iload hx hb dX6_lettersIn_7 (lv_at hl 3 rfl) ?_
      refine lv_bipush (v := 8) hx hb dX6_lettersIn_9 (by decide) ?_
      refine lv_icmp_ge (tgt := 59) hx hb dX6_lettersIn_11 (by decide) (fun c8 => ?_) (fun c8 => ?_)
      · skip
        have h := (if_pos c8).symm.trans h
        obtain rfl := Option.some.inj h
        obtain rfl := Option.some.inj hn_e2
        exact X59_6 z1.1 _ _ _ hc_e2 hP hD hS (lv_sub hl [1] rfl)
      · skip
        have h := (if_neg c8).symm.trans h
        refine lv_lload_n hx hb dX6_lettersIn_14 rfl (lv_at hl 0 rfl) ?_
        refine lv_iload hx hb dX6_lettersIn_15 (lv_at hl 3 rfl) ?_
        refine cl_S [] (As := [.long x0, .int z1.2.2]) (rest := []) (rv := (some (.int (fX6_codeIn x0 z1.2.2)))) (c_X6_codeIn l D cI cJ x0 z1.2.2) ⟨hx, hb, hml, hown, hts⟩ (va_cwS 2 hts gX6_lettersIn_X6_codeIn rfl rfl rfl (by decide +kernel) ⟨(Nat.le_of_ble_eq_true rfl), (Nat.le_of_ble_eq_true rfl)⟩) hK hN hP hD hS [] rfl (by decide) rfl rfl rfl rfl hl.1 rfl (Nat.le_of_ble_eq_true rfl) dX6_lettersIn_17 ⟨Nat.zero_le _, Nat.zero_le _⟩ (fun H locs hP hD hS => ?_)
        show W p l e ({ frames := 1, cells := 0, slots := 0, locals := 22 } : Room) s m args below meth c H locs 0 0 Q0 (F0 m 20 ls [.int (fX6_codeIn x0 z1.2.2)])
        refine lv_istore (lv' := [(5, .int (fX6_codeIn x0 z1.2.2)), (0, .long x0), (2, .int z1.1), (3, .int z1.2.1), (4, .int z1.2.2)]) hx hb dX6_lettersIn_20 hl (by decide) rfl (fun ls hl => ?_)
        refine lv_iload hx hb dX6_lettersIn_22 (lv_at hl 0 rfl) ?_
        refine lv_bipush (v := 126) hx hb dX6_lettersIn_24 (by decide) ?_
        refine lv_icmp_gt (tgt := 38) hx hb dX6_lettersIn_26 (by decide) (fun c9 => ?_) (fun c9 => ?_)
        · skip
          have h := (if_pos c9).symm.trans h
          obtain rfl := Option.some.inj h
          obtain rfl := Option.some.inj hn_e2
          exact X38_4 () _ _ _ hc_e2 hP hD hS (lv_sub hl [] rfl)
        · skip
          have h := (if_neg c9).symm.trans h
          refine lv_iload_n hx hb dX6_lettersIn_29 rfl (lv_at hl 3 rfl) ?_
          have J40_11 : ∀ (a10 : Unit) (H : Heap) (locs : List Loc) (ls : Array Slot), fX6_lettersIn_J40 x0 z1 a10 = some r_e2 → va_P D vwCl [] H → va_D A0 [] → va_S A0 s.heap H locs → lv_has ls 6 [(0, .long x0), (2, .int z1.1), (3, .int z1.2.1), (4, .int z1.2.2), (5, .int (fX6_codeIn x0 z1.2.2))] → W p l e ({ frames := 1, cells := 0, slots := 0, locals := 22 } : Room) s m args below meth c H locs 0 0 Q0 (F0 m 40 ls []) := by
            intro a10 H locs ls h hP hD hS hl
            unfold fX6_lettersIn_J40 at h
            refine lv_iload hx hb dX6_lettersIn_40 (lv_at hl 4 rfl) ?_
            have K53_12 : ∀ (w13 : Int32) (w14 : Int32) (H : Heap) (locs : List Loc) (ls : Array Slot), w13 = (if (fX6_codeIn x0 z1.2.2) = 0 then z1.1 else (z1.1 + 1) : Int32) → w14 = (if (fX6_codeIn x0 z1.2.2) = 0 then 1 else z1.2.1 : Int32) → va_P D vwCl [] H → va_D A0 [] → va_S A0 s.heap H locs → lv_has ls 6 [(0, .long x0), (2, .int w13), (3, .int w14), (4, .int z1.2.2)] → W p l e ({ frames := 1, cells := 0, slots := 0, locals := 22 } : Room) s m args below meth c H locs 0 0 Q0 (F0 m 53 ls []) := by
              intro w13 w14 H locs ls e_w13 e_w14 hP hD hS hl
              subst e_w13
              subst e_w14
              refine lv_iinc (v := (z1.2.2 + 1)) (lv' := [(4, .int (z1.2.2 + 1)), (0, .long x0), (2, .int (if (fX6_codeIn x0 z1.2.2) = 0 then z1.1 else (z1.1 + 1) : Int32)), (3, .int (if (fX6_codeIn x0 z1.2.2) = 0 then 1 else z1.2.1 : Int32))]) hx hb dX6_lettersIn_53 hl (k := 3) rfl rfl (by decide) rfl (fun ls hl => ?_)
              refine lv_goto (tgt := 7) hx hb dX6_lettersIn_56 (by decide) ?_
              obtain rfl := Option.some.inj h
              exact ih ((if (fX6_codeIn x0 z1.2.2) = 0 then z1.1 else (z1.1 + 1) : Int32), (if (fX6_codeIn x0 z1.2.2) = 0 then 1 else z1.2.1 : Int32), (z1.2.2 + 1)) _ _ _ hn_e2 hP hD hS (lv_sub hl [1, 2, 3, 0] rfl)
            refine lv_if_ne (tgt := 50) hx hb dX6_lettersIn_42 (by decide) (fun c15 => ?_) (fun c15 => ?_)
            · skip
              refine lv_iinc (v := (z1.1 + 1)) (lv' := [(2, .int (z1.1 + 1)), (0, .long x0), (3, .int z1.2.1), (4, .int z1.2.2), (5, .int (fX6_codeIn x0 z1.2.2))]) hx hb dX6_lettersIn_50 hl (k := 1) rfl rfl (by decide) rfl (fun ls hl => ?_)
              exact K53_12 ((z1.1 + 1)) z1.2.1 _ _ _ (by rw [if_neg c15]) (by rw [if_neg c15]) hP hD hS (lv_sub hl [1, 0, 2, 3] rfl)
            · skip
              refine lv_iconst (v := 1) hx hb dX6_lettersIn_45 (by decide) ?_
              refine lv_istore_n (lv' := [(3, .int 1), (0, .long x0), (2, .int z1.1), (4, .int z1.2.2), (5, .int (fX6_codeIn x0 z1.2.2))]) hx hb dX6_lettersIn_46 rfl hl (by decide) rfl (fun ls hl => ?_)
              refine lv_goto (tgt := 53) hx hb dX6_lettersIn_47 (by decide) ?_
              exact K53_12 z1.1 1 _ _ _ (by rw [if_pos c15]) (by rw [if_pos c15]) hP hD hS (lv_sub hl [1, 2, 0, 3] rfl)
          refine lv_if_eq (tgt := 40) hx hb dX6_lettersIn_30 (by decide) (fun c16 => ?_) (fun c16 => ?_)
          · skip
            have h := (if_pos c16).symm.trans h
            exact J40_11 () _ _ _ h hP hD hS (lv_sub hl [1, 2, 3, 4, 0] rfl)
          · skip
            have h := (if_neg c16).symm.trans h
            refine lv_iload hx hb dX6_lettersIn_33 (lv_at hl 0 rfl) ?_
            refine lv_if_eq (tgt := 40) hx hb dX6_lettersIn_35 (by decide) (fun c17 => ?_) (fun c17 => ?_)
            · skip
              have h := (if_pos c17).symm.trans h
              exact J40_11 () _ _ _ h hP hD hS (lv_sub hl [1, 2, 3, 4, 0] rfl)
            · skip
              have h := (if_neg c17).symm.trans h
              obtain rfl := Option.some.inj h
              obtain rfl := Option.some.inj hn_e2
              exact X38_4 () _ _ _ hc_e2 hP hD hS (lv_sub hl [] rfl)
  exact L7_7 FU (0, 0, 0) _ _ _ he_e2 hP hD hS (lv_sub hl [3, 2, 1, 0] rfl)
def fX6_write_X3_49  (a3 : Int32 × (Nat → Int32)) : Option (Int32 × (Nat → Int32)) :=
  some (a3.1, a3.2)
def fX6_write_L3 (x1 : Int64) (x3 : Int32) (z1 : Int32 × Int32 × (Nat → Int32)) : Option ((Int32 × Int32 × (Nat → Int32)) ⊕ (Int32 × (Nat → Int32))) :=
  if x3 ≤ z1.1 then (some (Sum.inr (z1.2.1, z1.2.2))) else (if 22 ≤ z1.2.1 then (some (Sum.inr (z1.2.1, z1.2.2))) else (gd (inb z1.2.1 22) (some (Sum.inl ((z1.1 + 1), (z1.2.1 + 1), (upd z1.2.2 z1.2.1.toNatClampNeg (fX6_codeIn x1 z1.1)))))))
def fX6_write (v_t_size : Int32) (v_t_codes : Nat → Int32) (x1 : Int64) (x3 : Int32) : Option (Int32 × (Nat → Int32)) :=
  (iter (fX6_write_L3 x1 x3) FU (0, v_t_size, v_t_codes)).bind (fX6_write_X3_49)
set_option maxHeartbeats 4000000 in
set_option maxRecDepth 100000 in
theorem c_X6_write (l : Launch) (D : va_G) (cI cJ : ClassId) (q_t q_t_codes : Nat) (v_t_size : Int32) (v_t_codes : Nat → Int32) (x1 : Int64) (x3 : Int32) (z : Int32 × (Nat → Int32)) (h : fX6_write v_t_size v_t_codes x1 x3 = some z) : Met l yX6_write wsX6_write ({ frames := 1, cells := 0, slots := 0, locals := 22 } : Room) (va_Pc [.ref q_t, .long x1, .int x3] (preG D cI cJ [(q_t, .inr (5, [.ref q_t_codes, .int v_t_size])), (q_t_codes, .inl (cI, 22, .inl v_t_codes))])) (QG D [(q_t, .inr (5, [.ref q_t_codes, .int v_t_size])), (q_t_codes, .inl (cI, 22, .inl v_t_codes))] [(q_t, .inr (5, [.ref q_t_codes, .int z.1])), (q_t_codes, .inl (cI, 22, .inl z.2))] none) 0 0 (fr [(q_t, .inr (5, [.ref q_t_codes, .int v_t_size])), (q_t_codes, .inl (cI, 22, .inl v_t_codes))]) := by
  refine Met.ofW (cc := cX6_write) (maxL := 5) (ret := none) (by decide) rfl ?_
  intro p e s m args below meth c s₁ B hml hv
  obtain ⟨hargs, hP, hK, hN, hD0⟩ := hv
  have hx := B.exec
  have hb := B.bytes
  have hr := B.returns
  have hts := atoms_spec (ws := wsX6_write) B.pre
  have hown : s.vm.findClass RX6 = some m.cls := findClass_of_methodNamed B.named
  have hlocks := B.notSynchronized
  have iX6 : ∀ w ∈ wsX60, w ∈ wsX6_write := by decide +kernel
  have k9 := hts (.fieldLink RX6 9 "PressedFerns$Page" "codes" "[I") (by decide +kernel)
  have k19 := hts (.fieldLink RX6 19 "PressedFerns$Page" "size" "I") (by decide +kernel)
  have hD := fr_D hD0
  have hS : va_S (fr [(q_t, .inr (5, [.ref q_t_codes, .int v_t_size])), (q_t_codes, .inl (cI, 22, .inl v_t_codes))]) s.heap s.heap [] := va_S.rf
  have hl := lv_entry ([.ref q_t, .long x1, .int x3]) (n := 5) (Nat.le_of_ble_eq_true rfl)
  refine W.eq (g2 := F0 m 0 ((lg_sl ([.ref q_t, .long x1, .int x3]) ++ List.replicate (5 - (lg_sl ([.ref q_t, .long x1, .int x3])).length) Slot.unset).toArray) []) (by rw [hargs, lg_entry_eq]) ?_
  generalize (lg_sl ([.ref q_t, .long x1, .int x3]) ++ List.replicate (5 - (lg_sl ([.ref q_t, .long x1, .int x3])).length) Slot.unset).toArray = ls at hl ⊢
  have hl : lv_has ls 5 [(0, .ref q_t), (1, .long x1), (3, .int x3)] := hl
  show W p l e ({ frames := 1, cells := 0, slots := 0, locals := 22 } : Room) s m args below meth c s.heap [] 0 0 (MQ below (QG D [(q_t, .inr (5, [.ref q_t_codes, .int v_t_size])), (q_t_codes, .inl (cI, 22, .inl v_t_codes))] [(q_t, .inr (5, [.ref q_t_codes, .int z.1])), (q_t_codes, .inl (cI, 22, .inl z.2))] none) args s 0 0 (fr [(q_t, .inr (5, [.ref q_t_codes, .int v_t_size])), (q_t_codes, .inl (cI, 22, .inl v_t_codes))])) (F0 m 0 ls [])
  generalize hQ0 : (MQ below (QG D [(q_t, .inr (5, [.ref q_t_codes, .int v_t_size])), (q_t_codes, .inl (cI, 22, .inl v_t_codes))] [(q_t, .inr (5, [.ref q_t_codes, .int z.1])), (q_t_codes, .inl (cI, 22, .inl z.2))] none) args s 0 0 (fr [(q_t, .inr (5, [.ref q_t_codes, .int v_t_size])), (q_t_codes, .inl (cI, 22, .inl v_t_codes))])) = Q0
  generalize hA0 : fr [(q_t, .inr (5, [.ref q_t_codes, .int v_t_size])), (q_t_codes, .inl (cI, 22, .inl v_t_codes))] = A0 at hD hS
  unfold fX6_write at h
  refine lv_iconst (v := 0) hx hb dX6_write_0 (by decide) ?_
  refine lv_istore (lv' := [(4, .int 0), (0, .ref q_t), (1, .long x1), (3, .int x3)]) hx hb dX6_write_1 hl (by decide) rfl (fun ls hl => ?_)
  obtain ⟨e2, he_e2, hc_e2⟩ := bd_of h
  have X49_4 : ∀ (a3 : Int32 × (Nat → Int32)) (H : Heap) (locs : List Loc) (ls : Array Slot), fX6_write_X3_49 a3 = some z → va_P D vwCl [(q_t, .inr (5, [.ref q_t_codes, .int a3.1])), (q_t_codes, .inl (cI, 22, .inl a3.2))] H → va_D A0 [(q_t, .inr (5, [.ref q_t_codes, .int a3.1])), (q_t_codes, .inl (cI, 22, .inl a3.2))] → va_S A0 s.heap H locs → lv_has ls 5 [] → W p l e ({ frames := 1, cells := 0, slots := 0, locals := 22 } : Room) s m args below meth c H locs 0 0 Q0 (F0 m 49 ls []) := by
    intro a3 H locs ls h hP hD hS hl
    unfold fX6_write_X3_49 at h
    obtain rfl := Option.some.inj h
    exact rt_v hA0 hQ0 hx hb hr hlocks hP hS dX6_write_49
  have L3_5 : ∀ (n : Nat) (z1 : Int32 × Int32 × (Nat → Int32)) (H : Heap) (locs : List Loc) (ls : Array Slot), iter (fX6_write_L3 x1 x3) n z1 = some e2 → va_P D vwCl [(q_t, .inr (5, [.ref q_t_codes, .int z1.2.1])), (q_t_codes, .inl (cI, 22, .inl z1.2.2))] H → va_D A0 [(q_t, .inr (5, [.ref q_t_codes, .int z1.2.1])), (q_t_codes, .inl (cI, 22, .inl z1.2.2))] → va_S A0 s.heap H locs → lv_has ls 5 [(0, .ref q_t), (1, .long x1), (3, .int x3), (4, .int z1.1)] → W p l e ({ frames := 1, cells := 0, slots := 0, locals := 22 } : Room) s m args below meth c H locs 0 0 Q0 (F0 m 3 ls []) := by
    intro n
    induction n with
    | zero => exact fun _ _ _ _ h => (iter_z h).elim
    | succ n ih =>
      intro z1 H locs ls h hP hD hS hl
      obtain ⟨r_e2, h, hn_e2⟩ := iter_s h
      unfold fX6_write_L3 at h
      refine lv_iload hx hb dX6_write_3 (lv_at hl 3 rfl) ?_
      refine lv_iload_n hx hb dX6_write_5 rfl (lv_at hl 2 rfl) ?_
      refine lv_icmp_ge (tgt := 49) hx hb dX6_write_6 (by decide) (fun c6 => ?_) (fun c6 => ?_)
      · skip
        have h := (if_pos c6).symm.trans h
        obtain rfl := Option.some.inj h
        obtain rfl := Option.some.inj hn_e2
        exact X49_4 (z1.2.1, z1.2.2) _ _ _ hc_e2 hP hD hS (lv_sub hl [] rfl)
      · skip
        have h := (if_neg c6).symm.trans h
        refine lv_aload_n hx hb dX6_write_9 rfl (lv_at hl 0 rfl) ?_
        refine va_get (own := RX6) (ci := 5) (v := .int z1.2.1) (C := RX6) (T := TX6) (N := 2) hx hb hts iX6 hown hK hP 0 rfl rfl 1 (by decide) k19 (fun _ h9 => h9) rfl dX6_write_10 ?_
        refine lv_bipush (v := 22) hx hb dX6_write_13 (by decide) ?_
        refine lv_icmp_ge (tgt := 49) hx hb dX6_write_15 (by decide) (fun c7 => ?_) (fun c7 => ?_)
        · skip
          have h := (if_pos c7).symm.trans h
          obtain rfl := Option.some.inj h
          obtain rfl := Option.some.inj hn_e2
          exact X49_4 (z1.2.1, z1.2.2) _ _ _ hc_e2 hP hD hS (lv_sub hl [] rfl)
        · skip
          have h := (if_neg c7).symm.trans h
          refine lv_aload_n hx hb dX6_write_18 rfl (lv_at hl 0 rfl) ?_
          refine va_get (own := RX6) (ci := 5) (v := .ref q_t_codes) (C := RX6) (T := TX6) (N := 2) hx hb hts iX6 hown hK hP 0 rfl rfl 0 (by decide) k9 (fun _ h9 => h9) rfl dX6_write_19 ?_
          refine lv_aload_n hx hb dX6_write_22 rfl (lv_at hl 0 rfl) ?_
          refine va_get (own := RX6) (ci := 5) (v := .int z1.2.1) (C := RX6) (T := TX6) (N := 2) hx hb hts iX6 hown hK hP 0 rfl rfl 1 (by decide) k19 (fun _ h9 => h9) rfl dX6_write_23 ?_
          refine lv_lload_n hx hb dX6_write_26 rfl (lv_at hl 1 rfl) ?_
          refine lv_iload hx hb dX6_write_27 (lv_at hl 3 rfl) ?_
          refine cl_S [(q_t, .inr (5, [.ref q_t_codes, .int z1.2.1])), (q_t_codes, .inl (cI, 22, .inl z1.2.2))] (As := [.long x1, .int z1.1]) (rest := [.int z1.2.1, .ref q_t_codes]) (rv := (some (.int (fX6_codeIn x1 z1.1)))) (c_X6_codeIn l D cI cJ x1 z1.1) ⟨hx, hb, hml, hown, hts⟩ (va_cwS 2 hts gX6_write_X6_codeIn rfl rfl rfl (by decide +kernel) ⟨(Nat.le_of_ble_eq_true rfl), (Nat.le_of_ble_eq_true rfl)⟩) hK hN hP hD hS [] rfl (by decide) rfl rfl rfl rfl hl.1 rfl (Nat.le_of_ble_eq_true rfl) dX6_write_29 ⟨Nat.zero_le _, Nat.zero_le _⟩ (fun H locs hP hD hS => ?_)
          show W p l e ({ frames := 1, cells := 0, slots := 0, locals := 22 } : Room) s m args below meth c H locs 0 0 Q0 (F0 m 32 ls [.int (fX6_codeIn x1 z1.1), .int z1.2.1, .ref q_t_codes])
          obtain ⟨g8, h⟩ := gd_of h
          refine va_iast hx hb hK hP hD hS 1 0 rfl rfl (inb_of g8) dX6_write_32 (fun H locs hP hD hS => ?_)
          have hP : va_P D vwCl [(q_t, .inr (5, [.ref q_t_codes, .int z1.2.1])), (q_t_codes, .inl (cI, 22, .inl (upd z1.2.2 z1.2.1.toNatClampNeg (fX6_codeIn x1 z1.1))))] H := hP
          have hD : va_D A0 [(q_t, .inr (5, [.ref q_t_codes, .int z1.2.1])), (q_t_codes, .inl (cI, 22, .inl (upd z1.2.2 z1.2.1.toNatClampNeg (fX6_codeIn x1 z1.1))))] := hD
          refine lv_aload_n hx hb dX6_write_33 rfl (lv_at hl 0 rfl) ?_
          refine lv_dup hx hb dX6_write_34 rfl ?_
          refine va_get (own := RX6) (ci := 5) (v := .int z1.2.1) (C := RX6) (T := TX6) (N := 2) hx hb hts iX6 hown hK hP 0 rfl rfl 1 (by decide) k19 (fun _ h9 => h9) rfl dX6_write_35 ?_
          refine lv_iconst (v := 1) hx hb dX6_write_38 (by decide) ?_
          refine lv_iadd hx hb dX6_write_39 ?_
          refine va_put (D := D) (own := RX6) (ci := 5) (v := .int (z1.2.1 + 1)) (ty := .int) (C := RX6) (T := TX6) (N := 2) hx hb hts iX6 tyX6 tyX6_ok nmX6 hown hK hP hD hS 0 rfl rfl 1 (by decide) k19 (fun _ h9 => h9) rfl (by decide +kernel) rfl rfl (Nat.le_of_ble_eq_true rfl) dX6_write_40 (fun H locs hP hD hS => ?_)
          have hP : va_P D vwCl [(q_t, .inr (5, [.ref q_t_codes, .int (z1.2.1 + 1)])), (q_t_codes, .inl (cI, 22, .inl (upd z1.2.2 z1.2.1.toNatClampNeg (fX6_codeIn x1 z1.1))))] H := hP
          have hD : va_D A0 [(q_t, .inr (5, [.ref q_t_codes, .int (z1.2.1 + 1)])), (q_t_codes, .inl (cI, 22, .inl (upd z1.2.2 z1.2.1.toNatClampNeg (fX6_codeIn x1 z1.1))))] := hD
          refine lv_iinc (v := (z1.1 + 1)) (lv' := [(4, .int (z1.1 + 1)), (0, .ref q_t), (1, .long x1), (3, .int x3)]) hx hb dX6_write_43 hl (k := 3) rfl rfl (by decide) rfl (fun ls hl => ?_)
          refine lv_goto (tgt := 3) hx hb dX6_write_46 (by decide) ?_
          obtain rfl := Option.some.inj h
          exact ih ((z1.1 + 1), (z1.2.1 + 1), (upd z1.2.2 z1.2.1.toNatClampNeg (fX6_codeIn x1 z1.1))) _ _ _ hn_e2 hP hD hS (lv_sub hl [1, 2, 3, 0] rfl)
  exact L3_5 FU (0, v_t_size, v_t_codes) _ _ _ he_e2 hP hD hS (lv_sub hl [1, 2, 3, 0] rfl)
def fX6_isDigit (x0 : Int32) : Int32 :=
  if x0 < 48 then (0) else (if 57 < x0 then (0) else (1))
set_option maxHeartbeats 4000000 in
set_option maxRecDepth 100000 in
theorem c_X6_isDigit (l : Launch) (D : va_G) (cI cJ : ClassId) (x0 : Int32) : Met l yX6_isDigit wsX6_isDigit ({ frames := 0, cells := 0, slots := 0, locals := 0 } : Room) (va_Pc [.int x0] (preG D cI cJ [])) (QG D [] [] (some (.int (fX6_isDigit x0)))) 0 0 (fr []) := by
  generalize h : fX6_isDigit x0 = z
  refine Met.ofW (cc := cX6_isDigit) (maxL := 1) (ret := (some .boolean)) (by decide) rfl ?_
  intro p e s m args below meth c s₁ B hml hv
  obtain ⟨hargs, hP, hK, hN, hD0⟩ := hv
  have hx := B.exec
  have hb := B.bytes
  have hr := B.returns
  have hts := atoms_spec (ws := wsX6_isDigit) B.pre
  have hown : s.vm.findClass RX6 = some m.cls := findClass_of_methodNamed B.named
  have hlocks := B.notSynchronized
  have hD := fr_D hD0
  have hS : va_S (fr []) s.heap s.heap [] := va_S.rf
  have hl := lv_entry ([.int x0]) (n := 1) (Nat.le_of_ble_eq_true rfl)
  refine W.eq (g2 := F0 m 0 ((lg_sl ([.int x0]) ++ List.replicate (1 - (lg_sl ([.int x0])).length) Slot.unset).toArray) []) (by rw [hargs, lg_entry_eq]) ?_
  generalize (lg_sl ([.int x0]) ++ List.replicate (1 - (lg_sl ([.int x0])).length) Slot.unset).toArray = ls at hl ⊢
  have hl : lv_has ls 1 [(0, .int x0)] := hl
  show W p l e ({ frames := 0, cells := 0, slots := 0, locals := 0 } : Room) s m args below meth c s.heap [] 0 0 (MQ below (QG D [] [] (some (.int z))) args s 0 0 (fr [])) (F0 m 0 ls [])
  generalize hQ0 : (MQ below (QG D [] [] (some (.int z))) args s 0 0 (fr [])) = Q0
  generalize hA0 : fr [] = A0 at hD hS
  unfold fX6_isDigit at h
  refine lv_iload_n hx hb dX6_isDigit_0 rfl (lv_at hl 0 rfl) ?_
  refine lv_bipush (v := 48) hx hb dX6_isDigit_1 (by decide) ?_
  refine lv_icmp_lt (tgt := 16) hx hb dX6_isDigit_3 (by decide) (fun c1 => ?_) (fun c1 => ?_)
  · skip
    have h := (if_pos c1).symm.trans h
    refine lv_iconst (v := 0) hx hb dX6_isDigit_16 (by decide) ?_
    subst h
    exact rt_z hA0 hQ0 hx hb hr hlocks rfl hP hS dX6_isDigit_17
  · skip
    have h := (if_neg c1).symm.trans h
    refine lv_iload_n hx hb dX6_isDigit_6 rfl (lv_at hl 0 rfl) ?_
    refine lv_bipush (v := 57) hx hb dX6_isDigit_7 (by decide) ?_
    refine lv_icmp_gt (tgt := 16) hx hb dX6_isDigit_9 (by decide) (fun c2 => ?_) (fun c2 => ?_)
    · skip
      have h := (if_pos c2).symm.trans h
      refine lv_iconst (v := 0) hx hb dX6_isDigit_16 (by decide) ?_
      subst h
      exact rt_z hA0 hQ0 hx hb hr hlocks rfl hP hS dX6_isDigit_17
    · skip
      have h := (if_neg c2).symm.trans h
      refine lv_iconst (v := 1) hx hb dX6_isDigit_12 (by decide) ?_
      refine lv_goto (tgt := 17) hx hb dX6_isDigit_13 (by decide) ?_
      subst h
      exact rt_z hA0 hQ0 hx hb hr hlocks rfl hP hS dX6_isDigit_17
theorem zb_X6_isDigit (x0 : Int32) : narrow .boolean (.int (fX6_isDigit x0)) = .int (fX6_isDigit x0) := by
  unfold fX6_isDigit
  repeat' split
  all_goals rfl
def fX6_firstFault_X6_20  (a3 : Int32) : Option (Int32) :=
  some a3
def fX6_firstFault_X6_64  (a5 : Int32) : Option (Int32) :=
  some a5
def fX6_firstFault_X6_72 (v_t_size : Int32) (a7 : Unit) : Option (Int32) :=
  some v_t_size
def fX6_firstFault_J66 (z1 : Int32 × Int32 × Int32) (a13 : Int32 × Int32) : Option ((Int32 × Int32 × Int32) ⊕ ((Int32) ⊕ (Int32) ⊕ (Unit))) :=
  some (Sum.inl (a13.1, a13.2, (z1.2.2 + 1)))
def fX6_firstFault_L6 (v_t_size : Int32) (v_t_codes : Nat → Int32) (z1 : Int32 × Int32 × Int32) : Option ((Int32 × Int32 × Int32) ⊕ ((Int32) ⊕ (Int32) ⊕ (Unit))) :=
  if v_t_size ≤ z1.2.2 then (some (Sum.inr (Sum.inr (Sum.inr ())))) else (if z1.1 = 10 then (some (Sum.inr (Sum.inl z1.2.2))) else (gd (inb z1.2.2 22) (if (fX6_isDigit (v_t_codes z1.2.2.toNatClampNeg)) = 0 then (if z1.2.1 = 0 then (if (fX5_ofLetter (v_t_codes z1.2.2.toNatClampNeg)) = (-1) then (some (Sum.inr (Sum.inr (Sum.inl z1.2.2)))) else (fX6_firstFault_J66 z1 (z1.1, 1))) else (some (Sum.inr (Sum.inr (Sum.inl z1.2.2))))) else (fX6_firstFault_J66 z1 ((z1.1 + 1), 0)))))
def fX6_firstFault (v_t_size : Int32) (v_t_codes : Nat → Int32) : Option (Int32) :=
  (iter (fX6_firstFault_L6 v_t_size v_t_codes) FU (0, 0, 0)).bind (Sum.elim (fX6_firstFault_X6_20) (Sum.elim (fX6_firstFault_X6_64) (fX6_firstFault_X6_72 v_t_size)))
set_option maxHeartbeats 4000000 in
set_option maxRecDepth 100000 in
theorem c_X6_firstFault (l : Launch) (D : va_G) (cI cJ : ClassId) (q_t q_t_codes : Nat) (v_t_size : Int32) (v_t_codes : Nat → Int32) (z : Int32) (h : fX6_firstFault v_t_size v_t_codes = some z) : Met l yX6_firstFault wsX6_firstFault ({ frames := 1, cells := 0, slots := 0, locals := 20 } : Room) (va_Pc [.ref q_t] (preG D cI cJ [(q_t, .inr (5, [.ref q_t_codes, .int v_t_size])), (q_t_codes, .inl (cI, 22, .inl v_t_codes))])) (QG D [(q_t, .inr (5, [.ref q_t_codes, .int v_t_size])), (q_t_codes, .inl (cI, 22, .inl v_t_codes))] [(q_t, .inr (5, [.ref q_t_codes, .int v_t_size])), (q_t_codes, .inl (cI, 22, .inl v_t_codes))] (some (.int z))) 0 0 (fr [(q_t, .inr (5, [.ref q_t_codes, .int v_t_size])), (q_t_codes, .inl (cI, 22, .inl v_t_codes))]) := by
  refine Met.ofW (cc := cX6_firstFault) (maxL := 4) (ret := (some .int)) (by decide) rfl ?_
  intro p e s m args below meth c s₁ B hml hv
  obtain ⟨hargs, hP, hK, hN, hD0⟩ := hv
  have hx := B.exec
  have hb := B.bytes
  have hr := B.returns
  have hts := atoms_spec (ws := wsX6_firstFault) B.pre
  have hown : s.vm.findClass RX6 = some m.cls := findClass_of_methodNamed B.named
  have hlocks := B.notSynchronized
  have iX6 : ∀ w ∈ wsX60, w ∈ wsX6_firstFault := by decide +kernel
  have k9 := hts (.fieldLink RX6 9 "PressedFerns$Page" "codes" "[I") (by decide +kernel)
  have k19 := hts (.fieldLink RX6 19 "PressedFerns$Page" "size" "I") (by decide +kernel)
  have hD := fr_D hD0
  have hS : va_S (fr [(q_t, .inr (5, [.ref q_t_codes, .int v_t_size])), (q_t_codes, .inl (cI, 22, .inl v_t_codes))]) s.heap s.heap [] := va_S.rf
  have hl := lv_entry ([.ref q_t]) (n := 4) (Nat.le_of_ble_eq_true rfl)
  refine W.eq (g2 := F0 m 0 ((lg_sl ([.ref q_t]) ++ List.replicate (4 - (lg_sl ([.ref q_t])).length) Slot.unset).toArray) []) (by rw [hargs, lg_entry_eq]) ?_
  generalize (lg_sl ([.ref q_t]) ++ List.replicate (4 - (lg_sl ([.ref q_t])).length) Slot.unset).toArray = ls at hl ⊢
  have hl : lv_has ls 4 [(0, .ref q_t)] := hl
  show W p l e ({ frames := 1, cells := 0, slots := 0, locals := 20 } : Room) s m args below meth c s.heap [] 0 0 (MQ below (QG D [(q_t, .inr (5, [.ref q_t_codes, .int v_t_size])), (q_t_codes, .inl (cI, 22, .inl v_t_codes))] [(q_t, .inr (5, [.ref q_t_codes, .int v_t_size])), (q_t_codes, .inl (cI, 22, .inl v_t_codes))] (some (.int z))) args s 0 0 (fr [(q_t, .inr (5, [.ref q_t_codes, .int v_t_size])), (q_t_codes, .inl (cI, 22, .inl v_t_codes))])) (F0 m 0 ls [])
  generalize hQ0 : (MQ below (QG D [(q_t, .inr (5, [.ref q_t_codes, .int v_t_size])), (q_t_codes, .inl (cI, 22, .inl v_t_codes))] [(q_t, .inr (5, [.ref q_t_codes, .int v_t_size])), (q_t_codes, .inl (cI, 22, .inl v_t_codes))] (some (.int z))) args s 0 0 (fr [(q_t, .inr (5, [.ref q_t_codes, .int v_t_size])), (q_t_codes, .inl (cI, 22, .inl v_t_codes))])) = Q0
  generalize hA0 : fr [(q_t, .inr (5, [.ref q_t_codes, .int v_t_size])), (q_t_codes, .inl (cI, 22, .inl v_t_codes))] = A0 at hD hS
  unfold fX6_firstFault at h
  refine lv_iconst (v := 0) hx hb dX6_firstFault_0 (by decide) ?_
  refine lv_istore_n (lv' := [(1, .int 0), (0, .ref q_t)]) hx hb dX6_firstFault_1 rfl hl (by decide) rfl (fun ls hl => ?_)
  refine lv_iconst (v := 0) hx hb dX6_firstFault_2 (by decide) ?_
  refine lv_istore_n (lv' := [(2, .int 0), (1, .int 0), (0, .ref q_t)]) hx hb dX6_firstFault_3 rfl hl (by decide) rfl (fun ls hl => ?_)
  refine lv_iconst (v := 0) hx hb dX6_firstFault_4 (by decide) ?_
  refine lv_istore_n (lv' := [(3, .int 0), (2, .int 0), (1, .int 0), (0, .ref q_t)]) hx hb dX6_firstFault_5 rfl hl (by decide) rfl (fun ls hl => ?_)
  obtain ⟨e2, he_e2, hc_e2⟩ := bd_of h
  have X20_4 : ∀ (a3 : Int32) (H : Heap) (locs : List Loc) (ls : Array Slot), fX6_firstFault_X6_20 a3 = some z → va_P D vwCl [(q_t, .inr (5, [.ref q_t_codes, .int v_t_size])), (q_t_codes, .inl (cI, 22, .inl v_t_codes))] H → va_D A0 [(q_t, .inr (5, [.ref q_t_codes, .int v_t_size])), (q_t_codes, .inl (cI, 22, .inl v_t_codes))] → va_S A0 s.heap H locs → lv_has ls 4 [(3, .int a3)] → W p l e ({ frames := 1, cells := 0, slots := 0, locals := 20 } : Room) s m args below meth c H locs 0 0 Q0 (F0 m 20 ls []) := by
    intro a3 H locs ls h hP hD hS hl
    unfold fX6_firstFault_X6_20 at h
    refine lv_iload_n hx hb dX6_firstFault_20 rfl (lv_at hl 0 rfl) ?_
    obtain rfl := Option.some.inj h
    exact rt_i hA0 hQ0 hx hb hr hlocks hP hS dX6_firstFault_21
  have X64_6 : ∀ (a5 : Int32) (H : Heap) (locs : List Loc) (ls : Array Slot), fX6_firstFault_X6_64 a5 = some z → va_P D vwCl [(q_t, .inr (5, [.ref q_t_codes, .int v_t_size])), (q_t_codes, .inl (cI, 22, .inl v_t_codes))] H → va_D A0 [(q_t, .inr (5, [.ref q_t_codes, .int v_t_size])), (q_t_codes, .inl (cI, 22, .inl v_t_codes))] → va_S A0 s.heap H locs → lv_has ls 4 [(3, .int a5)] → W p l e ({ frames := 1, cells := 0, slots := 0, locals := 20 } : Room) s m args below meth c H locs 0 0 Q0 (F0 m 64 ls []) := by
    intro a5 H locs ls h hP hD hS hl
    unfold fX6_firstFault_X6_64 at h
    refine lv_iload_n hx hb dX6_firstFault_64 rfl (lv_at hl 0 rfl) ?_
    obtain rfl := Option.some.inj h
    exact rt_i hA0 hQ0 hx hb hr hlocks hP hS dX6_firstFault_65
  have X72_8 : ∀ (a7 : Unit) (H : Heap) (locs : List Loc) (ls : Array Slot), fX6_firstFault_X6_72 v_t_size a7 = some z → va_P D vwCl [(q_t, .inr (5, [.ref q_t_codes, .int v_t_size])), (q_t_codes, .inl (cI, 22, .inl v_t_codes))] H → va_D A0 [(q_t, .inr (5, [.ref q_t_codes, .int v_t_size])), (q_t_codes, .inl (cI, 22, .inl v_t_codes))] → va_S A0 s.heap H locs → lv_has ls 4 [(0, .ref q_t)] → W p l e ({ frames := 1, cells := 0, slots := 0, locals := 20 } : Room) s m args below meth c H locs 0 0 Q0 (F0 m 72 ls []) := by
    intro a7 H locs ls h hP hD hS hl
    unfold fX6_firstFault_X6_72 at h
    refine lv_aload_n hx hb dX6_firstFault_72 rfl (lv_at hl 0 rfl) ?_
    refine va_get (own := RX6) (ci := 5) (v := .int v_t_size) (C := RX6) (T := TX6) (N := 2) hx hb hts iX6 hown hK hP 0 rfl rfl 1 (by decide) k19 (fun _ h9 => h9) rfl dX6_firstFault_73 ?_
    obtain rfl := Option.some.inj h
    exact rt_i hA0 hQ0 hx hb hr hlocks hP hS dX6_firstFault_76
  have L6_9 : ∀ (n : Nat) (z1 : Int32 × Int32 × Int32) (H : Heap) (locs : List Loc) (ls : Array Slot), iter (fX6_firstFault_L6 v_t_size v_t_codes) n z1 = some e2 → va_P D vwCl [(q_t, .inr (5, [.ref q_t_codes, .int v_t_size])), (q_t_codes, .inl (cI, 22, .inl v_t_codes))] H → va_D A0 [(q_t, .inr (5, [.ref q_t_codes, .int v_t_size])), (q_t_codes, .inl (cI, 22, .inl v_t_codes))] → va_S A0 s.heap H locs → lv_has ls 4 [(0, .ref q_t), (1, .int z1.1), (2, .int z1.2.1), (3, .int z1.2.2)] → W p l e ({ frames := 1, cells := 0, slots := 0, locals := 20 } : Room) s m args below meth c H locs 0 0 Q0 (F0 m 6 ls []) := by
    intro n
    induction n with
    | zero => exact fun _ _ _ _ h => (iter_z h).elim
    | succ n ih =>
      intro z1 H locs ls h hP hD hS hl
      obtain ⟨r_e2, h, hn_e2⟩ := iter_s h
      unfold fX6_firstFault_L6 at h
      refine lv_iload_n hx hb dX6_firstFault_6 rfl (lv_at hl 3 rfl) ?_
      refine lv_aload_n hx hb dX6_firstFault_7 rfl (lv_at hl 0 rfl) ?_
      refine va_get (own := RX6) (ci := 5) (v := .int v_t_size) (C := RX6) (T := TX6) (N := 2) hx hb hts iX6 hown hK hP 0 rfl rfl 1 (by decide) k19 (fun _ h9 => h9) rfl dX6_firstFault_8 ?_
      refine lv_icmp_ge (tgt := 72) hx hb dX6_firstFault_11 (by decide) (fun c10 => ?_) (fun c10 => ?_)
      · skip
        have h := (if_pos c10).symm.trans h
        obtain rfl := Option.some.inj h
        obtain rfl := Option.some.inj hn_e2
        exact X72_8 () _ _ _ hc_e2 hP hD hS (lv_sub hl [0] rfl)
      · skip
        have h := (if_neg c10).symm.trans h
        refine lv_iload_n hx hb dX6_firstFault_14 rfl (lv_at hl 1 rfl) ?_
        refine lv_bipush (v := 10) hx hb dX6_firstFault_15 (by decide) ?_
        refine lv_icmp_ne (tgt := 22) hx hb dX6_firstFault_17 (by decide) (fun c11 => ?_) (fun c11 => ?_)
        · skip
          have h := (if_neg c11).symm.trans h
          refine lv_aload_n hx hb dX6_firstFault_22 rfl (lv_at hl 0 rfl) ?_
          refine va_get (own := RX6) (ci := 5) (v := .ref q_t_codes) (C := RX6) (T := TX6) (N := 2) hx hb hts iX6 hown hK hP 0 rfl rfl 0 (by decide) k9 (fun _ h9 => h9) rfl dX6_firstFault_23 ?_
          refine lv_iload_n hx hb dX6_firstFault_26 rfl (lv_at hl 3 rfl) ?_
          obtain ⟨g12, h⟩ := gd_of h
          refine va_iald hx hb hK hP 1 0 rfl rfl (inb_of g12) dX6_firstFault_27 ?_
          refine cl_S [(q_t, .inr (5, [.ref q_t_codes, .int v_t_size])), (q_t_codes, .inl (cI, 22, .inl v_t_codes))] (As := [.int (v_t_codes z1.2.2.toNatClampNeg)]) (rest := []) (rv := (some (.int (fX6_isDigit (v_t_codes z1.2.2.toNatClampNeg))))) (c_X6_isDigit l D cI cJ (v_t_codes z1.2.2.toNatClampNeg)) ⟨hx, hb, hml, hown, hts⟩ (va_cwS 1 hts gX6_firstFault_X6_isDigit rfl rfl rfl (by decide +kernel) ⟨(Nat.le_of_ble_eq_true rfl), (Nat.le_of_ble_eq_true rfl)⟩) hK hN hP hD hS [] rfl (by decide) rfl rfl rfl rfl hl.1 rfl (Nat.le_of_ble_eq_true rfl) dX6_firstFault_28 ⟨Nat.zero_le _, Nat.zero_le _⟩ (fun H locs hP hD hS => ?_)
          show W p l e ({ frames := 1, cells := 0, slots := 0, locals := 20 } : Room) s m args below meth c H locs 0 0 Q0 (F0 m 31 ls [.int (fX6_isDigit (v_t_codes z1.2.2.toNatClampNeg))])
          have J66_14 : ∀ (a13 : Int32 × Int32) (H : Heap) (locs : List Loc) (ls : Array Slot), fX6_firstFault_J66 z1 a13 = some r_e2 → va_P D vwCl [(q_t, .inr (5, [.ref q_t_codes, .int v_t_size])), (q_t_codes, .inl (cI, 22, .inl v_t_codes))] H → va_D A0 [(q_t, .inr (5, [.ref q_t_codes, .int v_t_size])), (q_t_codes, .inl (cI, 22, .inl v_t_codes))] → va_S A0 s.heap H locs → lv_has ls 4 [(0, .ref q_t), (1, .int a13.1), (2, .int a13.2), (3, .int z1.2.2)] → W p l e ({ frames := 1, cells := 0, slots := 0, locals := 20 } : Room) s m args below meth c H locs 0 0 Q0 (F0 m 66 ls []) := by
            intro a13 H locs ls h hP hD hS hl
            unfold fX6_firstFault_J66 at h
            refine lv_iinc (v := (z1.2.2 + 1)) (lv' := [(3, .int (z1.2.2 + 1)), (0, .ref q_t), (1, .int a13.1), (2, .int a13.2)]) hx hb dX6_firstFault_66 hl (k := 3) rfl rfl (by decide) rfl (fun ls hl => ?_)
            refine lv_goto (tgt := 6) hx hb dX6_firstFault_69 (by decide) ?_
            obtain rfl := Option.some.inj h
            exact ih (a13.1, a13.2, (z1.2.2 + 1)) _ _ _ hn_e2 hP hD hS (lv_sub hl [1, 2, 3, 0] rfl)
          refine lv_if_eq (tgt := 42) hx hb dX6_firstFault_31 (by decide) (fun c15 => ?_) (fun c15 => ?_)
          · skip
            have h := (if_pos c15).symm.trans h
            refine lv_iload_n hx hb dX6_firstFault_42 rfl (lv_at hl 2 rfl) ?_
            refine lv_if_ne (tgt := 64) hx hb dX6_firstFault_43 (by decide) (fun c16 => ?_) (fun c16 => ?_)
            · skip
              have h := (if_neg c16).symm.trans h
              obtain rfl := Option.some.inj h
              obtain rfl := Option.some.inj hn_e2
              exact X64_6 z1.2.2 _ _ _ hc_e2 hP hD hS (lv_sub hl [3] rfl)
            · skip
              have h := (if_pos c16).symm.trans h
              refine lv_aload_n hx hb dX6_firstFault_46 rfl (lv_at hl 0 rfl) ?_
              refine va_get (own := RX6) (ci := 5) (v := .ref q_t_codes) (C := RX6) (T := TX6) (N := 2) hx hb hts iX6 hown hK hP 0 rfl rfl 0 (by decide) k9 (fun _ h9 => h9) rfl dX6_firstFault_47 ?_
              refine lv_iload_n hx hb dX6_firstFault_50 rfl (lv_at hl 3 rfl) ?_
              refine va_iald hx hb hK hP 1 0 rfl rfl (inb_of g12) dX6_firstFault_51 ?_
              refine cl_S [(q_t, .inr (5, [.ref q_t_codes, .int v_t_size])), (q_t_codes, .inl (cI, 22, .inl v_t_codes))] (As := [.int (v_t_codes z1.2.2.toNatClampNeg)]) (rest := []) (rv := (some (.int (fX5_ofLetter (v_t_codes z1.2.2.toNatClampNeg))))) (c_X5_ofLetter l D cI cJ (v_t_codes z1.2.2.toNatClampNeg)) ⟨hx, hb, hml, hown, hts⟩ (va_cwS 1 hts gX6_firstFault_X5_ofLetter rfl rfl rfl (by decide +kernel) ⟨(Nat.le_of_ble_eq_true rfl), (Nat.le_of_ble_eq_true rfl)⟩) hK hN hP hD hS [] rfl (by decide) rfl rfl rfl rfl hl.1 rfl (Nat.le_of_ble_eq_true rfl) dX6_firstFault_52 ⟨Nat.zero_le _, Nat.zero_le _⟩ (fun H locs hP hD hS => ?_)
              show W p l e ({ frames := 1, cells := 0, slots := 0, locals := 20 } : Room) s m args below meth c H locs 0 0 Q0 (F0 m 55 ls [.int (fX5_ofLetter (v_t_codes z1.2.2.toNatClampNeg))])
              refine lv_iconst (v := (-1)) hx hb dX6_firstFault_55 (by decide) ?_
              refine lv_icmp_eq (tgt := 64) hx hb dX6_firstFault_56 (by decide) (fun c17 => ?_) (fun c17 => ?_)
              · skip
                have h := (if_pos c17).symm.trans h
                obtain rfl := Option.some.inj h
                obtain rfl := Option.some.inj hn_e2
                exact X64_6 z1.2.2 _ _ _ hc_e2 hP hD hS (lv_sub hl [3] rfl)
              · skip
                have h := (if_neg c17).symm.trans h
                refine lv_iconst (v := 1) hx hb dX6_firstFault_59 (by decide) ?_
                refine lv_istore_n (lv' := [(2, .int 1), (0, .ref q_t), (1, .int z1.1), (3, .int z1.2.2)]) hx hb dX6_firstFault_60 rfl hl (by decide) rfl (fun ls hl => ?_)
                refine lv_goto (tgt := 66) hx hb dX6_firstFault_61 (by decide) ?_
                exact J66_14 (z1.1, 1) _ _ _ h hP hD hS (lv_sub hl [1, 2, 0, 3] rfl)
          · skip
            have h := (if_neg c15).symm.trans h
            refine lv_iinc (v := (z1.1 + 1)) (lv' := [(1, .int (z1.1 + 1)), (0, .ref q_t), (2, .int z1.2.1), (3, .int z1.2.2)]) hx hb dX6_firstFault_34 hl (k := 1) rfl rfl (by decide) rfl (fun ls hl => ?_)
            refine lv_iconst (v := 0) hx hb dX6_firstFault_37 (by decide) ?_
            refine lv_istore_n (lv' := [(2, .int 0), (1, .int (z1.1 + 1)), (0, .ref q_t), (3, .int z1.2.2)]) hx hb dX6_firstFault_38 rfl hl (by decide) rfl (fun ls hl => ?_)
            refine lv_goto (tgt := 66) hx hb dX6_firstFault_39 (by decide) ?_
            exact J66_14 ((z1.1 + 1), 0) _ _ _ h hP hD hS (lv_sub hl [2, 1, 0, 3] rfl)
        · skip
          have h := (if_pos c11).symm.trans h
          obtain rfl := Option.some.inj h
          obtain rfl := Option.some.inj hn_e2
          exact X20_4 z1.2.2 _ _ _ hc_e2 hP hD hS (lv_sub hl [3] rfl)
  exact L6_9 FU (0, 0, 0) _ _ _ he_e2 hP hD hS (lv_sub hl [3, 2, 1, 0] rfl)
def fX6_frondsOfBook_X41_70  (a9 : Int32) : Option (Int32) :=
  some a9
def fX6_frondsOfBook_L41 (v_t_size : Int32) (v_t_codes : Nat → Int32) (z7 : Int32 × Int32) : Option ((Int32 × Int32) ⊕ (Int32)) :=
  if v_t_size ≤ z7.2 then (some (Sum.inr z7.1)) else (gd (inb z7.2 22) (some (Sum.inl ((if (fX6_isDigit (v_t_codes z7.2.toNatClampNeg)) = 0 then z7.1 else (z7.1 + 1) : Int32), (z7.2 + 1)))))
def fX6_frondsOfBook (v_t_size : Int32) (v_t_codes : Nat → Int32) : Option (Int32) :=
  if v_t_size = 0 then (some (-1)) else ((fX6_firstFault v_t_size v_t_codes).bind (fun u2 => if u2 < v_t_size then (some (-1)) else (gd (inb (v_t_size - 1) 22) (if (fX6_isDigit (v_t_codes (v_t_size - 1).toNatClampNeg)) = 0 then (some (-1)) else ((iter (fX6_frondsOfBook_L41 v_t_size v_t_codes) FU (0, 0)).bind (fX6_frondsOfBook_X41_70))))))
set_option maxHeartbeats 4000000 in
set_option maxRecDepth 100000 in
theorem c_X6_frondsOfBook (l : Launch) (D : va_G) (cI cJ : ClassId) (q_t q_t_codes : Nat) (v_t_size : Int32) (v_t_codes : Nat → Int32) (z : Int32) (h : fX6_frondsOfBook v_t_size v_t_codes = some z) : Met l yX6_frondsOfBook wsX6_frondsOfBook ({ frames := 2, cells := 0, slots := 0, locals := 43 } : Room) (va_Pc [.ref q_t] (preG D cI cJ [(q_t, .inr (5, [.ref q_t_codes, .int v_t_size])), (q_t_codes, .inl (cI, 22, .inl v_t_codes))])) (QG D [(q_t, .inr (5, [.ref q_t_codes, .int v_t_size])), (q_t_codes, .inl (cI, 22, .inl v_t_codes))] [(q_t, .inr (5, [.ref q_t_codes, .int v_t_size])), (q_t_codes, .inl (cI, 22, .inl v_t_codes))] (some (.int z))) 0 0 (fr [(q_t, .inr (5, [.ref q_t_codes, .int v_t_size])), (q_t_codes, .inl (cI, 22, .inl v_t_codes))]) := by
  refine Met.ofW (cc := cX6_frondsOfBook) (maxL := 3) (ret := (some .int)) (by decide) rfl ?_
  intro p e s m args below meth c s₁ B hml hv
  obtain ⟨hargs, hP, hK, hN, hD0⟩ := hv
  have hx := B.exec
  have hb := B.bytes
  have hr := B.returns
  have hts := atoms_spec (ws := wsX6_frondsOfBook) B.pre
  have hown : s.vm.findClass RX6 = some m.cls := findClass_of_methodNamed B.named
  have hlocks := B.notSynchronized
  have iX6 : ∀ w ∈ wsX60, w ∈ wsX6_frondsOfBook := by decide +kernel
  have k9 := hts (.fieldLink RX6 9 "PressedFerns$Page" "codes" "[I") (by decide +kernel)
  have k19 := hts (.fieldLink RX6 19 "PressedFerns$Page" "size" "I") (by decide +kernel)
  have hD := fr_D hD0
  have hS : va_S (fr [(q_t, .inr (5, [.ref q_t_codes, .int v_t_size])), (q_t_codes, .inl (cI, 22, .inl v_t_codes))]) s.heap s.heap [] := va_S.rf
  have hl := lv_entry ([.ref q_t]) (n := 3) (Nat.le_of_ble_eq_true rfl)
  refine W.eq (g2 := F0 m 0 ((lg_sl ([.ref q_t]) ++ List.replicate (3 - (lg_sl ([.ref q_t])).length) Slot.unset).toArray) []) (by rw [hargs, lg_entry_eq]) ?_
  generalize (lg_sl ([.ref q_t]) ++ List.replicate (3 - (lg_sl ([.ref q_t])).length) Slot.unset).toArray = ls at hl ⊢
  have hl : lv_has ls 3 [(0, .ref q_t)] := hl
  show W p l e ({ frames := 2, cells := 0, slots := 0, locals := 43 } : Room) s m args below meth c s.heap [] 0 0 (MQ below (QG D [(q_t, .inr (5, [.ref q_t_codes, .int v_t_size])), (q_t_codes, .inl (cI, 22, .inl v_t_codes))] [(q_t, .inr (5, [.ref q_t_codes, .int v_t_size])), (q_t_codes, .inl (cI, 22, .inl v_t_codes))] (some (.int z))) args s 0 0 (fr [(q_t, .inr (5, [.ref q_t_codes, .int v_t_size])), (q_t_codes, .inl (cI, 22, .inl v_t_codes))])) (F0 m 0 ls [])
  generalize hQ0 : (MQ below (QG D [(q_t, .inr (5, [.ref q_t_codes, .int v_t_size])), (q_t_codes, .inl (cI, 22, .inl v_t_codes))] [(q_t, .inr (5, [.ref q_t_codes, .int v_t_size])), (q_t_codes, .inl (cI, 22, .inl v_t_codes))] (some (.int z))) args s 0 0 (fr [(q_t, .inr (5, [.ref q_t_codes, .int v_t_size])), (q_t_codes, .inl (cI, 22, .inl v_t_codes))])) = Q0
  generalize hA0 : fr [(q_t, .inr (5, [.ref q_t_codes, .int v_t_size])), (q_t_codes, .inl (cI, 22, .inl v_t_codes))] = A0 at hD hS
  unfold fX6_frondsOfBook at h
  refine lv_aload_n hx hb dX6_frondsOfBook_0 rfl (lv_at hl 0 rfl) ?_
  refine va_get (own := RX6) (ci := 5) (v := .int v_t_size) (C := RX6) (T := TX6) (N := 2) hx hb hts iX6 hown hK hP 0 rfl rfl 1 (by decide) k19 (fun _ h9 => h9) rfl dX6_frondsOfBook_1 ?_
  refine lv_if_eq (tgt := 35) hx hb dX6_frondsOfBook_4 (by decide) (fun c1 => ?_) (fun c1 => ?_)
  · skip
    have h := (if_pos c1).symm.trans h
    refine lv_iconst (v := (-1)) hx hb dX6_frondsOfBook_35 (by decide) ?_
    obtain rfl := Option.some.inj h
    exact rt_i hA0 hQ0 hx hb hr hlocks hP hS dX6_frondsOfBook_36
  · skip
    have h := (if_neg c1).symm.trans h
    refine lv_aload_n hx hb dX6_frondsOfBook_7 rfl (lv_at hl 0 rfl) ?_
    obtain ⟨u2, g3, h⟩ := bd_of h
    refine cl_V [(q_t, .inr (5, [.ref q_t_codes, .int v_t_size])), (q_t_codes, .inl (cI, 22, .inl v_t_codes))] (As := []) (rest := []) (rv := (some (.int u2))) (c_X6_firstFault l D cI cJ q_t q_t_codes v_t_size v_t_codes u2 g3) ⟨hx, hb, hml, hown, hts⟩ (cwV 0 hts gX6_frondsOfBook_X6_firstFault rfl rfl rfl (by decide +kernel) ⟨(Nat.le_of_ble_eq_true rfl), (Nat.le_of_ble_eq_true rfl)⟩) hK hN hP hD hS [0, 1] rfl (by decide) rfl rfl rfl (q0 := 0) (ci := 5) rfl rfl rfl rfl hl.1 rfl (Nat.le_of_ble_eq_true rfl) dX6_frondsOfBook_8 ⟨Nat.zero_le _, Nat.zero_le _⟩ (fun H locs hP hD hS => ?_)
    show W p l e ({ frames := 2, cells := 0, slots := 0, locals := 43 } : Room) s m args below meth c H locs 0 0 Q0 (F0 m 11 ls [.int u2])
    refine lv_aload_n hx hb dX6_frondsOfBook_11 rfl (lv_at hl 0 rfl) ?_
    refine va_get (own := RX6) (ci := 5) (v := .int v_t_size) (C := RX6) (T := TX6) (N := 2) hx hb hts iX6 hown hK hP 0 rfl rfl 1 (by decide) k19 (fun _ h9 => h9) rfl dX6_frondsOfBook_12 ?_
    refine lv_icmp_lt (tgt := 35) hx hb dX6_frondsOfBook_15 (by decide) (fun c4 => ?_) (fun c4 => ?_)
    · skip
      have h := (if_pos c4).symm.trans h
      refine lv_iconst (v := (-1)) hx hb dX6_frondsOfBook_35 (by decide) ?_
      obtain rfl := Option.some.inj h
      exact rt_i hA0 hQ0 hx hb hr hlocks hP hS dX6_frondsOfBook_36
    · skip
      have h := (if_neg c4).symm.trans h
      refine lv_aload_n hx hb dX6_frondsOfBook_18 rfl (lv_at hl 0 rfl) ?_
      refine va_get (own := RX6) (ci := 5) (v := .ref q_t_codes) (C := RX6) (T := TX6) (N := 2) hx hb hts iX6 hown hK hP 0 rfl rfl 0 (by decide) k9 (fun _ h9 => h9) rfl dX6_frondsOfBook_19 ?_
      refine lv_aload_n hx hb dX6_frondsOfBook_22 rfl (lv_at hl 0 rfl) ?_
      refine va_get (own := RX6) (ci := 5) (v := .int v_t_size) (C := RX6) (T := TX6) (N := 2) hx hb hts iX6 hown hK hP 0 rfl rfl 1 (by decide) k19 (fun _ h9 => h9) rfl dX6_frondsOfBook_23 ?_
      refine lv_iconst (v := 1) hx hb dX6_frondsOfBook_26 (by decide) ?_
      refine lv_isub hx hb dX6_frondsOfBook_27 ?_
      obtain ⟨g5, h⟩ := gd_of h
      refine va_iald hx hb hK hP 1 0 rfl rfl (inb_of g5) dX6_frondsOfBook_28 ?_
      refine cl_S [(q_t, .inr (5, [.ref q_t_codes, .int v_t_size])), (q_t_codes, .inl (cI, 22, .inl v_t_codes))] (As := [.int (v_t_codes (v_t_size - 1).toNatClampNeg)]) (rest := []) (rv := (some (.int (fX6_isDigit (v_t_codes (v_t_size - 1).toNatClampNeg))))) (c_X6_isDigit l D cI cJ (v_t_codes (v_t_size - 1).toNatClampNeg)) ⟨hx, hb, hml, hown, hts⟩ (va_cwS 1 hts gX6_frondsOfBook_X6_isDigit rfl rfl rfl (by decide +kernel) ⟨(Nat.le_of_ble_eq_true rfl), (Nat.le_of_ble_eq_true rfl)⟩) hK hN hP hD hS [] rfl (by decide) rfl rfl rfl rfl hl.1 rfl (Nat.le_of_ble_eq_true rfl) dX6_frondsOfBook_29 ⟨Nat.zero_le _, Nat.zero_le _⟩ (fun H locs hP hD hS => ?_)
      show W p l e ({ frames := 2, cells := 0, slots := 0, locals := 43 } : Room) s m args below meth c H locs 0 0 Q0 (F0 m 32 ls [.int (fX6_isDigit (v_t_codes (v_t_size - 1).toNatClampNeg))])
      refine lv_if_ne (tgt := 37) hx hb dX6_frondsOfBook_32 (by decide) (fun c6 => ?_) (fun c6 => ?_)
      · skip
        have h := (if_neg c6).symm.trans h
        refine lv_iconst (v := 0) hx hb dX6_frondsOfBook_37 (by decide) ?_
        refine lv_istore_n (lv' := [(1, .int 0), (0, .ref q_t)]) hx hb dX6_frondsOfBook_38 rfl hl (by decide) rfl (fun ls hl => ?_)
        refine lv_iconst (v := 0) hx hb dX6_frondsOfBook_39 (by decide) ?_
        refine lv_istore_n (lv' := [(2, .int 0), (1, .int 0), (0, .ref q_t)]) hx hb dX6_frondsOfBook_40 rfl hl (by decide) rfl (fun ls hl => ?_)
        obtain ⟨e8, he_e8, hc_e8⟩ := bd_of h
        have X70_10 : ∀ (a9 : Int32) (H : Heap) (locs : List Loc) (ls : Array Slot), fX6_frondsOfBook_X41_70 a9 = some z → va_P D vwCl [(q_t, .inr (5, [.ref q_t_codes, .int v_t_size])), (q_t_codes, .inl (cI, 22, .inl v_t_codes))] H → va_D A0 [(q_t, .inr (5, [.ref q_t_codes, .int v_t_size])), (q_t_codes, .inl (cI, 22, .inl v_t_codes))] → va_S A0 s.heap H locs → lv_has ls 3 [(1, .int a9)] → W p l e ({ frames := 2, cells := 0, slots := 0, locals := 43 } : Room) s m args below meth c H locs 0 0 Q0 (F0 m 70 ls []) := by
          intro a9 H locs ls h hP hD hS hl
          unfold fX6_frondsOfBook_X41_70 at h
          refine lv_iload_n hx hb dX6_frondsOfBook_70 rfl (lv_at hl 0 rfl) ?_
          obtain rfl := Option.some.inj h
          exact rt_i hA0 hQ0 hx hb hr hlocks hP hS dX6_frondsOfBook_71
        have L41_11 : ∀ (n : Nat) (z7 : Int32 × Int32) (H : Heap) (locs : List Loc) (ls : Array Slot), iter (fX6_frondsOfBook_L41 v_t_size v_t_codes) n z7 = some e8 → va_P D vwCl [(q_t, .inr (5, [.ref q_t_codes, .int v_t_size])), (q_t_codes, .inl (cI, 22, .inl v_t_codes))] H → va_D A0 [(q_t, .inr (5, [.ref q_t_codes, .int v_t_size])), (q_t_codes, .inl (cI, 22, .inl v_t_codes))] → va_S A0 s.heap H locs → lv_has ls 3 [(0, .ref q_t), (1, .int z7.1), (2, .int z7.2)] → W p l e ({ frames := 2, cells := 0, slots := 0, locals := 43 } : Room) s m args below meth c H locs 0 0 Q0 (F0 m 41 ls []) := by
          intro n
          induction n with
          | zero => exact fun _ _ _ _ h => (iter_z h).elim
          | succ n ih =>
            intro z7 H locs ls h hP hD hS hl
            obtain ⟨r_e8, h, hn_e8⟩ := iter_s h
            unfold fX6_frondsOfBook_L41 at h
            refine lv_iload_n hx hb dX6_frondsOfBook_41 rfl (lv_at hl 2 rfl) ?_
            refine lv_aload_n hx hb dX6_frondsOfBook_42 rfl (lv_at hl 0 rfl) ?_
            refine va_get (own := RX6) (ci := 5) (v := .int v_t_size) (C := RX6) (T := TX6) (N := 2) hx hb hts iX6 hown hK hP 0 rfl rfl 1 (by decide) k19 (fun _ h9 => h9) rfl dX6_frondsOfBook_43 ?_
            refine lv_icmp_ge (tgt := 70) hx hb dX6_frondsOfBook_46 (by decide) (fun c12 => ?_) (fun c12 => ?_)
            · skip
              have h := (if_pos c12).symm.trans h
              obtain rfl := Option.some.inj h
              obtain rfl := Option.some.inj hn_e8
              exact X70_10 z7.1 _ _ _ hc_e8 hP hD hS (lv_sub hl [1] rfl)
            · skip
              have h := (if_neg c12).symm.trans h
              refine lv_aload_n hx hb dX6_frondsOfBook_49 rfl (lv_at hl 0 rfl) ?_
              refine va_get (own := RX6) (ci := 5) (v := .ref q_t_codes) (C := RX6) (T := TX6) (N := 2) hx hb hts iX6 hown hK hP 0 rfl rfl 0 (by decide) k9 (fun _ h9 => h9) rfl dX6_frondsOfBook_50 ?_
              refine lv_iload_n hx hb dX6_frondsOfBook_53 rfl (lv_at hl 2 rfl) ?_
              obtain ⟨g13, h⟩ := gd_of h
              refine va_iald hx hb hK hP 1 0 rfl rfl (inb_of g13) dX6_frondsOfBook_54 ?_
              refine cl_S [(q_t, .inr (5, [.ref q_t_codes, .int v_t_size])), (q_t_codes, .inl (cI, 22, .inl v_t_codes))] (As := [.int (v_t_codes z7.2.toNatClampNeg)]) (rest := []) (rv := (some (.int (fX6_isDigit (v_t_codes z7.2.toNatClampNeg))))) (c_X6_isDigit l D cI cJ (v_t_codes z7.2.toNatClampNeg)) ⟨hx, hb, hml, hown, hts⟩ (va_cwS 1 hts gX6_frondsOfBook_X6_isDigit rfl rfl rfl (by decide +kernel) ⟨(Nat.le_of_ble_eq_true rfl), (Nat.le_of_ble_eq_true rfl)⟩) hK hN hP hD hS [] rfl (by decide) rfl rfl rfl rfl hl.1 rfl (Nat.le_of_ble_eq_true rfl) dX6_frondsOfBook_55 ⟨Nat.zero_le _, Nat.zero_le _⟩ (fun H locs hP hD hS => ?_)
              show W p l e ({ frames := 2, cells := 0, slots := 0, locals := 43 } : Room) s m args below meth c H locs 0 0 Q0 (F0 m 58 ls [.int (fX6_isDigit (v_t_codes z7.2.toNatClampNeg))])
              have K64_14 : ∀ (w15 : Int32) (H : Heap) (locs : List Loc) (ls : Array Slot), w15 = (if (fX6_isDigit (v_t_codes z7.2.toNatClampNeg)) = 0 then z7.1 else (z7.1 + 1) : Int32) → va_P D vwCl [(q_t, .inr (5, [.ref q_t_codes, .int v_t_size])), (q_t_codes, .inl (cI, 22, .inl v_t_codes))] H → va_D A0 [(q_t, .inr (5, [.ref q_t_codes, .int v_t_size])), (q_t_codes, .inl (cI, 22, .inl v_t_codes))] → va_S A0 s.heap H locs → lv_has ls 3 [(0, .ref q_t), (1, .int w15), (2, .int z7.2)] → W p l e ({ frames := 2, cells := 0, slots := 0, locals := 43 } : Room) s m args below meth c H locs 0 0 Q0 (F0 m 64 ls []) := by
                intro w15 H locs ls e_w15 hP hD hS hl
                subst e_w15
                refine lv_iinc (v := (z7.2 + 1)) (lv' := [(2, .int (z7.2 + 1)), (0, .ref q_t), (1, .int (if (fX6_isDigit (v_t_codes z7.2.toNatClampNeg)) = 0 then z7.1 else (z7.1 + 1) : Int32))]) hx hb dX6_frondsOfBook_64 hl (k := 2) rfl rfl (by decide) rfl (fun ls hl => ?_)
                refine lv_goto (tgt := 41) hx hb dX6_frondsOfBook_67 (by decide) ?_
                obtain rfl := Option.some.inj h
                exact ih ((if (fX6_isDigit (v_t_codes z7.2.toNatClampNeg)) = 0 then z7.1 else (z7.1 + 1) : Int32), (z7.2 + 1)) _ _ _ hn_e8 hP hD hS (lv_sub hl [1, 2, 0] rfl)
              refine lv_if_eq (tgt := 64) hx hb dX6_frondsOfBook_58 (by decide) (fun c16 => ?_) (fun c16 => ?_)
              · skip
                exact K64_14 z7.1 _ _ _ (by rw [if_pos c16]) hP hD hS (lv_sub hl [0, 1, 2] rfl)
              · skip
                refine lv_iinc (v := (z7.1 + 1)) (lv' := [(1, .int (z7.1 + 1)), (0, .ref q_t), (2, .int z7.2)]) hx hb dX6_frondsOfBook_61 hl (k := 1) rfl rfl (by decide) rfl (fun ls hl => ?_)
                exact K64_14 ((z7.1 + 1)) _ _ _ (by rw [if_neg c16]) hP hD hS (lv_sub hl [1, 0, 2] rfl)
        exact L41_11 FU (0, 0) _ _ _ he_e8 hP hD hS (lv_sub hl [2, 1, 0] rfl)
      · skip
        have h := (if_pos c6).symm.trans h
        refine lv_iconst (v := (-1)) hx hb dX6_frondsOfBook_35 (by decide) ?_
        obtain rfl := Option.some.inj h
        exact rt_i hA0 hQ0 hx hb hr hlocks hP hS dX6_frondsOfBook_36
def fX6_readInto_X5_66  (a3 : Int32 × (Nat → Int32) × (Nat → Int32) × (Nat → Int32) × (Nat → Int32)) : Option (Int32 × (Nat → Int32) × (Nat → Int32) × (Nat → Int32) × (Nat → Int32)) :=
  some (a3.1, a3.2.1, a3.2.2.1, a3.2.2.2.1, a3.2.2.2.2)
def fX6_readInto_J60 (z1 : Int32 × Int32 × Int32 × (Nat → Int32) × (Nat → Int32) × (Nat → Int32) × (Nat → Int32)) (a8 : Int32 × Int32 × (Nat → Int32) × (Nat → Int32) × (Nat → Int32) × (Nat → Int32)) : Option ((Int32 × Int32 × Int32 × (Nat → Int32) × (Nat → Int32) × (Nat → Int32) × (Nat → Int32)) ⊕ (Int32 × (Nat → Int32) × (Nat → Int32) × (Nat → Int32) × (Nat → Int32))) :=
  some (Sum.inl (a8.1, (z1.2.1 + 1), a8.2.1, a8.2.2.1, a8.2.2.2.1, a8.2.2.2.2.1, a8.2.2.2.2.2))
def fX6_readInto_L5 (v_t_size : Int32) (v_t_codes : Nat → Int32) (v_p0_lostByHands : Int32) (v_p0_lostByMould : Int32) (x2 : Int32) (z1 : Int32 × Int32 × Int32 × (Nat → Int32) × (Nat → Int32) × (Nat → Int32) × (Nat → Int32)) : Option ((Int32 × Int32 × Int32 × (Nat → Int32) × (Nat → Int32) × (Nat → Int32) × (Nat → Int32)) ⊕ (Int32 × (Nat → Int32) × (Nat → Int32) × (Nat → Int32) × (Nat → Int32))) :=
  if v_t_size ≤ z1.2.1 then (some (Sum.inr (z1.2.2.1, z1.2.2.2.1, z1.2.2.2.2.1, z1.2.2.2.2.2.1, z1.2.2.2.2.2.2))) else (gd (inb z1.2.1 22) (if (fX6_isDigit (v_t_codes z1.2.1.toNatClampNeg)) = 0 then (fX6_readInto_J60 z1 ((fX5_ofLetter (v_t_codes z1.2.1.toNatClampNeg)), z1.2.2.1, z1.2.2.2.1, z1.2.2.2.2.1, z1.2.2.2.2.2.1, z1.2.2.2.2.2.2)) else ((fX4_add z1.2.2.1 v_p0_lostByHands v_p0_lostByMould z1.2.2.2.1 z1.2.2.2.2.1 z1.2.2.2.2.2.1 z1.2.2.2.2.2.2 z1.1 ((v_t_codes z1.2.1.toNatClampNeg) - 48) x2).bind (fun u11 => fX6_readInto_J60 z1 (0, u11.2.1, u11.2.2.1, u11.2.2.2.1, u11.2.2.2.2.1, u11.2.2.2.2.2)))))
def fX6_readInto (v_t_size : Int32) (v_t_codes : Nat → Int32) (v_p0_size : Int32) (v_p0_lostByHands : Int32) (v_p0_lostByMould : Int32) (v_p0_kinds : Nat → Int32) (v_p0_leaflets : Nat → Int32) (v_p0_owners : Nat → Int32) (v_p0_tears : Nat → Int32) (x2 : Int32) : Option (Int32 × (Nat → Int32) × (Nat → Int32) × (Nat → Int32) × (Nat → Int32)) :=
  (iter (fX6_readInto_L5 v_t_size v_t_codes v_p0_lostByHands v_p0_lostByMould x2) FU (0, 0, v_p0_size, v_p0_kinds, v_p0_leaflets, v_p0_owners, v_p0_tears)).bind (fX6_readInto_X5_66)
set_option maxHeartbeats 4000000 in
set_option maxRecDepth 100000 in
theorem c_X6_readInto (l : Launch) (D : va_G) (cI cJ : ClassId) (q_t q_t_codes q_p0 q_p0_kinds q_p0_leaflets q_p0_owners q_p0_tears q_p0_debts : Nat) (v_t_size : Int32) (v_t_codes : Nat → Int32) (v_p0_size : Int32) (v_p0_lostByHands : Int32) (v_p0_lostByMould : Int32) (v_p0_kinds : Nat → Int32) (v_p0_leaflets : Nat → Int32) (v_p0_owners : Nat → Int32) (v_p0_tears : Nat → Int32) (x2 : Int32) (z : Int32 × (Nat → Int32) × (Nat → Int32) × (Nat → Int32) × (Nat → Int32)) (h : fX6_readInto v_t_size v_t_codes v_p0_size v_p0_lostByHands v_p0_lostByMould v_p0_kinds v_p0_leaflets v_p0_owners v_p0_tears x2 = some z) : Met l yX6_readInto wsX6_readInto ({ frames := 1, cells := 0, slots := 0, locals := 25 } : Room) (va_Pc [.ref q_t, .ref q_p0, .int x2] (preG D cI cJ [(q_t, .inr (5, [.ref q_t_codes, .int v_t_size])), (q_t_codes, .inl (cI, 22, .inl v_t_codes)), (q_p0, .inr (4, [.ref q_p0_kinds, .ref q_p0_leaflets, .ref q_p0_owners, .ref q_p0_tears, .ref q_p0_debts, .int v_p0_size, .int v_p0_lostByHands, .int v_p0_lostByMould])), (q_p0_kinds, .inl (cI, 10, .inl v_p0_kinds)), (q_p0_leaflets, .inl (cI, 10, .inl v_p0_leaflets)), (q_p0_owners, .inl (cI, 10, .inl v_p0_owners)), (q_p0_tears, .inl (cI, 40, .inl v_p0_tears))])) (QG D [(q_t, .inr (5, [.ref q_t_codes, .int v_t_size])), (q_t_codes, .inl (cI, 22, .inl v_t_codes)), (q_p0, .inr (4, [.ref q_p0_kinds, .ref q_p0_leaflets, .ref q_p0_owners, .ref q_p0_tears, .ref q_p0_debts, .int v_p0_size, .int v_p0_lostByHands, .int v_p0_lostByMould])), (q_p0_kinds, .inl (cI, 10, .inl v_p0_kinds)), (q_p0_leaflets, .inl (cI, 10, .inl v_p0_leaflets)), (q_p0_owners, .inl (cI, 10, .inl v_p0_owners)), (q_p0_tears, .inl (cI, 40, .inl v_p0_tears))] [(q_t, .inr (5, [.ref q_t_codes, .int v_t_size])), (q_t_codes, .inl (cI, 22, .inl v_t_codes)), (q_p0, .inr (4, [.ref q_p0_kinds, .ref q_p0_leaflets, .ref q_p0_owners, .ref q_p0_tears, .ref q_p0_debts, .int z.1, .int v_p0_lostByHands, .int v_p0_lostByMould])), (q_p0_kinds, .inl (cI, 10, .inl z.2.1)), (q_p0_leaflets, .inl (cI, 10, .inl z.2.2.1)), (q_p0_owners, .inl (cI, 10, .inl z.2.2.2.1)), (q_p0_tears, .inl (cI, 40, .inl z.2.2.2.2))] none) 0 0 (fr [(q_t, .inr (5, [.ref q_t_codes, .int v_t_size])), (q_t_codes, .inl (cI, 22, .inl v_t_codes)), (q_p0, .inr (4, [.ref q_p0_kinds, .ref q_p0_leaflets, .ref q_p0_owners, .ref q_p0_tears, .ref q_p0_debts, .int v_p0_size, .int v_p0_lostByHands, .int v_p0_lostByMould])), (q_p0_kinds, .inl (cI, 10, .inl v_p0_kinds)), (q_p0_leaflets, .inl (cI, 10, .inl v_p0_leaflets)), (q_p0_owners, .inl (cI, 10, .inl v_p0_owners)), (q_p0_tears, .inl (cI, 40, .inl v_p0_tears))]) := by
  refine Met.ofW (cc := cX6_readInto) (maxL := 5) (ret := none) (by decide) rfl ?_
  intro p e s m args below meth c s₁ B hml hv
  obtain ⟨hargs, hP, hK, hN, hD0⟩ := hv
  have hx := B.exec
  have hb := B.bytes
  have hr := B.returns
  have hts := atoms_spec (ws := wsX6_readInto) B.pre
  have hown : s.vm.findClass RX6 = some m.cls := findClass_of_methodNamed B.named
  have hlocks := B.notSynchronized
  have iX6 : ∀ w ∈ wsX60, w ∈ wsX6_readInto := by decide +kernel
  have k9 := hts (.fieldLink RX6 9 "PressedFerns$Page" "codes" "[I") (by decide +kernel)
  have k19 := hts (.fieldLink RX6 19 "PressedFerns$Page" "size" "I") (by decide +kernel)
  have hD := fr_D hD0
  have hS : va_S (fr [(q_t, .inr (5, [.ref q_t_codes, .int v_t_size])), (q_t_codes, .inl (cI, 22, .inl v_t_codes)), (q_p0, .inr (4, [.ref q_p0_kinds, .ref q_p0_leaflets, .ref q_p0_owners, .ref q_p0_tears, .ref q_p0_debts, .int v_p0_size, .int v_p0_lostByHands, .int v_p0_lostByMould])), (q_p0_kinds, .inl (cI, 10, .inl v_p0_kinds)), (q_p0_leaflets, .inl (cI, 10, .inl v_p0_leaflets)), (q_p0_owners, .inl (cI, 10, .inl v_p0_owners)), (q_p0_tears, .inl (cI, 40, .inl v_p0_tears))]) s.heap s.heap [] := va_S.rf
  have hl := lv_entry ([.ref q_t, .ref q_p0, .int x2]) (n := 5) (Nat.le_of_ble_eq_true rfl)
  refine W.eq (g2 := F0 m 0 ((lg_sl ([.ref q_t, .ref q_p0, .int x2]) ++ List.replicate (5 - (lg_sl ([.ref q_t, .ref q_p0, .int x2])).length) Slot.unset).toArray) []) (by rw [hargs, lg_entry_eq]) ?_
  generalize (lg_sl ([.ref q_t, .ref q_p0, .int x2]) ++ List.replicate (5 - (lg_sl ([.ref q_t, .ref q_p0, .int x2])).length) Slot.unset).toArray = ls at hl ⊢
  have hl : lv_has ls 5 [(0, .ref q_t), (1, .ref q_p0), (2, .int x2)] := hl
  show W p l e ({ frames := 1, cells := 0, slots := 0, locals := 25 } : Room) s m args below meth c s.heap [] 0 0 (MQ below (QG D [(q_t, .inr (5, [.ref q_t_codes, .int v_t_size])), (q_t_codes, .inl (cI, 22, .inl v_t_codes)), (q_p0, .inr (4, [.ref q_p0_kinds, .ref q_p0_leaflets, .ref q_p0_owners, .ref q_p0_tears, .ref q_p0_debts, .int v_p0_size, .int v_p0_lostByHands, .int v_p0_lostByMould])), (q_p0_kinds, .inl (cI, 10, .inl v_p0_kinds)), (q_p0_leaflets, .inl (cI, 10, .inl v_p0_leaflets)), (q_p0_owners, .inl (cI, 10, .inl v_p0_owners)), (q_p0_tears, .inl (cI, 40, .inl v_p0_tears))] [(q_t, .inr (5, [.ref q_t_codes, .int v_t_size])), (q_t_codes, .inl (cI, 22, .inl v_t_codes)), (q_p0, .inr (4, [.ref q_p0_kinds, .ref q_p0_leaflets, .ref q_p0_owners, .ref q_p0_tears, .ref q_p0_debts, .int z.1, .int v_p0_lostByHands, .int v_p0_lostByMould])), (q_p0_kinds, .inl (cI, 10, .inl z.2.1)), (q_p0_leaflets, .inl (cI, 10, .inl z.2.2.1)), (q_p0_owners, .inl (cI, 10, .inl z.2.2.2.1)), (q_p0_tears, .inl (cI, 40, .inl z.2.2.2.2))] none) args s 0 0 (fr [(q_t, .inr (5, [.ref q_t_codes, .int v_t_size])), (q_t_codes, .inl (cI, 22, .inl v_t_codes)), (q_p0, .inr (4, [.ref q_p0_kinds, .ref q_p0_leaflets, .ref q_p0_owners, .ref q_p0_tears, .ref q_p0_debts, .int v_p0_size, .int v_p0_lostByHands, .int v_p0_lostByMould])), (q_p0_kinds, .inl (cI, 10, .inl v_p0_kinds)), (q_p0_leaflets, .inl (cI, 10, .inl v_p0_leaflets)), (q_p0_owners, .inl (cI, 10, .inl v_p0_owners)), (q_p0_tears, .inl (cI, 40, .inl v_p0_tears))])) (F0 m 0 ls [])
  generalize hQ0 : (MQ below (QG D [(q_t, .inr (5, [.ref q_t_codes, .int v_t_size])), (q_t_codes, .inl (cI, 22, .inl v_t_codes)), (q_p0, .inr (4, [.ref q_p0_kinds, .ref q_p0_leaflets, .ref q_p0_owners, .ref q_p0_tears, .ref q_p0_debts, .int v_p0_size, .int v_p0_lostByHands, .int v_p0_lostByMould])), (q_p0_kinds, .inl (cI, 10, .inl v_p0_kinds)), (q_p0_leaflets, .inl (cI, 10, .inl v_p0_leaflets)), (q_p0_owners, .inl (cI, 10, .inl v_p0_owners)), (q_p0_tears, .inl (cI, 40, .inl v_p0_tears))] [(q_t, .inr (5, [.ref q_t_codes, .int v_t_size])), (q_t_codes, .inl (cI, 22, .inl v_t_codes)), (q_p0, .inr (4, [.ref q_p0_kinds, .ref q_p0_leaflets, .ref q_p0_owners, .ref q_p0_tears, .ref q_p0_debts, .int z.1, .int v_p0_lostByHands, .int v_p0_lostByMould])), (q_p0_kinds, .inl (cI, 10, .inl z.2.1)), (q_p0_leaflets, .inl (cI, 10, .inl z.2.2.1)), (q_p0_owners, .inl (cI, 10, .inl z.2.2.2.1)), (q_p0_tears, .inl (cI, 40, .inl z.2.2.2.2))] none) args s 0 0 (fr [(q_t, .inr (5, [.ref q_t_codes, .int v_t_size])), (q_t_codes, .inl (cI, 22, .inl v_t_codes)), (q_p0, .inr (4, [.ref q_p0_kinds, .ref q_p0_leaflets, .ref q_p0_owners, .ref q_p0_tears, .ref q_p0_debts, .int v_p0_size, .int v_p0_lostByHands, .int v_p0_lostByMould])), (q_p0_kinds, .inl (cI, 10, .inl v_p0_kinds)), (q_p0_leaflets, .inl (cI, 10, .inl v_p0_leaflets)), (q_p0_owners, .inl (cI, 10, .inl v_p0_owners)), (q_p0_tears, .inl (cI, 40, .inl v_p0_tears))])) = Q0
  generalize hA0 : fr [(q_t, .inr (5, [.ref q_t_codes, .int v_t_size])), (q_t_codes, .inl (cI, 22, .inl v_t_codes)), (q_p0, .inr (4, [.ref q_p0_kinds, .ref q_p0_leaflets, .ref q_p0_owners, .ref q_p0_tears, .ref q_p0_debts, .int v_p0_size, .int v_p0_lostByHands, .int v_p0_lostByMould])), (q_p0_kinds, .inl (cI, 10, .inl v_p0_kinds)), (q_p0_leaflets, .inl (cI, 10, .inl v_p0_leaflets)), (q_p0_owners, .inl (cI, 10, .inl v_p0_owners)), (q_p0_tears, .inl (cI, 40, .inl v_p0_tears))] = A0 at hD hS
  unfold fX6_readInto at h
  refine lv_iconst (v := 0) hx hb dX6_readInto_0 (by decide) ?_
  refine lv_istore_n (lv' := [(3, .int 0), (0, .ref q_t), (1, .ref q_p0), (2, .int x2)]) hx hb dX6_readInto_1 rfl hl (by decide) rfl (fun ls hl => ?_)
  refine lv_iconst (v := 0) hx hb dX6_readInto_2 (by decide) ?_
  refine lv_istore (lv' := [(4, .int 0), (3, .int 0), (0, .ref q_t), (1, .ref q_p0), (2, .int x2)]) hx hb dX6_readInto_3 hl (by decide) rfl (fun ls hl => ?_)
  obtain ⟨e2, he_e2, hc_e2⟩ := bd_of h
  have X66_4 : ∀ (a3 : Int32 × (Nat → Int32) × (Nat → Int32) × (Nat → Int32) × (Nat → Int32)) (H : Heap) (locs : List Loc) (ls : Array Slot), fX6_readInto_X5_66 a3 = some z → va_P D vwCl [(q_t, .inr (5, [.ref q_t_codes, .int v_t_size])), (q_t_codes, .inl (cI, 22, .inl v_t_codes)), (q_p0, .inr (4, [.ref q_p0_kinds, .ref q_p0_leaflets, .ref q_p0_owners, .ref q_p0_tears, .ref q_p0_debts, .int a3.1, .int v_p0_lostByHands, .int v_p0_lostByMould])), (q_p0_kinds, .inl (cI, 10, .inl a3.2.1)), (q_p0_leaflets, .inl (cI, 10, .inl a3.2.2.1)), (q_p0_owners, .inl (cI, 10, .inl a3.2.2.2.1)), (q_p0_tears, .inl (cI, 40, .inl a3.2.2.2.2))] H → va_D A0 [(q_t, .inr (5, [.ref q_t_codes, .int v_t_size])), (q_t_codes, .inl (cI, 22, .inl v_t_codes)), (q_p0, .inr (4, [.ref q_p0_kinds, .ref q_p0_leaflets, .ref q_p0_owners, .ref q_p0_tears, .ref q_p0_debts, .int a3.1, .int v_p0_lostByHands, .int v_p0_lostByMould])), (q_p0_kinds, .inl (cI, 10, .inl a3.2.1)), (q_p0_leaflets, .inl (cI, 10, .inl a3.2.2.1)), (q_p0_owners, .inl (cI, 10, .inl a3.2.2.2.1)), (q_p0_tears, .inl (cI, 40, .inl a3.2.2.2.2))] → va_S A0 s.heap H locs → lv_has ls 5 [] → W p l e ({ frames := 1, cells := 0, slots := 0, locals := 25 } : Room) s m args below meth c H locs 0 0 Q0 (F0 m 66 ls []) := by
    intro a3 H locs ls h hP hD hS hl
    unfold fX6_readInto_X5_66 at h
    obtain rfl := Option.some.inj h
    exact rt_v hA0 hQ0 hx hb hr hlocks hP hS dX6_readInto_66
  have L5_5 : ∀ (n : Nat) (z1 : Int32 × Int32 × Int32 × (Nat → Int32) × (Nat → Int32) × (Nat → Int32) × (Nat → Int32)) (H : Heap) (locs : List Loc) (ls : Array Slot), iter (fX6_readInto_L5 v_t_size v_t_codes v_p0_lostByHands v_p0_lostByMould x2) n z1 = some e2 → va_P D vwCl [(q_t, .inr (5, [.ref q_t_codes, .int v_t_size])), (q_t_codes, .inl (cI, 22, .inl v_t_codes)), (q_p0, .inr (4, [.ref q_p0_kinds, .ref q_p0_leaflets, .ref q_p0_owners, .ref q_p0_tears, .ref q_p0_debts, .int z1.2.2.1, .int v_p0_lostByHands, .int v_p0_lostByMould])), (q_p0_kinds, .inl (cI, 10, .inl z1.2.2.2.1)), (q_p0_leaflets, .inl (cI, 10, .inl z1.2.2.2.2.1)), (q_p0_owners, .inl (cI, 10, .inl z1.2.2.2.2.2.1)), (q_p0_tears, .inl (cI, 40, .inl z1.2.2.2.2.2.2))] H → va_D A0 [(q_t, .inr (5, [.ref q_t_codes, .int v_t_size])), (q_t_codes, .inl (cI, 22, .inl v_t_codes)), (q_p0, .inr (4, [.ref q_p0_kinds, .ref q_p0_leaflets, .ref q_p0_owners, .ref q_p0_tears, .ref q_p0_debts, .int z1.2.2.1, .int v_p0_lostByHands, .int v_p0_lostByMould])), (q_p0_kinds, .inl (cI, 10, .inl z1.2.2.2.1)), (q_p0_leaflets, .inl (cI, 10, .inl z1.2.2.2.2.1)), (q_p0_owners, .inl (cI, 10, .inl z1.2.2.2.2.2.1)), (q_p0_tears, .inl (cI, 40, .inl z1.2.2.2.2.2.2))] → va_S A0 s.heap H locs → lv_has ls 5 [(0, .ref q_t), (1, .ref q_p0), (2, .int x2), (3, .int z1.1), (4, .int z1.2.1)] → W p l e ({ frames := 1, cells := 0, slots := 0, locals := 25 } : Room) s m args below meth c H locs 0 0 Q0 (F0 m 5 ls []) := by
    intro n
    induction n with
    | zero => exact fun _ _ _ _ h => (iter_z h).elim
    | succ n ih =>
      intro z1 H locs ls h hP hD hS hl
      obtain ⟨r_e2, h, hn_e2⟩ := iter_s h
      unfold fX6_readInto_L5 at h
      refine lv_iload hx hb dX6_readInto_5 (lv_at hl 4 rfl) ?_
      refine lv_aload_n hx hb dX6_readInto_7 rfl (lv_at hl 0 rfl) ?_
      refine va_get (own := RX6) (ci := 5) (v := .int v_t_size) (C := RX6) (T := TX6) (N := 2) hx hb hts iX6 hown hK hP 0 rfl rfl 1 (by decide) k19 (fun _ h9 => h9) rfl dX6_readInto_8 ?_
      refine lv_icmp_ge (tgt := 66) hx hb dX6_readInto_11 (by decide) (fun c6 => ?_) (fun c6 => ?_)
      · skip
        have h := (if_pos c6).symm.trans h
        obtain rfl := Option.some.inj h
        obtain rfl := Option.some.inj hn_e2
        exact X66_4 (z1.2.2.1, z1.2.2.2.1, z1.2.2.2.2.1, z1.2.2.2.2.2.1, z1.2.2.2.2.2.2) _ _ _ hc_e2 hP hD hS (lv_sub hl [] rfl)
      · skip
        have h := (if_neg c6).symm.trans h
        refine lv_aload_n hx hb dX6_readInto_14 rfl (lv_at hl 0 rfl) ?_
        refine va_get (own := RX6) (ci := 5) (v := .ref q_t_codes) (C := RX6) (T := TX6) (N := 2) hx hb hts iX6 hown hK hP 0 rfl rfl 0 (by decide) k9 (fun _ h9 => h9) rfl dX6_readInto_15 ?_
        refine lv_iload hx hb dX6_readInto_18 (lv_at hl 4 rfl) ?_
        obtain ⟨g7, h⟩ := gd_of h
        refine va_iald hx hb hK hP 1 0 rfl rfl (inb_of g7) dX6_readInto_20 ?_
        refine cl_S [(q_t, .inr (5, [.ref q_t_codes, .int v_t_size])), (q_t_codes, .inl (cI, 22, .inl v_t_codes)), (q_p0, .inr (4, [.ref q_p0_kinds, .ref q_p0_leaflets, .ref q_p0_owners, .ref q_p0_tears, .ref q_p0_debts, .int z1.2.2.1, .int v_p0_lostByHands, .int v_p0_lostByMould])), (q_p0_kinds, .inl (cI, 10, .inl z1.2.2.2.1)), (q_p0_leaflets, .inl (cI, 10, .inl z1.2.2.2.2.1)), (q_p0_owners, .inl (cI, 10, .inl z1.2.2.2.2.2.1)), (q_p0_tears, .inl (cI, 40, .inl z1.2.2.2.2.2.2))] (As := [.int (v_t_codes z1.2.1.toNatClampNeg)]) (rest := []) (rv := (some (.int (fX6_isDigit (v_t_codes z1.2.1.toNatClampNeg))))) (c_X6_isDigit l D cI cJ (v_t_codes z1.2.1.toNatClampNeg)) ⟨hx, hb, hml, hown, hts⟩ (va_cwS 1 hts gX6_readInto_X6_isDigit rfl rfl rfl (by decide +kernel) ⟨(Nat.le_of_ble_eq_true rfl), (Nat.le_of_ble_eq_true rfl)⟩) hK hN hP hD hS [] rfl (by decide) rfl rfl rfl rfl hl.1 rfl (Nat.le_of_ble_eq_true rfl) dX6_readInto_21 ⟨Nat.zero_le _, Nat.zero_le _⟩ (fun H locs hP hD hS => ?_)
        show W p l e ({ frames := 1, cells := 0, slots := 0, locals := 25 } : Room) s m args below meth c H locs 0 0 Q0 (F0 m 24 ls [.int (fX6_isDigit (v_t_codes z1.2.1.toNatClampNeg))])
        have J60_9 : ∀ (a8 : Int32 × Int32 × (Nat → Int32) × (Nat → Int32) × (Nat → Int32) × (Nat → Int32)) (H : Heap) (locs : List Loc) (ls : Array Slot), fX6_readInto_J60 z1 a8 = some r_e2 → va_P D vwCl [(q_t, .inr (5, [.ref q_t_codes, .int v_t_size])), (q_t_codes, .inl (cI, 22, .inl v_t_codes)), (q_p0, .inr (4, [.ref q_p0_kinds, .ref q_p0_leaflets, .ref q_p0_owners, .ref q_p0_tears, .ref q_p0_debts, .int a8.2.1, .int v_p0_lostByHands, .int v_p0_lostByMould])), (q_p0_kinds, .inl (cI, 10, .inl a8.2.2.1)), (q_p0_leaflets, .inl (cI, 10, .inl a8.2.2.2.1)), (q_p0_owners, .inl (cI, 10, .inl a8.2.2.2.2.1)), (q_p0_tears, .inl (cI, 40, .inl a8.2.2.2.2.2))] H → va_D A0 [(q_t, .inr (5, [.ref q_t_codes, .int v_t_size])), (q_t_codes, .inl (cI, 22, .inl v_t_codes)), (q_p0, .inr (4, [.ref q_p0_kinds, .ref q_p0_leaflets, .ref q_p0_owners, .ref q_p0_tears, .ref q_p0_debts, .int a8.2.1, .int v_p0_lostByHands, .int v_p0_lostByMould])), (q_p0_kinds, .inl (cI, 10, .inl a8.2.2.1)), (q_p0_leaflets, .inl (cI, 10, .inl a8.2.2.2.1)), (q_p0_owners, .inl (cI, 10, .inl a8.2.2.2.2.1)), (q_p0_tears, .inl (cI, 40, .inl a8.2.2.2.2.2))] → va_S A0 s.heap H locs → lv_has ls 5 [(0, .ref q_t), (1, .ref q_p0), (2, .int x2), (3, .int a8.1), (4, .int z1.2.1)] → W p l e ({ frames := 1, cells := 0, slots := 0, locals := 25 } : Room) s m args below meth c H locs 0 0 Q0 (F0 m 60 ls []) := by
          intro a8 H locs ls h hP hD hS hl
          unfold fX6_readInto_J60 at h
          refine lv_iinc (v := (z1.2.1 + 1)) (lv' := [(4, .int (z1.2.1 + 1)), (0, .ref q_t), (1, .ref q_p0), (2, .int x2), (3, .int a8.1)]) hx hb dX6_readInto_60 hl (k := 4) rfl rfl (by decide) rfl (fun ls hl => ?_)
          refine lv_goto (tgt := 5) hx hb dX6_readInto_63 (by decide) ?_
          obtain rfl := Option.some.inj h
          exact ih (a8.1, (z1.2.1 + 1), a8.2.1, a8.2.2.1, a8.2.2.2.1, a8.2.2.2.2.1, a8.2.2.2.2.2) _ _ _ hn_e2 hP hD hS (lv_sub hl [1, 2, 3, 4, 0] rfl)
        refine lv_if_eq (tgt := 49) hx hb dX6_readInto_24 (by decide) (fun c10 => ?_) (fun c10 => ?_)
        · skip
          have h := (if_pos c10).symm.trans h
          refine lv_aload_n hx hb dX6_readInto_49 rfl (lv_at hl 0 rfl) ?_
          refine va_get (own := RX6) (ci := 5) (v := .ref q_t_codes) (C := RX6) (T := TX6) (N := 2) hx hb hts iX6 hown hK hP 0 rfl rfl 0 (by decide) k9 (fun _ h9 => h9) rfl dX6_readInto_50 ?_
          refine lv_iload hx hb dX6_readInto_53 (lv_at hl 4 rfl) ?_
          refine va_iald hx hb hK hP 1 0 rfl rfl (inb_of g7) dX6_readInto_55 ?_
          refine cl_S [(q_t, .inr (5, [.ref q_t_codes, .int v_t_size])), (q_t_codes, .inl (cI, 22, .inl v_t_codes)), (q_p0, .inr (4, [.ref q_p0_kinds, .ref q_p0_leaflets, .ref q_p0_owners, .ref q_p0_tears, .ref q_p0_debts, .int z1.2.2.1, .int v_p0_lostByHands, .int v_p0_lostByMould])), (q_p0_kinds, .inl (cI, 10, .inl z1.2.2.2.1)), (q_p0_leaflets, .inl (cI, 10, .inl z1.2.2.2.2.1)), (q_p0_owners, .inl (cI, 10, .inl z1.2.2.2.2.2.1)), (q_p0_tears, .inl (cI, 40, .inl z1.2.2.2.2.2.2))] (As := [.int (v_t_codes z1.2.1.toNatClampNeg)]) (rest := []) (rv := (some (.int (fX5_ofLetter (v_t_codes z1.2.1.toNatClampNeg))))) (c_X5_ofLetter l D cI cJ (v_t_codes z1.2.1.toNatClampNeg)) ⟨hx, hb, hml, hown, hts⟩ (va_cwS 1 hts gX6_readInto_X5_ofLetter rfl rfl rfl (by decide +kernel) ⟨(Nat.le_of_ble_eq_true rfl), (Nat.le_of_ble_eq_true rfl)⟩) hK hN hP hD hS [] rfl (by decide) rfl rfl rfl rfl hl.1 rfl (Nat.le_of_ble_eq_true rfl) dX6_readInto_56 ⟨Nat.zero_le _, Nat.zero_le _⟩ (fun H locs hP hD hS => ?_)
          show W p l e ({ frames := 1, cells := 0, slots := 0, locals := 25 } : Room) s m args below meth c H locs 0 0 Q0 (F0 m 59 ls [.int (fX5_ofLetter (v_t_codes z1.2.1.toNatClampNeg))])
          refine lv_istore_n (lv' := [(3, .int (fX5_ofLetter (v_t_codes z1.2.1.toNatClampNeg))), (0, .ref q_t), (1, .ref q_p0), (2, .int x2), (4, .int z1.2.1)]) hx hb dX6_readInto_59 rfl hl (by decide) rfl (fun ls hl => ?_)
          exact J60_9 ((fX5_ofLetter (v_t_codes z1.2.1.toNatClampNeg)), z1.2.2.1, z1.2.2.2.1, z1.2.2.2.2.1, z1.2.2.2.2.2.1, z1.2.2.2.2.2.2) _ _ _ h hP hD hS (lv_sub hl [1, 2, 3, 0, 4] rfl)
        · skip
          have h := (if_neg c10).symm.trans h
          refine lv_aload_n hx hb dX6_readInto_27 rfl (lv_at hl 1 rfl) ?_
          refine lv_iload_n hx hb dX6_readInto_28 rfl (lv_at hl 3 rfl) ?_
          refine lv_aload_n hx hb dX6_readInto_29 rfl (lv_at hl 0 rfl) ?_
          refine va_get (own := RX6) (ci := 5) (v := .ref q_t_codes) (C := RX6) (T := TX6) (N := 2) hx hb hts iX6 hown hK hP 0 rfl rfl 0 (by decide) k9 (fun _ h9 => h9) rfl dX6_readInto_30 ?_
          refine lv_iload hx hb dX6_readInto_33 (lv_at hl 4 rfl) ?_
          refine va_iald hx hb hK hP 1 0 rfl rfl (inb_of g7) dX6_readInto_35 ?_
          refine lv_bipush (v := 48) hx hb dX6_readInto_36 (by decide) ?_
          refine lv_isub hx hb dX6_readInto_38 ?_
          refine lv_iload_n hx hb dX6_readInto_39 rfl (lv_at hl 2 rfl) ?_
          obtain ⟨u11, g12, h⟩ := bd_of h
          refine cl_V [(q_t, .inr (5, [.ref q_t_codes, .int v_t_size])), (q_t_codes, .inl (cI, 22, .inl v_t_codes)), (q_p0, .inr (4, [.ref q_p0_kinds, .ref q_p0_leaflets, .ref q_p0_owners, .ref q_p0_tears, .ref q_p0_debts, .int u11.2.1, .int v_p0_lostByHands, .int v_p0_lostByMould])), (q_p0_kinds, .inl (cI, 10, .inl u11.2.2.1)), (q_p0_leaflets, .inl (cI, 10, .inl u11.2.2.2.1)), (q_p0_owners, .inl (cI, 10, .inl u11.2.2.2.2.1)), (q_p0_tears, .inl (cI, 40, .inl u11.2.2.2.2.2))] (As := [.int z1.1, .int ((v_t_codes z1.2.1.toNatClampNeg) - 48), .int x2]) (rest := []) (rv := (some (.int u11.1))) (c_X4_add l D cI cJ q_p0 q_p0_kinds q_p0_leaflets q_p0_owners q_p0_tears q_p0_debts z1.2.2.1 v_p0_lostByHands v_p0_lostByMould z1.2.2.2.1 z1.2.2.2.2.1 z1.2.2.2.2.2.1 z1.2.2.2.2.2.2 z1.1 ((v_t_codes z1.2.1.toNatClampNeg) - 48) x2 u11 g12) ⟨hx, hb, hml, hown, hts⟩ (cwV 3 hts gX6_readInto_X4_add rfl rfl rfl (by decide +kernel) ⟨(Nat.le_of_ble_eq_true rfl), (Nat.le_of_ble_eq_true rfl)⟩) hK hN hP hD hS [2, 3, 4, 5, 6] rfl (by decide) rfl rfl rfl (q0 := 2) (ci := 4) rfl rfl rfl rfl hl.1 rfl (Nat.le_of_ble_eq_true rfl) dX6_readInto_40 ⟨Nat.zero_le _, Nat.zero_le _⟩ (fun H locs hP hD hS => ?_)
          show W p l e ({ frames := 1, cells := 0, slots := 0, locals := 25 } : Room) s m args below meth c H locs 0 0 Q0 (F0 m 43 ls [.int u11.1])
          refine lv_pop hx hb dX6_readInto_43 rfl ?_
          refine lv_iconst (v := 0) hx hb dX6_readInto_44 (by decide) ?_
          refine lv_istore_n (lv' := [(3, .int 0), (0, .ref q_t), (1, .ref q_p0), (2, .int x2), (4, .int z1.2.1)]) hx hb dX6_readInto_45 rfl hl (by decide) rfl (fun ls hl => ?_)
          refine lv_goto (tgt := 60) hx hb dX6_readInto_46 (by decide) ?_
          exact J60_9 (0, u11.2.1, u11.2.2.1, u11.2.2.2.1, u11.2.2.2.2.1, u11.2.2.2.2.2) _ _ _ h hP hD hS (lv_sub hl [1, 2, 3, 0, 4] rfl)
  exact L5_5 FU (0, 0, v_p0_size, v_p0_kinds, v_p0_leaflets, v_p0_owners, v_p0_tears) _ _ _ he_e2 hP hD hS (lv_sub hl [2, 3, 4, 1, 0] rfl)
