def fX8_goOn_X86_141  (a9 : Int32 × (Nat → Int32) × (Nat → Int32)) : Option (Int32 × (Nat → Int32) × (Nat → Int32)) :=
  some (a9.1, a9.2.1, a9.2.2)
def fX8_goOn_J135 (z7 : Int32 × Int32 × (Nat → Int32) × (Nat → Int32)) (a13 : Int32 × (Nat → Int32) × (Nat → Int32)) : Option ((Int32 × Int32 × (Nat → Int32) × (Nat → Int32)) ⊕ (Int32 × (Nat → Int32) × (Nat → Int32))) :=
  some (Sum.inl ((z7.1 + 1), a13.1, a13.2.1, a13.2.2))
def fX8_goOn_L86 (rec : (Int32) → (Nat → Int32) → (Nat → Int32) → (Nat → Int32) → Int32 → Int32 → Option (Int32 × (Nat → Int32) × (Nat → Int32))) (v_t_path : Nat → Int32) (v_p0_sums : Nat → Int32) (x2 : Int32) (x3 : Int32) (z7 : Int32 × Int32 × (Nat → Int32) × (Nat → Int32)) : Option ((Int32 × Int32 × (Nat → Int32) × (Nat → Int32)) ⊕ (Int32 × (Nat → Int32) × (Nat → Int32))) :=
  if 6 ≤ z7.1 then (some (Sum.inr (z7.2.1, z7.2.2.1, z7.2.2.2))) else (if ((x3 >>> (z7.1 &&& 31)) &&& 1) = 0 then ((fX1_sum v_p0_sums (v_t_path (x2 - 1).toNatClampNeg) z7.1).bind (fun u16 => if u16 ≤ 0 then (fX8_goOn_J135 z7 (z7.2.1, z7.2.2.1, z7.2.2.2)) else (gd (inb x2 6) ((rec z7.2.1 (upd z7.2.2.1 x2.toNatClampNeg z7.1) z7.2.2.2 v_p0_sums (x2 + 1) (x3 ||| (1 <<< (z7.1 &&& 31)))).bind (fun u20 => fX8_goOn_J135 z7 (u20.1, u20.2.1, u20.2.2)))))) else (fX8_goOn_J135 z7 (z7.2.1, z7.2.2.1, z7.2.2.2)))
def fX8_goOn_J69 (rec : (Int32) → (Nat → Int32) → (Nat → Int32) → (Nat → Int32) → Int32 → Int32 → Option (Int32 × (Nat → Int32) × (Nat → Int32))) (v_t_path : Nat → Int32) (v_p0_sums : Nat → Int32) (x2 : Int32) (x3 : Int32) (a4 : Int32 × (Nat → Int32)) : Option (Int32 × (Nat → Int32) × (Nat → Int32)) :=
  if x2 = 6 then (some (a4.1, v_t_path, a4.2)) else ((iter (fX8_goOn_L86 rec v_t_path v_p0_sums x2 x3) FU (((v_t_path (0 : Int32).toNatClampNeg) + 1), a4.1, v_t_path, a4.2)).bind (fX8_goOn_X86_141))
def fX8_goOn_b (rec : (Int32) → (Nat → Int32) → (Nat → Int32) → (Nat → Int32) → Int32 → Int32 → Option (Int32 × (Nat → Int32) × (Nat → Int32))) (v_t_length : Int32) (v_t_path : Nat → Int32) (v_t_longest : Nat → Int32) (v_p0_sums : Nat → Int32) (x2 : Int32) (x3 : Int32) : Option (Int32 × (Nat → Int32) × (Nat → Int32)) :=
  if x2 < 1 then (some (v_t_length, v_t_path, v_t_longest)) else (if x2 ≤ 6 then (gd (inb (x2 - 1) 6) (if x2 ≤ 1 then (fX8_goOn_J69 rec v_t_path v_p0_sums x2 x3 (v_t_length, v_t_longest)) else (if x2 ≤ v_t_length then (fX8_goOn_J69 rec v_t_path v_p0_sums x2 x3 (v_t_length, v_t_longest)) else ((fX1_sum v_p0_sums (v_t_path (x2 - 1).toNatClampNeg) (v_t_path (0 : Int32).toNatClampNeg)).bind (fun u24 => if u24 ≤ 0 then (fX8_goOn_J69 rec v_t_path v_p0_sums x2 x3 (v_t_length, v_t_longest)) else (gd (cpok x2 6) (fX8_goOn_J69 rec v_t_path v_p0_sums x2 x3 (x2, (va_cpy v_t_path v_t_longest (0 : Int32).toNatClampNeg (0 : Int32).toNatClampNeg (x2 : Int32).toNatClampNeg))))))))) else (some (v_t_length, v_t_path, v_t_longest)))
def fX8_goOn : Nat → (Int32) → (Nat → Int32) → (Nat → Int32) → (Nat → Int32) → Int32 → Int32 → Option (Int32 × (Nat → Int32) × (Nat → Int32))
  | 0 => fun _ _ _ _ _ _ => none
  | d + 1 => fX8_goOn_b (fX8_goOn d)
set_option maxHeartbeats 4000000 in
set_option maxRecDepth 100000 in
theorem c_X8_goOn (l : Launch) (D : va_G) (cI cJ : ClassId) : ∀ (d : Nat) (q_t q_t_path q_t_longest q_p0 q_p0_sums : Nat) (v_t_length : Int32) (v_t_path : Nat → Int32) (v_t_longest : Nat → Int32) (v_p0_sums : Nat → Int32) (x2 : Int32) (x3 : Int32) (z : Int32 × (Nat → Int32) × (Nat → Int32)) (h : fX8_goOn d v_t_length v_t_path v_t_longest v_p0_sums x2 x3 = some z), Met l yX8_goOn wsX8_goOn ({ frames := d + 1, cells := 0, slots := 0, locals := 25 * d + 60 } : Room) (va_Pc [.ref q_t, .ref q_p0, .int x2, .int x3] (preG D cI cJ [(q_t, .inr (7, [.ref q_t_path, .ref q_t_longest, .int v_t_length])), (q_t_path, .inl (cI, 6, .inl v_t_path)), (q_t_longest, .inl (cI, 6, .inl v_t_longest)), (q_p0, .inr (1, [.ref q_p0_sums])), (q_p0_sums, .inl (cI, 36, .inl v_p0_sums))])) (QG D [(q_t, .inr (7, [.ref q_t_path, .ref q_t_longest, .int v_t_length])), (q_t_path, .inl (cI, 6, .inl v_t_path)), (q_t_longest, .inl (cI, 6, .inl v_t_longest)), (q_p0, .inr (1, [.ref q_p0_sums])), (q_p0_sums, .inl (cI, 36, .inl v_p0_sums))] [(q_t, .inr (7, [.ref q_t_path, .ref q_t_longest, .int z.1])), (q_t_path, .inl (cI, 6, .inl z.2.1)), (q_t_longest, .inl (cI, 6, .inl z.2.2)), (q_p0, .inr (1, [.ref q_p0_sums])), (q_p0_sums, .inl (cI, 36, .inl v_p0_sums))] none) 0 0 (fr [(q_t, .inr (7, [.ref q_t_path, .ref q_t_longest, .int v_t_length])), (q_t_path, .inl (cI, 6, .inl v_t_path)), (q_t_longest, .inl (cI, 6, .inl v_t_longest)), (q_p0, .inr (1, [.ref q_p0_sums])), (q_p0_sums, .inl (cI, 36, .inl v_p0_sums))]) := by
  intro d
  induction d with
  | zero =>
    intro q_t q_t_path q_t_longest q_p0 q_p0_sums v_t_length v_t_path v_t_longest v_p0_sums x2 x3 z h
    cases h
  | succ d ihd =>
    intro q_t q_t_path q_t_longest q_p0 q_p0_sums v_t_length v_t_path v_t_longest v_p0_sums x2 x3 z h
    have h : fX8_goOn_b (fX8_goOn d) v_t_length v_t_path v_t_longest v_p0_sums x2 x3 = some z := h
    generalize hrec : fX8_goOn d = rec at h ihd
    refine Met.ofW (cc := cX8_goOn) (maxL := 6) (ret := none) (by decide) rfl ?_
    intro p e s m args below meth c s₁ B hml hv
    obtain ⟨hargs, hP, hK, hN, hD0⟩ := hv
    have hx := B.exec
    have hb := B.bytes
    have hr := B.returns
    have hts := atoms_spec (ws := wsX8_goOn) B.pre
    have hown : s.vm.findClass RX8 = some m.cls := findClass_of_methodNamed B.named
    have hlocks := B.notSynchronized
    have iX8 : ∀ w ∈ wsX80, w ∈ wsX8_goOn := by decide +kernel
    have k9 := hts (.fieldLink RX8 9 "PressedFerns$RingSearch" "path" "[I") (by decide +kernel)
    have k15 := hts (.fieldLink RX8 15 "PressedFerns$RingSearch" "longest" "[I") (by decide +kernel)
    have k18 := hts (.fieldLink RX8 18 "PressedFerns$RingSearch" "length" "I") (by decide +kernel)
    have hD := fr_D hD0
    have hS : va_S (fr [(q_t, .inr (7, [.ref q_t_path, .ref q_t_longest, .int v_t_length])), (q_t_path, .inl (cI, 6, .inl v_t_path)), (q_t_longest, .inl (cI, 6, .inl v_t_longest)), (q_p0, .inr (1, [.ref q_p0_sums])), (q_p0_sums, .inl (cI, 36, .inl v_p0_sums))]) s.heap s.heap [] := va_S.rf
    have hl := lv_entry ([.ref q_t, .ref q_p0, .int x2, .int x3]) (n := 6) (Nat.le_of_ble_eq_true rfl)
    refine W.eq (g2 := F0 m 0 ((lg_sl ([.ref q_t, .ref q_p0, .int x2, .int x3]) ++ List.replicate (6 - (lg_sl ([.ref q_t, .ref q_p0, .int x2, .int x3])).length) Slot.unset).toArray) []) (by rw [hargs, lg_entry_eq]) ?_
    generalize (lg_sl ([.ref q_t, .ref q_p0, .int x2, .int x3]) ++ List.replicate (6 - (lg_sl ([.ref q_t, .ref q_p0, .int x2, .int x3])).length) Slot.unset).toArray = ls at hl ⊢
    have hl : lv_has ls 6 [(0, .ref q_t), (1, .ref q_p0), (2, .int x2), (3, .int x3)] := hl
    show W p l e ({ frames := d + 1 + 1, cells := 0, slots := 0, locals := 25 * (d + 1) + 60 } : Room) s m args below meth c s.heap [] 0 0 (MQ below (QG D [(q_t, .inr (7, [.ref q_t_path, .ref q_t_longest, .int v_t_length])), (q_t_path, .inl (cI, 6, .inl v_t_path)), (q_t_longest, .inl (cI, 6, .inl v_t_longest)), (q_p0, .inr (1, [.ref q_p0_sums])), (q_p0_sums, .inl (cI, 36, .inl v_p0_sums))] [(q_t, .inr (7, [.ref q_t_path, .ref q_t_longest, .int z.1])), (q_t_path, .inl (cI, 6, .inl z.2.1)), (q_t_longest, .inl (cI, 6, .inl z.2.2)), (q_p0, .inr (1, [.ref q_p0_sums])), (q_p0_sums, .inl (cI, 36, .inl v_p0_sums))] none) args s 0 0 (fr [(q_t, .inr (7, [.ref q_t_path, .ref q_t_longest, .int v_t_length])), (q_t_path, .inl (cI, 6, .inl v_t_path)), (q_t_longest, .inl (cI, 6, .inl v_t_longest)), (q_p0, .inr (1, [.ref q_p0_sums])), (q_p0_sums, .inl (cI, 36, .inl v_p0_sums))])) (F0 m 0 ls [])
    generalize hQ0 : (MQ below (QG D [(q_t, .inr (7, [.ref q_t_path, .ref q_t_longest, .int v_t_length])), (q_t_path, .inl (cI, 6, .inl v_t_path)), (q_t_longest, .inl (cI, 6, .inl v_t_longest)), (q_p0, .inr (1, [.ref q_p0_sums])), (q_p0_sums, .inl (cI, 36, .inl v_p0_sums))] [(q_t, .inr (7, [.ref q_t_path, .ref q_t_longest, .int z.1])), (q_t_path, .inl (cI, 6, .inl z.2.1)), (q_t_longest, .inl (cI, 6, .inl z.2.2)), (q_p0, .inr (1, [.ref q_p0_sums])), (q_p0_sums, .inl (cI, 36, .inl v_p0_sums))] none) args s 0 0 (fr [(q_t, .inr (7, [.ref q_t_path, .ref q_t_longest, .int v_t_length])), (q_t_path, .inl (cI, 6, .inl v_t_path)), (q_t_longest, .inl (cI, 6, .inl v_t_longest)), (q_p0, .inr (1, [.ref q_p0_sums])), (q_p0_sums, .inl (cI, 36, .inl v_p0_sums))])) = Q0
    generalize hA0 : fr [(q_t, .inr (7, [.ref q_t_path, .ref q_t_longest, .int v_t_length])), (q_t_path, .inl (cI, 6, .inl v_t_path)), (q_t_longest, .inl (cI, 6, .inl v_t_longest)), (q_p0, .inr (1, [.ref q_p0_sums])), (q_p0_sums, .inl (cI, 36, .inl v_p0_sums))] = A0 at hD hS
    unfold fX8_goOn_b at h
    refine lv_iload_n hx hb dX8_goOn_0 rfl (lv_at hl 2 rfl) ?_
    refine lv_iconst (v := 1) hx hb dX8_goOn_1 (by decide) ?_
    refine lv_icmp_lt (tgt := 11) hx hb dX8_goOn_2 (by decide) (fun c1 => ?_) (fun c1 => ?_)
    · skip
      have h := (if_pos c1).symm.trans h
      obtain rfl := Option.some.inj h
      exact rt_v hA0 hQ0 hx hb hr hlocks hP hS dX8_goOn_11
    · skip
      have h := (if_neg c1).symm.trans h
      refine lv_iload_n hx hb dX8_goOn_5 rfl (lv_at hl 2 rfl) ?_
      refine lv_bipush (v := 6) hx hb dX8_goOn_6 (by decide) ?_
      refine lv_icmp_le (tgt := 12) hx hb dX8_goOn_8 (by decide) (fun c2 => ?_) (fun c2 => ?_)
      · skip
        have h := (if_pos c2).symm.trans h
        refine lv_aload_n hx hb dX8_goOn_12 rfl (lv_at hl 0 rfl) ?_
        refine va_get (own := RX8) (ci := 7) (v := .ref q_t_path) (C := RX8) (T := TX8) (N := 3) hx hb hts iX8 hown hK hP 0 rfl rfl 0 (by decide) k9 (fun _ h9 => h9) rfl dX8_goOn_13 ?_
        refine lv_iload_n hx hb dX8_goOn_16 rfl (lv_at hl 2 rfl) ?_
        refine lv_iconst (v := 1) hx hb dX8_goOn_17 (by decide) ?_
        refine lv_isub hx hb dX8_goOn_18 ?_
        obtain ⟨g3, h⟩ := gd_of h
        refine va_iald hx hb hK hP 1 0 rfl rfl (inb_of g3) dX8_goOn_19 ?_
        refine lv_istore (lv' := [(4, .int (v_t_path (x2 - 1).toNatClampNeg)), (0, .ref q_t), (1, .ref q_p0), (2, .int x2), (3, .int x3)]) hx hb dX8_goOn_20 hl (by decide) rfl (fun ls hl => ?_)
        refine lv_iload_n hx hb dX8_goOn_22 rfl (lv_at hl 3 rfl) ?_
        refine lv_iconst (v := 1) hx hb dX8_goOn_23 (by decide) ?_
        have J69_5 : ∀ (a4 : Int32 × (Nat → Int32)) (H : Heap) (locs : List Loc) (ls : Array Slot), fX8_goOn_J69 rec v_t_path v_p0_sums x2 x3 a4 = some z → va_P D vwCl [(q_t, .inr (7, [.ref q_t_path, .ref q_t_longest, .int a4.1])), (q_t_path, .inl (cI, 6, .inl v_t_path)), (q_t_longest, .inl (cI, 6, .inl a4.2)), (q_p0, .inr (1, [.ref q_p0_sums])), (q_p0_sums, .inl (cI, 36, .inl v_p0_sums))] H → va_D A0 [(q_t, .inr (7, [.ref q_t_path, .ref q_t_longest, .int a4.1])), (q_t_path, .inl (cI, 6, .inl v_t_path)), (q_t_longest, .inl (cI, 6, .inl a4.2)), (q_p0, .inr (1, [.ref q_p0_sums])), (q_p0_sums, .inl (cI, 36, .inl v_p0_sums))] → va_S A0 s.heap H locs → lv_has ls 6 [(0, .ref q_t), (1, .ref q_p0), (2, .int x2), (3, .int x3), (4, .int (v_t_path (x2 - 1).toNatClampNeg))] → W p l e ({ frames := d + 1 + 1, cells := 0, slots := 0, locals := 25 * (d + 1) + 60 } : Room) s m args below meth c H locs 0 0 Q0 (F0 m 69 ls []) := by
          intro a4 H locs ls h hP hD hS hl
          unfold fX8_goOn_J69 at h
          refine lv_iload_n hx hb dX8_goOn_69 rfl (lv_at hl 2 rfl) ?_
          refine lv_bipush (v := 6) hx hb dX8_goOn_70 (by decide) ?_
          refine lv_icmp_ne (tgt := 76) hx hb dX8_goOn_72 (by decide) (fun c6 => ?_) (fun c6 => ?_)
          · skip
            have h := (if_neg c6).symm.trans h
            refine lv_aload_n hx hb dX8_goOn_76 rfl (lv_at hl 0 rfl) ?_
            refine va_get (own := RX8) (ci := 7) (v := .ref q_t_path) (C := RX8) (T := TX8) (N := 3) hx hb hts iX8 hown hK hP 0 rfl rfl 0 (by decide) k9 (fun _ h9 => h9) rfl dX8_goOn_77 ?_
            refine lv_iconst (v := 0) hx hb dX8_goOn_80 (by decide) ?_
            refine va_iald hx hb hK hP 1 0 rfl rfl (inb_of (by decide)) dX8_goOn_81 ?_
            refine lv_iconst (v := 1) hx hb dX8_goOn_82 (by decide) ?_
            refine lv_iadd hx hb dX8_goOn_83 ?_
            refine lv_istore (lv' := [(5, .int ((v_t_path (0 : Int32).toNatClampNeg) + 1)), (0, .ref q_t), (1, .ref q_p0), (2, .int x2), (3, .int x3), (4, .int (v_t_path (x2 - 1).toNatClampNeg))]) hx hb dX8_goOn_84 hl (by decide) rfl (fun ls hl => ?_)
            obtain ⟨e8, he_e8, hc_e8⟩ := bd_of h
            have X141_10 : ∀ (a9 : Int32 × (Nat → Int32) × (Nat → Int32)) (H : Heap) (locs : List Loc) (ls : Array Slot), fX8_goOn_X86_141 a9 = some z → va_P D vwCl [(q_t, .inr (7, [.ref q_t_path, .ref q_t_longest, .int a9.1])), (q_t_path, .inl (cI, 6, .inl a9.2.1)), (q_t_longest, .inl (cI, 6, .inl a9.2.2)), (q_p0, .inr (1, [.ref q_p0_sums])), (q_p0_sums, .inl (cI, 36, .inl v_p0_sums))] H → va_D A0 [(q_t, .inr (7, [.ref q_t_path, .ref q_t_longest, .int a9.1])), (q_t_path, .inl (cI, 6, .inl a9.2.1)), (q_t_longest, .inl (cI, 6, .inl a9.2.2)), (q_p0, .inr (1, [.ref q_p0_sums])), (q_p0_sums, .inl (cI, 36, .inl v_p0_sums))] → va_S A0 s.heap H locs → lv_has ls 6 [] → W p l e ({ frames := d + 1 + 1, cells := 0, slots := 0, locals := 25 * (d + 1) + 60 } : Room) s m args below meth c H locs 0 0 Q0 (F0 m 141 ls []) := by
              intro a9 H locs ls h hP hD hS hl
              unfold fX8_goOn_X86_141 at h
              obtain rfl := Option.some.inj h
              exact rt_v hA0 hQ0 hx hb hr hlocks hP hS dX8_goOn_141
            have L86_11 : ∀ (n : Nat) (z7 : Int32 × Int32 × (Nat → Int32) × (Nat → Int32)) (H : Heap) (locs : List Loc) (ls : Array Slot), iter (fX8_goOn_L86 rec v_t_path v_p0_sums x2 x3) n z7 = some e8 → va_P D vwCl [(q_t, .inr (7, [.ref q_t_path, .ref q_t_longest, .int z7.2.1])), (q_t_path, .inl (cI, 6, .inl z7.2.2.1)), (q_t_longest, .inl (cI, 6, .inl z7.2.2.2)), (q_p0, .inr (1, [.ref q_p0_sums])), (q_p0_sums, .inl (cI, 36, .inl v_p0_sums))] H → va_D A0 [(q_t, .inr (7, [.ref q_t_path, .ref q_t_longest, .int z7.2.1])), (q_t_path, .inl (cI, 6, .inl z7.2.2.1)), (q_t_longest, .inl (cI, 6, .inl z7.2.2.2)), (q_p0, .inr (1, [.ref q_p0_sums])), (q_p0_sums, .inl (cI, 36, .inl v_p0_sums))] → va_S A0 s.heap H locs → lv_has ls 6 [(0, .ref q_t), (1, .ref q_p0), (2, .int x2), (3, .int x3), (4, .int (v_t_path (x2 - 1).toNatClampNeg)), (5, .int z7.1)] → W p l e ({ frames := d + 1 + 1, cells := 0, slots := 0, locals := 25 * (d + 1) + 60 } : Room) s m args below meth c H locs 0 0 Q0 (F0 m 86 ls []) := by
              intro n
              induction n with
              | zero => exact fun _ _ _ _ h => (iter_z h).elim
              | succ n ih =>
                intro z7 H locs ls h hP hD hS hl
                obtain ⟨r_e8, h, hn_e8⟩ := iter_s h
                unfold fX8_goOn_L86 at h
                refine lv_iload hx hb dX8_goOn_86 (lv_at hl 5 rfl) ?_
                refine lv_bipush (v := 6) hx hb dX8_goOn_88 (by decide) ?_
                refine lv_icmp_ge (tgt := 141) hx hb dX8_goOn_90 (by decide) (fun c12 => ?_) (fun c12 => ?_)
                · skip
                  have h := (if_pos c12).symm.trans h
                  obtain rfl := Option.some.inj h
                  obtain rfl := Option.some.inj hn_e8
                  exact X141_10 (z7.2.1, z7.2.2.1, z7.2.2.2) _ _ _ hc_e8 hP hD hS (lv_sub hl [] rfl)
                · skip
                  have h := (if_neg c12).symm.trans h
                  refine lv_iload_n hx hb dX8_goOn_93 rfl (lv_at hl 3 rfl) ?_
                  refine lv_iload hx hb dX8_goOn_94 (lv_at hl 5 rfl) ?_
                  refine lv_ishr hx hb dX8_goOn_96 ?_
                  refine lv_iconst (v := 1) hx hb dX8_goOn_97 (by decide) ?_
                  refine lv_iand hx hb dX8_goOn_98 ?_
                  have J135_14 : ∀ (a13 : Int32 × (Nat → Int32) × (Nat → Int32)) (H : Heap) (locs : List Loc) (ls : Array Slot), fX8_goOn_J135 z7 a13 = some r_e8 → va_P D vwCl [(q_t, .inr (7, [.ref q_t_path, .ref q_t_longest, .int a13.1])), (q_t_path, .inl (cI, 6, .inl a13.2.1)), (q_t_longest, .inl (cI, 6, .inl a13.2.2)), (q_p0, .inr (1, [.ref q_p0_sums])), (q_p0_sums, .inl (cI, 36, .inl v_p0_sums))] H → va_D A0 [(q_t, .inr (7, [.ref q_t_path, .ref q_t_longest, .int a13.1])), (q_t_path, .inl (cI, 6, .inl a13.2.1)), (q_t_longest, .inl (cI, 6, .inl a13.2.2)), (q_p0, .inr (1, [.ref q_p0_sums])), (q_p0_sums, .inl (cI, 36, .inl v_p0_sums))] → va_S A0 s.heap H locs → lv_has ls 6 [(0, .ref q_t), (1, .ref q_p0), (2, .int x2), (3, .int x3), (4, .int (v_t_path (x2 - 1).toNatClampNeg)), (5, .int z7.1)] → W p l e ({ frames := d + 1 + 1, cells := 0, slots := 0, locals := 25 * (d + 1) + 60 } : Room) s m args below meth c H locs 0 0 Q0 (F0 m 135 ls []) := by
                    intro a13 H locs ls h hP hD hS hl
                    unfold fX8_goOn_J135 at h
                    refine lv_iinc (v := (z7.1 + 1)) (lv' := [(5, .int (z7.1 + 1)), (0, .ref q_t), (1, .ref q_p0), (2, .int x2), (3, .int x3), (4, .int (v_t_path (x2 - 1).toNatClampNeg))]) hx hb dX8_goOn_135 hl (k := 5) rfl rfl (by decide) rfl (fun ls hl => ?_)
                    refine lv_goto (tgt := 86) hx hb dX8_goOn_138 (by decide) ?_
                    obtain rfl := Option.some.inj h
                    exact ih ((z7.1 + 1), a13.1, a13.2.1, a13.2.2) _ _ _ hn_e8 hP hD hS (lv_sub hl [1, 2, 3, 4, 5, 0] rfl)
                  refine lv_if_ne (tgt := 135) hx hb dX8_goOn_99 (by decide) (fun c15 => ?_) (fun c15 => ?_)
                  · skip
                    have h := (if_neg c15).symm.trans h
                    exact J135_14 (z7.2.1, z7.2.2.1, z7.2.2.2) _ _ _ h hP hD hS (lv_sub hl [0, 1, 2, 3, 4, 5] rfl)
                  · skip
                    have h := (if_pos c15).symm.trans h
                    refine lv_aload_n hx hb dX8_goOn_102 rfl (lv_at hl 1 rfl) ?_
                    refine lv_iload hx hb dX8_goOn_103 (lv_at hl 4 rfl) ?_
                    refine lv_iload hx hb dX8_goOn_105 (lv_at hl 5 rfl) ?_
                    obtain ⟨u16, g17, h⟩ := bd_of h
                    refine cl_V [(q_t, .inr (7, [.ref q_t_path, .ref q_t_longest, .int z7.2.1])), (q_t_path, .inl (cI, 6, .inl z7.2.2.1)), (q_t_longest, .inl (cI, 6, .inl z7.2.2.2)), (q_p0, .inr (1, [.ref q_p0_sums])), (q_p0_sums, .inl (cI, 36, .inl v_p0_sums))] (As := [.int (v_t_path (x2 - 1).toNatClampNeg), .int z7.1]) (rest := []) (rv := (some (.int u16))) (c_X1_sum l D cI cJ q_p0 q_p0_sums v_p0_sums (v_t_path (x2 - 1).toNatClampNeg) z7.1 u16 g17) ⟨hx, hb, hml, hown, hts⟩ (cwV 2 hts gX8_goOn_X1_sum rfl rfl rfl (by decide +kernel) ⟨by simp only [headSpec]; omega, by simp only [headSpec]; omega⟩) hK hN hP hD hS [3, 4] rfl (by decide) rfl rfl rfl (q0 := 3) (ci := 1) rfl rfl rfl rfl hl.1 rfl (Nat.le_of_ble_eq_true rfl) dX8_goOn_107 ⟨Nat.zero_le _, Nat.zero_le _⟩ (fun H locs hP hD hS => ?_)
                    show W p l e ({ frames := d + 1 + 1, cells := 0, slots := 0, locals := 25 * (d + 1) + 60 } : Room) s m args below meth c H locs 0 0 Q0 (F0 m 110 ls [.int u16])
                    refine lv_if_le (tgt := 135) hx hb dX8_goOn_110 (by decide) (fun c18 => ?_) (fun c18 => ?_)
                    · skip
                      have h := (if_pos c18).symm.trans h
                      exact J135_14 (z7.2.1, z7.2.2.1, z7.2.2.2) _ _ _ h hP hD hS (lv_sub hl [0, 1, 2, 3, 4, 5] rfl)
                    · skip
                      have h := (if_neg c18).symm.trans h
                      refine lv_aload_n hx hb dX8_goOn_113 rfl (lv_at hl 0 rfl) ?_
                      refine va_get (own := RX8) (ci := 7) (v := .ref q_t_path) (C := RX8) (T := TX8) (N := 3) hx hb hts iX8 hown hK hP 0 rfl rfl 0 (by decide) k9 (fun _ h9 => h9) rfl dX8_goOn_114 ?_
                      refine lv_iload_n hx hb dX8_goOn_117 rfl (lv_at hl 2 rfl) ?_
                      refine lv_iload hx hb dX8_goOn_118 (lv_at hl 5 rfl) ?_
                      obtain ⟨g19, h⟩ := gd_of h
                      refine va_iast hx hb hK hP hD hS 1 0 rfl rfl (inb_of g19) dX8_goOn_120 (fun H locs hP hD hS => ?_)
                      have hP : va_P D vwCl [(q_t, .inr (7, [.ref q_t_path, .ref q_t_longest, .int z7.2.1])), (q_t_path, .inl (cI, 6, .inl (upd z7.2.2.1 x2.toNatClampNeg z7.1))), (q_t_longest, .inl (cI, 6, .inl z7.2.2.2)), (q_p0, .inr (1, [.ref q_p0_sums])), (q_p0_sums, .inl (cI, 36, .inl v_p0_sums))] H := hP
                      have hD : va_D A0 [(q_t, .inr (7, [.ref q_t_path, .ref q_t_longest, .int z7.2.1])), (q_t_path, .inl (cI, 6, .inl (upd z7.2.2.1 x2.toNatClampNeg z7.1))), (q_t_longest, .inl (cI, 6, .inl z7.2.2.2)), (q_p0, .inr (1, [.ref q_p0_sums])), (q_p0_sums, .inl (cI, 36, .inl v_p0_sums))] := hD
                      refine lv_aload_n hx hb dX8_goOn_121 rfl (lv_at hl 0 rfl) ?_
                      refine lv_aload_n hx hb dX8_goOn_122 rfl (lv_at hl 1 rfl) ?_
                      refine lv_iload_n hx hb dX8_goOn_123 rfl (lv_at hl 2 rfl) ?_
                      refine lv_iconst (v := 1) hx hb dX8_goOn_124 (by decide) ?_
                      refine lv_iadd hx hb dX8_goOn_125 ?_
                      refine lv_iload_n hx hb dX8_goOn_126 rfl (lv_at hl 3 rfl) ?_
                      refine lv_iconst (v := 1) hx hb dX8_goOn_127 (by decide) ?_
                      refine lv_iload hx hb dX8_goOn_128 (lv_at hl 5 rfl) ?_
                      refine lv_ishl hx hb dX8_goOn_130 ?_
                      refine lv_ior hx hb dX8_goOn_131 ?_
                      obtain ⟨u20, g21, h⟩ := bd_of h
                      refine cl_V [(q_t, .inr (7, [.ref q_t_path, .ref q_t_longest, .int u20.1])), (q_t_path, .inl (cI, 6, .inl u20.2.1)), (q_t_longest, .inl (cI, 6, .inl u20.2.2)), (q_p0, .inr (1, [.ref q_p0_sums])), (q_p0_sums, .inl (cI, 36, .inl v_p0_sums))] (As := [.ref q_p0, .int (x2 + 1), .int (x3 ||| (1 <<< (z7.1 &&& 31)))]) (rest := []) (rv := none) (ihd q_t q_t_path q_t_longest q_p0 q_p0_sums z7.2.1 (upd z7.2.2.1 x2.toNatClampNeg z7.1) z7.2.2.2 v_p0_sums (x2 + 1) (x3 ||| (1 <<< (z7.1 &&& 31))) u20 g21) ⟨hx, hb, hml, hown, hts⟩ (cwV 3 hts gX8_goOn_X8_goOn rfl rfl rfl (by decide +kernel) ⟨by simp only [headSpec]; omega, by simp only [headSpec]; omega⟩) hK hN hP hD hS [0, 1, 2, 3, 4] rfl (by decide) rfl rfl rfl (q0 := 0) (ci := 7) rfl rfl rfl rfl hl.1 rfl (Nat.le_of_ble_eq_true rfl) dX8_goOn_132 ⟨Nat.zero_le _, Nat.zero_le _⟩ (fun H locs hP hD hS => ?_)
                      show W p l e ({ frames := d + 1 + 1, cells := 0, slots := 0, locals := 25 * (d + 1) + 60 } : Room) s m args below meth c H locs 0 0 Q0 (F0 m 135 ls [])
                      exact J135_14 (u20.1, u20.2.1, u20.2.2) _ _ _ h hP hD hS (lv_sub hl [0, 1, 2, 3, 4, 5] rfl)
            exact L86_11 FU (((v_t_path (0 : Int32).toNatClampNeg) + 1), a4.1, v_t_path, a4.2) _ _ _ he_e8 hP hD hS (lv_sub hl [1, 2, 3, 4, 5, 0] rfl)
          · skip
            have h := (if_pos c6).symm.trans h
            obtain rfl := Option.some.inj h
            exact rt_v hA0 hQ0 hx hb hr hlocks hP hS dX8_goOn_75
        refine lv_icmp_le (tgt := 69) hx hb dX8_goOn_24 (by decide) (fun c22 => ?_) (fun c22 => ?_)
        · skip
          have h := (if_pos c22).symm.trans h
          exact J69_5 (v_t_length, v_t_longest) _ _ _ h hP hD hS (lv_sub hl [1, 2, 3, 4, 0] rfl)
        · skip
          have h := (if_neg c22).symm.trans h
          refine lv_iload_n hx hb dX8_goOn_27 rfl (lv_at hl 3 rfl) ?_
          refine lv_aload_n hx hb dX8_goOn_28 rfl (lv_at hl 1 rfl) ?_
          refine va_get (own := RX8) (ci := 7) (v := .int v_t_length) (C := RX8) (T := TX8) (N := 3) hx hb hts iX8 hown hK hP 0 rfl rfl 2 (by decide) k18 (fun _ h9 => h9) rfl dX8_goOn_29 ?_
          refine lv_icmp_le (tgt := 69) hx hb dX8_goOn_32 (by decide) (fun c23 => ?_) (fun c23 => ?_)
          · skip
            have h := (if_pos c23).symm.trans h
            exact J69_5 (v_t_length, v_t_longest) _ _ _ h hP hD hS (lv_sub hl [1, 2, 3, 4, 0] rfl)
          · skip
            have h := (if_neg c23).symm.trans h
            refine lv_aload_n hx hb dX8_goOn_35 rfl (lv_at hl 2 rfl) ?_
            refine lv_iload hx hb dX8_goOn_36 (lv_at hl 0 rfl) ?_
            refine lv_aload_n hx hb dX8_goOn_38 rfl (lv_at hl 1 rfl) ?_
            refine va_get (own := RX8) (ci := 7) (v := .ref q_t_path) (C := RX8) (T := TX8) (N := 3) hx hb hts iX8 hown hK hP 0 rfl rfl 0 (by decide) k9 (fun _ h9 => h9) rfl dX8_goOn_39 ?_
            refine lv_iconst (v := 0) hx hb dX8_goOn_42 (by decide) ?_
            refine va_iald hx hb hK hP 1 0 rfl rfl (inb_of (by decide)) dX8_goOn_43 ?_
            obtain ⟨u24, g25, h⟩ := bd_of h
            refine cl_V [(q_t, .inr (7, [.ref q_t_path, .ref q_t_longest, .int v_t_length])), (q_t_path, .inl (cI, 6, .inl v_t_path)), (q_t_longest, .inl (cI, 6, .inl v_t_longest)), (q_p0, .inr (1, [.ref q_p0_sums])), (q_p0_sums, .inl (cI, 36, .inl v_p0_sums))] (As := [.int (v_t_path (x2 - 1).toNatClampNeg), .int (v_t_path (0 : Int32).toNatClampNeg)]) (rest := []) (rv := (some (.int u24))) (c_X1_sum l D cI cJ q_p0 q_p0_sums v_p0_sums (v_t_path (x2 - 1).toNatClampNeg) (v_t_path (0 : Int32).toNatClampNeg) u24 g25) ⟨hx, hb, hml, hown, hts⟩ (cwV 2 hts gX8_goOn_X1_sum rfl rfl rfl (by decide +kernel) ⟨by simp only [headSpec]; omega, by simp only [headSpec]; omega⟩) hK hN hP hD hS [3, 4] rfl (by decide) rfl rfl rfl (q0 := 3) (ci := 1) rfl rfl rfl rfl hl.1 rfl (Nat.le_of_ble_eq_true rfl) dX8_goOn_44 ⟨Nat.zero_le _, Nat.zero_le _⟩ (fun H locs hP hD hS => ?_)
            show W p l e ({ frames := d + 1 + 1, cells := 0, slots := 0, locals := 25 * (d + 1) + 60 } : Room) s m args below meth c H locs 0 0 Q0 (F0 m 47 ls [.int u24])
            refine lv_if_le (tgt := 69) hx hb dX8_goOn_47 (by decide) (fun c26 => ?_) (fun c26 => ?_)
            · skip
              have h := (if_pos c26).symm.trans h
              exact J69_5 (v_t_length, v_t_longest) _ _ _ h hP hD hS (lv_sub hl [1, 2, 3, 4, 0] rfl)
            · skip
              have h := (if_neg c26).symm.trans h
              refine lv_aload_n hx hb dX8_goOn_50 rfl (lv_at hl 1 rfl) ?_
              refine va_get (own := RX8) (ci := 7) (v := .ref q_t_path) (C := RX8) (T := TX8) (N := 3) hx hb hts iX8 hown hK hP 0 rfl rfl 0 (by decide) k9 (fun _ h9 => h9) rfl dX8_goOn_51 ?_
              refine lv_iconst (v := 0) hx hb dX8_goOn_54 (by decide) ?_
              refine lv_aload_n hx hb dX8_goOn_55 rfl (lv_at hl 1 rfl) ?_
              refine va_get (own := RX8) (ci := 7) (v := .ref q_t_longest) (C := RX8) (T := TX8) (N := 3) hx hb hts iX8 hown hK hP 0 rfl rfl 1 (by decide) k15 (fun _ h9 => h9) rfl dX8_goOn_56 ?_
              refine lv_iconst (v := 0) hx hb dX8_goOn_59 (by decide) ?_
              refine lv_iload_n hx hb dX8_goOn_60 rfl (lv_at hl 3 rfl) ?_
              obtain ⟨g27, h⟩ := gd_of h
              refine va_copyi (own := RX8) hx hb (hml.trans hl.1.symm) hown (hts (.methodLink RX8 44 arraycopyName) (by decide +kernel)) (hts (.native arraycopyName) (by decide +kernel)) (hts (.static arraycopyName) (by decide +kernel)) (hts (.initialized "java/lang/System") (by decide +kernel)) hK hP hD hS 1 2 0 0 (ty := .int) rfl rfl rfl rfl rfl (by decide) (by decide) (cpok_nn g27) (cpok_le g27) (cpok_le g27) (fun _ _ => rfl) (Nat.le_of_ble_eq_true rfl) (Nat.le_trans (m := 60) (Nat.le_of_ble_eq_true (by decide +kernel)) (by show 60 ≤ 25 * (d + 1) + 60; omega)) dX8_goOn_61 (fun H locs hP hD hS => ?_)
              have hP : va_P D vwCl [(q_t, .inr (7, [.ref q_t_path, .ref q_t_longest, .int v_t_length])), (q_t_path, .inl (cI, 6, .inl v_t_path)), (q_t_longest, .inl (cI, 6, .inl (va_cpy v_t_path v_t_longest (0 : Int32).toNatClampNeg (0 : Int32).toNatClampNeg (x2 : Int32).toNatClampNeg))), (q_p0, .inr (1, [.ref q_p0_sums])), (q_p0_sums, .inl (cI, 36, .inl v_p0_sums))] H := hP
              have hD : va_D A0 [(q_t, .inr (7, [.ref q_t_path, .ref q_t_longest, .int v_t_length])), (q_t_path, .inl (cI, 6, .inl v_t_path)), (q_t_longest, .inl (cI, 6, .inl (va_cpy v_t_path v_t_longest (0 : Int32).toNatClampNeg (0 : Int32).toNatClampNeg (x2 : Int32).toNatClampNeg))), (q_p0, .inr (1, [.ref q_p0_sums])), (q_p0_sums, .inl (cI, 36, .inl v_p0_sums))] := hD
              refine lv_aload_n hx hb dX8_goOn_64 rfl (lv_at hl 1 rfl) ?_
              refine lv_iload_n hx hb dX8_goOn_65 rfl (lv_at hl 3 rfl) ?_
              refine va_put (D := D) (own := RX8) (ci := 7) (v := .int x2) (ty := .int) (C := RX8) (T := TX8) (N := 3) hx hb hts iX8 tyX8 tyX8_ok nmX8 hown hK hP hD hS 0 rfl rfl 2 (by decide) k18 (fun _ h9 => h9) rfl (by decide +kernel) rfl rfl (Nat.le_of_ble_eq_true rfl) dX8_goOn_66 (fun H locs hP hD hS => ?_)
              have hP : va_P D vwCl [(q_t, .inr (7, [.ref q_t_path, .ref q_t_longest, .int x2])), (q_t_path, .inl (cI, 6, .inl v_t_path)), (q_t_longest, .inl (cI, 6, .inl (va_cpy v_t_path v_t_longest (0 : Int32).toNatClampNeg (0 : Int32).toNatClampNeg (x2 : Int32).toNatClampNeg))), (q_p0, .inr (1, [.ref q_p0_sums])), (q_p0_sums, .inl (cI, 36, .inl v_p0_sums))] H := hP
              have hD : va_D A0 [(q_t, .inr (7, [.ref q_t_path, .ref q_t_longest, .int x2])), (q_t_path, .inl (cI, 6, .inl v_t_path)), (q_t_longest, .inl (cI, 6, .inl (va_cpy v_t_path v_t_longest (0 : Int32).toNatClampNeg (0 : Int32).toNatClampNeg (x2 : Int32).toNatClampNeg))), (q_p0, .inr (1, [.ref q_p0_sums])), (q_p0_sums, .inl (cI, 36, .inl v_p0_sums))] := hD
              exact J69_5 (x2, (va_cpy v_t_path v_t_longest (0 : Int32).toNatClampNeg (0 : Int32).toNatClampNeg (x2 : Int32).toNatClampNeg)) _ _ _ h hP hD hS (lv_sub hl [1, 2, 3, 4, 0] rfl)
      · skip
        have h := (if_neg c2).symm.trans h
        obtain rfl := Option.some.inj h
        exact rt_v hA0 hQ0 hx hb hr hlocks hP hS dX8_goOn_11
def fX8_search_X7_35  (a3 : Int32 × (Nat → Int32) × (Nat → Int32)) : Option (Int32 × (Nat → Int32) × (Nat → Int32)) :=
  some (a3.1, a3.2.1, a3.2.2)
def fX8_search_L7 (v_p0_sums : Nat → Int32) (z1 : Int32 × Int32 × (Nat → Int32) × (Nat → Int32)) : Option ((Int32 × Int32 × (Nat → Int32) × (Nat → Int32)) ⊕ (Int32 × (Nat → Int32) × (Nat → Int32))) :=
  if 6 ≤ z1.1 then (some (Sum.inr (z1.2.1, z1.2.2.1, z1.2.2.2))) else ((fX8_goOn 8 z1.2.1 (upd z1.2.2.1 (0 : Int32).toNatClampNeg z1.1) z1.2.2.2 v_p0_sums 1 (1 <<< (z1.1 &&& 31))).bind (fun u7 => some (Sum.inl ((z1.1 + 1), u7.1, u7.2.1, u7.2.2))))
def fX8_search (v_t_length : Int32) (v_t_path : Nat → Int32) (v_t_longest : Nat → Int32) (v_p0_sums : Nat → Int32) : Option (Int32 × (Nat → Int32) × (Nat → Int32)) :=
  (iter (fX8_search_L7 v_p0_sums) FU (0, 0, v_t_path, v_t_longest)).bind (fX8_search_X7_35)
set_option maxHeartbeats 4000000 in
set_option maxRecDepth 100000 in
theorem c_X8_search (l : Launch) (D : va_G) (cI cJ : ClassId) (q_t q_t_path q_t_longest q_p0 q_p0_sums : Nat) (v_t_length : Int32) (v_t_path : Nat → Int32) (v_t_longest : Nat → Int32) (v_p0_sums : Nat → Int32) (z : Int32 × (Nat → Int32) × (Nat → Int32)) (h : fX8_search v_t_length v_t_path v_t_longest v_p0_sums = some z) : Met l yX8_search wsX8_search ({ frames := 10, cells := 0, slots := 0, locals := 285 } : Room) (va_Pc [.ref q_t, .ref q_p0] (preG D cI cJ [(q_t, .inr (7, [.ref q_t_path, .ref q_t_longest, .int v_t_length])), (q_t_path, .inl (cI, 6, .inl v_t_path)), (q_t_longest, .inl (cI, 6, .inl v_t_longest)), (q_p0, .inr (1, [.ref q_p0_sums])), (q_p0_sums, .inl (cI, 36, .inl v_p0_sums))])) (QG D [(q_t, .inr (7, [.ref q_t_path, .ref q_t_longest, .int v_t_length])), (q_t_path, .inl (cI, 6, .inl v_t_path)), (q_t_longest, .inl (cI, 6, .inl v_t_longest)), (q_p0, .inr (1, [.ref q_p0_sums])), (q_p0_sums, .inl (cI, 36, .inl v_p0_sums))] [(q_t, .inr (7, [.ref q_t_path, .ref q_t_longest, .int z.1])), (q_t_path, .inl (cI, 6, .inl z.2.1)), (q_t_longest, .inl (cI, 6, .inl z.2.2)), (q_p0, .inr (1, [.ref q_p0_sums])), (q_p0_sums, .inl (cI, 36, .inl v_p0_sums))] none) 0 0 (fr [(q_t, .inr (7, [.ref q_t_path, .ref q_t_longest, .int v_t_length])), (q_t_path, .inl (cI, 6, .inl v_t_path)), (q_t_longest, .inl (cI, 6, .inl v_t_longest)), (q_p0, .inr (1, [.ref q_p0_sums])), (q_p0_sums, .inl (cI, 36, .inl v_p0_sums))]) := by
  refine Met.ofW (cc := cX8_search) (maxL := 3) (ret := none) (by decide) rfl ?_
  intro p e s m args below meth c s₁ B hml hv
  obtain ⟨hargs, hP, hK, hN, hD0⟩ := hv
  have hx := B.exec
  have hb := B.bytes
  have hr := B.returns
  have hts := atoms_spec (ws := wsX8_search) B.pre
  have hown : s.vm.findClass RX8 = some m.cls := findClass_of_methodNamed B.named
  have hlocks := B.notSynchronized
  have iX8 : ∀ w ∈ wsX80, w ∈ wsX8_search := by decide +kernel
  have k9 := hts (.fieldLink RX8 9 "PressedFerns$RingSearch" "path" "[I") (by decide +kernel)
  have k18 := hts (.fieldLink RX8 18 "PressedFerns$RingSearch" "length" "I") (by decide +kernel)
  have hD := fr_D hD0
  have hS : va_S (fr [(q_t, .inr (7, [.ref q_t_path, .ref q_t_longest, .int v_t_length])), (q_t_path, .inl (cI, 6, .inl v_t_path)), (q_t_longest, .inl (cI, 6, .inl v_t_longest)), (q_p0, .inr (1, [.ref q_p0_sums])), (q_p0_sums, .inl (cI, 36, .inl v_p0_sums))]) s.heap s.heap [] := va_S.rf
  have hl := lv_entry ([.ref q_t, .ref q_p0]) (n := 3) (Nat.le_of_ble_eq_true rfl)
  refine W.eq (g2 := F0 m 0 ((lg_sl ([.ref q_t, .ref q_p0]) ++ List.replicate (3 - (lg_sl ([.ref q_t, .ref q_p0])).length) Slot.unset).toArray) []) (by rw [hargs, lg_entry_eq]) ?_
  generalize (lg_sl ([.ref q_t, .ref q_p0]) ++ List.replicate (3 - (lg_sl ([.ref q_t, .ref q_p0])).length) Slot.unset).toArray = ls at hl ⊢
  have hl : lv_has ls 3 [(0, .ref q_t), (1, .ref q_p0)] := hl
  show W p l e ({ frames := 10, cells := 0, slots := 0, locals := 285 } : Room) s m args below meth c s.heap [] 0 0 (MQ below (QG D [(q_t, .inr (7, [.ref q_t_path, .ref q_t_longest, .int v_t_length])), (q_t_path, .inl (cI, 6, .inl v_t_path)), (q_t_longest, .inl (cI, 6, .inl v_t_longest)), (q_p0, .inr (1, [.ref q_p0_sums])), (q_p0_sums, .inl (cI, 36, .inl v_p0_sums))] [(q_t, .inr (7, [.ref q_t_path, .ref q_t_longest, .int z.1])), (q_t_path, .inl (cI, 6, .inl z.2.1)), (q_t_longest, .inl (cI, 6, .inl z.2.2)), (q_p0, .inr (1, [.ref q_p0_sums])), (q_p0_sums, .inl (cI, 36, .inl v_p0_sums))] none) args s 0 0 (fr [(q_t, .inr (7, [.ref q_t_path, .ref q_t_longest, .int v_t_length])), (q_t_path, .inl (cI, 6, .inl v_t_path)), (q_t_longest, .inl (cI, 6, .inl v_t_longest)), (q_p0, .inr (1, [.ref q_p0_sums])), (q_p0_sums, .inl (cI, 36, .inl v_p0_sums))])) (F0 m 0 ls [])
  generalize hQ0 : (MQ below (QG D [(q_t, .inr (7, [.ref q_t_path, .ref q_t_longest, .int v_t_length])), (q_t_path, .inl (cI, 6, .inl v_t_path)), (q_t_longest, .inl (cI, 6, .inl v_t_longest)), (q_p0, .inr (1, [.ref q_p0_sums])), (q_p0_sums, .inl (cI, 36, .inl v_p0_sums))] [(q_t, .inr (7, [.ref q_t_path, .ref q_t_longest, .int z.1])), (q_t_path, .inl (cI, 6, .inl z.2.1)), (q_t_longest, .inl (cI, 6, .inl z.2.2)), (q_p0, .inr (1, [.ref q_p0_sums])), (q_p0_sums, .inl (cI, 36, .inl v_p0_sums))] none) args s 0 0 (fr [(q_t, .inr (7, [.ref q_t_path, .ref q_t_longest, .int v_t_length])), (q_t_path, .inl (cI, 6, .inl v_t_path)), (q_t_longest, .inl (cI, 6, .inl v_t_longest)), (q_p0, .inr (1, [.ref q_p0_sums])), (q_p0_sums, .inl (cI, 36, .inl v_p0_sums))])) = Q0
  generalize hA0 : fr [(q_t, .inr (7, [.ref q_t_path, .ref q_t_longest, .int v_t_length])), (q_t_path, .inl (cI, 6, .inl v_t_path)), (q_t_longest, .inl (cI, 6, .inl v_t_longest)), (q_p0, .inr (1, [.ref q_p0_sums])), (q_p0_sums, .inl (cI, 36, .inl v_p0_sums))] = A0 at hD hS
  unfold fX8_search at h
  refine lv_aload_n hx hb dX8_search_0 rfl (lv_at hl 0 rfl) ?_
  refine lv_iconst (v := 0) hx hb dX8_search_1 (by decide) ?_
  refine va_put (D := D) (own := RX8) (ci := 7) (v := .int 0) (ty := .int) (C := RX8) (T := TX8) (N := 3) hx hb hts iX8 tyX8 tyX8_ok nmX8 hown hK hP hD hS 0 rfl rfl 2 (by decide) k18 (fun _ h9 => h9) rfl (by decide +kernel) rfl rfl (Nat.le_of_ble_eq_true rfl) dX8_search_2 (fun H locs hP hD hS => ?_)
  have hP : va_P D vwCl [(q_t, .inr (7, [.ref q_t_path, .ref q_t_longest, .int 0])), (q_t_path, .inl (cI, 6, .inl v_t_path)), (q_t_longest, .inl (cI, 6, .inl v_t_longest)), (q_p0, .inr (1, [.ref q_p0_sums])), (q_p0_sums, .inl (cI, 36, .inl v_p0_sums))] H := hP
  have hD : va_D A0 [(q_t, .inr (7, [.ref q_t_path, .ref q_t_longest, .int 0])), (q_t_path, .inl (cI, 6, .inl v_t_path)), (q_t_longest, .inl (cI, 6, .inl v_t_longest)), (q_p0, .inr (1, [.ref q_p0_sums])), (q_p0_sums, .inl (cI, 36, .inl v_p0_sums))] := hD
  refine lv_iconst (v := 0) hx hb dX8_search_5 (by decide) ?_
  refine lv_istore_n (lv' := [(2, .int 0), (0, .ref q_t), (1, .ref q_p0)]) hx hb dX8_search_6 rfl hl (by decide) rfl (fun ls hl => ?_)
  obtain ⟨e2, he_e2, hc_e2⟩ := bd_of h
  have X35_4 : ∀ (a3 : Int32 × (Nat → Int32) × (Nat → Int32)) (H : Heap) (locs : List Loc) (ls : Array Slot), fX8_search_X7_35 a3 = some z → va_P D vwCl [(q_t, .inr (7, [.ref q_t_path, .ref q_t_longest, .int a3.1])), (q_t_path, .inl (cI, 6, .inl a3.2.1)), (q_t_longest, .inl (cI, 6, .inl a3.2.2)), (q_p0, .inr (1, [.ref q_p0_sums])), (q_p0_sums, .inl (cI, 36, .inl v_p0_sums))] H → va_D A0 [(q_t, .inr (7, [.ref q_t_path, .ref q_t_longest, .int a3.1])), (q_t_path, .inl (cI, 6, .inl a3.2.1)), (q_t_longest, .inl (cI, 6, .inl a3.2.2)), (q_p0, .inr (1, [.ref q_p0_sums])), (q_p0_sums, .inl (cI, 36, .inl v_p0_sums))] → va_S A0 s.heap H locs → lv_has ls 3 [] → W p l e ({ frames := 10, cells := 0, slots := 0, locals := 285 } : Room) s m args below meth c H locs 0 0 Q0 (F0 m 35 ls []) := by
    intro a3 H locs ls h hP hD hS hl
    unfold fX8_search_X7_35 at h
    obtain rfl := Option.some.inj h
    exact rt_v hA0 hQ0 hx hb hr hlocks hP hS dX8_search_35
  have L7_5 : ∀ (n : Nat) (z1 : Int32 × Int32 × (Nat → Int32) × (Nat → Int32)) (H : Heap) (locs : List Loc) (ls : Array Slot), iter (fX8_search_L7 v_p0_sums) n z1 = some e2 → va_P D vwCl [(q_t, .inr (7, [.ref q_t_path, .ref q_t_longest, .int z1.2.1])), (q_t_path, .inl (cI, 6, .inl z1.2.2.1)), (q_t_longest, .inl (cI, 6, .inl z1.2.2.2)), (q_p0, .inr (1, [.ref q_p0_sums])), (q_p0_sums, .inl (cI, 36, .inl v_p0_sums))] H → va_D A0 [(q_t, .inr (7, [.ref q_t_path, .ref q_t_longest, .int z1.2.1])), (q_t_path, .inl (cI, 6, .inl z1.2.2.1)), (q_t_longest, .inl (cI, 6, .inl z1.2.2.2)), (q_p0, .inr (1, [.ref q_p0_sums])), (q_p0_sums, .inl (cI, 36, .inl v_p0_sums))] → va_S A0 s.heap H locs → lv_has ls 3 [(0, .ref q_t), (1, .ref q_p0), (2, .int z1.1)] → W p l e ({ frames := 10, cells := 0, slots := 0, locals := 285 } : Room) s m args below meth c H locs 0 0 Q0 (F0 m 7 ls []) := by
    intro n
    induction n with
    | zero => exact fun _ _ _ _ h => (iter_z h).elim
    | succ n ih =>
      intro z1 H locs ls h hP hD hS hl
      obtain ⟨r_e2, h, hn_e2⟩ := iter_s h
      unfold fX8_search_L7 at h
      refine lv_iload_n hx hb dX8_search_7 rfl (lv_at hl 2 rfl) ?_
      refine lv_bipush (v := 6) hx hb dX8_search_8 (by decide) ?_
      refine lv_icmp_ge (tgt := 35) hx hb dX8_search_10 (by decide) (fun c6 => ?_) (fun c6 => ?_)
      · skip
        have h := (if_pos c6).symm.trans h
        obtain rfl := Option.some.inj h
        obtain rfl := Option.some.inj hn_e2
        exact X35_4 (z1.2.1, z1.2.2.1, z1.2.2.2) _ _ _ hc_e2 hP hD hS (lv_sub hl [] rfl)
      · skip
        have h := (if_neg c6).symm.trans h
        refine lv_aload_n hx hb dX8_search_13 rfl (lv_at hl 0 rfl) ?_
        refine va_get (own := RX8) (ci := 7) (v := .ref q_t_path) (C := RX8) (T := TX8) (N := 3) hx hb hts iX8 hown hK hP 0 rfl rfl 0 (by decide) k9 (fun _ h9 => h9) rfl dX8_search_14 ?_
        refine lv_iconst (v := 0) hx hb dX8_search_17 (by decide) ?_
        refine lv_iload_n hx hb dX8_search_18 rfl (lv_at hl 2 rfl) ?_
        refine va_iast hx hb hK hP hD hS 1 0 rfl rfl (inb_of (by decide)) dX8_search_19 (fun H locs hP hD hS => ?_)
        have hP : va_P D vwCl [(q_t, .inr (7, [.ref q_t_path, .ref q_t_longest, .int z1.2.1])), (q_t_path, .inl (cI, 6, .inl (upd z1.2.2.1 (0 : Int32).toNatClampNeg z1.1))), (q_t_longest, .inl (cI, 6, .inl z1.2.2.2)), (q_p0, .inr (1, [.ref q_p0_sums])), (q_p0_sums, .inl (cI, 36, .inl v_p0_sums))] H := hP
        have hD : va_D A0 [(q_t, .inr (7, [.ref q_t_path, .ref q_t_longest, .int z1.2.1])), (q_t_path, .inl (cI, 6, .inl (upd z1.2.2.1 (0 : Int32).toNatClampNeg z1.1))), (q_t_longest, .inl (cI, 6, .inl z1.2.2.2)), (q_p0, .inr (1, [.ref q_p0_sums])), (q_p0_sums, .inl (cI, 36, .inl v_p0_sums))] := hD
        refine lv_aload_n hx hb dX8_search_20 rfl (lv_at hl 0 rfl) ?_
        refine lv_aload_n hx hb dX8_search_21 rfl (lv_at hl 1 rfl) ?_
        refine lv_iconst (v := 1) hx hb dX8_search_22 (by decide) ?_
        refine lv_iconst (v := 1) hx hb dX8_search_23 (by decide) ?_
        refine lv_iload_n hx hb dX8_search_24 rfl (lv_at hl 2 rfl) ?_
        refine lv_ishl hx hb dX8_search_25 ?_
        obtain ⟨u7, g8, h⟩ := bd_of h
        refine cl_V [(q_t, .inr (7, [.ref q_t_path, .ref q_t_longest, .int u7.1])), (q_t_path, .inl (cI, 6, .inl u7.2.1)), (q_t_longest, .inl (cI, 6, .inl u7.2.2)), (q_p0, .inr (1, [.ref q_p0_sums])), (q_p0_sums, .inl (cI, 36, .inl v_p0_sums))] (As := [.ref q_p0, .int 1, .int (1 <<< (z1.1 &&& 31))]) (rest := []) (rv := none) (c_X8_goOn l D cI cJ 8 q_t q_t_path q_t_longest q_p0 q_p0_sums z1.2.1 (upd z1.2.2.1 (0 : Int32).toNatClampNeg z1.1) z1.2.2.2 v_p0_sums 1 (1 <<< (z1.1 &&& 31)) u7 g8) ⟨hx, hb, hml, hown, hts⟩ (cwV 3 hts gX8_search_X8_goOn rfl rfl rfl (by decide +kernel) ⟨(Nat.le_of_ble_eq_true rfl), (Nat.le_of_ble_eq_true rfl)⟩) hK hN hP hD hS [0, 1, 2, 3, 4] rfl (by decide) rfl rfl rfl (q0 := 0) (ci := 7) rfl rfl rfl rfl hl.1 rfl (Nat.le_of_ble_eq_true rfl) dX8_search_26 ⟨Nat.zero_le _, Nat.zero_le _⟩ (fun H locs hP hD hS => ?_)
        show W p l e ({ frames := 10, cells := 0, slots := 0, locals := 285 } : Room) s m args below meth c H locs 0 0 Q0 (F0 m 29 ls [])
        refine lv_iinc (v := (z1.1 + 1)) (lv' := [(2, .int (z1.1 + 1)), (0, .ref q_t), (1, .ref q_p0)]) hx hb dX8_search_29 hl (k := 2) rfl rfl (by decide) rfl (fun ls hl => ?_)
        refine lv_goto (tgt := 7) hx hb dX8_search_32 (by decide) ?_
        obtain rfl := Option.some.inj h
        exact ih ((z1.1 + 1), u7.1, u7.2.1, u7.2.2) _ _ _ hn_e2 hP hD hS (lv_sub hl [1, 2, 0] rfl)
  exact L7_5 FU (0, 0, v_t_path, v_t_longest) _ _ _ he_e2 hP hD hS (lv_sub hl [1, 2, 0] rfl)
def fX8_isFound (v_t_length : Int32) : Int32 :=
  if v_t_length ≤ 0 then (0) else (1)
set_option maxHeartbeats 4000000 in
set_option maxRecDepth 100000 in
theorem c_X8_isFound (l : Launch) (D : va_G) (cI cJ : ClassId) (q_t q_t_path q_t_longest : Nat) (v_t_length : Int32) : Met l yX8_isFound wsX8_isFound ({ frames := 0, cells := 0, slots := 0, locals := 0 } : Room) (va_Pc [.ref q_t] (preG D cI cJ [(q_t, .inr (7, [.ref q_t_path, .ref q_t_longest, .int v_t_length]))])) (QG D [(q_t, .inr (7, [.ref q_t_path, .ref q_t_longest, .int v_t_length]))] [(q_t, .inr (7, [.ref q_t_path, .ref q_t_longest, .int v_t_length]))] (some (.int (fX8_isFound v_t_length)))) 0 0 (fr [(q_t, .inr (7, [.ref q_t_path, .ref q_t_longest, .int v_t_length]))]) := by
  generalize h : fX8_isFound v_t_length = z
  refine Met.ofW (cc := cX8_isFound) (maxL := 1) (ret := (some .boolean)) (by decide) rfl ?_
  intro p e s m args below meth c s₁ B hml hv
  obtain ⟨hargs, hP, hK, hN, hD0⟩ := hv
  have hx := B.exec
  have hb := B.bytes
  have hr := B.returns
  have hts := atoms_spec (ws := wsX8_isFound) B.pre
  have hown : s.vm.findClass RX8 = some m.cls := findClass_of_methodNamed B.named
  have hlocks := B.notSynchronized
  have iX8 : ∀ w ∈ wsX80, w ∈ wsX8_isFound := by decide +kernel
  have k18 := hts (.fieldLink RX8 18 "PressedFerns$RingSearch" "length" "I") (by decide +kernel)
  have hD := fr_D hD0
  have hS : va_S (fr [(q_t, .inr (7, [.ref q_t_path, .ref q_t_longest, .int v_t_length]))]) s.heap s.heap [] := va_S.rf
  have hl := lv_entry ([.ref q_t]) (n := 1) (Nat.le_of_ble_eq_true rfl)
  refine W.eq (g2 := F0 m 0 ((lg_sl ([.ref q_t]) ++ List.replicate (1 - (lg_sl ([.ref q_t])).length) Slot.unset).toArray) []) (by rw [hargs, lg_entry_eq]) ?_
  generalize (lg_sl ([.ref q_t]) ++ List.replicate (1 - (lg_sl ([.ref q_t])).length) Slot.unset).toArray = ls at hl ⊢
  have hl : lv_has ls 1 [(0, .ref q_t)] := hl
  show W p l e ({ frames := 0, cells := 0, slots := 0, locals := 0 } : Room) s m args below meth c s.heap [] 0 0 (MQ below (QG D [(q_t, .inr (7, [.ref q_t_path, .ref q_t_longest, .int v_t_length]))] [(q_t, .inr (7, [.ref q_t_path, .ref q_t_longest, .int v_t_length]))] (some (.int z))) args s 0 0 (fr [(q_t, .inr (7, [.ref q_t_path, .ref q_t_longest, .int v_t_length]))])) (F0 m 0 ls [])
  generalize hQ0 : (MQ below (QG D [(q_t, .inr (7, [.ref q_t_path, .ref q_t_longest, .int v_t_length]))] [(q_t, .inr (7, [.ref q_t_path, .ref q_t_longest, .int v_t_length]))] (some (.int z))) args s 0 0 (fr [(q_t, .inr (7, [.ref q_t_path, .ref q_t_longest, .int v_t_length]))])) = Q0
  generalize hA0 : fr [(q_t, .inr (7, [.ref q_t_path, .ref q_t_longest, .int v_t_length]))] = A0 at hD hS
  unfold fX8_isFound at h
  refine lv_aload_n hx hb dX8_isFound_0 rfl (lv_at hl 0 rfl) ?_
  refine va_get (own := RX8) (ci := 7) (v := .int v_t_length) (C := RX8) (T := TX8) (N := 3) hx hb hts iX8 hown hK hP 0 rfl rfl 2 (by decide) k18 (fun _ h9 => h9) rfl dX8_isFound_1 ?_
  refine lv_if_le (tgt := 11) hx hb dX8_isFound_4 (by decide) (fun c1 => ?_) (fun c1 => ?_)
  · skip
    have h := (if_pos c1).symm.trans h
    refine lv_iconst (v := 0) hx hb dX8_isFound_11 (by decide) ?_
    subst h
    exact rt_z hA0 hQ0 hx hb hr hlocks rfl hP hS dX8_isFound_12
  · skip
    have h := (if_neg c1).symm.trans h
    refine lv_iconst (v := 1) hx hb dX8_isFound_7 (by decide) ?_
    refine lv_goto (tgt := 12) hx hb dX8_isFound_8 (by decide) ?_
    subst h
    exact rt_z hA0 hQ0 hx hb hr hlocks rfl hP hS dX8_isFound_12
theorem zb_X8_isFound (v_t_length : Int32) : narrow .boolean (.int (fX8_isFound v_t_length)) = .int (fX8_isFound v_t_length) := by
  unfold fX8_isFound
  repeat' split
  all_goals rfl
def fX8_behind (v_t_length : Int32) (v_t_longest : Nat → Int32) (x1 : Int32) : Option (Int32) :=
  if v_t_length ≤ (x1 + 1) then (some (v_t_longest (0 : Int32).toNatClampNeg)) else (gd (inb (x1 + 1) 6) (some (v_t_longest (x1 + 1).toNatClampNeg)))
set_option maxHeartbeats 4000000 in
set_option maxRecDepth 100000 in
theorem c_X8_behind (l : Launch) (D : va_G) (cI cJ : ClassId) (q_t q_t_path q_t_longest : Nat) (v_t_length : Int32) (v_t_longest : Nat → Int32) (x1 : Int32) (z : Int32) (h : fX8_behind v_t_length v_t_longest x1 = some z) : Met l yX8_behind wsX8_behind ({ frames := 0, cells := 0, slots := 0, locals := 0 } : Room) (va_Pc [.ref q_t, .int x1] (preG D cI cJ [(q_t, .inr (7, [.ref q_t_path, .ref q_t_longest, .int v_t_length])), (q_t_longest, .inl (cI, 6, .inl v_t_longest))])) (QG D [(q_t, .inr (7, [.ref q_t_path, .ref q_t_longest, .int v_t_length])), (q_t_longest, .inl (cI, 6, .inl v_t_longest))] [(q_t, .inr (7, [.ref q_t_path, .ref q_t_longest, .int v_t_length])), (q_t_longest, .inl (cI, 6, .inl v_t_longest))] (some (.int z))) 0 0 (fr [(q_t, .inr (7, [.ref q_t_path, .ref q_t_longest, .int v_t_length])), (q_t_longest, .inl (cI, 6, .inl v_t_longest))]) := by
  refine Met.ofW (cc := cX8_behind) (maxL := 2) (ret := (some .int)) (by decide) rfl ?_
  intro p e s m args below meth c s₁ B hml hv
  obtain ⟨hargs, hP, hK, hN, hD0⟩ := hv
  have hx := B.exec
  have hb := B.bytes
  have hr := B.returns
  have hts := atoms_spec (ws := wsX8_behind) B.pre
  have hown : s.vm.findClass RX8 = some m.cls := findClass_of_methodNamed B.named
  have hlocks := B.notSynchronized
  have iX8 : ∀ w ∈ wsX80, w ∈ wsX8_behind := by decide +kernel
  have k15 := hts (.fieldLink RX8 15 "PressedFerns$RingSearch" "longest" "[I") (by decide +kernel)
  have k18 := hts (.fieldLink RX8 18 "PressedFerns$RingSearch" "length" "I") (by decide +kernel)
  have hD := fr_D hD0
  have hS : va_S (fr [(q_t, .inr (7, [.ref q_t_path, .ref q_t_longest, .int v_t_length])), (q_t_longest, .inl (cI, 6, .inl v_t_longest))]) s.heap s.heap [] := va_S.rf
  have hl := lv_entry ([.ref q_t, .int x1]) (n := 2) (Nat.le_of_ble_eq_true rfl)
  refine W.eq (g2 := F0 m 0 ((lg_sl ([.ref q_t, .int x1]) ++ List.replicate (2 - (lg_sl ([.ref q_t, .int x1])).length) Slot.unset).toArray) []) (by rw [hargs, lg_entry_eq]) ?_
  generalize (lg_sl ([.ref q_t, .int x1]) ++ List.replicate (2 - (lg_sl ([.ref q_t, .int x1])).length) Slot.unset).toArray = ls at hl ⊢
  have hl : lv_has ls 2 [(0, .ref q_t), (1, .int x1)] := hl
  show W p l e ({ frames := 0, cells := 0, slots := 0, locals := 0 } : Room) s m args below meth c s.heap [] 0 0 (MQ below (QG D [(q_t, .inr (7, [.ref q_t_path, .ref q_t_longest, .int v_t_length])), (q_t_longest, .inl (cI, 6, .inl v_t_longest))] [(q_t, .inr (7, [.ref q_t_path, .ref q_t_longest, .int v_t_length])), (q_t_longest, .inl (cI, 6, .inl v_t_longest))] (some (.int z))) args s 0 0 (fr [(q_t, .inr (7, [.ref q_t_path, .ref q_t_longest, .int v_t_length])), (q_t_longest, .inl (cI, 6, .inl v_t_longest))])) (F0 m 0 ls [])
  generalize hQ0 : (MQ below (QG D [(q_t, .inr (7, [.ref q_t_path, .ref q_t_longest, .int v_t_length])), (q_t_longest, .inl (cI, 6, .inl v_t_longest))] [(q_t, .inr (7, [.ref q_t_path, .ref q_t_longest, .int v_t_length])), (q_t_longest, .inl (cI, 6, .inl v_t_longest))] (some (.int z))) args s 0 0 (fr [(q_t, .inr (7, [.ref q_t_path, .ref q_t_longest, .int v_t_length])), (q_t_longest, .inl (cI, 6, .inl v_t_longest))])) = Q0
  generalize hA0 : fr [(q_t, .inr (7, [.ref q_t_path, .ref q_t_longest, .int v_t_length])), (q_t_longest, .inl (cI, 6, .inl v_t_longest))] = A0 at hD hS
  unfold fX8_behind at h
  refine lv_iload_n hx hb dX8_behind_0 rfl (lv_at hl 1 rfl) ?_
  refine lv_iconst (v := 1) hx hb dX8_behind_1 (by decide) ?_
  refine lv_iadd hx hb dX8_behind_2 ?_
  refine lv_aload_n hx hb dX8_behind_3 rfl (lv_at hl 0 rfl) ?_
  refine va_get (own := RX8) (ci := 7) (v := .int v_t_length) (C := RX8) (T := TX8) (N := 3) hx hb hts iX8 hown hK hP 0 rfl rfl 2 (by decide) k18 (fun _ h9 => h9) rfl dX8_behind_4 ?_
  refine lv_icmp_ge (tgt := 21) hx hb dX8_behind_7 (by decide) (fun c1 => ?_) (fun c1 => ?_)
  · skip
    have h := (if_pos c1).symm.trans h
    refine lv_aload_n hx hb dX8_behind_21 rfl (lv_at hl 0 rfl) ?_
    refine va_get (own := RX8) (ci := 7) (v := .ref q_t_longest) (C := RX8) (T := TX8) (N := 3) hx hb hts iX8 hown hK hP 0 rfl rfl 1 (by decide) k15 (fun _ h9 => h9) rfl dX8_behind_22 ?_
    refine lv_iconst (v := 0) hx hb dX8_behind_25 (by decide) ?_
    refine va_iald hx hb hK hP 1 0 rfl rfl (inb_of (by decide)) dX8_behind_26 ?_
    obtain rfl := Option.some.inj h
    exact rt_i hA0 hQ0 hx hb hr hlocks hP hS dX8_behind_27
  · skip
    have h := (if_neg c1).symm.trans h
    refine lv_aload_n hx hb dX8_behind_10 rfl (lv_at hl 0 rfl) ?_
    refine va_get (own := RX8) (ci := 7) (v := .ref q_t_longest) (C := RX8) (T := TX8) (N := 3) hx hb hts iX8 hown hK hP 0 rfl rfl 1 (by decide) k15 (fun _ h9 => h9) rfl dX8_behind_11 ?_
    refine lv_iload_n hx hb dX8_behind_14 rfl (lv_at hl 1 rfl) ?_
    refine lv_iconst (v := 1) hx hb dX8_behind_15 (by decide) ?_
    refine lv_iadd hx hb dX8_behind_16 ?_
    obtain ⟨g2, h⟩ := gd_of h
    refine va_iald hx hb hK hP 1 0 rfl rfl (inb_of g2) dX8_behind_17 ?_
    refine lv_goto (tgt := 27) hx hb dX8_behind_18 (by decide) ?_
    obtain rfl := Option.some.inj h
    exact rt_i hA0 hQ0 hx hb hr hlocks hP hS dX8_behind_27
def fX8_leastSum_X4_49  (a3 : Int32) : Option (Int32) :=
  some a3
def fX8_leastSum_L4 (v_t_length : Int32) (v_t_longest : Nat → Int32) (v_p0_sums : Nat → Int32) (z1 : Int32 × Int32) : Option ((Int32 × Int32) ⊕ (Int32)) :=
  if v_t_length ≤ z1.2 then (some (Sum.inr z1.1)) else (gd (inb z1.2 6) ((fX8_behind v_t_length v_t_longest z1.2).bind (fun u8 => (fX1_sum v_p0_sums (v_t_longest z1.2.toNatClampNeg) u8).bind (fun u10 => some (Sum.inl ((if z1.1 = (-1) then u10 else (if z1.1 ≤ u10 then z1.1 else u10 : Int32) : Int32), (z1.2 + 1)))))))
def fX8_leastSum (v_t_length : Int32) (v_t_longest : Nat → Int32) (v_p0_sums : Nat → Int32) : Option (Int32) :=
  (iter (fX8_leastSum_L4 v_t_length v_t_longest v_p0_sums) FU ((-1), 0)).bind (fX8_leastSum_X4_49)
set_option maxHeartbeats 4000000 in
set_option maxRecDepth 100000 in
theorem c_X8_leastSum (l : Launch) (D : va_G) (cI cJ : ClassId) (q_t q_t_path q_t_longest q_p0 q_p0_sums : Nat) (v_t_length : Int32) (v_t_longest : Nat → Int32) (v_p0_sums : Nat → Int32) (z : Int32) (h : fX8_leastSum v_t_length v_t_longest v_p0_sums = some z) : Met l yX8_leastSum wsX8_leastSum ({ frames := 1, cells := 0, slots := 0, locals := 22 } : Room) (va_Pc [.ref q_t, .ref q_p0] (preG D cI cJ [(q_t, .inr (7, [.ref q_t_path, .ref q_t_longest, .int v_t_length])), (q_t_longest, .inl (cI, 6, .inl v_t_longest)), (q_p0, .inr (1, [.ref q_p0_sums])), (q_p0_sums, .inl (cI, 36, .inl v_p0_sums))])) (QG D [(q_t, .inr (7, [.ref q_t_path, .ref q_t_longest, .int v_t_length])), (q_t_longest, .inl (cI, 6, .inl v_t_longest)), (q_p0, .inr (1, [.ref q_p0_sums])), (q_p0_sums, .inl (cI, 36, .inl v_p0_sums))] [(q_t, .inr (7, [.ref q_t_path, .ref q_t_longest, .int v_t_length])), (q_t_longest, .inl (cI, 6, .inl v_t_longest)), (q_p0, .inr (1, [.ref q_p0_sums])), (q_p0_sums, .inl (cI, 36, .inl v_p0_sums))] (some (.int z))) 0 0 (fr [(q_t, .inr (7, [.ref q_t_path, .ref q_t_longest, .int v_t_length])), (q_t_longest, .inl (cI, 6, .inl v_t_longest)), (q_p0, .inr (1, [.ref q_p0_sums])), (q_p0_sums, .inl (cI, 36, .inl v_p0_sums))]) := by
  refine Met.ofW (cc := cX8_leastSum) (maxL := 5) (ret := (some .int)) (by decide) rfl ?_
  intro p e s m args below meth c s₁ B hml hv
  obtain ⟨hargs, hP, hK, hN, hD0⟩ := hv
  have hx := B.exec
  have hb := B.bytes
  have hr := B.returns
  have hts := atoms_spec (ws := wsX8_leastSum) B.pre
  have hown : s.vm.findClass RX8 = some m.cls := findClass_of_methodNamed B.named
  have hlocks := B.notSynchronized
  have iX8 : ∀ w ∈ wsX80, w ∈ wsX8_leastSum := by decide +kernel
  have k15 := hts (.fieldLink RX8 15 "PressedFerns$RingSearch" "longest" "[I") (by decide +kernel)
  have k18 := hts (.fieldLink RX8 18 "PressedFerns$RingSearch" "length" "I") (by decide +kernel)
  have hD := fr_D hD0
  have hS : va_S (fr [(q_t, .inr (7, [.ref q_t_path, .ref q_t_longest, .int v_t_length])), (q_t_longest, .inl (cI, 6, .inl v_t_longest)), (q_p0, .inr (1, [.ref q_p0_sums])), (q_p0_sums, .inl (cI, 36, .inl v_p0_sums))]) s.heap s.heap [] := va_S.rf
  have hl := lv_entry ([.ref q_t, .ref q_p0]) (n := 5) (Nat.le_of_ble_eq_true rfl)
  refine W.eq (g2 := F0 m 0 ((lg_sl ([.ref q_t, .ref q_p0]) ++ List.replicate (5 - (lg_sl ([.ref q_t, .ref q_p0])).length) Slot.unset).toArray) []) (by rw [hargs, lg_entry_eq]) ?_
  generalize (lg_sl ([.ref q_t, .ref q_p0]) ++ List.replicate (5 - (lg_sl ([.ref q_t, .ref q_p0])).length) Slot.unset).toArray = ls at hl ⊢
  have hl : lv_has ls 5 [(0, .ref q_t), (1, .ref q_p0)] := hl
  show W p l e ({ frames := 1, cells := 0, slots := 0, locals := 22 } : Room) s m args below meth c s.heap [] 0 0 (MQ below (QG D [(q_t, .inr (7, [.ref q_t_path, .ref q_t_longest, .int v_t_length])), (q_t_longest, .inl (cI, 6, .inl v_t_longest)), (q_p0, .inr (1, [.ref q_p0_sums])), (q_p0_sums, .inl (cI, 36, .inl v_p0_sums))] [(q_t, .inr (7, [.ref q_t_path, .ref q_t_longest, .int v_t_length])), (q_t_longest, .inl (cI, 6, .inl v_t_longest)), (q_p0, .inr (1, [.ref q_p0_sums])), (q_p0_sums, .inl (cI, 36, .inl v_p0_sums))] (some (.int z))) args s 0 0 (fr [(q_t, .inr (7, [.ref q_t_path, .ref q_t_longest, .int v_t_length])), (q_t_longest, .inl (cI, 6, .inl v_t_longest)), (q_p0, .inr (1, [.ref q_p0_sums])), (q_p0_sums, .inl (cI, 36, .inl v_p0_sums))])) (F0 m 0 ls [])
  generalize hQ0 : (MQ below (QG D [(q_t, .inr (7, [.ref q_t_path, .ref q_t_longest, .int v_t_length])), (q_t_longest, .inl (cI, 6, .inl v_t_longest)), (q_p0, .inr (1, [.ref q_p0_sums])), (q_p0_sums, .inl (cI, 36, .inl v_p0_sums))] [(q_t, .inr (7, [.ref q_t_path, .ref q_t_longest, .int v_t_length])), (q_t_longest, .inl (cI, 6, .inl v_t_longest)), (q_p0, .inr (1, [.ref q_p0_sums])), (q_p0_sums, .inl (cI, 36, .inl v_p0_sums))] (some (.int z))) args s 0 0 (fr [(q_t, .inr (7, [.ref q_t_path, .ref q_t_longest, .int v_t_length])), (q_t_longest, .inl (cI, 6, .inl v_t_longest)), (q_p0, .inr (1, [.ref q_p0_sums])), (q_p0_sums, .inl (cI, 36, .inl v_p0_sums))])) = Q0
  generalize hA0 : fr [(q_t, .inr (7, [.ref q_t_path, .ref q_t_longest, .int v_t_length])), (q_t_longest, .inl (cI, 6, .inl v_t_longest)), (q_p0, .inr (1, [.ref q_p0_sums])), (q_p0_sums, .inl (cI, 36, .inl v_p0_sums))] = A0 at hD hS
  unfold fX8_leastSum at h
  refine lv_iconst (v := (-1)) hx hb dX8_leastSum_0 (by decide) ?_
  refine lv_istore_n (lv' := [(2, .int (-1)), (0, .ref q_t), (1, .ref q_p0)]) hx hb dX8_leastSum_1 rfl hl (by decide) rfl (fun ls hl => ?_)
  refine lv_iconst (v := 0) hx hb dX8_leastSum_2 (by decide) ?_
  refine lv_istore_n (lv' := [(3, .int 0), (2, .int (-1)), (0, .ref q_t), (1, .ref q_p0)]) hx hb dX8_leastSum_3 rfl hl (by decide) rfl (fun ls hl => ?_)
  obtain ⟨e2, he_e2, hc_e2⟩ := bd_of h
  have X49_4 : ∀ (a3 : Int32) (H : Heap) (locs : List Loc) (ls : Array Slot), fX8_leastSum_X4_49 a3 = some z → va_P D vwCl [(q_t, .inr (7, [.ref q_t_path, .ref q_t_longest, .int v_t_length])), (q_t_longest, .inl (cI, 6, .inl v_t_longest)), (q_p0, .inr (1, [.ref q_p0_sums])), (q_p0_sums, .inl (cI, 36, .inl v_p0_sums))] H → va_D A0 [(q_t, .inr (7, [.ref q_t_path, .ref q_t_longest, .int v_t_length])), (q_t_longest, .inl (cI, 6, .inl v_t_longest)), (q_p0, .inr (1, [.ref q_p0_sums])), (q_p0_sums, .inl (cI, 36, .inl v_p0_sums))] → va_S A0 s.heap H locs → lv_has ls 5 [(2, .int a3)] → W p l e ({ frames := 1, cells := 0, slots := 0, locals := 22 } : Room) s m args below meth c H locs 0 0 Q0 (F0 m 49 ls []) := by
    intro a3 H locs ls h hP hD hS hl
    unfold fX8_leastSum_X4_49 at h
    refine lv_iload_n hx hb dX8_leastSum_49 rfl (lv_at hl 0 rfl) ?_
    obtain rfl := Option.some.inj h
    exact rt_i hA0 hQ0 hx hb hr hlocks hP hS dX8_leastSum_50
  have L4_5 : ∀ (n : Nat) (z1 : Int32 × Int32) (H : Heap) (locs : List Loc) (ls : Array Slot), iter (fX8_leastSum_L4 v_t_length v_t_longest v_p0_sums) n z1 = some e2 → va_P D vwCl [(q_t, .inr (7, [.ref q_t_path, .ref q_t_longest, .int v_t_length])), (q_t_longest, .inl (cI, 6, .inl v_t_longest)), (q_p0, .inr (1, [.ref q_p0_sums])), (q_p0_sums, .inl (cI, 36, .inl v_p0_sums))] H → va_D A0 [(q_t, .inr (7, [.ref q_t_path, .ref q_t_longest, .int v_t_length])), (q_t_longest, .inl (cI, 6, .inl v_t_longest)), (q_p0, .inr (1, [.ref q_p0_sums])), (q_p0_sums, .inl (cI, 36, .inl v_p0_sums))] → va_S A0 s.heap H locs → lv_has ls 5 [(0, .ref q_t), (1, .ref q_p0), (2, .int z1.1), (3, .int z1.2)] → W p l e ({ frames := 1, cells := 0, slots := 0, locals := 22 } : Room) s m args below meth c H locs 0 0 Q0 (F0 m 4 ls []) := by
    intro n
    induction n with
    | zero => exact fun _ _ _ _ h => (iter_z h).elim
    | succ n ih =>
      intro z1 H locs ls h hP hD hS hl
      obtain ⟨r_e2, h, hn_e2⟩ := iter_s h
      unfold fX8_leastSum_L4 at h
      refine lv_iload_n hx hb dX8_leastSum_4 rfl (lv_at hl 3 rfl) ?_
      refine lv_aload_n hx hb dX8_leastSum_5 rfl (lv_at hl 0 rfl) ?_
      refine va_get (own := RX8) (ci := 7) (v := .int v_t_length) (C := RX8) (T := TX8) (N := 3) hx hb hts iX8 hown hK hP 0 rfl rfl 2 (by decide) k18 (fun _ h9 => h9) rfl dX8_leastSum_6 ?_
      refine lv_icmp_ge (tgt := 49) hx hb dX8_leastSum_9 (by decide) (fun c6 => ?_) (fun c6 => ?_)
      · skip
        have h := (if_pos c6).symm.trans h
        obtain rfl := Option.some.inj h
        obtain rfl := Option.some.inj hn_e2
        exact X49_4 z1.1 _ _ _ hc_e2 hP hD hS (lv_sub hl [2] rfl)
      · skip
        have h := (if_neg c6).symm.trans h
        refine lv_aload_n hx hb dX8_leastSum_12 rfl (lv_at hl 1 rfl) ?_
        refine lv_aload_n hx hb dX8_leastSum_13 rfl (lv_at hl 0 rfl) ?_
        refine va_get (own := RX8) (ci := 7) (v := .ref q_t_longest) (C := RX8) (T := TX8) (N := 3) hx hb hts iX8 hown hK hP 0 rfl rfl 1 (by decide) k15 (fun _ h9 => h9) rfl dX8_leastSum_14 ?_
        refine lv_iload_n hx hb dX8_leastSum_17 rfl (lv_at hl 3 rfl) ?_
        obtain ⟨g7, h⟩ := gd_of h
        refine va_iald hx hb hK hP 1 0 rfl rfl (inb_of g7) dX8_leastSum_18 ?_
        refine lv_aload_n hx hb dX8_leastSum_19 rfl (lv_at hl 0 rfl) ?_
        refine lv_iload_n hx hb dX8_leastSum_20 rfl (lv_at hl 3 rfl) ?_
        obtain ⟨u8, g9, h⟩ := bd_of h
        refine cl_V [(q_t, .inr (7, [.ref q_t_path, .ref q_t_longest, .int v_t_length])), (q_t_longest, .inl (cI, 6, .inl v_t_longest)), (q_p0, .inr (1, [.ref q_p0_sums])), (q_p0_sums, .inl (cI, 36, .inl v_p0_sums))] (As := [.int z1.2]) (rest := [.int (v_t_longest z1.2.toNatClampNeg), .ref q_p0]) (rv := (some (.int u8))) (c_X8_behind l D cI cJ q_t q_t_path q_t_longest v_t_length v_t_longest z1.2 u8 g9) ⟨hx, hb, hml, hown, hts⟩ (cwV 1 hts gX8_leastSum_X8_behind rfl rfl rfl (by decide +kernel) ⟨(Nat.le_of_ble_eq_true rfl), (Nat.le_of_ble_eq_true rfl)⟩) hK hN hP hD hS [0, 1] rfl (by decide) rfl rfl rfl (q0 := 0) (ci := 7) rfl rfl rfl rfl hl.1 rfl (Nat.le_of_ble_eq_true rfl) dX8_leastSum_21 ⟨Nat.zero_le _, Nat.zero_le _⟩ (fun H locs hP hD hS => ?_)
        show W p l e ({ frames := 1, cells := 0, slots := 0, locals := 22 } : Room) s m args below meth c H locs 0 0 Q0 (F0 m 24 ls [.int u8, .int (v_t_longest z1.2.toNatClampNeg), .ref q_p0])
        obtain ⟨u10, g11, h⟩ := bd_of h
        refine cl_V [(q_t, .inr (7, [.ref q_t_path, .ref q_t_longest, .int v_t_length])), (q_t_longest, .inl (cI, 6, .inl v_t_longest)), (q_p0, .inr (1, [.ref q_p0_sums])), (q_p0_sums, .inl (cI, 36, .inl v_p0_sums))] (As := [.int (v_t_longest z1.2.toNatClampNeg), .int u8]) (rest := []) (rv := (some (.int u10))) (c_X1_sum l D cI cJ q_p0 q_p0_sums v_p0_sums (v_t_longest z1.2.toNatClampNeg) u8 u10 g11) ⟨hx, hb, hml, hown, hts⟩ (cwV 2 hts gX8_leastSum_X1_sum rfl rfl rfl (by decide +kernel) ⟨(Nat.le_of_ble_eq_true rfl), (Nat.le_of_ble_eq_true rfl)⟩) hK hN hP hD hS [2, 3] rfl (by decide) rfl rfl rfl (q0 := 2) (ci := 1) rfl rfl rfl rfl hl.1 rfl (Nat.le_of_ble_eq_true rfl) dX8_leastSum_24 ⟨Nat.zero_le _, Nat.zero_le _⟩ (fun H locs hP hD hS => ?_)
        show W p l e ({ frames := 1, cells := 0, slots := 0, locals := 22 } : Room) s m args below meth c H locs 0 0 Q0 (F0 m 27 ls [.int u10])
        refine lv_istore (lv' := [(4, .int u10), (0, .ref q_t), (1, .ref q_p0), (2, .int z1.1), (3, .int z1.2)]) hx hb dX8_leastSum_27 hl (by decide) rfl (fun ls hl => ?_)
        refine lv_iload_n hx hb dX8_leastSum_29 rfl (lv_at hl 3 rfl) ?_
        refine lv_iconst (v := (-1)) hx hb dX8_leastSum_30 (by decide) ?_
        have K43_12 : ∀ (w13 : Int32) (H : Heap) (locs : List Loc) (ls : Array Slot), w13 = (if z1.1 = (-1) then u10 else (if z1.1 ≤ u10 then z1.1 else u10 : Int32) : Int32) → va_P D vwCl [(q_t, .inr (7, [.ref q_t_path, .ref q_t_longest, .int v_t_length])), (q_t_longest, .inl (cI, 6, .inl v_t_longest)), (q_p0, .inr (1, [.ref q_p0_sums])), (q_p0_sums, .inl (cI, 36, .inl v_p0_sums))] H → va_D A0 [(q_t, .inr (7, [.ref q_t_path, .ref q_t_longest, .int v_t_length])), (q_t_longest, .inl (cI, 6, .inl v_t_longest)), (q_p0, .inr (1, [.ref q_p0_sums])), (q_p0_sums, .inl (cI, 36, .inl v_p0_sums))] → va_S A0 s.heap H locs → lv_has ls 5 [(0, .ref q_t), (1, .ref q_p0), (2, .int w13), (3, .int z1.2)] → W p l e ({ frames := 1, cells := 0, slots := 0, locals := 22 } : Room) s m args below meth c H locs 0 0 Q0 (F0 m 43 ls []) := by
          intro w13 H locs ls e_w13 hP hD hS hl
          subst e_w13
          refine lv_iinc (v := (z1.2 + 1)) (lv' := [(3, .int (z1.2 + 1)), (0, .ref q_t), (1, .ref q_p0), (2, .int (if z1.1 = (-1) then u10 else (if z1.1 ≤ u10 then z1.1 else u10 : Int32) : Int32))]) hx hb dX8_leastSum_43 hl (k := 3) rfl rfl (by decide) rfl (fun ls hl => ?_)
          refine lv_goto (tgt := 4) hx hb dX8_leastSum_46 (by decide) ?_
          obtain rfl := Option.some.inj h
          exact ih ((if z1.1 = (-1) then u10 else (if z1.1 ≤ u10 then z1.1 else u10 : Int32) : Int32), (z1.2 + 1)) _ _ _ hn_e2 hP hD hS (lv_sub hl [1, 2, 3, 0] rfl)
        refine lv_icmp_eq (tgt := 40) hx hb dX8_leastSum_31 (by decide) (fun c14 => ?_) (fun c14 => ?_)
        · skip
          refine lv_iload hx hb dX8_leastSum_40 (lv_at hl 0 rfl) ?_
          refine lv_istore_n (lv' := [(2, .int u10), (4, .int u10), (0, .ref q_t), (1, .ref q_p0), (3, .int z1.2)]) hx hb dX8_leastSum_42 rfl hl (by decide) rfl (fun ls hl => ?_)
          exact K43_12 u10 _ _ _ (by rw [if_pos c14]) hP hD hS (lv_sub hl [2, 3, 0, 4] rfl)
        · skip
          refine lv_iload hx hb dX8_leastSum_34 (lv_at hl 0 rfl) ?_
          refine lv_iload_n hx hb dX8_leastSum_36 rfl (lv_at hl 3 rfl) ?_
          refine lv_icmp_ge (tgt := 43) hx hb dX8_leastSum_37 (by decide) (fun c15 => ?_) (fun c15 => ?_)
          · skip
            exact K43_12 z1.1 _ _ _ (by rw [if_neg c14, if_pos c15]) hP hD hS (lv_sub hl [1, 2, 3, 4] rfl)
          · skip
            refine lv_iload hx hb dX8_leastSum_40 (lv_at hl 0 rfl) ?_
            refine lv_istore_n (lv' := [(2, .int u10), (4, .int u10), (0, .ref q_t), (1, .ref q_p0), (3, .int z1.2)]) hx hb dX8_leastSum_42 rfl hl (by decide) rfl (fun ls hl => ?_)
            exact K43_12 u10 _ _ _ (by rw [if_neg c14, if_neg c15]) hP hD hS (lv_sub hl [2, 3, 0, 4] rfl)
  exact L4_5 FU ((-1), 0) _ _ _ he_e2 hP hD hS (lv_sub hl [2, 3, 1, 0] rfl)
def fX8_tell (v_t_length : Int32) (v_t_longest : Nat → Int32) (v_p0_sums : Nat → Int32) (x2 : Int32) : Option (Int32) :=
  if x2 = 0 then (some v_t_length) else (if x2 = 1 then ((fX8_leastSum v_t_length v_t_longest v_p0_sums).bind (fun u6 => some u6)) else (if (x2 - 10) < 0 then (some (-1)) else (if v_t_length ≤ (x2 - 10) then (some (-1)) else (gd (inb (x2 - 10) 6) (some (v_t_longest (x2 - 10).toNatClampNeg))))))
set_option maxHeartbeats 4000000 in
set_option maxRecDepth 100000 in
theorem c_X8_tell (l : Launch) (D : va_G) (cI cJ : ClassId) (q_t q_t_path q_t_longest q_p0 q_p0_sums : Nat) (v_t_length : Int32) (v_t_longest : Nat → Int32) (v_p0_sums : Nat → Int32) (x2 : Int32) (z : Int32) (h : fX8_tell v_t_length v_t_longest v_p0_sums x2 = some z) : Met l yX8_tell wsX8_tell ({ frames := 2, cells := 0, slots := 0, locals := 46 } : Room) (va_Pc [.ref q_t, .ref q_p0, .int x2] (preG D cI cJ [(q_t, .inr (7, [.ref q_t_path, .ref q_t_longest, .int v_t_length])), (q_t_longest, .inl (cI, 6, .inl v_t_longest)), (q_p0, .inr (1, [.ref q_p0_sums])), (q_p0_sums, .inl (cI, 36, .inl v_p0_sums))])) (QG D [(q_t, .inr (7, [.ref q_t_path, .ref q_t_longest, .int v_t_length])), (q_t_longest, .inl (cI, 6, .inl v_t_longest)), (q_p0, .inr (1, [.ref q_p0_sums])), (q_p0_sums, .inl (cI, 36, .inl v_p0_sums))] [(q_t, .inr (7, [.ref q_t_path, .ref q_t_longest, .int v_t_length])), (q_t_longest, .inl (cI, 6, .inl v_t_longest)), (q_p0, .inr (1, [.ref q_p0_sums])), (q_p0_sums, .inl (cI, 36, .inl v_p0_sums))] (some (.int z))) 0 0 (fr [(q_t, .inr (7, [.ref q_t_path, .ref q_t_longest, .int v_t_length])), (q_t_longest, .inl (cI, 6, .inl v_t_longest)), (q_p0, .inr (1, [.ref q_p0_sums])), (q_p0_sums, .inl (cI, 36, .inl v_p0_sums))]) := by
  refine Met.ofW (cc := cX8_tell) (maxL := 4) (ret := (some .int)) (by decide) rfl ?_
  intro p e s m args below meth c s₁ B hml hv
  obtain ⟨hargs, hP, hK, hN, hD0⟩ := hv
  have hx := B.exec
  have hb := B.bytes
  have hr := B.returns
  have hts := atoms_spec (ws := wsX8_tell) B.pre
  have hown : s.vm.findClass RX8 = some m.cls := findClass_of_methodNamed B.named
  have hlocks := B.notSynchronized
  have iX8 : ∀ w ∈ wsX80, w ∈ wsX8_tell := by decide +kernel
  have k15 := hts (.fieldLink RX8 15 "PressedFerns$RingSearch" "longest" "[I") (by decide +kernel)
  have k18 := hts (.fieldLink RX8 18 "PressedFerns$RingSearch" "length" "I") (by decide +kernel)
  have hD := fr_D hD0
  have hS : va_S (fr [(q_t, .inr (7, [.ref q_t_path, .ref q_t_longest, .int v_t_length])), (q_t_longest, .inl (cI, 6, .inl v_t_longest)), (q_p0, .inr (1, [.ref q_p0_sums])), (q_p0_sums, .inl (cI, 36, .inl v_p0_sums))]) s.heap s.heap [] := va_S.rf
  have hl := lv_entry ([.ref q_t, .ref q_p0, .int x2]) (n := 4) (Nat.le_of_ble_eq_true rfl)
  refine W.eq (g2 := F0 m 0 ((lg_sl ([.ref q_t, .ref q_p0, .int x2]) ++ List.replicate (4 - (lg_sl ([.ref q_t, .ref q_p0, .int x2])).length) Slot.unset).toArray) []) (by rw [hargs, lg_entry_eq]) ?_
  generalize (lg_sl ([.ref q_t, .ref q_p0, .int x2]) ++ List.replicate (4 - (lg_sl ([.ref q_t, .ref q_p0, .int x2])).length) Slot.unset).toArray = ls at hl ⊢
  have hl : lv_has ls 4 [(0, .ref q_t), (1, .ref q_p0), (2, .int x2)] := hl
  show W p l e ({ frames := 2, cells := 0, slots := 0, locals := 46 } : Room) s m args below meth c s.heap [] 0 0 (MQ below (QG D [(q_t, .inr (7, [.ref q_t_path, .ref q_t_longest, .int v_t_length])), (q_t_longest, .inl (cI, 6, .inl v_t_longest)), (q_p0, .inr (1, [.ref q_p0_sums])), (q_p0_sums, .inl (cI, 36, .inl v_p0_sums))] [(q_t, .inr (7, [.ref q_t_path, .ref q_t_longest, .int v_t_length])), (q_t_longest, .inl (cI, 6, .inl v_t_longest)), (q_p0, .inr (1, [.ref q_p0_sums])), (q_p0_sums, .inl (cI, 36, .inl v_p0_sums))] (some (.int z))) args s 0 0 (fr [(q_t, .inr (7, [.ref q_t_path, .ref q_t_longest, .int v_t_length])), (q_t_longest, .inl (cI, 6, .inl v_t_longest)), (q_p0, .inr (1, [.ref q_p0_sums])), (q_p0_sums, .inl (cI, 36, .inl v_p0_sums))])) (F0 m 0 ls [])
  generalize hQ0 : (MQ below (QG D [(q_t, .inr (7, [.ref q_t_path, .ref q_t_longest, .int v_t_length])), (q_t_longest, .inl (cI, 6, .inl v_t_longest)), (q_p0, .inr (1, [.ref q_p0_sums])), (q_p0_sums, .inl (cI, 36, .inl v_p0_sums))] [(q_t, .inr (7, [.ref q_t_path, .ref q_t_longest, .int v_t_length])), (q_t_longest, .inl (cI, 6, .inl v_t_longest)), (q_p0, .inr (1, [.ref q_p0_sums])), (q_p0_sums, .inl (cI, 36, .inl v_p0_sums))] (some (.int z))) args s 0 0 (fr [(q_t, .inr (7, [.ref q_t_path, .ref q_t_longest, .int v_t_length])), (q_t_longest, .inl (cI, 6, .inl v_t_longest)), (q_p0, .inr (1, [.ref q_p0_sums])), (q_p0_sums, .inl (cI, 36, .inl v_p0_sums))])) = Q0
  generalize hA0 : fr [(q_t, .inr (7, [.ref q_t_path, .ref q_t_longest, .int v_t_length])), (q_t_longest, .inl (cI, 6, .inl v_t_longest)), (q_p0, .inr (1, [.ref q_p0_sums])), (q_p0_sums, .inl (cI, 36, .inl v_p0_sums))] = A0 at hD hS
  unfold fX8_tell at h
  refine lv_iload_n hx hb dX8_tell_0 rfl (lv_at hl 2 rfl) ?_
  refine lv_if_ne (tgt := 9) hx hb dX8_tell_1 (by decide) (fun c1 => ?_) (fun c1 => ?_)
  · skip
    have h := (if_neg c1).symm.trans h
    refine lv_iload_n hx hb dX8_tell_9 rfl (lv_at hl 2 rfl) ?_
    refine lv_iconst (v := 1) hx hb dX8_tell_10 (by decide) ?_
    refine lv_icmp_ne (tgt := 20) hx hb dX8_tell_11 (by decide) (fun c2 => ?_) (fun c2 => ?_)
    · skip
      have h := (if_neg c2).symm.trans h
      refine lv_iload_n hx hb dX8_tell_20 rfl (lv_at hl 2 rfl) ?_
      refine lv_bipush (v := 10) hx hb dX8_tell_21 (by decide) ?_
      refine lv_isub hx hb dX8_tell_23 ?_
      refine lv_istore_n (lv' := [(3, .int (x2 - 10)), (0, .ref q_t), (1, .ref q_p0), (2, .int x2)]) hx hb dX8_tell_24 rfl hl (by decide) rfl (fun ls hl => ?_)
      refine lv_iload_n hx hb dX8_tell_25 rfl (lv_at hl 0 rfl) ?_
      refine lv_if_lt (tgt := 46) hx hb dX8_tell_26 (by decide) (fun c3 => ?_) (fun c3 => ?_)
      · skip
        have h := (if_pos c3).symm.trans h
        refine lv_iconst (v := (-1)) hx hb dX8_tell_46 (by decide) ?_
        obtain rfl := Option.some.inj h
        exact rt_i hA0 hQ0 hx hb hr hlocks hP hS dX8_tell_47
      · skip
        have h := (if_neg c3).symm.trans h
        refine lv_iload_n hx hb dX8_tell_29 rfl (lv_at hl 0 rfl) ?_
        refine lv_aload_n hx hb dX8_tell_30 rfl (lv_at hl 1 rfl) ?_
        refine va_get (own := RX8) (ci := 7) (v := .int v_t_length) (C := RX8) (T := TX8) (N := 3) hx hb hts iX8 hown hK hP 0 rfl rfl 2 (by decide) k18 (fun _ h9 => h9) rfl dX8_tell_31 ?_
        refine lv_icmp_ge (tgt := 46) hx hb dX8_tell_34 (by decide) (fun c4 => ?_) (fun c4 => ?_)
        · skip
          have h := (if_pos c4).symm.trans h
          refine lv_iconst (v := (-1)) hx hb dX8_tell_46 (by decide) ?_
          obtain rfl := Option.some.inj h
          exact rt_i hA0 hQ0 hx hb hr hlocks hP hS dX8_tell_47
        · skip
          have h := (if_neg c4).symm.trans h
          refine lv_aload_n hx hb dX8_tell_37 rfl (lv_at hl 1 rfl) ?_
          refine va_get (own := RX8) (ci := 7) (v := .ref q_t_longest) (C := RX8) (T := TX8) (N := 3) hx hb hts iX8 hown hK hP 0 rfl rfl 1 (by decide) k15 (fun _ h9 => h9) rfl dX8_tell_38 ?_
          refine lv_iload_n hx hb dX8_tell_41 rfl (lv_at hl 0 rfl) ?_
          obtain ⟨g5, h⟩ := gd_of h
          refine va_iald hx hb hK hP 1 0 rfl rfl (inb_of g5) dX8_tell_42 ?_
          refine lv_goto (tgt := 47) hx hb dX8_tell_43 (by decide) ?_
          obtain rfl := Option.some.inj h
          exact rt_i hA0 hQ0 hx hb hr hlocks hP hS dX8_tell_47
    · skip
      have h := (if_pos c2).symm.trans h
      refine lv_aload_n hx hb dX8_tell_14 rfl (lv_at hl 0 rfl) ?_
      refine lv_aload_n hx hb dX8_tell_15 rfl (lv_at hl 1 rfl) ?_
      obtain ⟨u6, g7, h⟩ := bd_of h
      refine cl_V [(q_t, .inr (7, [.ref q_t_path, .ref q_t_longest, .int v_t_length])), (q_t_longest, .inl (cI, 6, .inl v_t_longest)), (q_p0, .inr (1, [.ref q_p0_sums])), (q_p0_sums, .inl (cI, 36, .inl v_p0_sums))] (As := [.ref q_p0]) (rest := []) (rv := (some (.int u6))) (c_X8_leastSum l D cI cJ q_t q_t_path q_t_longest q_p0 q_p0_sums v_t_length v_t_longest v_p0_sums u6 g7) ⟨hx, hb, hml, hown, hts⟩ (cwV 1 hts gX8_tell_X8_leastSum rfl rfl rfl (by decide +kernel) ⟨(Nat.le_of_ble_eq_true rfl), (Nat.le_of_ble_eq_true rfl)⟩) hK hN hP hD hS [0, 1, 2, 3] rfl (by decide) rfl rfl rfl (q0 := 0) (ci := 7) rfl rfl rfl rfl hl.1 rfl (Nat.le_of_ble_eq_true rfl) dX8_tell_16 ⟨Nat.zero_le _, Nat.zero_le _⟩ (fun H locs hP hD hS => ?_)
      show W p l e ({ frames := 2, cells := 0, slots := 0, locals := 46 } : Room) s m args below meth c H locs 0 0 Q0 (F0 m 19 ls [.int u6])
      obtain rfl := Option.some.inj h
      exact rt_i hA0 hQ0 hx hb hr hlocks hP hS dX8_tell_19
  · skip
    have h := (if_pos c1).symm.trans h
    refine lv_aload_n hx hb dX8_tell_4 rfl (lv_at hl 0 rfl) ?_
    refine va_get (own := RX8) (ci := 7) (v := .int v_t_length) (C := RX8) (T := TX8) (N := 3) hx hb hts iX8 hown hK hP 0 rfl rfl 2 (by decide) k18 (fun _ h9 => h9) rfl dX8_tell_5 ?_
    obtain rfl := Option.some.inj h
    exact rt_i hA0 hQ0 hx hb hr hlocks hP hS dX8_tell_8
def fX8_takeOff_X8_38 (u1 : Int32) (a5 : (Nat → Int32)) : Option (Int32 × (Nat → Int32)) :=
  some (u1, a5)
def fX8_takeOff_L8 (v_t_length : Int32) (v_t_longest : Nat → Int32) (u1 : Int32) (z3 : Int32 × (Nat → Int32)) : Option ((Int32 × (Nat → Int32)) ⊕ ((Nat → Int32))) :=
  if v_t_length ≤ z3.1 then (some (Sum.inr z3.2)) else (gd (inb z3.1 6) ((fX8_behind v_t_length v_t_longest z3.1).bind (fun u10 => (fX1_lessen z3.2 (v_t_longest z3.1.toNatClampNeg) u10 u1).bind (fun u12 => some (Sum.inl ((z3.1 + 1), u12))))))
def fX8_takeOff (v_t_length : Int32) (v_t_longest : Nat → Int32) (v_p0_sums : Nat → Int32) : Option (Int32 × (Nat → Int32)) :=
  (fX8_leastSum v_t_length v_t_longest v_p0_sums).bind (fun u1 => (iter (fX8_takeOff_L8 v_t_length v_t_longest u1) FU (0, v_p0_sums)).bind (fX8_takeOff_X8_38 u1))
set_option maxHeartbeats 4000000 in
set_option maxRecDepth 100000 in
theorem c_X8_takeOff (l : Launch) (D : va_G) (cI cJ : ClassId) (q_t q_t_path q_t_longest q_p0 q_p0_sums : Nat) (v_t_length : Int32) (v_t_longest : Nat → Int32) (v_p0_sums : Nat → Int32) (z : Int32 × (Nat → Int32)) (h : fX8_takeOff v_t_length v_t_longest v_p0_sums = some z) : Met l yX8_takeOff wsX8_takeOff ({ frames := 2, cells := 0, slots := 0, locals := 47 } : Room) (va_Pc [.ref q_t, .ref q_p0] (preG D cI cJ [(q_t, .inr (7, [.ref q_t_path, .ref q_t_longest, .int v_t_length])), (q_t_longest, .inl (cI, 6, .inl v_t_longest)), (q_p0, .inr (1, [.ref q_p0_sums])), (q_p0_sums, .inl (cI, 36, .inl v_p0_sums))])) (QG D [(q_t, .inr (7, [.ref q_t_path, .ref q_t_longest, .int v_t_length])), (q_t_longest, .inl (cI, 6, .inl v_t_longest)), (q_p0, .inr (1, [.ref q_p0_sums])), (q_p0_sums, .inl (cI, 36, .inl v_p0_sums))] [(q_t, .inr (7, [.ref q_t_path, .ref q_t_longest, .int v_t_length])), (q_t_longest, .inl (cI, 6, .inl v_t_longest)), (q_p0, .inr (1, [.ref q_p0_sums])), (q_p0_sums, .inl (cI, 36, .inl z.2))] (some (.int z.1))) 0 0 (fr [(q_t, .inr (7, [.ref q_t_path, .ref q_t_longest, .int v_t_length])), (q_t_longest, .inl (cI, 6, .inl v_t_longest)), (q_p0, .inr (1, [.ref q_p0_sums])), (q_p0_sums, .inl (cI, 36, .inl v_p0_sums))]) := by
  refine Met.ofW (cc := cX8_takeOff) (maxL := 4) (ret := (some .int)) (by decide) rfl ?_
  intro p e s m args below meth c s₁ B hml hv
  obtain ⟨hargs, hP, hK, hN, hD0⟩ := hv
  have hx := B.exec
  have hb := B.bytes
  have hr := B.returns
  have hts := atoms_spec (ws := wsX8_takeOff) B.pre
  have hown : s.vm.findClass RX8 = some m.cls := findClass_of_methodNamed B.named
  have hlocks := B.notSynchronized
  have iX8 : ∀ w ∈ wsX80, w ∈ wsX8_takeOff := by decide +kernel
  have k15 := hts (.fieldLink RX8 15 "PressedFerns$RingSearch" "longest" "[I") (by decide +kernel)
  have k18 := hts (.fieldLink RX8 18 "PressedFerns$RingSearch" "length" "I") (by decide +kernel)
  have hD := fr_D hD0
  have hS : va_S (fr [(q_t, .inr (7, [.ref q_t_path, .ref q_t_longest, .int v_t_length])), (q_t_longest, .inl (cI, 6, .inl v_t_longest)), (q_p0, .inr (1, [.ref q_p0_sums])), (q_p0_sums, .inl (cI, 36, .inl v_p0_sums))]) s.heap s.heap [] := va_S.rf
  have hl := lv_entry ([.ref q_t, .ref q_p0]) (n := 4) (Nat.le_of_ble_eq_true rfl)
  refine W.eq (g2 := F0 m 0 ((lg_sl ([.ref q_t, .ref q_p0]) ++ List.replicate (4 - (lg_sl ([.ref q_t, .ref q_p0])).length) Slot.unset).toArray) []) (by rw [hargs, lg_entry_eq]) ?_
  generalize (lg_sl ([.ref q_t, .ref q_p0]) ++ List.replicate (4 - (lg_sl ([.ref q_t, .ref q_p0])).length) Slot.unset).toArray = ls at hl ⊢
  have hl : lv_has ls 4 [(0, .ref q_t), (1, .ref q_p0)] := hl
  show W p l e ({ frames := 2, cells := 0, slots := 0, locals := 47 } : Room) s m args below meth c s.heap [] 0 0 (MQ below (QG D [(q_t, .inr (7, [.ref q_t_path, .ref q_t_longest, .int v_t_length])), (q_t_longest, .inl (cI, 6, .inl v_t_longest)), (q_p0, .inr (1, [.ref q_p0_sums])), (q_p0_sums, .inl (cI, 36, .inl v_p0_sums))] [(q_t, .inr (7, [.ref q_t_path, .ref q_t_longest, .int v_t_length])), (q_t_longest, .inl (cI, 6, .inl v_t_longest)), (q_p0, .inr (1, [.ref q_p0_sums])), (q_p0_sums, .inl (cI, 36, .inl z.2))] (some (.int z.1))) args s 0 0 (fr [(q_t, .inr (7, [.ref q_t_path, .ref q_t_longest, .int v_t_length])), (q_t_longest, .inl (cI, 6, .inl v_t_longest)), (q_p0, .inr (1, [.ref q_p0_sums])), (q_p0_sums, .inl (cI, 36, .inl v_p0_sums))])) (F0 m 0 ls [])
  generalize hQ0 : (MQ below (QG D [(q_t, .inr (7, [.ref q_t_path, .ref q_t_longest, .int v_t_length])), (q_t_longest, .inl (cI, 6, .inl v_t_longest)), (q_p0, .inr (1, [.ref q_p0_sums])), (q_p0_sums, .inl (cI, 36, .inl v_p0_sums))] [(q_t, .inr (7, [.ref q_t_path, .ref q_t_longest, .int v_t_length])), (q_t_longest, .inl (cI, 6, .inl v_t_longest)), (q_p0, .inr (1, [.ref q_p0_sums])), (q_p0_sums, .inl (cI, 36, .inl z.2))] (some (.int z.1))) args s 0 0 (fr [(q_t, .inr (7, [.ref q_t_path, .ref q_t_longest, .int v_t_length])), (q_t_longest, .inl (cI, 6, .inl v_t_longest)), (q_p0, .inr (1, [.ref q_p0_sums])), (q_p0_sums, .inl (cI, 36, .inl v_p0_sums))])) = Q0
  generalize hA0 : fr [(q_t, .inr (7, [.ref q_t_path, .ref q_t_longest, .int v_t_length])), (q_t_longest, .inl (cI, 6, .inl v_t_longest)), (q_p0, .inr (1, [.ref q_p0_sums])), (q_p0_sums, .inl (cI, 36, .inl v_p0_sums))] = A0 at hD hS
  unfold fX8_takeOff at h
  refine lv_aload_n hx hb dX8_takeOff_0 rfl (lv_at hl 0 rfl) ?_
  refine lv_aload_n hx hb dX8_takeOff_1 rfl (lv_at hl 1 rfl) ?_
  obtain ⟨u1, g2, h⟩ := bd_of h
  refine cl_V [(q_t, .inr (7, [.ref q_t_path, .ref q_t_longest, .int v_t_length])), (q_t_longest, .inl (cI, 6, .inl v_t_longest)), (q_p0, .inr (1, [.ref q_p0_sums])), (q_p0_sums, .inl (cI, 36, .inl v_p0_sums))] (As := [.ref q_p0]) (rest := []) (rv := (some (.int u1))) (c_X8_leastSum l D cI cJ q_t q_t_path q_t_longest q_p0 q_p0_sums v_t_length v_t_longest v_p0_sums u1 g2) ⟨hx, hb, hml, hown, hts⟩ (cwV 1 hts gX8_takeOff_X8_leastSum rfl rfl rfl (by decide +kernel) ⟨(Nat.le_of_ble_eq_true rfl), (Nat.le_of_ble_eq_true rfl)⟩) hK hN hP hD hS [0, 1, 2, 3] rfl (by decide) rfl rfl rfl (q0 := 0) (ci := 7) rfl rfl rfl rfl hl.1 rfl (Nat.le_of_ble_eq_true rfl) dX8_takeOff_2 ⟨Nat.zero_le _, Nat.zero_le _⟩ (fun H locs hP hD hS => ?_)
  show W p l e ({ frames := 2, cells := 0, slots := 0, locals := 47 } : Room) s m args below meth c H locs 0 0 Q0 (F0 m 5 ls [.int u1])
  refine lv_istore_n (lv' := [(2, .int u1), (0, .ref q_t), (1, .ref q_p0)]) hx hb dX8_takeOff_5 rfl hl (by decide) rfl (fun ls hl => ?_)
  refine lv_iconst (v := 0) hx hb dX8_takeOff_6 (by decide) ?_
  refine lv_istore_n (lv' := [(3, .int 0), (2, .int u1), (0, .ref q_t), (1, .ref q_p0)]) hx hb dX8_takeOff_7 rfl hl (by decide) rfl (fun ls hl => ?_)
  obtain ⟨e4, he_e4, hc_e4⟩ := bd_of h
  have X38_6 : ∀ (a5 : (Nat → Int32)) (H : Heap) (locs : List Loc) (ls : Array Slot), fX8_takeOff_X8_38 u1 a5 = some z → va_P D vwCl [(q_t, .inr (7, [.ref q_t_path, .ref q_t_longest, .int v_t_length])), (q_t_longest, .inl (cI, 6, .inl v_t_longest)), (q_p0, .inr (1, [.ref q_p0_sums])), (q_p0_sums, .inl (cI, 36, .inl a5))] H → va_D A0 [(q_t, .inr (7, [.ref q_t_path, .ref q_t_longest, .int v_t_length])), (q_t_longest, .inl (cI, 6, .inl v_t_longest)), (q_p0, .inr (1, [.ref q_p0_sums])), (q_p0_sums, .inl (cI, 36, .inl a5))] → va_S A0 s.heap H locs → lv_has ls 4 [(2, .int u1)] → W p l e ({ frames := 2, cells := 0, slots := 0, locals := 47 } : Room) s m args below meth c H locs 0 0 Q0 (F0 m 38 ls []) := by
    intro a5 H locs ls h hP hD hS hl
    unfold fX8_takeOff_X8_38 at h
    refine lv_iload_n hx hb dX8_takeOff_38 rfl (lv_at hl 0 rfl) ?_
    obtain rfl := Option.some.inj h
    exact rt_i hA0 hQ0 hx hb hr hlocks hP hS dX8_takeOff_39
  have L8_7 : ∀ (n : Nat) (z3 : Int32 × (Nat → Int32)) (H : Heap) (locs : List Loc) (ls : Array Slot), iter (fX8_takeOff_L8 v_t_length v_t_longest u1) n z3 = some e4 → va_P D vwCl [(q_t, .inr (7, [.ref q_t_path, .ref q_t_longest, .int v_t_length])), (q_t_longest, .inl (cI, 6, .inl v_t_longest)), (q_p0, .inr (1, [.ref q_p0_sums])), (q_p0_sums, .inl (cI, 36, .inl z3.2))] H → va_D A0 [(q_t, .inr (7, [.ref q_t_path, .ref q_t_longest, .int v_t_length])), (q_t_longest, .inl (cI, 6, .inl v_t_longest)), (q_p0, .inr (1, [.ref q_p0_sums])), (q_p0_sums, .inl (cI, 36, .inl z3.2))] → va_S A0 s.heap H locs → lv_has ls 4 [(0, .ref q_t), (1, .ref q_p0), (2, .int u1), (3, .int z3.1)] → W p l e ({ frames := 2, cells := 0, slots := 0, locals := 47 } : Room) s m args below meth c H locs 0 0 Q0 (F0 m 8 ls []) := by
    intro n
    induction n with
    | zero => exact fun _ _ _ _ h => (iter_z h).elim
    | succ n ih =>
      intro z3 H locs ls h hP hD hS hl
      obtain ⟨r_e4, h, hn_e4⟩ := iter_s h
      unfold fX8_takeOff_L8 at h
      refine lv_iload_n hx hb dX8_takeOff_8 rfl (lv_at hl 3 rfl) ?_
      refine lv_aload_n hx hb dX8_takeOff_9 rfl (lv_at hl 0 rfl) ?_
      refine va_get (own := RX8) (ci := 7) (v := .int v_t_length) (C := RX8) (T := TX8) (N := 3) hx hb hts iX8 hown hK hP 0 rfl rfl 2 (by decide) k18 (fun _ h9 => h9) rfl dX8_takeOff_10 ?_
      refine lv_icmp_ge (tgt := 38) hx hb dX8_takeOff_13 (by decide) (fun c8 => ?_) (fun c8 => ?_)
      · skip
        have h := (if_pos c8).symm.trans h
        obtain rfl := Option.some.inj h
        obtain rfl := Option.some.inj hn_e4
        exact X38_6 z3.2 _ _ _ hc_e4 hP hD hS (lv_sub hl [2] rfl)
      · skip
        have h := (if_neg c8).symm.trans h
        refine lv_aload_n hx hb dX8_takeOff_16 rfl (lv_at hl 1 rfl) ?_
        refine lv_aload_n hx hb dX8_takeOff_17 rfl (lv_at hl 0 rfl) ?_
        refine va_get (own := RX8) (ci := 7) (v := .ref q_t_longest) (C := RX8) (T := TX8) (N := 3) hx hb hts iX8 hown hK hP 0 rfl rfl 1 (by decide) k15 (fun _ h9 => h9) rfl dX8_takeOff_18 ?_
        refine lv_iload_n hx hb dX8_takeOff_21 rfl (lv_at hl 3 rfl) ?_
        obtain ⟨g9, h⟩ := gd_of h
        refine va_iald hx hb hK hP 1 0 rfl rfl (inb_of g9) dX8_takeOff_22 ?_
        refine lv_aload_n hx hb dX8_takeOff_23 rfl (lv_at hl 0 rfl) ?_
        refine lv_iload_n hx hb dX8_takeOff_24 rfl (lv_at hl 3 rfl) ?_
        obtain ⟨u10, g11, h⟩ := bd_of h
        refine cl_V [(q_t, .inr (7, [.ref q_t_path, .ref q_t_longest, .int v_t_length])), (q_t_longest, .inl (cI, 6, .inl v_t_longest)), (q_p0, .inr (1, [.ref q_p0_sums])), (q_p0_sums, .inl (cI, 36, .inl z3.2))] (As := [.int z3.1]) (rest := [.int (v_t_longest z3.1.toNatClampNeg), .ref q_p0]) (rv := (some (.int u10))) (c_X8_behind l D cI cJ q_t q_t_path q_t_longest v_t_length v_t_longest z3.1 u10 g11) ⟨hx, hb, hml, hown, hts⟩ (cwV 1 hts gX8_takeOff_X8_behind rfl rfl rfl (by decide +kernel) ⟨(Nat.le_of_ble_eq_true rfl), (Nat.le_of_ble_eq_true rfl)⟩) hK hN hP hD hS [0, 1] rfl (by decide) rfl rfl rfl (q0 := 0) (ci := 7) rfl rfl rfl rfl hl.1 rfl (Nat.le_of_ble_eq_true rfl) dX8_takeOff_25 ⟨Nat.zero_le _, Nat.zero_le _⟩ (fun H locs hP hD hS => ?_)
        show W p l e ({ frames := 2, cells := 0, slots := 0, locals := 47 } : Room) s m args below meth c H locs 0 0 Q0 (F0 m 28 ls [.int u10, .int (v_t_longest z3.1.toNatClampNeg), .ref q_p0])
        refine lv_iload_n hx hb dX8_takeOff_28 rfl (lv_at hl 2 rfl) ?_
        obtain ⟨u12, g13, h⟩ := bd_of h
        refine cl_V [(q_t, .inr (7, [.ref q_t_path, .ref q_t_longest, .int v_t_length])), (q_t_longest, .inl (cI, 6, .inl v_t_longest)), (q_p0, .inr (1, [.ref q_p0_sums])), (q_p0_sums, .inl (cI, 36, .inl u12))] (As := [.int (v_t_longest z3.1.toNatClampNeg), .int u10, .int u1]) (rest := []) (rv := none) (c_X1_lessen l D cI cJ q_p0 q_p0_sums z3.2 (v_t_longest z3.1.toNatClampNeg) u10 u1 u12 g13) ⟨hx, hb, hml, hown, hts⟩ (cwV 3 hts gX8_takeOff_X1_lessen rfl rfl rfl (by decide +kernel) ⟨(Nat.le_of_ble_eq_true rfl), (Nat.le_of_ble_eq_true rfl)⟩) hK hN hP hD hS [2, 3] rfl (by decide) rfl rfl rfl (q0 := 2) (ci := 1) rfl rfl rfl rfl hl.1 rfl (Nat.le_of_ble_eq_true rfl) dX8_takeOff_29 ⟨Nat.zero_le _, Nat.zero_le _⟩ (fun H locs hP hD hS => ?_)
        show W p l e ({ frames := 2, cells := 0, slots := 0, locals := 47 } : Room) s m args below meth c H locs 0 0 Q0 (F0 m 32 ls [])
        refine lv_iinc (v := (z3.1 + 1)) (lv' := [(3, .int (z3.1 + 1)), (0, .ref q_t), (1, .ref q_p0), (2, .int u1)]) hx hb dX8_takeOff_32 hl (k := 3) rfl rfl (by decide) rfl (fun ls hl => ?_)
        refine lv_goto (tgt := 8) hx hb dX8_takeOff_35 (by decide) ?_
        obtain rfl := Option.some.inj h
        exact ih ((z3.1 + 1), u12) _ _ _ hn_e4 hP hD hS (lv_sub hl [1, 2, 3, 0] rfl)
  exact L8_7 FU (0, v_p0_sums) _ _ _ he_e4 hP hD hS (lv_sub hl [2, 3, 1, 0] rfl)
