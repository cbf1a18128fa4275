/-! ring: the model's codes, and both together -/
theorem isR_congr {d : Nat → Int32} {m : Nat} {p q : Nat → Nat} (h : ∀ i, i < m → p i = q i) (hr : isR d m p) : isR d m q := by
  obtain ⟨a1, a2, ⟨a3, a4, a5⟩, a6⟩ := hr
  refine ⟨a1, a2, ⟨fun i hi => ?_, fun i j hij hj => ?_, fun i hi => ?_⟩, ?_⟩
  · rw [← h i hi, ← h 0 (by omega)]; exact a3 i hi
  · rw [← h i (by omega), ← h j hj]; exact a4 i j hij hj
  · rw [← h i (by omega), ← h (i + 1) hi]; exact a5 i hi
  · rw [← h (m - 1) (by omega), ← h 0 (by omega)]; exact a6
theorem copyRingM {len : Nat} (h6 : len ≤ 6) (z1 : Int32 × Int32 × Int32 × (Nat → Int32) × (Nat → Int32)) (hz : z1.2.1 = nI len) (T R : Nat → Int32) : ∃ R', iter (fX11_layRing_L91 z1 T) FU (0, R) = some R' ∧ ∀ i, i < len → R' i = T i := by
  obtain ⟨e, h1, h2⟩ := one_for (st := fX11_layRing_L91 z1 T) (fun j z => z.1 = nI j ∧ ∀ i, i < j → z.2 i = T i) (fun e => ∀ i, i < len → e i = T i) len (by omega)
    (fun j z hj hI => by
      obtain ⟨x, S⟩ := z
      obtain ⟨w1, w2⟩ := hI
      dsimp only at w1 w2
      subst w1
      unfold fX11_layRing_L91
      dsimp only
      rw [hz, if_neg (show ¬ nI len ≤ nI j by rw [leN (by omega) (by omega)]; omega), gd_t (inbN (by omega) (by omega)), clN (by omega)]
      refine ⟨_, rfl, nI1 j, fun i hi => ?_⟩
      show upd S j (T j) i = T i
      rw [upd_eq]
      by_cases e : i = j
      · rw [if_pos e, e]
      · rw [if_neg e]; exact w2 i (by omega))
    (fun z hI => by
      obtain ⟨x, S⟩ := z
      obtain ⟨w1, w2⟩ := hI
      dsimp only at w1 w2
      subst w1
      unfold fX11_layRing_L91
      dsimp only
      rw [hz, if_pos (show nI len ≤ nI len by rw [leN (by omega) (by omega)]; omega)]
      exact ⟨_, rfl, w2⟩) (0, R) ⟨rfl, fun i hi => absurd hi (Nat.not_lt_zero _)⟩
  exact ⟨e, h1, h2⟩
theorem lenM {d : Nat → Int32} {len : Nat} (h2 : 2 ≤ len) (h6 : len ≤ 6) (pm rm td n bh bm sn km kb kc : Int32) (hh : Int64) (z1 : Int32 × Int32 × Int32 × (Nat → Int32) × (Nat → Int32)) (hz1 : z1.1 = nI (6 ^ len)) (hz2 : z1.2.1 = nI len) (R0 T0 : Nat → Int32) : ∃ (M : Nat) (q : Nat → Nat) (R T : Nat → Int32), iter (fX11_layRing_L25 pm rm td n bh bm sn km kb kc hh d z1) FU (0, 0, R0, T0) = some (nI M, R, T) ∧ ((M = 0 ∧ ∀ p, ¬ isR d len p) ∨ (M = len ∧ isR d len q ∧ (∀ i, i < len → R i = nI (q i)) ∧ ∀ p, isR d len p → cdN q len ≤ cdN p len)) := by
  have hpow : 6 ^ len ≤ 46656 := Nat.pow_le_pow_right (n := 6) (by omega) h6
  obtain ⟨e, g1, M, q, g2, g3⟩ := iter_inv (st := fX11_layRing_L25 pm rm td n bh bm sn km kb kc hh d z1)
    (fun z => ∃ (c M : Nat) (q : Nat → Nat), c ≤ 6 ^ len ∧ z.1 = nI c ∧ z.2.1 = nI M ∧ ((M = 0 ∧ ∀ p, isR d len p → c ≤ cdN p len) ∨ (M = len ∧ isR d len q ∧ (∀ i, i < len → z.2.2.1 i = nI (q i)) ∧ ∀ p, isR d len p → cdN q len ≤ cdN p len)))
    (fun z => 6 ^ len - z.1.toNatClampNeg)
    (fun e => ∃ (M : Nat) (q : Nat → Nat), e.1 = nI M ∧ ((M = 0 ∧ ∀ p, ¬ isR d len p) ∨ (M = len ∧ isR d len q ∧ (∀ i, i < len → e.2.1 i = nI (q i)) ∧ ∀ p, isR d len p → cdN q len ≤ cdN p len)))
    (fun z hI => by
      obtain ⟨x, mm, R, T⟩ := z
      obtain ⟨c, M, q, hc, w1, w2, w3⟩ := hI
      dsimp only at w1 w2 w3
      subst w1; subst w2
      unfold fX11_layRing_L25
      dsimp only
      rw [hz1]
      by_cases hcp : c = 6 ^ len
      · subst hcp
        rw [if_pos (show nI (6 ^ len) ≤ nI (6 ^ len) by rw [leN (by omega) (by omega)]; omega)]
        refine Or.inr ⟨_, rfl, M, q, rfl, ?_⟩
        rcases w3 with ⟨h, h'⟩ | h
        · refine Or.inl ⟨h, fun p hp => ?_⟩
          have h1 := h' p hp
          have h3 := cd_lt len p (fun i hi => (hp.2.2.1.1 i hi).1)
          omega
        · exact Or.inr h
      rw [if_neg (show ¬ nI (6 ^ len) ≤ nI c by rw [leN (by omega) (by omega)]; omega)]
      rcases w3 with ⟨rfl, h'⟩ | ⟨rfl, h'⟩
      · rw [if_pos (show nI 0 = 0 from rfl), hz2]
        obtain ⟨T', t1, t2⟩ := decodeM (m := len) (c := c) (by omega) h6 (by omega) T
        rw [t1, bd_s]
        unfold fX11_layRing_X45_75 fX11_layRing_J117
        dsimp only
        obtain ⟨v, v1, v2⟩ := isRingM (d := d) (m := len) (p := dgN len c) h2 h6 (fun i _ => dgN_lt len c i) t2 pm rm td n bh bm (nI 0) sn km kb hh kc
        rw [hz2, v1, bd_s, nI1]
        have hmes : 6 ^ len - (nI (c + 1)).toNatClampNeg < 6 ^ len - (nI c).toNatClampNeg := by rw [clN (by omega), clN (by omega)]; omega
        have hcd := cd_dg len c (by omega)
        cases hv : v with
        | false =>
          rw [if_neg Bool.false_ne_true, if_pos rfl]
          refine Or.inl ⟨_, rfl, ⟨c + 1, 0, q, by omega, rfl, rfl, Or.inl ⟨rfl, fun p hp => ?_⟩⟩, hmes⟩
          have h1 := h' p hp
          by_cases e : cdN p len = c
          · exfalso
            have h3 : isR d len (dgN len c) := isR_congr (fun i hi => by rw [← e, dg_cd len p (fun i hi => (hp.2.2.1.1 i hi).1) i hi]) hp
            have h4 := v2.mpr h3
            rw [hv] at h4
            exact absurd h4 Bool.false_ne_true
          · omega
        | true =>
          rw [if_pos rfl, if_neg (show ¬ (1 : Int32) = 0 by decide)]
          obtain ⟨R', r1, r2⟩ := copyRingM h6 z1 hz2 T' R
          rw [r1, bd_s]
          unfold fX11_layRing_X91_117 fX11_layRing_J117
          dsimp only
          rw [hz2, nI1]
          refine Or.inl ⟨_, rfl, ⟨c + 1, len, dgN len c, by omega, rfl, rfl, Or.inr ⟨rfl, v2.mp hv, fun i hi => ?_, fun p hp => ?_⟩⟩, hmes⟩
          · show R' i = _
            rw [r2 i hi, t2 i hi]
          · rw [hcd]; exact h' p hp
      · rw [if_neg (nI_ne0 (by omega) (by omega))]
        exact Or.inr ⟨_, rfl, M, q, rfl, Or.inr ⟨rfl, h'⟩⟩)
    FU (0, 0, R0, T0) ⟨0, 0, fun _ => 0, Nat.zero_le _, rfl, rfl, Or.inl ⟨rfl, fun p hp => Nat.zero_le _⟩⟩ (by show 6 ^ len - _ < 100000; omega)
  exact ⟨M, q, e.2.1, e.2.2, by rw [g1, ← g2], g3⟩
theorem layM (d : Nat → Int32) (pm rm td n bh bm rn sn km kb kc : Int32) (hh : Int64) (R0 T0 : Nat → Int32) : ∃ (L : Nat) (q : Nat → Nat) (R T : Nat → Int32), fX11_layRing pm rm td n bh bm rn sn km kb kc hh d R0 T0 = some (nI L, R, T) ∧ (L = 0 ∨ isR d L q) ∧ (∀ i, i < L → R i = nI (q i)) ∧ ∀ m p, isR d m p → covN L q m p := by
  unfold fX11_layRing
  obtain ⟨e, g1, M, q, g2, g3, g4, g5⟩ := iter_inv (st := fX11_layRing_L11 pm rm td n bh bm sn km kb kc hh d)
    (fun z => ∃ (len M : Nat) (q : Nat → Nat), 1 ≤ len ∧ len ≤ 6 ∧ z.1 = nI (6 ^ len) ∧ z.2.1 = nI len ∧ z.2.2.1 = nI M ∧ ((M = 0 ∧ ∀ m p, isR d m p → m ≤ len) ∨ (isR d M q ∧ (∀ i, i < M → z.2.2.2.1 i = nI (q i)) ∧ ∀ m p, isR d m p → covN M q m p)))
    (fun z => z.2.1.toNatClampNeg)
    (fun e => ∃ (L : Nat) (q : Nat → Nat), e.1 = nI L ∧ (L = 0 ∨ isR d L q) ∧ (∀ i, i < L → e.2.1 i = nI (q i)) ∧ ∀ m p, isR d m p → covN L q m p)
    (fun z hI => by
      obtain ⟨x, y, mm, R, T⟩ := z
      obtain ⟨len, M, q, h1, h6, w1, w2, w3, w4⟩ := hI
      dsimp only at w1 w2 w3 w4
      subst w1; subst w2; subst w3
      have hpow : 6 ^ len ≤ 46656 := Nat.pow_le_pow_right (n := 6) (by omega) h6
      have hend : (len ≤ 1 ∨ ¬ M = 0) → ∃ (L : Nat) (q : Nat → Nat), nI M = nI L ∧ (L = 0 ∨ isR d L q) ∧ (∀ i, i < L → R i = nI (q i)) ∧ ∀ m p, isR d m p → covN L q m p := by
        intro hor
        rcases w4 with ⟨h, h'⟩ | ⟨a1, a2, a3⟩
        · refine ⟨M, q, rfl, Or.inl h, fun i hi => by omega, fun m p hp => ?_⟩
          have := h' m p hp
          have := hp.1
          omega
        · exact ⟨M, q, rfl, Or.inr a1, a2, a3⟩
      unfold fX11_layRing_L11
      dsimp only
      by_cases c1 : len ≤ 1
      · rw [if_pos (show nI len ≤ 1 by rw [show (1 : Int32) = nI 1 from rfl, leN (by omega) (by omega)]; exact c1)]
        exact Or.inr ⟨_, rfl, hend (Or.inl c1)⟩
      rw [if_neg (show ¬ nI len ≤ 1 by rw [show (1 : Int32) = nI 1 from rfl, leN (by omega) (by omega)]; exact c1)]
      by_cases c2 : M = 0
      · subst c2
        rw [if_pos (show nI 0 = 0 from rfl)]
        obtain ⟨M', q', R', T', l1, l2⟩ := lenM (d := d) (len := len) (by omega) h6 pm rm td n bh bm sn km kb kc hh (nI (6 ^ len), nI len, nI 0, R, T) rfl rfl R T
        have l1 : iter (fX11_layRing_L25 pm rm td n bh bm sn km kb kc hh d (nI (6 ^ len), nI len, nI 0, R, T)) FU (0, nI 0, R, T) = some (nI M', R', T') := l1
        rw [l1, bd_s]
        unfold fX11_layRing_X25_123
        dsimp only
        rw [div6N (by omega)]
        have hp6 : 6 ^ len / 6 = 6 ^ (len - 1) := by
          obtain ⟨k, rfl⟩ : ∃ k, len = k + 1 := ⟨len - 1, by omega⟩
          rw [Nat.pow_succ, Nat.mul_div_cancel _ (by omega)]
          rfl
        have hl1 : nI len + -1 = nI (len - 1) := by
          rw [← subN (b := 1) (a := len) (by omega)]
          show _ = nI len - 1
          grind
        rw [hp6, hl1]
        refine Or.inl ⟨_, rfl, ⟨len - 1, M', q', by omega, by omega, rfl, rfl, rfl, ?_⟩, by show (nI (len - 1)).toNatClampNeg < (nI len).toNatClampNeg; rw [clN (by omega), clN (by omega)]; omega⟩
        rcases w4 with ⟨-, h'⟩ | ⟨a1, -, -⟩
        · rcases l2 with ⟨b1, b2⟩ | ⟨b1, b2, b3, b4⟩
          · refine Or.inl ⟨b1, fun m p hp => ?_⟩
            have := h' m p hp
            by_cases e : m = len
            · subst e; exact absurd hp (b2 p)
            · omega
          · subst b1
            refine Or.inr ⟨b2, b3, fun m p hp => ?_⟩
            have := h' m p hp
            by_cases e : m = M'
            · subst e; exact Or.inr ⟨rfl, b4 p hp⟩
            · exact Or.inl (by omega)
        · exact absurd a1.1 (by omega)
      · have hM6 : M ≤ 6 := by
          rcases w4 with ⟨h, -⟩ | ⟨a1, -, -⟩
          · omega
          · exact a1.2.1
        rw [if_neg (nI_ne0 (by omega) (by omega))]
        exact Or.inr ⟨_, rfl, hend (Or.inr c2)⟩)
    FU (46656, 6, 0, R0, T0) ⟨6, 0, fun _ => 0, by omega, by omega, rfl, rfl, rfl, Or.inl ⟨rfl, fun m p hp => hp.2.1⟩⟩ (by show (nI 6).toNatClampNeg < 100000; rw [clN (by omega)]; omega)
  rw [g1, bd_s]
  exact ⟨M, q, e.2.1, e.2.2, by show some (e.1, e.2.1, e.2.2) = _; rw [g2], g3, g4, g5⟩
/-- two longest rings, first of their kind, are one -/
theorem ring_same {d : Nat → Int32} {L L' : Nat} {q q' : Nat → Nat} (h1 : L = 0 ∨ isR d L q) (h2 : ∀ m p, isR d m p → covN L q m p) (h1' : L' = 0 ∨ isR d L' q') (h2' : ∀ m p, isR d m p → covN L' q' m p) : L = L' ∧ ∀ i, i < L → q i = q' i := by
  rcases h1 with rfl | hr
  · rcases h1' with rfl | hr'
    · exact ⟨rfl, fun i hi => absurd hi (Nat.not_lt_zero _)⟩
    · exfalso
      have := hr'.1
      rcases h2 _ _ hr' with h | ⟨h, -⟩ <;> omega
  · have := hr.1
    rcases h1' with rfl | hr'
    · exfalso
      rcases h2' _ _ hr with h | ⟨h, -⟩ <;> omega
    · have e : L = L' := by
        rcases h2' _ _ hr with h | ⟨h, -⟩
        · rcases h2 _ _ hr' with g | ⟨g, -⟩ <;> omega
        · exact h
      subst e
      have hc : cdN q L = cdN q' L := by
        rcases h2' _ _ hr with h | ⟨-, h⟩
        · omega
        · rcases h2 _ _ hr' with g | ⟨-, g⟩ <;> omega
      refine ⟨rfl, fun i hi => ?_⟩
      rw [← dg_cd L q (fun i hi => (hr.2.2.1.1 i hi).1) i hi, hc, dg_cd L q' (fun i hi => (hr'.2.2.1.1 i hi).1) i hi]
