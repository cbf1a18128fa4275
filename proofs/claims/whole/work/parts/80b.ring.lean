/-! ring: the class's search whole; the model's way through the codes -/
theorem searchX (d : Nat → Int32) (L0 : Int32) (P0 Q0 : Nat → Int32) : ∃ (L : Nat) (q : Nat → Nat) (P Q : Nat → Int32), fX8_search L0 P0 Q0 d = some (nI L, P, Q) ∧ (L = 0 ∨ isR d L q) ∧ (∀ i, i < L → Q i = nI (q i)) ∧ ∀ m p, isR d m p → covN L q m p := by
  unfold fX8_search
  obtain ⟨e, h1, L, q, h2, h3, h4, h5⟩ := one_for (st := fX8_search_L7 d)
    (fun f z => ∃ (L : Nat) (q : Nat → Nat), z.1 = nI f ∧ z.2.1 = nI L ∧ (L = 0 ∨ isR d L q) ∧ (∀ i, i < L → z.2.2.2 i = nI (q i)) ∧ (1 ≤ L → q 0 < f) ∧ ∀ m p, isR d m p → p 0 < f → covN L q m p)
    (fun e => ∃ (L : Nat) (q : Nat → Nat), e.1 = nI L ∧ (L = 0 ∨ isR d L q) ∧ (∀ i, i < L → e.2.2 i = nI (q i)) ∧ ∀ m p, isR d m p → covN L q m p) 6 (by omega)
    (fun f z hf hI => by
      obtain ⟨x, l, P, Q⟩ := z
      obtain ⟨L, q, w1, w2, w3, w4, w5, w6⟩ := hI
      dsimp only at w1 w2 w4
      subst w1; subst w2
      unfold fX8_search_L7
      dsimp only
      rw [if_neg (show ¬ (6 : Int32) ≤ nI f by rw [show (6 : Int32) = nI 6 from rfl, leN (by omega) (by omega)]; omega), pow2N ⟨f, by omega⟩, show (0 : Int32).toNatClampNeg = 0 from by decide]
      have h64 : 2 ^ f < 64 := Nat.lt_of_lt_of_le (Nat.pow_lt_pow_right (by omega) hf) (by decide)
      obtain ⟨L', q', P', Q', g1, g2, g3, g4, g5, g6, g7⟩ := goOnN (d := d) 8 1 (fun _ => f) q L (2 ^ f) (upd P 0 (nI f)) Q (by omega) (by omega) (by omega)
        ⟨fun i hi => ⟨hf, Nat.le_refl _⟩, fun i j h1 h2 => by omega, fun i hi => by omega⟩
        (fun i hi => by rw [upd_eq, if_pos (by omega)]) h64
        (fun x hx => by
          rw [Nat.testBit_two_pow, decide_eq_true_iff]
          exact ⟨fun h => ⟨0, by omega, h⟩, fun ⟨_, _, h⟩ => h⟩)
        w3 w4 ⟨fun h => by
          have := w5 h
          show 6 * 0 + q 0 < 6 * 0 + f
          omega, fun h => by
          have e : L = 0 := by omega
          subst e
          exact Nat.le_refl _⟩
      have g1 : fX8_goOn 8 (nI L) (upd P 0 (nI f)) Q d 1 (nI (2 ^ f)) = some (nI L', P', Q') := g1
      dsimp only
      rw [g1, bd_s]
      refine ⟨_, rfl, L', q', nI1 f, rfl, g3, g4, fun h => ?_, fun m p hr hp => ?_⟩
      · have h2 : 6 * 0 + q' 0 ≤ 6 * 0 + f := g5.1 h
        omega
      · by_cases e : p 0 = f
        · refine g7 m p hr (by have := hr.1; omega) (fun i hi => ?_)
          rw [show i = 0 by omega]; exact e
        · exact g6 m p (w6 m p hr (by omega)))
    (fun z hI => by
      obtain ⟨x, l, P, Q⟩ := z
      obtain ⟨L, q, w1, w2, w3, w4, w5, w6⟩ := hI
      dsimp only at w1 w2 w4
      subst w1; subst w2
      unfold fX8_search_L7
      dsimp only
      rw [if_pos (by decide)]
      exact ⟨_, rfl, L, q, rfl, w3, w4, fun m p hr => w6 m p hr (hr.2.2.1.1 0 (by have := hr.1; omega)).1⟩)
    (0, 0, P0, Q0) ⟨0, fun _ => 0, rfl, rfl, Or.inl rfl, fun i hi => absurd hi (Nat.not_lt_zero _), fun h => absurd h (by omega), fun m p _ h => absurd h (Nat.not_lt_zero _)⟩
  rw [h1, bd_s]
  exact ⟨L, q, e.2.1, e.2.2, by show some (e.1, e.2.1, e.2.2) = _; rw [h2], h3, h4, h5⟩
def dgN (m c i : Nat) : Nat := c / 6 ^ (m - 1 - i) % 6
theorem dgN_lt (m c i : Nat) : dgN m c i < 6 := Nat.mod_lt _ (by omega)
theorem dgN_succ (m c i : Nat) (hi : i < m) : dgN (m + 1) c i = dgN m (c / 6) i := by
  unfold dgN
  rw [Nat.div_div_eq_div_mul, show m + 1 - 1 - i = (m - 1 - i) + 1 by omega, Nat.pow_succ, Nat.mul_comm 6]
theorem dgN_last (m c : Nat) : dgN (m + 1) c m = c % 6 := by
  unfold dgN
  rw [show m + 1 - 1 - m = 0 by omega, Nat.pow_zero, Nat.div_one]
theorem cd_lt : ∀ (m : Nat) (p : Nat → Nat), (∀ i, i < m → p i < 6) → cdN p m < 6 ^ m
  | 0, _, _ => Nat.lt_succ_self 0
  | m + 1, p, h => by
    have h1 := cd_lt m p (fun i hi => h i (by omega))
    have h2 := h m (by omega)
    show 6 * cdN p m + p m < _
    rw [Nat.pow_succ]
    omega
theorem dg_cd : ∀ (m : Nat) (p : Nat → Nat), (∀ i, i < m → p i < 6) → ∀ i, i < m → dgN m (cdN p m) i = p i
  | 0, _, _, i, hi => absurd hi (Nat.not_lt_zero _)
  | m + 1, p, h, i, hi => by
    have h2 := h m (by omega)
    show dgN (m + 1) (6 * cdN p m + p m) i = p i
    by_cases e : i = m
    · subst e
      rw [dgN_last]
      omega
    · rw [dgN_succ m _ i (by omega), show (6 * cdN p m + p m) / 6 = cdN p m by omega]
      exact dg_cd m p (fun i hi => h i (by omega)) i (by omega)
theorem cd_dg : ∀ (m c : Nat), c < 6 ^ m → cdN (dgN m c) m = c
  | 0, c, h => by
    have : c < 1 := h
    show 0 = c
    omega
  | m + 1, c, h => by
    show 6 * cdN (dgN (m + 1) c) m + dgN (m + 1) c m = c
    rw [dgN_last, cdN_congr (q := dgN m (c / 6)) m (fun i hi => dgN_succ m c i hi), cd_dg m (c / 6) (by rw [Nat.pow_succ] at h; omega)]
    omega
theorem div6N {c : Nat} (h : c < 2 ^ 31) : (nI c / 6 : Int32) = nI (c / 6) := pk_div h (d := 6) (by omega) (by omega)
theorem rem6N {c : Nat} (h : c < 2 ^ 31) : (nI c - nI c / 6 * 6 : Int32) = nI (c % 6) := pk_rem h (d := 6) (by omega) (by omega)
theorem decodeM {m c : Nat} (hm : 1 ≤ m) (hm6 : m ≤ 6) (hc : c < 2 ^ 31) (R : Nat → Int32) : ∃ R', iter fX11_layRing_L45 FU (nI c, nI m - 1, R) = some R' ∧ ∀ i, i < m → R' i = nI (dgN m c i) := by
  obtain ⟨e, h1, h2⟩ := one_for (st := fX11_layRing_L45)
    (fun j z => z.1 = nI (c / 6 ^ j) ∧ z.2.1 = nI (m - j) - 1 ∧ ∀ i, i < m → m ≤ i + j → z.2.2 i = nI (dgN m c i))
    (fun e => ∀ i, i < m → e i = nI (dgN m c i)) m (by omega)
    (fun j z hj hI => by
      obtain ⟨a, b, T⟩ := z
      obtain ⟨w1, w2, w3⟩ := hI
      dsimp only at w1 w2 w3
      subst w1; subst w2
      have hcj : c / 6 ^ j < 2 ^ 31 := Nat.lt_of_le_of_lt (Nat.div_le_self _ _) hc
      unfold fX11_layRing_L45
      dsimp only
      rw [show (nI (m - j) - 1) = nI (m - j - 1) from subN (b := 1) (by omega), if_neg (show ¬ nI (m - j - 1) < 0 by rw [show (0 : Int32) = nI 0 from rfl, ltN (by omega) (by omega)]; omega), gd_t (inbN (by omega) (by omega)), clN (by omega), rem6N hcj, div6N hcj]
      refine ⟨_, rfl, ?_, ?_, fun i hi hij => ?_⟩
      · show nI (c / 6 ^ j / 6) = _
        rw [Nat.div_div_eq_div_mul, ← Nat.pow_succ]
      · show nI (m - j - 1) + -1 = nI (m - (j + 1)) - 1
        rw [show m - (j + 1) = m - j - 1 by omega]
        grind
      · show upd T (m - j - 1) (nI (c / 6 ^ j % 6)) i = _
        rw [upd_eq]
        by_cases e : i = m - j - 1
        · rw [if_pos e]
          unfold dgN
          rw [show m - 1 - i = j by omega]
        · rw [if_neg e]
          exact w3 i hi (by omega))
    (fun z hI => by
      obtain ⟨a, b, T⟩ := z
      obtain ⟨w1, w2, w3⟩ := hI
      dsimp only at w1 w2 w3
      subst w1; subst w2
      unfold fX11_layRing_L45
      dsimp only
      rw [Nat.sub_self, if_pos (by decide)]
      exact ⟨_, rfl, fun i hi => w3 i hi (by omega)⟩) (nI c, nI m - 1, R) ⟨by rw [Nat.pow_zero, Nat.div_one], rfl, fun i hi h => by omega⟩
  exact ⟨e, h1, h2⟩
def condN (d : Nat → Int32) (m : Nat) (p : Nat → Nat) (i : Nat) : Prop := (∀ k, k < i → p k ≠ p i) ∧ p 0 ≤ p i ∧ edN d (p i) (p ((i + 1) % m)) = true
theorem isRingM {d : Nat → Int32} {m : Nat} {p : Nat → Nat} (hm : 2 ≤ m) (hm6 : m ≤ 6) (hp : ∀ i, i < m → p i < 6) {R : Nat → Int32} (hR : ∀ i, i < m → R i = nI (p i)) (a b c e f' g h i j k' : Int32) (hh : Int64) (x : Int32) : ∃ v : Bool, fX11_isRing a b c e f' g h i j k' x hh d R (nI m) = some (if v = true then 1 else 0) ∧ (v = true ↔ isR d m p) := by
  unfold fX11_isRing
  obtain ⟨e, h1, v, h2, h3⟩ := one_for (st := fX11_isRing_L7 d R (nI m))
    (fun i z => ∃ (v : Bool) (bs : Nat), z = ((if v = true then 1 else 0), nI bs, nI i) ∧ bs < 64 ∧ (∀ x, x < 6 → (bs.testBit x = true ↔ ∃ k, k < i ∧ p k = x)) ∧ (v = true ↔ ∀ k, k < i → condN d m p k))
    (fun e => ∃ v : Bool, e = (if v = true then 1 else 0) ∧ (v = true ↔ ∀ k, k < m → condN d m p k)) m (by omega)
    (fun i z hi hI => by
      obtain ⟨v, bs, rfl, hbs, hbits, hv⟩ := hI
      have hpi := hp i hi
      have hp0 := hp 0 (by omega)
      have hnx : (i + 1) % m < m := Nat.mod_lt _ (by omega)
      have hpn := hp _ hnx
      obtain ⟨⟨bs', hbs'⟩, hor1, hor2⟩ := bit_or ⟨bs, hbs⟩ ⟨p i, hpi⟩
      dsimp only at hor1 hor2
      have hbits' : ∀ x, x < 6 → (bs'.testBit x = true ↔ ∃ k, k < i + 1 ∧ p k = x) := fun y hy => by
        have h1 := hor2 ⟨y, hy⟩
        dsimp only at h1
        rw [h1, Bool.or_eq_true, hbits y hy, decide_eq_true_iff]
        constructor
        · rintro (⟨k, hk, e⟩ | e)
          · exact ⟨k, by omega, e⟩
          · exact ⟨i, by omega, (Fin.mk.inj e).symm⟩
        · rintro ⟨k, hk, e⟩
          by_cases e2 : k = i
          · subst e2; subst e; exact Or.inr rfl
          · exact Or.inl ⟨k, by omega, e⟩
      have hstep : ∀ v' : Bool, (v' = true ↔ (v = true ∧ condN d m p i)) → ∀ q : Int32, q = (if v' = true then 1 else 0) → ∃ t, (some (Sum.inl (q, nI bs', nI (i + 1))) : Option ((Int32 × Int32 × Int32) ⊕ (Int32))) = some (Sum.inl t) ∧ ∃ (v : Bool) (bs : Nat), t = ((if v = true then 1 else 0), nI bs, nI (i + 1)) ∧ bs < 64 ∧ (∀ x, x < 6 → (bs.testBit x = true ↔ ∃ k, k < i + 1 ∧ p k = x)) ∧ (v = true ↔ ∀ k, k < i + 1 → condN d m p k) := by
        intro v' hv' q hq
        refine ⟨_, rfl, v', bs', by rw [hq], hbs', hbits', ?_⟩
        rw [hv', hv]
        constructor
        · intro ⟨h1, h2⟩ k hk
          by_cases e : k = i
          · subst e; exact h2
          · exact h1 k (by omega)
        · intro h
          exact ⟨fun k hk => h k (by omega), h i (by omega)⟩
      unfold fX11_isRing_L7 fX11_isRing_J81 fX11_isRing_J82
      dsimp only
      rw [if_neg (show ¬ nI m ≤ nI i by rw [leN (by omega) (by omega)]; omega), gd_t (inbN (by omega) (by omega)), gd_t (inbN (by omega) (by omega)), gd_t (inbN (by omega) (by omega)), clN (show i < 2 ^ 31 by omega), hR i hi, hor1, nI1, show (0 : Int32).toNatClampNeg = 0 from by decide, hR 0 (by omega), bitN ⟨bs, by omega⟩ ⟨p i, by omega⟩]
      dsimp only
      rw [pk_rem (show i + 1 < 2 ^ 31 by omega) (show 0 < m by omega) (show m < 2 ^ 31 by omega), gd_t (show nzi (nI m) = true from decide_eq_true (nI_ne0 (by omega) (by omega))), gd_t (inbN (show (i + 1) % m < 6 by omega) (by omega)), clN (show (i + 1) % m < 2 ^ 31 by omega), hR _ hnx, m6N, gd_t (inbN (by omega) (by omega)), clN (by omega)]
      cases hvv : v with
      | false =>
        rw [if_neg Bool.false_ne_true, if_pos rfl]
        exact hstep false (by rw [hvv]; exact ⟨fun h => absurd h Bool.false_ne_true, fun h => absurd h.1 Bool.false_ne_true⟩) 0 rfl
      | true =>
        rw [if_pos rfl, if_neg (show ¬ (1 : Int32) = 0 by decide)]
        have hF : ¬ condN d m p i → ∃ t, (some (Sum.inl ((0 : Int32), nI bs', nI (i + 1))) : Option ((Int32 × Int32 × Int32) ⊕ (Int32))) = some (Sum.inl t) ∧ ∃ (v : Bool) (bs : Nat), t = ((if v = true then 1 else 0), nI bs, nI (i + 1)) ∧ bs < 64 ∧ (∀ x, x < 6 → (bs.testBit x = true ↔ ∃ k, k < i + 1 ∧ p k = x)) ∧ (v = true ↔ ∀ k, k < i + 1 → condN d m p k) := fun hn => hstep false ⟨fun h => absurd h Bool.false_ne_true, fun h => absurd h.2 hn⟩ 0 rfl
        by_cases cb : bs.testBit (p i) = true
        · rw [if_pos cb, if_neg (show ¬ (1 : Int32) = 0 by decide)]
          obtain ⟨k, hk, e⟩ := (hbits _ hpi).mp cb
          exact hF (fun h => h.1 k hk e)
        rw [if_neg cb, if_pos rfl]
        have e1 : (nI (p i) < nI (p 0)) = (p i < p 0) := ltN (by omega) (by omega)
        by_cases c1 : p i < p 0
        · rw [if_pos (e1.mpr c1)]
          exact hF (fun h => by have := h.2.1; omega)
        rw [if_neg (fun q => c1 (e1.mp q))]
        by_cases c2 : d (6 * p i + p ((i + 1) % m)) ≤ 0
        · rw [if_pos c2]
          exact hF (fun h => (of_decide_eq_true h.2.2 : ¬ d (6 * p i + p ((i + 1) % m)) ≤ 0) c2)
        · rw [if_neg c2]
          exact hstep true ⟨fun _ => ⟨hvv, fun k hk e => cb ((hbits _ hpi).mpr ⟨k, hk, e⟩), by omega, decide_eq_true c2⟩, fun _ => rfl⟩ 1 rfl)
    (fun z hI => by
      obtain ⟨v, bs, rfl, hbs, hbits, hv⟩ := hI
      unfold fX11_isRing_L7
      dsimp only
      rw [if_pos (show nI m ≤ nI m by rw [leN (by omega) (by omega)]; omega)]
      exact ⟨_, rfl, v, rfl, hv⟩) (1, 0, 0) ⟨true, 0, rfl, by omega, fun x hx => ⟨fun h => by rw [Nat.zero_testBit] at h; exact absurd h Bool.false_ne_true, fun ⟨_, h, _⟩ => absurd h (Nat.not_lt_zero _)⟩, ⟨fun _ k hk => absurd hk (Nat.not_lt_zero _), fun _ => rfl⟩⟩
  rw [h1, bd_s, h2]
  refine ⟨v, ?_, ?_⟩
  · unfold fX11_isRing_X7_101
    cases v with
    | false => exact gd_t (by decide)
    | true => exact gd_t (by decide)
  · rw [h3]
    constructor
    · intro h
      refine ⟨hm, hm6, ⟨fun i hi => ⟨hp i hi, (h i hi).2.1⟩, fun i j hij hj => (h j hj).1 i hij, fun i hi => ?_⟩, ?_⟩
      · have := (h i (by omega)).2.2
        rw [Nat.mod_eq_of_lt hi] at this
        exact this
      · have := (h (m - 1) (by omega)).2.2
        rw [show m - 1 + 1 = m by omega, Nat.mod_self] at this
        exact this
    · intro hr i hi
      refine ⟨fun k hk => hr.2.2.1.2.1 k i hk hi, (hr.2.2.1.1 i hi).2, ?_⟩
      by_cases e : i + 1 = m
      · rw [e, Nat.mod_self, show i = m - 1 by omega]
        exact hr.2.2.2
      · rw [Nat.mod_eq_of_lt (by omega)]
        exact hr.2.2.1.2.2 i (by omega)
