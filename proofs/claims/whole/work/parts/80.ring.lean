/-! ring: the search from the least of its people on -/
def cdN (p : Nat → Nat) : Nat → Nat
  | 0 => 0
  | i + 1 => 6 * cdN p i + p i
def edN (d : Nat → Int32) (a b : Nat) : Bool := decide (¬ d (6 * a + b) ≤ 0)
def preN (d : Nat → Int32) (m : Nat) (p : Nat → Nat) : Prop := (∀ i, i < m → p i < 6 ∧ p 0 ≤ p i) ∧ (∀ i j, i < j → j < m → p i ≠ p j) ∧ ∀ i, i + 1 < m → edN d (p i) (p (i + 1)) = true
def isR (d : Nat → Int32) (m : Nat) (p : Nat → Nat) : Prop := 2 ≤ m ∧ m ≤ 6 ∧ preN d m p ∧ edN d (p (m - 1)) (p 0) = true
def covN (L : Nat) (q : Nat → Nat) (m : Nat) (p : Nat → Nat) : Prop := m < L ∨ (m = L ∧ cdN q L ≤ cdN p L)
def entN (m : Nat) (p : Nat → Nat) (L : Nat) (q : Nat → Nat) : Prop := (m ≤ L → cdN q m < cdN p m) ∧ (L < m → cdN q L ≤ cdN p L)
def extN (m : Nat) (p : Nat → Nat) (L : Nat) (q : Nat → Nat) : Prop := (m ≤ L → cdN q m ≤ cdN p m) ∧ (L < m → cdN q L ≤ cdN p L)
theorem cdN_congr {p q : Nat → Nat} : ∀ m, (∀ i, i < m → p i = q i) → cdN p m = cdN q m
  | 0, _ => rfl
  | m + 1, h => by
    show 6 * cdN p m + p m = 6 * cdN q m + q m
    rw [cdN_congr m (fun i hi => h i (by omega)), h m (by omega)]
theorem goOnN {d : Nat → Int32} : ∀ (dep m : Nat) (p q : Nat → Nat) (L bs : Nat) (P Q : Nat → Int32), 1 ≤ m → m ≤ 6 → 7 ≤ m + dep → preN d m p → (∀ i, i < m → P i = nI (p i)) → bs < 64 → (∀ x, x < 6 → (bs.testBit x = true ↔ ∃ i, i < m ∧ p i = x)) → (L = 0 ∨ isR d L q) → (∀ i, i < L → Q i = nI (q i)) → entN m p L q → ∃ (L' : Nat) (q' : Nat → Nat) (P' Q' : Nat → Int32), fX8_goOn dep (nI L) P Q d (nI m) (nI bs) = some (nI L', P', Q') ∧ (∀ i, i < m → P' i = P i) ∧ (L' = 0 ∨ isR d L' q') ∧ (∀ i, i < L' → Q' i = nI (q' i)) ∧ extN m p L' q' ∧ (∀ m' p', covN L q m' p' → covN L' q' m' p') ∧ ∀ m' p', isR d m' p' → m ≤ m' → (∀ i, i < m → p' i = p i) → covN L' q' m' p'
  | 0, m, _, _, _, _, _, _, _, h, h', _, _, _, _, _, _, _ => absurd h' (by omega)
  | dep + 1, m, p, q, L, bs, P, Q, hm1, hm6, hdep, hpre, hP, hbs, hbits, hval, hQ, hent => by
    have hp0 := hpre.1 0 (by omega)
    have hpl := hpre.1 (m - 1) (by omega)
    have hL6 : L ≤ 6 := by
      rcases hval with h | h
      · omega
      · exact h.2.1
    have hJ : ∀ (L1 : Nat) (q1 : Nat → Nat) (Q1 : Nat → Int32), (L1 = 0 ∨ isR d L1 q1) → (∀ i, i < L1 → Q1 i = nI (q1 i)) → (m + 1 ≤ L1 → cdN q1 m < cdN p m) → (L1 ≤ m → cdN q1 L1 ≤ cdN p L1) → (∀ m' p', covN L q m' p' → covN L1 q1 m' p') → (isR d m p → covN L1 q1 m p) → ∃ (L' : Nat) (q' : Nat → Nat) (P' Q' : Nat → Int32), fX8_goOn_J69 (fX8_goOn dep) P d (nI m) (nI bs) (nI L1, Q1) = some (nI L', P', Q') ∧ (∀ i, i < m → P' i = P i) ∧ (L' = 0 ∨ isR d L' q') ∧ (∀ i, i < L' → Q' i = nI (q' i)) ∧ extN m p L' q' ∧ (∀ m' p', covN L q m' p' → covN L' q' m' p') ∧ ∀ m' p', isR d m' p' → m ≤ m' → (∀ i, i < m → p' i = p i) → covN L' q' m' p' := by
      intro L1 q1 Q1 v1 v2 v3 v4 v5 v6
      -- a ring of this very length is the path
      have hsame : ∀ m' p', isR d m' p' → m' = m → (∀ i, i < m → p' i = p i) → covN L1 q1 m' p' := by
        intro m' p' hr he hag
        subst he
        have hrp : isR d m' p := by
          obtain ⟨a1, a2, ⟨a3, a4, a5⟩, a6⟩ := hr
          refine ⟨a1, a2, hpre, ?_⟩
          rw [← hag _ (by omega), ← hag 0 (by omega)]
          exact a6
        rcases v6 hrp with h | ⟨h, h'⟩
        · exact Or.inl h
        · refine Or.inr ⟨h, ?_⟩
          rw [cdN_congr (p := p') (q := p) L1 (fun i hi => hag i (by omega))]
          exact h'
      unfold fX8_goOn_J69
      by_cases c6 : m = 6
      · rw [if_pos (show nI m = 6 by rw [c6]; rfl)]
        refine ⟨L1, q1, P, Q1, rfl, fun i _ => rfl, v1, v2, ⟨fun h => ?_, fun h => v4 (by omega)⟩, v5, fun m' p' hr hmm hag => hsame m' p' hr (by have := hr.2.1; omega) hag⟩
        have hL1 : L1 ≤ 6 := by
          rcases v1 with h | h
          · omega
          · exact h.2.1
        have e : L1 = m := by omega
        subst e
        exact v4 (Nat.le_refl _)
      rw [if_neg (show ¬ nI m = 6 by rw [show (6 : Int32) = nI 6 from rfl, eqN (by omega) (by omega)]; exact c6)]
      obtain ⟨e, g1, g2⟩ := one_for (st := fX8_goOn_L86 (fX8_goOn dep) P d (nI m) (nI bs))
        (fun j z => ∃ (L2 : Nat) (q2 : Nat → Nat), z.1 = nI (p 0 + 1 + j) ∧ z.2.1 = nI L2 ∧ (∀ i, i < m → z.2.2.1 i = P i) ∧ (L2 = 0 ∨ isR d L2 q2) ∧ (∀ i, i < L2 → z.2.2.2 i = nI (q2 i)) ∧ (m + 1 ≤ L2 → cdN q2 (m + 1) < 6 * cdN p m + (p 0 + 1 + j)) ∧ (L2 ≤ m → cdN q2 L2 ≤ cdN p L2) ∧ (∀ m' p', covN L q m' p' → covN L2 q2 m' p') ∧ ∀ m' p', isR d m' p' → m ≤ m' → (∀ i, i < m → p' i = p i) → (m' = m ∨ p' m < p 0 + 1 + j) → covN L2 q2 m' p')
        (fun e => ∃ (L' : Nat) (q' : Nat → Nat), e.1 = nI L' ∧ (∀ i, i < m → e.2.1 i = P i) ∧ (L' = 0 ∨ isR d L' q') ∧ (∀ i, i < L' → e.2.2 i = nI (q' i)) ∧ extN m p L' q' ∧ (∀ m' p', covN L q m' p' → covN L' q' m' p') ∧ ∀ m' p', isR d m' p' → m ≤ m' → (∀ i, i < m → p' i = p i) → covN L' q' m' p') (5 - p 0) (by omega)
        (fun j z hj hI => by
          obtain ⟨x, l2, P2, Q2⟩ := z
          obtain ⟨L2, q2, w1, w2, w3, w4, w5, w6, w7, w8, w9⟩ := hI
          dsimp only at w1 w2 w3 w5
          subst w1; subst w2
          generalize hx : p 0 + 1 + j = x at w6 w9 ⊢
          have hx6 : x < 6 := by omega
          unfold fX8_goOn_L86 fX8_goOn_J135
          dsimp only
          rw [if_neg (show ¬ (6 : Int32) ≤ nI x by rw [show (6 : Int32) = nI 6 from rfl, leN (by omega) (by omega)]; omega), bitN ⟨bs, by omega⟩ ⟨x, by omega⟩]
          dsimp only
          -- where nothing new is met
          have hskip : (∀ m' p', isR d m' p' → m < m' → (∀ i, i < m → p' i = p i) → p' m = x → False) → ∃ t, some (Sum.inl (nI x + 1, nI L2, P2, Q2) : (Int32 × Int32 × (Nat → Int32) × (Nat → Int32)) ⊕ (Int32 × (Nat → Int32) × (Nat → Int32))) = some (Sum.inl t) ∧ ∃ (L2 : Nat) (q2 : Nat → Nat), t.1 = nI (p 0 + 1 + (j + 1)) ∧ t.2.1 = nI L2 ∧ (∀ i, i < m → t.2.2.1 i = P i) ∧ (L2 = 0 ∨ isR d L2 q2) ∧ (∀ i, i < L2 → t.2.2.2 i = nI (q2 i)) ∧ (m + 1 ≤ L2 → cdN q2 (m + 1) < 6 * cdN p m + (p 0 + 1 + (j + 1))) ∧ (L2 ≤ m → cdN q2 L2 ≤ cdN p L2) ∧ (∀ m' p', covN L q m' p' → covN L2 q2 m' p') ∧ ∀ m' p', isR d m' p' → m ≤ m' → (∀ i, i < m → p' i = p i) → (m' = m ∨ p' m < p 0 + 1 + (j + 1)) → covN L2 q2 m' p' := by
            intro hno
            refine ⟨_, rfl, L2, q2, ?_, rfl, w3, w4, w5, fun h => ?_, w7, w8, fun m' p' hr hmm hag hor => ?_⟩
            · show nI x + 1 = _
              rw [nI1, ← hx]
              rfl
            · have := w6 h
              omega
            · rcases hor with h | h
              · exact w9 m' p' hr hmm hag (Or.inl h)
              · by_cases e : p' m = x
                · by_cases e2 : m' = m
                  · exact w9 m' p' hr hmm hag (Or.inl e2)
                  · exact absurd e (fun e => hno m' p' hr (by omega) hag e)
                · exact w9 m' p' hr hmm hag (Or.inr (by omega))
          by_cases cb : bs.testBit x = true
          · rw [if_pos cb, if_neg (show ¬ (1 : Int32) = 0 by decide)]
            obtain ⟨i, hi, hpi⟩ := (hbits x hx6).mp cb
            exact hskip (fun m' p' hr hmm hag e => hr.2.2.1.2.1 i m hi hmm (by rw [hag i hi, hpi, e]))
          rw [if_neg cb, if_pos rfl, show (nI m - 1) = nI (m - 1) from subN (b := 1) hm1, clN (by omega), hP (m - 1) (by omega), sumsN d hpl.1 hx6, bd_s]
          by_cases ce : d (6 * p (m - 1) + x) ≤ 0
          · rw [if_pos ce]
            refine hskip (fun m' p' hr hmm hag e => ?_)
            have h1 := hr.2.2.1.2.2 (m - 1) (by omega)
            rw [show m - 1 + 1 = m by omega, e, hag (m - 1) (by omega)] at h1
            exact (of_decide_eq_true h1 : ¬ d (6 * p (m - 1) + x) ≤ 0) ce
          rw [if_neg ce, gd_t (inbN (show m < 6 by omega) (by omega)), clN (show m < 2 ^ 31 by omega), nI1]
          obtain ⟨⟨bs', hbs'⟩, hor1, hor2⟩ := bit_or ⟨bs, hbs⟩ ⟨x, hx6⟩
          dsimp only at hor1 hor2
          rw [hor1]
          have hnx : ∀ i, i < m → p i ≠ x := fun i hi e => cb ((hbits x hx6).mpr ⟨i, hi, e⟩)
          generalize hpp : (fun i => if i = m then x else p i) = pp
          have ppm : pp m = x := by rw [← hpp]; exact if_pos rfl
          have ppl : ∀ i, i < m → pp i = p i := fun i hi => by rw [← hpp]; exact if_neg (by omega)
          have hcd : ∀ i, i ≤ m → cdN pp i = cdN p i := fun i hi => cdN_congr i (fun k hk => ppl k (by omega))
          have hcd1 : cdN pp (m + 1) = 6 * cdN p m + x := by
            show 6 * cdN pp m + pp m = _
            rw [hcd m (Nat.le_refl _), ppm]
          obtain ⟨L3, q3, P3, Q3, y1, y2, y3, y4, y5, y6, y7⟩ := goOnN dep (m + 1) pp q2 L2 bs' (upd P2 m (nI x)) Q2 (by omega) (by omega) (by omega)
            (by
              refine ⟨fun i hi => ?_, fun i k hik hk => ?_, fun i hi => ?_⟩
              · rw [ppl 0 (by omega)]
                by_cases e : i = m
                · subst e; rw [ppm]; omega
                · rw [ppl i (by omega)]; exact hpre.1 i (by omega)
              · by_cases e : k = m
                · subst e; rw [ppm, ppl i hik]; exact hnx i hik
                · rw [ppl i (by omega), ppl k (by omega)]; exact hpre.2.1 i k hik (by omega)
              · by_cases e : i + 1 = m
                · rw [e, ppm, ppl i (by omega), show i = m - 1 by omega]
                  exact decide_eq_true ce
                · rw [ppl i (by omega), ppl (i + 1) (by omega)]; exact hpre.2.2 i (by omega))
            (fun i hi => by
              rw [upd_eq]
              by_cases e : i = m
              · rw [if_pos e, e, ppm]
              · rw [if_neg e, ppl i (by omega), w3 i (by omega)]; exact hP i (by omega))
            hbs'
            (fun y hy => by
              have h1 := hor2 ⟨y, hy⟩
              dsimp only at h1
              rw [h1, Bool.or_eq_true, hbits y hy, decide_eq_true_iff]
              constructor
              · rintro (⟨i, hi, e⟩ | e)
                · exact ⟨i, by omega, by rw [ppl i hi, e]⟩
                · have e : y = x := Fin.mk.inj e
                  exact ⟨m, by omega, by rw [ppm, e]⟩
              · rintro ⟨i, hi, e⟩
                by_cases e2 : i = m
                · subst e2
                  rw [ppm] at e
                  subst e
                  exact Or.inr rfl
                · rw [ppl i (by omega)] at e
                  exact Or.inl ⟨i, by omega, e⟩)
            w4 w5 ⟨fun h => by rw [hcd1]; exact w6 h, fun h => by rw [hcd L2 (by omega)]; exact w7 (by omega)⟩
          rw [y1, bd_s]
          refine ⟨_, rfl, L3, q3, ?_, rfl, fun i hi => ?_, y3, y4, fun h => ?_, fun h => ?_, fun m' p' h => y6 m' p' (w8 m' p' h), fun m' p' hr hmm hag hor => ?_⟩
          · show nI x + 1 = _
            rw [nI1, ← hx]
            rfl
          · show P3 i = P i
            rw [y2 i (by omega), upd_eq, if_neg (by omega)]
            exact w3 i hi
          · have := y5.1 h
            rw [hcd1] at this
            omega
          · have := y5.2 (by omega)
            rw [hcd L3 h] at this
            exact this
          · by_cases e : m' = m
            · exact y6 m' p' (w9 m' p' hr hmm hag (Or.inl e))
            · by_cases e2 : p' m = x
              · refine y7 m' p' hr (by omega) (fun i hi => ?_)
                by_cases e3 : i = m
                · rw [e3, ppm, e2]
                · rw [ppl i (by omega)]; exact hag i (by omega)
              · exact y6 m' p' (w9 m' p' hr hmm hag (Or.inr (by omega))))
        (fun z hI => by
          obtain ⟨x, l2, P2, Q2⟩ := z
          obtain ⟨L2, q2, w1, w2, w3, w4, w5, w6, w7, w8, w9⟩ := hI
          dsimp only at w1 w2 w3 w5
          subst w1; subst w2
          unfold fX8_goOn_L86
          dsimp only
          rw [if_pos (show (6 : Int32) ≤ nI (p 0 + 1 + (5 - p 0)) by rw [show (6 : Int32) = nI 6 from rfl, leN (by omega) (by omega)]; omega)]
          refine ⟨_, rfl, L2, q2, rfl, w3, w4, w5, ⟨fun h => ?_, fun h => w7 (by omega)⟩, w8, fun m' p' hr hmm hag => w9 m' p' hr hmm hag ?_⟩
          · by_cases e : L2 = m
            · subst e; exact w7 (Nat.le_refl _)
            · have h1 : 6 * cdN q2 m + q2 m < 6 * cdN p m + (p 0 + 1 + (5 - p 0)) := w6 (by omega)
              omega
          · by_cases e : m' = m
            · exact Or.inl e
            · have := (hr.2.2.1.1 m (by omega)).1
              exact Or.inr (by omega))
        (P (0 : Int32).toNatClampNeg + 1, nI L1, P, Q1)
        ⟨L1, q1, by rw [show (0 : Int32).toNatClampNeg = 0 from by decide, hP 0 (by omega)]; exact nI1 _, rfl, fun i _ => rfl, v1, v2, fun h => by
          have h1 := v3 h
          have h2 : q1 m < 6 := by
            rcases v1 with h3 | h3
            · omega
            · exact (h3.2.2.1.1 m (by omega)).1
          show 6 * cdN q1 m + q1 m < _
          omega, v4, v5, fun m' p' hr hmm hag hor => by
          by_cases e : m' = m
          · exact hsame m' p' hr e hag
          · exfalso
            have h1 := hr.2.2.1.1 m (by omega)
            have h2 := hr.2.2.1.2.1 0 m (by omega) (by omega)
            rw [hag 0 (by omega)] at h1 h2
            omega⟩
      rw [g1, bd_s]
      obtain ⟨L', q', f1, f2, f3, f4, f5, f6, f7⟩ := g2
      exact ⟨L', q', e.2.1, e.2.2, by show some (e.1, e.2.1, e.2.2) = _; rw [f1], f2, f3, f4, f5, f6, f7⟩
    show ∃ (L' : Nat) (q' : Nat → Nat) (P' Q' : Nat → Int32), fX8_goOn_b (fX8_goOn dep) (nI L) P Q d (nI m) (nI bs) = _ ∧ _
    unfold fX8_goOn_b
    rw [if_neg (show ¬ nI m < 1 by rw [show (1 : Int32) = nI 1 from rfl, ltN (by omega) (by omega)]; omega), if_pos (show nI m ≤ 6 by rw [show (6 : Int32) = nI 6 from rfl, leN (by omega) (by omega)]; omega), show (nI m - 1) = nI (m - 1) from subN (b := 1) hm1, gd_t (inbN (show m - 1 < 6 by omega) (by omega)), clN (show m - 1 < 2 ^ 31 by omega), hP (m - 1) (by omega), show (0 : Int32).toNatClampNeg = 0 from by decide, hP 0 (by omega), sumsN d hpl.1 hp0.1, bd_s]
    have v4 : L ≤ m → cdN q L ≤ cdN p L := fun h => by
      by_cases e : L = m
      · subst e; exact Nat.le_of_lt (hent.1 (Nat.le_refl _))
      · exact hent.2 (by omega)
    by_cases c1 : m ≤ 1
    · rw [if_pos (show nI m ≤ 1 by rw [show (1 : Int32) = nI 1 from rfl, leN (by omega) (by omega)]; exact c1)]
      exact hJ L q Q hval hQ (fun h => hent.1 (by omega)) v4 (fun m' p' h => h) (fun h => absurd h.1 (by omega))
    rw [if_neg (show ¬ nI m ≤ 1 by rw [show (1 : Int32) = nI 1 from rfl, leN (by omega) (by omega)]; exact c1)]
    by_cases c2 : m ≤ L
    · rw [if_pos (show nI m ≤ nI L by rw [leN (by omega) (by omega)]; exact c2)]
      refine hJ L q Q hval hQ (fun h => hent.1 (by omega)) v4 (fun m' p' h => h) (fun h => ?_)
      by_cases e : m = L
      · subst e; exact Or.inr ⟨rfl, Nat.le_of_lt (hent.1 (Nat.le_refl _))⟩
      · exact Or.inl (by omega)
    rw [if_neg (show ¬ nI m ≤ nI L by rw [leN (by omega) (by omega)]; exact c2)]
    by_cases c3 : d (6 * p (m - 1) + p 0) ≤ 0
    · rw [if_pos c3]
      exact hJ L q Q hval hQ (fun h => hent.1 (by omega)) v4 (fun m' p' h => h) (fun h => absurd c3 (of_decide_eq_true h.2.2.2))
    rw [if_neg c3, gd_t (show cpok (nI m) 6 = true from decide_eq_true ⟨fun h => by
      rw [nI_lt0, nI_toInt (by omega)] at h
      omega, by rw [clN (by omega)]; omega⟩)]
    have hcp : va_cpy P Q 0 0 (nI m).toNatClampNeg = cpF m P Q := by
      have := cpyN (n := m) (k := nI m) (clN (by omega)) P Q
      rw [show (0 : Int32).toNatClampNeg = 0 from by decide] at this
      exact this
    rw [hcp]
    refine hJ m p (cpF m P Q) (Or.inr ⟨by omega, hm6, hpre, decide_eq_true c3⟩) (fun i hi => by rw [cpF_lt hi]; exact hP i hi) (fun h => absurd h (by omega)) (fun _ => Nat.le_refl _) (fun m' p' h => ?_) (fun _ => Or.inr ⟨rfl, Nat.le_refl _⟩)
    rcases h with h | ⟨h, -⟩
    · exact Or.inl (by omega)
    · exact Or.inl (by omega)
