/-! a damp month on both sides -/
theorem monthL {n : Nat} {k l o d : Nat → Int32} (h : RW n k l o d) : ∃ (lost : Int32) (L D : Nat → Int32), (∀ bh bm : Int32, fX4_takeMould (nI n) bh bm k l o = some (lost, bm + lost, L)) ∧ fL_month 33 d = some (lost, D) ∧ RW n k L o D ∧ D 31 = d 31 ∧ D 32 = d 32 + lost ∧ sumL L n + lost = sumL l n := by
  have hn := h.1
  have key : ∀ bh bm : Int32, ∃ (e1 e2 : Int32 × (Nat → Int32)), iter (fX4_takeMould_L4 (nI n) bh bm k o) FU (0, 0, l) = some e1 ∧ iter (fL_month_L4 33) FU (0, 0, d) = some e2 ∧ e1.1 = e2.1 ∧ RW n k e1.2 o e2.2 ∧ e2.2 31 = d 31 ∧ e2.2 32 = d 32 ∧ sumL e1.2 n + e1.1 = sumL l n := by
    intro bh bm
    exact two_for (st := fX4_takeMould_L4 (nI n) bh bm k o) (st' := fL_month_L4 33)
      (fun i s s' => s.1 = s'.1 ∧ s.2.1 = nI i ∧ s'.2.1 = nI i ∧ RW n k s.2.2 o s'.2.2 ∧ s'.2.2 31 = d 31 ∧ s'.2.2 32 = d 32 ∧ sumL s.2.2 n + s.1 = sumL l n) (fun e1 e2 => e1.1 = e2.1 ∧ RW n k e1.2 o e2.2 ∧ e2.2 31 = d 31 ∧ e2.2 32 = d 32 ∧ sumL e1.2 n + e1.1 = sumL l n) n (by omega) (fun i s s' hi hI => by
        obtain ⟨lost, fi, L⟩ := s
        obtain ⟨lost', fi', D⟩ := s'
        obtain ⟨h1, h2, h3, hW, h31, h32, hS⟩ := hI
        dsimp only at h1 h2 h3 hW h31 h32 hS
        subst h1; subst h2; subst h3
        have hi10 : i < 10 := by omega
        obtain ⟨-, h0, hV, hG⟩ := hW
        obtain ⟨v1, v2, v3⟩ := hV i hi10
        obtain ⟨⟨ck, hck, ek⟩, ⟨cl, hcl, el⟩, ho⟩ := hG i hi10
        unfold fX4_takeMould_L4 fL_month_L4 fX4_takeMould_J54 fL_month_J56
        simp only [c00, h0]
        rw [gd_t (show inb 0 33 = true by decide), if_neg (by rw [leN (by omega) (by omega)]; omega), if_neg (by rw [leN (by omega) (by omega)]; omega), bankN _ _ _ _ hi10, a21N, a11N, a1N, gd_t (inbN (by omega) (by omega)), gd_t (inbN (by omega) (by omega)), gd_t (inbN (by omega) (by omega)), gd_t (inbN (by omega) (by omega)), clN (by omega), clN (by omega), clN (by omega), clN (by omega), nI1, v1, v2, v3, bd_s]
        by_cases hb : o i = -1
        · rw [if_pos hb, if_neg (show ¬ (1 : Int32) = 0 by decide), if_neg (by rw [hb]; decide)]
          exact ⟨_, _, rfl, rfl, rfl, rfl, rfl, ⟨hn, h0, hV, hG⟩, h31, h32, hS⟩
        · obtain ⟨p, hp, ep⟩ := ho.resolve_left hb
          obtain ⟨w, hw, -, ew⟩ := mould_lt hck hcl
          have ew' : fL_damp (k i) (L i) = nI w := by rw [ek, el]; exact (dampL ⟨ck, hck⟩ ⟨cl, hcl⟩).trans ew
          have ew2 : fX5_behindDamp (k i) (L i) = nI w := by rw [ek, el]; exact ew
          rw [if_neg hb, if_pos rfl, if_pos (by rw [ep]; exact nI_pos' (by omega)), ew', ew2]
          refine ⟨_, _, rfl, rfl, rfl, rfl, rfl, ⟨hn, ?_, fun g hg => ?_, RG_leaf hG hw⟩, ?_, ?_, ?_⟩
          · show upd D (11 + i) (nI w) 0 = nI n
            rw [upd_eq, if_neg (by omega)]; exact h0
          · obtain ⟨g1, g2, g3⟩ := hV g hg
            show upd D (11 + i) (nI w) (1 + g) = k g ∧ upd D (11 + i) (nI w) (11 + g) = upd L i (nI w) g ∧ upd D (11 + i) (nI w) (21 + g) = o g
            rw [upd_eq, upd_eq, upd_eq, upd_eq, if_neg (show ¬ 1 + g = 11 + i by omega), if_neg (show ¬ 21 + g = 11 + i by omega)]
            refine ⟨g1, ?_, g3⟩
            by_cases e : g = i
            · rw [if_pos (by omega), if_pos e]
            · rw [if_neg (by omega), if_neg e]; exact g2
          · show upd D (11 + i) (nI w) 31 = d 31
            rw [upd_eq, if_neg (by omega)]; exact h31
          · show upd D (11 + i) (nI w) 32 = d 32
            rw [upd_eq, if_neg (by omega)]; exact h32
          · show sumL (upd L i (nI w)) n + (lost + (L i - nI w)) = sumL l n
            rw [sumL_upd L i _ n hi, ← hS]
            grind) (fun s s' hI => by
        obtain ⟨lost, fi, L⟩ := s
        obtain ⟨lost', fi', D⟩ := s'
        obtain ⟨h1, h2, h3, hW, h31, h32, hS⟩ := hI
        dsimp only at h1 h2 h3 hW h31 h32 hS
        subst h1; subst h2; subst h3
        unfold fX4_takeMould_L4 fL_month_L4
        simp only [c00, hW.2.1]
        rw [gd_t (show inb 0 33 = true by decide), if_pos (by rw [leN (by omega) (by omega)]; omega), if_pos (by rw [leN (by omega) (by omega)]; omega)]
        exact ⟨_, _, rfl, rfl, rfl, hW, h31, h32, hS⟩) (0, 0, l) (0, 0, d) ⟨rfl, rfl, rfl, h, rfl, rfl, Int32.add_zero _⟩
  obtain ⟨e1, e2, k1, k2, k3, k4, k5, k6, k7⟩ := key 0 0
  refine ⟨e1.1, e1.2, upd e2.2 32 (e2.2 32 + e2.1), fun bh bm => ?_, ?_, ?_, ?_, ?_, k7⟩
  · have hloop : fX4_takeMould_L4 (nI n) bh bm k o = fX4_takeMould_L4 (nI n) 0 0 k o := rfl
    unfold fX4_takeMould
    rw [hloop, k1]
    rfl
  · unfold fL_month
    rw [k2, bd_s]
    unfold fL_month_X4_62
    rw [gd_t (by decide), c32, k3]
  · obtain ⟨a1, a2, a3, a4⟩ := k4
    refine ⟨a1, ?_, fun g hg => ?_, a4⟩
    · rw [upd_eq, if_neg (by omega)]; exact a2
    · rw [upd_eq, upd_eq, upd_eq, if_neg (by omega), if_neg (by omega), if_neg (by omega)]
      exact a3 g hg
  · rw [upd_eq, if_neg (by omega)]; exact k5
  · rw [upd_eq, if_pos rfl, k6, k3]
theorem R29_month {n : Nat} {k l o t dd d r w : Nat → Int32} {bh bm : Int32} (h : R29 n k l o t dd d r w bh bm) : ∃ (lost : Int32) (L D : Nat → Int32), (∀ b1 b2 : Int32, fX4_takeMould (nI n) b1 b2 k l o = some (lost, b2 + lost, L)) ∧ fL_month 33 d = some (lost, D) ∧ R29 n k L o t dd D r w bh (bm + lost) ∧ sumL L n + bh + (bm + lost) = sumL l n + bh + bm := by
  obtain ⟨hW, h31, h32, hT, hD⟩ := h
  obtain ⟨lost, L, D, g1, g2, g3, g4, g5, g6⟩ := monthL hW
  refine ⟨lost, L, D, g1, g2, ⟨g3, g4.trans h31, ?_, hT, hD⟩, ?_⟩
  · rw [g5, h32]
  · rw [← g6]
    grind
/-! June on both sides -/
theorem growL {l o D : Nat → Int32} {n m : Nat} (hnm : n ≤ m) (hm : m ≤ 10) {k' l' o' : Nat → Int32} (hV : RV k' l' o' D) (ha : ∀ f : Nat, f < n → l' f = l f ∧ o' f = o f) {v0 : Nat → Int32} (hv0 : v0 0 = nI n) {p : Nat} (hp : p < 6) {z2 : Int32 × Int32 × (Nat → Int32) × (Nat → Int32)} (h1 : z2.2.1 = nI p) (h2 : z2.2.2.1 = D) : iter (fL_june_L22 33 v0 z2) FU (0, 0) = some (if grow l o p n = true then 1 else 0) := by
  obtain ⟨e, g1, g2⟩ := one_for (st := fL_june_L22 33 v0 z2) (fun i s => s = (if grow l o p i = true then 1 else 0, nI i)) (fun e => e = if grow l o p n = true then 1 else 0) n (by omega) (fun i s hi hI => by
      subst hI
      obtain ⟨v1, v2, v3⟩ := hV i (by omega)
      obtain ⟨al, ao⟩ := ha i hi
      unfold fL_june_L22 fL_june_J58 fL_june_J59
      simp only [c00, hv0]
      rw [h1, h2, if_neg (by rw [leN (by omega) (by omega)]; omega), a21N, a11N, gd_t (inbN (by omega) (by omega)), gd_t (inbN (by omega) (by omega)), clN (by omega), clN (by omega), v2, v3, al, ao, nI1]
      have hS : grow l o p (i + 1) = (grow l o p i || (decide (o i = nI p) && decide (l i = 9))) := rfl
      rw [hS]
      by_cases ho : o i = nI p
      · rw [if_pos ho, decide_eq_true ho]
        by_cases h9 : l i = 9
        · rw [if_pos h9, decide_eq_true h9]
          refine ⟨_, rfl, ?_⟩
          cases grow l o p i <;> rfl
        · rw [if_neg h9, decide_eq_false h9]
          refine ⟨_, rfl, ?_⟩
          cases grow l o p i <;> rfl
      · rw [if_neg ho, decide_eq_false ho]
        refine ⟨_, rfl, ?_⟩
        cases grow l o p i <;> rfl) (fun s hI => by
      subst hI
      unfold fL_june_L22
      simp only [c00, hv0]
      rw [if_pos (by rw [leN (by omega) (by omega)]; omega)]
      exact ⟨_, rfl, rfl⟩) (0, 0) rfl
  rw [g1, g2]
theorem R29_june {n : Nat} {k l o t dd d r w : Nat → Int32} {bh bm : Int32} (h : R29 n k l o t dd d r w bh bm) (kp : Int32) : ∃ (m : Nat) (K L O T D R : Nat → Int32), n ≤ m ∧ fX10_june kp (nI n) bh bm k l o t = some (nI (m - n), nI m, K, L, O, T) ∧ fL_june 33 40 d r = some (nI (m - n), D, R) ∧ R29 m K L O T dd D R w bh bm ∧ sumL L m = sumL l n + 9 * (D 0 - d 0) := by
  have hn := h.1.1
  have h0 := h.1.2.1
  obtain ⟨B, hB, hown, hbit⟩ := q_owners h.1.2.2.2 hn bh bm
  unfold fX10_june fL_june
  rw [hown, bd_s, gd_t (show inb 0 33 = true by decide)]
  obtain ⟨e1, e2, k1, k2, m, k3, k4, k5, k6, k7, k8, k9⟩ := two_for (st := fX10_june_L18 bh bm (nI B)) (st' := fL_june_L9 33 40 d)
    (fun p s s' => ∃ m : Nat, n ≤ m ∧ s.1 = nI p ∧ s.2.1 = nI m ∧ s'.1 = nI (m - n) ∧ s'.2.1 = nI p ∧ R29 m s.2.2.1 s.2.2.2.1 s.2.2.2.2.1 s.2.2.2.2.2 dd s'.2.2.1 s'.2.2.2 w bh bm ∧ (∀ f : Nat, f < n → s.2.2.2.1 f = l f ∧ s.2.2.2.2.1 f = o f) ∧ sumL s.2.2.2.1 m = sumL l n + 9 * (nI m - nI n))
    (fun e e' => ∃ m : Nat, n ≤ m ∧ e.1 = nI m ∧ e'.1 = nI (m - n) ∧ R29 m e.2.1 e.2.2.1 e.2.2.2.1 e.2.2.2.2 dd e'.2.1 e'.2.2 w bh bm ∧ sumL e.2.2.1 m = sumL l n + 9 * (nI m - nI n) ∧ True ∧ True) 6 (by omega)
    (fun p s s' hp hI => by
      obtain ⟨ip, sz, K, L, O, T⟩ := s
      obtain ⟨many, ip', D, R⟩ := s'
      obtain ⟨m, h1, h2, h3, h4, h5, hR, ha, hS⟩ := hI
      dsimp only at h1 h2 h3 h4 h5 hR ha hS
      subst h2; subst h3; subst h4; subst h5
      have hm := hR.1.1
      have hm0 := hR.1.2.1
      unfold fX10_june_L18 fL_june_L9 fX10_june_J44
      rw [growL h1 hm hR.1.2.2.1 ha h0 hp (z2 := (nI (m - n), nI p, D, R)) rfl rfl, bd_s]
      dsimp only
      rw [if_neg (show ¬ (6 : Int32) ≤ nI p by rw [show (6 : Int32) = nI 6 from rfl, leN (by omega) (by omega)]; omega), if_neg (show ¬ (6 : Int32) ≤ nI p by rw [show (6 : Int32) = nI 6 from rfl, leN (by omega) (by omega)]; omega), nI1]
      unfold fL_june_X22_68 fL_june_J97
      simp only [c00, hm0]
      rw [nI1]
      have hb := hbit p hp
      have hb2 := bit_and ⟨B, hB⟩ ⟨p, hp⟩
      dsimp only at hb2
      by_cases hg : grow l o p n = true
      · rw [if_pos hg, if_neg (show ¬ (1 : Int32) = 0 by decide), if_neg (fun q => by rw [hb2, hb, hg] at q; exact Bool.noConfusion q)]
        by_cases hf : m < 10
        · rw [addN hf, bd_s, if_neg (show ¬ nI m = 10 by rw [show (10 : Int32) = nI 10 from rfl, eqN (by omega) (by omega)]; omega), addL hf hm0, bd_s]
          obtain ⟨g1, g2⟩ := R29_add hR hf (a := 0) (b := 9) (c := nI p) ⟨0, by omega, rfl⟩ ⟨9, by omega, rfl⟩ (Or.inr ⟨p, hp, rfl⟩)
          refine ⟨_, _, rfl, rfl, m + 1, by omega, rfl, rfl, ?_, rfl, g1, fun f hf' => ?_, ?_⟩
          · show nI (m - n) + 1 = _
            rw [nI1]
            congr 1
            omega
          · show upd L m 9 f = l f ∧ upd O m (nI p) f = o f
            rw [upd_eq, upd_eq, if_neg (by omega), if_neg (by omega)]
            exact ha f hf'
          · show sumL (upd L m 9) (m + 1) = _
            rw [g2, hS, ← nI1 m]
            grind
        · have e10 : m = 10 := by omega
          subst e10
          rw [addFull (by omega) (by omega), bd_s, if_pos (show nI 10 = 10 from rfl)]
          exact ⟨_, _, rfl, rfl, 10, h1, rfl, rfl, rfl, rfl, hR, ha, hS⟩
      · rw [if_neg hg, if_pos rfl]
        have hg' : grow l o p n = false := by
          cases h : grow l o p n with
          | false => rfl
          | true => exact absurd h hg
        rw [if_pos (hb2.mpr (hb.trans hg'))]
        exact ⟨_, _, rfl, rfl, m, h1, rfl, rfl, rfl, rfl, hR, ha, hS⟩)
    (fun s s' hI => by
      obtain ⟨ip, sz, K, L, O, T⟩ := s
      obtain ⟨many, ip', D, R⟩ := s'
      obtain ⟨m, h1, h2, h3, h4, h5, hR, ha, hS⟩ := hI
      dsimp only at h1 h2 h3 h4 h5 hR ha hS
      subst h2; subst h3; subst h4; subst h5
      unfold fX10_june_L18 fL_june_L9
      dsimp only
      rw [if_pos (by decide), if_pos (by decide)]
      exact ⟨_, _, rfl, rfl, m, h1, rfl, rfl, hR, hS, trivial, trivial⟩)
    (0, nI n, k, l, o, t) (0, 0, d, r) ⟨n, Nat.le_refl n, rfl, rfl, by rw [Nat.sub_self]; rfl, rfl, h, fun f hf => ⟨rfl, rfl⟩, by rw [Int32.sub_self]; show sumL l n = sumL l n + 9 * 0; grind⟩
  rw [k1, k2, bd_s, bd_s]
  unfold fX10_june_X18_50 fL_june_X9_103
  obtain ⟨sz, K, L, O, T⟩ := e1
  obtain ⟨many, D, R⟩ := e2
  dsimp only at k4 k5 k6 k7
  subst k4; subst k5
  refine ⟨m, K, L, O, T, D, R, k3, ?_, rfl, k6, ?_⟩
  · dsimp only
    rw [subN k3]
  · rw [k7, k6.1.2.1, h0]
