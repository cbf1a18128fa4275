/-! loops over fronds: mould, sums, counts -/
theorem two_for {S E S' E' : Type} {st : S → Option (S ⊕ E)} {st' : S' → Option (S' ⊕ E')} (I : Nat → S → S' → Prop) (P : E → E' → Prop) (N : Nat) (hN : N < 100000) (hs : ∀ i s s', i < N → I i s s' → ∃ t t', st s = some (Sum.inl t) ∧ st' s' = some (Sum.inl t') ∧ I (i + 1) t t') (he : ∀ s s', I N s s' → ∃ e e', st s = some (Sum.inr e) ∧ st' s' = some (Sum.inr e') ∧ P e e') (s0 : S) (s0' : S') (h0 : I 0 s0 s0') : ∃ e e', iter st FU s0 = some e ∧ iter st' FU s0' = some e' ∧ P e e' := by
  have key : ∀ (k i n : Nat) (s : S) (s' : S'), i + k = N → k < n → I i s s' → ∃ e e', iter st n s = some e ∧ iter st' n s' = some e' ∧ P e e' := by
    intro k
    induction k with
    | zero =>
      intro i n s s' h1 h2 h3
      have : i = N := by omega
      subst this
      obtain ⟨e, e', a, b, c⟩ := he s s' h3
      cases n with
      | zero => omega
      | succ n => exact ⟨e, e', by rw [iter_succ, a]; rfl, by rw [iter_succ, b]; rfl, c⟩
    | succ k ih =>
      intro i n s s' h1 h2 h3
      obtain ⟨t, t', a, b, c⟩ := hs i s s' (by omega) h3
      cases n with
      | zero => omega
      | succ n =>
        obtain ⟨e, e', g1, g2, g3⟩ := ih (i + 1) n t t' (by omega) (by omega) c
        exact ⟨e, e', by rw [iter_succ, a]; exact g1, by rw [iter_succ, b]; exact g2, g3⟩
  exact key N 0 FU s0 s0' (by omega) hN h0
theorem one_for {S E : Type} {st : S → Option (S ⊕ E)} (I : Nat → S → Prop) (P : E → Prop) (N : Nat) (hN : N < 100000) (hs : ∀ i s, i < N → I i s → ∃ t, st s = some (Sum.inl t) ∧ I (i + 1) t) (he : ∀ s, I N s → ∃ e, st s = some (Sum.inr e) ∧ P e) (s0 : S) (h0 : I 0 s0) : ∃ e, iter st FU s0 = some e ∧ P e := by
  obtain ⟨e, e', h1, -, h3⟩ := two_for (st' := st) (fun i s s' => s = s' ∧ I i s) (fun e _ => P e) N hN (fun i s s' hi h => by
    obtain ⟨rfl, h⟩ := h
    obtain ⟨t, a, b⟩ := hs i s hi h
    exact ⟨t, t, a, a, rfl, b⟩) (fun s s' h => by
    obtain ⟨rfl, h⟩ := h
    obtain ⟨e, a, b⟩ := he s h
    exact ⟨e, e, a, a, b⟩) s0 s0 ⟨rfl, h0⟩
  exact ⟨e, h1, h3⟩
theorem RC_leaf {k l o t rows : Nat → Int32} (h : RC k l o t rows) {f : Nat} (hf : f < 10) {w : Nat} (hw : w < 10) : RC k (upd l f (nI w)) o t (upd rows (8 * f + 1) (nI w)) := by
  obtain ⟨hrows, htears, hrng⟩ := h
  refine ⟨fun g hg => ?_, fun g j hg hj => ?_, fun g hg => ?_⟩
  · obtain ⟨g1, g2, g3⟩ := hrows g hg
    simp only [upd_eq]
    rw [if_neg (show ¬ 8 * g = 8 * f + 1 by omega), if_neg (show ¬ 8 * g + 2 = 8 * f + 1 by omega)]
    refine ⟨g1, ?_, g3⟩
    by_cases e : g = f
    · rw [if_pos (by omega), if_pos e]
    · rw [if_neg (by omega), if_neg e]; exact g2
  · rw [upd_eq, if_neg (by omega)]
    exact htears g j hg hj
  · obtain ⟨a1, a2, a3⟩ := hrng g hg
    refine ⟨a1, ?_, a3⟩
    rw [upd_eq]
    by_cases e : g = f
    · rw [if_pos e]; exact ⟨w, hw, rfl⟩
    · rw [if_neg e]; exact a2
theorem nI1 (a : Nat) : (nI a + 1 : Int32) = nI (a + 1) := nI_add a 1
theorem q_mould {k l o t rows : Nat → Int32} (hC : RC k l o t rows) {n : Nat} (hn : n ≤ 10) (bh bm a b c e f g i j k' : Int32) (m' : Int32) (h : Int64) : ∃ (lost : Int32) (L R : Nat → Int32), fX4_takeMould (nI n) bh bm k l o = some (lost, bm + lost, L) ∧ fX11_mould a b c (nI n) e f g i j k' m' h rows = some (lost, R) ∧ RC k L o t R := by
  unfold fX4_takeMould fX11_mould
  obtain ⟨e1, e2, h1, h2, h3, h4⟩ := two_for (st := fX4_takeMould_L4 (nI n) bh bm k o) (st' := fX11_mould_L4 (nI n))
    (fun i s s' => s.1 = s'.1 ∧ s.2.1 = nI i ∧ s'.2.1 = nI i ∧ RC k s.2.2 o t s'.2.2) (fun x y => x.1 = y.1 ∧ RC k x.2 o t y.2) n (by omega) (fun i s s' hi hI => by
      obtain ⟨lost, fi, L⟩ := s
      obtain ⟨lost', fi', R⟩ := s'
      obtain ⟨h1, h2, h3, hC⟩ := hI
      dsimp only at h1 h2 h3 hC
      subst h1; subst h2; subst h3
      have hi10 : i < 10 := by omega
      obtain ⟨r1, r2, r3⟩ := hC.1 i hi10
      obtain ⟨⟨ck, hck, ek⟩, ⟨cl, hcl, el⟩, -⟩ := hC.2.2 i hi10
      have hJ : ∀ v : Int32, fX11_mould_J66 (lost, nI i, R) v = some (Sum.inl (lost + (R (8 * i + 1) - v), nI (i + 1), upd R (8 * i + 1) v)) := by
        intro v
        unfold fX11_mould_J66
        dsimp only
        rw [m8N1, clN (by omega), upd_eq, if_pos rfl, nI1]
      unfold fX4_takeMould_L4 fX11_mould_L4 fX4_takeMould_J54
      simp only [hJ]
      rw [if_neg (by rw [leN (by omega) (by omega)]; omega), if_neg (by rw [leN (by omega) (by omega)]; omega), bankN _ _ _ _ hi10, m8N1, m8N2, m8N0, gd_t (inbN (by omega) (by omega)), gd_t (inbN (by omega) (by omega)), gd_t (inbN (by omega) (by omega)), gd_t (inbN (by omega) (by omega)), clN (by omega), clN (by omega), clN (by omega), clN (by omega), nI1]
      by_cases hb : o i = -1
      · rw [if_pos hb, if_pos (r3.trans hb)]
        simp only [bd_s]
        refine ⟨_, _, if_neg (by decide), rfl, ?_, rfl, rfl, ?_⟩
        · show lost = lost + (R (8 * i + 1) - R (8 * i + 1))
          rw [Int32.sub_self, Int32.add_zero]
        · have hu : upd R (8 * i + 1) (R (8 * i + 1)) = R := by
            funext q
            rw [upd_eq]
            by_cases e : q = 8 * i + 1
            · rw [if_pos e, e]
            · rw [if_neg e]
          show RC k L o t (upd R (8 * i + 1) (R (8 * i + 1)))
          rw [hu]; exact hC
      · rw [if_neg hb, if_neg (fun q => hb (r3.symm.trans q))]
        obtain ⟨w, hw, -, ew⟩ := mould_lt hck hcl
        simp only [bd_s]
        refine ⟨_, _, if_pos trivial, rfl, ?_, rfl, rfl, ?_⟩
        · show lost + (L i - fX5_behindDamp (k i) (L i)) = lost + (R (8 * i + 1) - fX11_byMould (R (8 * i)) (R (8 * i + 1)))
          rw [r1, r2, ek, el, mould_eq hck hcl]
        · show RC k (upd L i (fX5_behindDamp (k i) (L i))) o t (upd R (8 * i + 1) (fX11_byMould (R (8 * i)) (R (8 * i + 1))))
          rw [r1, r2, ek, el, mould_eq hck hcl, ew]
          exact RC_leaf hC hi10 hw)
    (fun s s' hI => by
      obtain ⟨lost, fi, L⟩ := s
      obtain ⟨lost', fi', R⟩ := s'
      obtain ⟨h1, h2, h3, hC⟩ := hI
      dsimp only at h1 h2 h3 hC
      subst h1; subst h2; subst h3
      unfold fX4_takeMould_L4 fX11_mould_L4
      dsimp only
      rw [if_pos (by rw [leN (by omega) (by omega)]; omega), if_pos (by rw [leN (by omega) (by omega)]; omega)]
      exact ⟨_, _, rfl, rfl, rfl, hC⟩) (0, 0, l) (0, 0, rows) ⟨rfl, rfl, rfl, hC⟩
  refine ⟨e1.1, e1.2, e2.2, ?_, ?_, h4⟩
  · rw [h1]; rfl
  · rw [h2]
    show some (e2.1, e2.2) = some (e1.1, e2.2)
    rw [h3]
theorem q_month {k l o t d : Nat → Int32} {sz bh bm : Int32} {rows debts : Nat → Int32} {many mh mm : Int32} (hH : RelH k l o t d sz bh bm rows debts many mh mm) (kp pm rm td rn sn km kb kc : Int32) (hh : Int64) (x1 : Int32) : ∃ zx, fX10_month kp sz bh bm k l o x1 = some zx ∧ ∃ zm, fX11_month pm rm td many mh mm rn sn km kb kc hh rows x1 = some zm ∧ zx.1 = zm.1 ∧ RelH k zx.2.2 o t d sz bh zx.2.1 zm.2.2 debts many mh zm.2.1 := by
  obtain ⟨n, hn, rfl, rfl, rfl, rfl, hC, hRD⟩ := hH
  unfold fX10_month fX11_month
  by_cases h : x1 = 0
  · rw [if_pos h, if_pos h]
    refine ⟨_, rfl, _, rfl, rfl, n, hn, rfl, rfl, rfl, ?_, hC, hRD⟩
    show mm + 0 = mm
    exact Int32.add_zero mm
  · rw [if_neg h, if_neg h]
    obtain ⟨lost, L, R, h1, h2, h3⟩ := q_mould hC hn mh mm pm rm td mh mm rn sn km kb kc hh
    rw [h1, h2]
    exact ⟨_, rfl, _, rfl, rfl, n, hn, rfl, rfl, rfl, rfl, h3, hRD⟩
/-- sums of fronds' leaflets -/
theorem q_sum {k l o t rows : Nat → Int32} (hC : RC k l o t rows) {n : Nat} (hn : n ≤ 10) (bh bm a b c e f g i j k' m' : Int32) (h : Int64) : ∃ z, fX4_leafletsOfAll (nI n) bh bm l = some z ∧ fX11_together a b c (nI n) e f g i j k' m' h rows = some z := by
  unfold fX4_leafletsOfAll fX11_together
  obtain ⟨e1, e2, h1, h2, h3⟩ := two_for (st := fX4_leafletsOfAll_L4 (nI n) l) (st' := fX11_together_L4 (nI n) rows) (fun i s s' => s = s' ∧ s.2 = nI i) (fun x y => x = y) n (by omega) (fun i s s' hi hI => by
      obtain ⟨rfl, h2⟩ := hI
      obtain ⟨v, fi⟩ := s
      dsimp only at h2
      subst h2
      unfold fX4_leafletsOfAll_L4 fX11_together_L4
      dsimp only
      rw [if_neg (by rw [leN (by omega) (by omega)]; omega), if_neg (by rw [leN (by omega) (by omega)]; omega), m8N1, gd_t (inbN (by omega) (by omega)), gd_t (inbN (by omega) (by omega)), clN (by omega), clN (by omega), (hC.1 i (by omega)).2.1]
      exact ⟨_, _, rfl, rfl, rfl, nI1 i⟩) (fun s s' hI => by
      obtain ⟨rfl, h2⟩ := hI
      obtain ⟨v, fi⟩ := s
      dsimp only at h2
      subst h2
      unfold fX4_leafletsOfAll_L4 fX11_together_L4
      dsimp only
      rw [if_pos (by rw [leN (by omega) (by omega)]; omega), if_pos (by rw [leN (by omega) (by omega)]; omega)]
      exact ⟨_, _, rfl, rfl, rfl⟩) (0, 0) (0, 0) ⟨rfl, rfl⟩
  rw [h1, h2]
  exact ⟨_, rfl, by rw [h3]; rfl⟩
theorem q_total {d debts : Nat → Int32} (hD : RD d debts) : ∃ z, fX1_total d = some z ∧ iter (fX11_countOf_L49 debts) FU (0, 0) = some z := by
  unfold fX1_total
  obtain ⟨e1, e2, h1, h2, h3⟩ := two_for (st := fX1_total_L13 d) (st' := fX11_countOf_L49 debts) (fun i s s' => s = s' ∧ s.2 = nI i) (fun x y => x = y) 36 (by omega) (fun i s s' hi hI => by
      obtain ⟨rfl, h2⟩ := hI
      obtain ⟨v, fi⟩ := s
      dsimp only at h2
      subst h2
      unfold fX1_total_L13 fX11_countOf_L49
      dsimp only
      rw [show (36 : Int32) = nI 36 from rfl, if_neg (by rw [leN (by omega) (by omega)]; omega), if_neg (by rw [leN (by omega) (by omega)]; omega), gd_t (inbN (by omega) (by omega)), gd_t (inbN (by omega) (by omega)), clN (by omega), (hD i hi).1]
      exact ⟨_, _, rfl, rfl, rfl, nI1 i⟩) (fun s s' hI => by
      obtain ⟨rfl, h2⟩ := hI
      obtain ⟨v, fi⟩ := s
      dsimp only at h2
      subst h2
      unfold fX1_total_L13 fX11_countOf_L49
      dsimp only
      rw [if_pos (by decide), if_pos (by decide)]
      exact ⟨_, _, rfl, rfl, rfl⟩) (0, 0) (0, 0) ⟨rfl, rfl⟩
  rw [h1]
  exact ⟨_, rfl, by rw [h2, h3]⟩
theorem q_away {k l o t rows : Nat → Int32} (hC : RC k l o t rows) {n : Nat} (hn : n ≤ 10) (bh bm : Int32) : ∃ z, fX4_frondsAtBank (nI n) bh bm o = some z ∧ iter (fX11_countOf_L7 (nI n) rows) FU (0, 0) = some z := by
  unfold fX4_frondsAtBank
  obtain ⟨e1, e2, h1, h2, h3⟩ := two_for (st := fX4_frondsAtBank_L4 (nI n) bh bm o) (st' := fX11_countOf_L7 (nI n) rows) (fun i s s' => s = s' ∧ s.2 = nI i) (fun x y => x = y) n (by omega) (fun i s s' hi hI => by
      obtain ⟨rfl, h2⟩ := hI
      obtain ⟨v, fi⟩ := s
      dsimp only at h2
      subst h2
      unfold fX4_frondsAtBank_L4 fX11_countOf_L7
      dsimp only
      rw [if_neg (by rw [leN (by omega) (by omega)]; omega), if_neg (by rw [leN (by omega) (by omega)]; omega), m8N2, gd_t (inbN (by omega) (by omega)), clN (by omega), (hC.1 i (by omega)).2.2, bankN _ _ _ _ (show i < 10 by omega)]
      by_cases hb : o i = -1
      · rw [if_pos hb]
        exact ⟨_, _, rfl, rfl, rfl, nI1 i⟩
      · rw [if_neg hb]
        exact ⟨_, _, rfl, rfl, by show (v, nI i + 1) = (v + 0, nI i + 1); rw [Int32.add_zero], nI1 i⟩) (fun s s' hI => by
      obtain ⟨rfl, h2⟩ := hI
      obtain ⟨v, fi⟩ := s
      dsimp only at h2
      subst h2
      unfold fX4_frondsAtBank_L4 fX11_countOf_L7
      dsimp only
      rw [if_pos (by rw [leN (by omega) (by omega)]; omega), if_pos (by rw [leN (by omega) (by omega)]; omega)]
      exact ⟨_, _, rfl, rfl, rfl⟩) (0, 0) (0, 0) ⟨rfl, rfl⟩
  rw [h1]
  exact ⟨_, rfl, by rw [h2, h3]⟩
theorem q_countOf {k l o t d : Nat → Int32} {sz bh bm : Int32} {rows debts : Nat → Int32} {many mh mm psz pm : Int32} (hH : RelH k l o t d sz bh bm rows debts many mh mm) (hp : psz = pm) (kp rm td rn sn km kb kc : Int32) (hh : Int64) (x1 : Int32) : ∃ z, fX10_count kp sz bh bm l o d psz x1 = some z ∧ fX11_countOf pm rm td many mh mm rn sn km kb kc hh rows debts x1 = some z := by
  obtain ⟨n, hn, rfl, rfl, rfl, rfl, hC, hRD⟩ := hH
  subst hp
  obtain ⟨z1, a1, a2⟩ := q_sum hC hn mh mm psz rm td mh mm rn sn km kb kc hh
  obtain ⟨z2, b1, b2⟩ := q_total hRD
  obtain ⟨z3, c1, c2⟩ := q_away hC hn mh mm
  unfold fX10_count fX11_countOf
  rw [c2, bd_s]
  unfold fX11_countOf_X7_46
  rw [b2, bd_s]
  unfold fX11_countOf_X49_72
  rw [a1, a2, b1, c1]
  by_cases e0 : x1 = 0
  · rw [if_pos e0, if_pos e0]; exact ⟨_, rfl, rfl⟩
  rw [if_neg e0, if_neg e0]
  by_cases e1 : x1 = 1
  · rw [if_pos e1, if_pos e1]; exact ⟨_, rfl, rfl⟩
  rw [if_neg e1, if_neg e1]
  by_cases e2 : x1 = 2
  · rw [if_pos e2, if_pos e2]; exact ⟨_, rfl, rfl⟩
  rw [if_neg e2, if_neg e2]
  by_cases e3 : x1 = 3
  · rw [if_pos e3, if_pos e3]; exact ⟨_, rfl, rfl⟩
  rw [if_neg e3, if_neg e3]
  by_cases e4 : x1 = 4
  · rw [if_pos e4, if_pos e4]; exact ⟨_, rfl, rfl⟩
  rw [if_neg e4, if_neg e4]
  by_cases e5 : x1 = 5
  · rw [if_pos e5, if_pos e5]; exact ⟨_, rfl, rfl⟩
  rw [if_neg e5, if_neg e5]
  by_cases e6 : x1 = 6
  · rw [if_pos e6, if_pos e6]; exact ⟨_, rfl, rfl⟩
  rw [if_neg e6, if_neg e6]; exact ⟨_, rfl, rfl⟩
