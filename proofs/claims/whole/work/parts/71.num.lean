/-! numbers: indices as Nat, the small tests of both sides -/
theorem gd_t {α : Type} {b : Bool} {k : Option α} (h : b = true) : gd b k = k := if_pos h
theorem inbN {a n : Nat} (h : a < n) (hn : n < 2 ^ 31) : inb (nI a) n = true := by
  unfold inb
  exact decide_eq_true (nI_in h hn)
theorem clN {a : Nat} (h : a < 2 ^ 31) : (nI a).toNatClampNeg = a := nI_clamp h
theorem nN (a : Nat) : (OfNat.ofNat a : Int32) = nI a := rfl
theorem mulL (a b : Nat) : nI a * nI b = nI (a * b) := pk_mul a b
theorem eqN {a b : Nat} (ha : a < 2 ^ 31) (hb : b < 2 ^ 31) : (nI a = nI b) = (a = b) := propext (nI_eq ha hb)
theorem leN {a b : Nat} (ha : a < 2 ^ 31) (hb : b < 2 ^ 31) : (nI a ≤ nI b) = (a ≤ b) := propext (nI_leI ha hb)
theorem ltN {a b : Nat} (ha : a < 2 ^ 31) (hb : b < 2 ^ 31) : (nI a < nI b) = (a < b) := propext (nI_ltI ha hb)
theorem subN {a b : Nat} (h : b ≤ a) : nI a - nI b = nI (a - b) := pk_sub h
theorem m1N {a : Nat} (h : a < 2 ^ 31) : (nI a = -1) = False := by
  refine eq_false fun e => ?_
  have h1 := nI_toInt h
  rw [e] at h1
  have h2 : (-1 : Int32).toInt = -1 := by decide
  omega
theorem m1N' {a : Nat} (h : a < 2 ^ 31) : (-1 = nI a) = False := by
  refine eq_false fun e => ?_
  have h1 := nI_toInt h
  rw [← e] at h1
  have h2 : (-1 : Int32).toInt = -1 := by decide
  omega
theorem nI_lt0 {x : Int32} : x < 0 ↔ x.toInt < 0 := by rw [Int32.lt_iff_toInt_lt]; rfl
theorem lgc_neg {x y : Int64} : lg_cmp x y < 0 ↔ x < y := by
  unfold lg_cmp
  rcases Int.lt_trichotomy x.toInt y.toInt with h | h | h
  · have h1 : ¬ y < x := by rw [Int64.lt_iff_toInt_lt]; omega
    have h2 : x < y := by rw [Int64.lt_iff_toInt_lt]; omega
    have h3 : ¬ x = y := fun e => by rw [e] at h; omega
    simp only [gt_iff_lt, h1, h3, if_false, h2, iff_true]
    decide
  · have h3 : x = y := Int64.toInt_inj.mp h
    subst h3
    have h1 : ¬ x < x := by rw [Int64.lt_iff_toInt_lt]; omega
    simp [h1]
  · have h1 : y < x := by rw [Int64.lt_iff_toInt_lt]; omega
    have h2 : ¬ x < y := by rw [Int64.lt_iff_toInt_lt]; omega
    simp only [gt_iff_lt, h1, if_true, h2, iff_false]
    decide
theorem lgc_pos {x y : Int64} : 0 < lg_cmp x y ↔ y < x := by
  unfold lg_cmp
  rcases Int.lt_trichotomy x.toInt y.toInt with h | h | h
  · have h1 : ¬ y < x := by rw [Int64.lt_iff_toInt_lt]; omega
    have h3 : ¬ x = y := fun e => by rw [e] at h; omega
    simp only [gt_iff_lt, h1, h3, if_false, iff_false]
    decide
  · have h3 : x = y := Int64.toInt_inj.mp h
    subst h3
    have h1 : ¬ x < x := by rw [Int64.lt_iff_toInt_lt]; omega
    simp [h1]
  · have h1 : y < x := by rw [Int64.lt_iff_toInt_lt]; omega
    simp only [gt_iff_lt, h1, if_true, iff_true]
    decide
theorem lgc_zero {x y : Int64} : lg_cmp x y = 0 ↔ x = y := by
  unfold lg_cmp
  rcases Int.lt_trichotomy x.toInt y.toInt with h | h | h
  · have h1 : ¬ y < x := by rw [Int64.lt_iff_toInt_lt]; omega
    have h3 : ¬ x = y := fun e => by rw [e] at h; omega
    simp only [gt_iff_lt, h1, h3, if_false, iff_false]
    decide
  · have h3 : x = y := Int64.toInt_inj.mp h
    subst h3
    have h1 : ¬ x < x := by rw [Int64.lt_iff_toInt_lt]; omega
    simp [h1]
  · have h1 : y < x := by rw [Int64.lt_iff_toInt_lt]; omega
    have h3 : ¬ x = y := fun e => by rw [e] at h; omega
    simp only [gt_iff_lt, h1, if_true, h3, iff_false]
    decide
theorem i2l_lt {x y : Int32} : x.toInt64 < y.toInt64 ↔ x < y := by
  rw [Int64.lt_iff_toInt_lt, Int32.lt_iff_toInt_lt, Int32.toInt_toInt64, Int32.toInt_toInt64]
theorem in_eq (x a b : Int32) : fX11_in x.toInt64 a.toInt64 b.toInt64 = fX10_isWithin x a b := by
  unfold fX11_in fX10_isWithin
  simp only [lgc_neg, lgc_pos, i2l_lt]
theorem within01 (x a b : Int32) : fX10_isWithin x a b = 0 ∨ fX10_isWithin x a b = 1 := by
  unfold fX10_isWithin
  repeat' split
  all_goals first | exact Or.inl rfl | exact Or.inr rfl
theorem within_iff {x a b : Int32} : ¬ fX10_isWithin x a b = 0 ↔ a ≤ x ∧ x ≤ b := by
  unfold fX10_isWithin
  rw [Int32.le_iff_toInt_le, Int32.le_iff_toInt_le]
  by_cases h1 : x < a
  · rw [if_pos h1]
    rw [Int32.lt_iff_toInt_lt] at h1
    constructor
    · intro h; exact absurd rfl h
    · intro h; omega
  · rw [if_neg h1]
    rw [Int32.lt_iff_toInt_lt] at h1
    by_cases h2 : b < x
    · rw [if_pos h2]
      rw [Int32.lt_iff_toInt_lt] at h2
      constructor
      · intro h; exact absurd rfl h
      · intro h; omega
    · rw [if_neg h2]
      rw [Int32.lt_iff_toInt_lt] at h2
      constructor
      · intro; omega
      · intro _; decide
/-- within lo to hi, as Nat -/
theorem withinN {x : Int32} {lo hi : Nat} (hl : lo < 2 ^ 31) (hh : hi < 2 ^ 31) (h : ¬ fX10_isWithin x (nI lo) (nI hi) = 0) : ∃ j : Nat, lo ≤ j ∧ j ≤ hi ∧ x = nI j := by
  obtain ⟨h1, h2⟩ := within_iff.mp h
  have h0 : ¬ x < 0 := by
    rw [Int32.le_iff_toInt_le, nI_toInt hl] at h1
    rw [nI_lt0]
    omega
  obtain ⟨j, hj, rfl⟩ := nI_of h0
  rw [nI_leI hl hj] at h1
  rw [nI_leI hj hh] at h2
  exact ⟨j, h1, h2, rfl⟩
theorem isPerson_eq (x : Int32) : fX11_isPerson x = fX10_isPerson x := in_eq x 0 5
theorem personN {x : Int32} (h : ¬ fX10_isPerson x = 0) : ∃ j : Nat, j < 6 ∧ x = nI j := by
  obtain ⟨j, -, h2, h3⟩ := withinN (lo := 0) (hi := 5) (by omega) (by omega) h
  exact ⟨j, by omega, h3⟩
theorem areTwo_eq (a b : Int32) : fX11_arePair a b = fX10_areTwo a b := by
  unfold fX11_arePair fX10_areTwo
  rw [isPerson_eq, isPerson_eq]
theorem areTwoN {a b : Int32} (h : ¬ fX10_areTwo a b = 0) : ∃ i j : Nat, i < 6 ∧ j < 6 ∧ i ≠ j ∧ a = nI i ∧ b = nI j := by
  unfold fX10_areTwo at h
  by_cases h1 : fX10_isPerson a = 0
  · rw [if_pos h1] at h; exact absurd rfl h
  · rw [if_neg h1] at h
    by_cases h2 : fX10_isPerson b = 0
    · rw [if_pos h2] at h; exact absurd rfl h
    · rw [if_neg h2] at h
      by_cases h3 : a = b
      · rw [if_pos h3] at h; exact absurd rfl h
      · obtain ⟨i, hi, rfl⟩ := personN h1
        obtain ⟨j, hj, rfl⟩ := personN h2
        exact ⟨i, j, hi, hj, fun e => h3 (by rw [e]), rfl, rfl⟩
theorem isFrond_eq {n : Nat} (hn : n ≤ 10) (a b c e f g i j k m : Int32) (hh : Int64) (x : Int32) (bh bm : Int32) : fX11_isFrond a b c (nI n) e f g i j k m hh x = fX4_knows (nI n) bh bm x := by
  unfold fX11_isFrond fX4_knows
  rw [show (0 : Int64) = (0 : Int32).toInt64 from by decide, in_eq]
  unfold fX10_isWithin
  by_cases h1 : x < 0
  · rw [if_pos h1, if_pos h1]
  · rw [if_neg h1, if_neg h1]
    obtain ⟨y, hy, rfl⟩ := nI_of h1
    by_cases h2 : nI n ≤ nI y
    · rw [if_pos h2, if_pos]
      rw [Int32.lt_iff_toInt_lt, show (nI n - 1) = nI n - nI 1 from rfl, pk_sub_toInt (by omega) (by omega), nI_toInt hy]
      rw [nI_leI (by omega) hy] at h2
      omega
    · rw [if_neg h2, if_neg]
      rw [Int32.lt_iff_toInt_lt, show (nI n - 1) = nI n - nI 1 from rfl, pk_sub_toInt (by omega) (by omega), nI_toInt hy]
      rw [nI_leI (by omega) hy] at h2
      omega
theorem knowsN {n : Nat} (hn : n ≤ 10) {bh bm x : Int32} (h : ¬ fX4_knows (nI n) bh bm x = 0) : ∃ f : Nat, f < n ∧ x = nI f := by
  unfold fX4_knows at h
  by_cases h1 : x < 0
  · rw [if_pos h1] at h; exact absurd rfl h
  · rw [if_neg h1] at h
    obtain ⟨y, hy, rfl⟩ := nI_of h1
    by_cases h2 : nI n ≤ nI y
    · rw [if_pos h2] at h; exact absurd rfl h
    · rw [nI_leI (by omega) hy] at h2
      exact ⟨y, by omega, rfl⟩
theorem bd_s {α β : Type} (a : α) (k : α → Option β) : (some a).bind k = k a := rfl
theorem same_ite {α : Type} {c : Prop} [Decidable c] {a b : α} : ∃ zx, (if c then some a else some b) = some zx ∧ ∃ zm, (if c then some a else some b) = some zm ∧ zx = zm := by
  by_cases h : c
  · rw [if_pos h]; exact ⟨_, rfl, _, rfl, rfl⟩
  · rw [if_neg h]; exact ⟨_, rfl, _, rfl, rfl⟩
/-- a loop that runs i from 0 to N with the states g i -/
theorem iter_run {S E : Type} {st : S → Option (S ⊕ E)} (g : Nat → S) (e : E) : ∀ (k i N n : Nat), i + k = N → k < n → (∀ j, i ≤ j → j < N → st (g j) = some (Sum.inl (g (j + 1)))) → st (g N) = some (Sum.inr e) → iter st n (g i) = some e
  | 0, i, N, n + 1, h, _, _, he => by
    have : i = N := by omega
    subst this
    rw [iter_succ, he]; rfl
  | k + 1, i, N, n + 1, h, hn, hs, he => by
    rw [iter_succ, hs i (Nat.le_refl _) (by omega)]
    exact iter_run g e k (i + 1) N n (by omega) (by omega) (fun j h1 h2 => hs j (by omega) h2) he
theorem iter_for {S E : Type} {st : S → Option (S ⊕ E)} (g : Nat → S) (N : Nat) (e : E) (s0 : S) (h0 : g 0 = s0) (hN : N < 100000) (hs : ∀ j, j < N → st (g j) = some (Sum.inl (g (j + 1)))) (he : st (g N) = some (Sum.inr e)) : iter st FU s0 = some e := by
  subst h0
  exact iter_run g e N 0 N FU (by omega) hN (fun j _ h => hs j h) he
/-- a loop by an invariant and a measure -/
theorem iter_inv {S E : Type} {st : S → Option (S ⊕ E)} (I : S → Prop) (m : S → Nat) (P : E → Prop) (hs : ∀ s, I s → (∃ s', st s = some (Sum.inl s') ∧ I s' ∧ m s' < m s) ∨ (∃ e, st s = some (Sum.inr e) ∧ P e)) : ∀ (n : Nat) (s : S), I s → m s < n → ∃ e, iter st n s = some e ∧ P e
  | 0, s, _, h => absurd h (Nat.not_lt_zero _)
  | n + 1, s, hI, hm => by
    rcases hs s hI with ⟨s', h1, h2, h3⟩ | ⟨e, h1, h2⟩
    · obtain ⟨e, h4, h5⟩ := iter_inv I m P hs n s' h2 (by omega)
      exact ⟨e, by rw [iter_succ, h1]; exact h4, h5⟩
    · exact ⟨e, by rw [iter_succ, h1]; rfl, h2⟩
/-- two loops side by side -/
theorem iter_two {S E S' E' : Type} {st : S → Option (S ⊕ E)} {st' : S' → Option (S' ⊕ E')} (I : S → S' → Prop) (m : S → Nat) (P : E → E' → Prop) (hs : ∀ s s', I s s' → (∃ t t', st s = some (Sum.inl t) ∧ st' s' = some (Sum.inl t') ∧ I t t' ∧ m t < m s) ∨ (∃ e e', st s = some (Sum.inr e) ∧ st' s' = some (Sum.inr e') ∧ P e e')) : ∀ (n : Nat) (s : S) (s' : S'), I s s' → m s < n → ∃ e e', iter st n s = some e ∧ iter st' n s' = some e' ∧ P e e'
  | 0, s, s', _, h => absurd h (Nat.not_lt_zero _)
  | n + 1, s, s', hI, hm => by
    rcases hs s s' hI with ⟨t, t', h1, h1', h2, h3⟩ | ⟨e, e', h1, h1', h2⟩
    · obtain ⟨e, e', h4, h4', h5⟩ := iter_two I m P hs n t t' h2 (by omega)
      exact ⟨e, e', by rw [iter_succ, h1]; exact h4, by rw [iter_succ, h1']; exact h4', h5⟩
    · exact ⟨e, e', by rw [iter_succ, h1]; rfl, by rw [iter_succ, h1']; rfl, h2⟩
