/-! the class alone: ranges of its contents, debts as both hold them -/
def RG (k l o : Nat → Int32) : Prop := ∀ f : Nat, f < 10 → (∃ c : Nat, c < 5 ∧ k f = nI c) ∧ (∃ c : Nat, c < 10 ∧ l f = nI c) ∧ (o f = -1 ∨ ∃ c : Nat, c < 6 ∧ o f = nI c)
def RD (d debts : Nat → Int32) : Prop := ∀ i : Nat, i < 36 → debts i = d i ∧ ∃ c : Nat, c < 100 ∧ d i = nI c
/-! numbers: indices as Nat, the small tests of both sides -/
theorem gd_t {α : Type} {b : Bool} {k : Option α} (h : b = true) : gd b k = k := if_pos h
theorem inbN {a n : Nat} (h : a < n) (hn : n < 2 ^ 31) : inb (nI a) n = true := by
  unfold inb
  exact decide_eq_true (nI_in h hn)
theorem clN {a : Nat} (h : a < 2 ^ 31) : (nI a).toNatClampNeg = a := nI_clamp h
theorem nN (a : Nat) : (OfNat.ofNat a : Int32) = nI a := rfl
theorem mulL (a b : Nat) : nI a * nI b = nI (a * b) := pk_mul a b
theorem eqN {a b : Nat} (ha : a < 2 ^ 31) (hb : b < 2 ^ 31) : (nI a = nI b) = (a = b) := propext (nI_eq ha hb)
theorem leN {a b : Nat} (ha : a < 2 ^ 31) (hb : b < 2 ^ 31) : (nI a ≤ nI b) = (a ≤ b) := propext (nI_leI ha hb)
theorem ltN {a b : Nat} (ha : a < 2 ^ 31) (hb : b < 2 ^ 31) : (nI a < nI b) = (a < b) := propext (nI_ltI ha hb)
theorem subN {a b : Nat} (h : b ≤ a) : nI a - nI b = nI (a - b) := pk_sub h
theorem m1N {a : Nat} (h : a < 2 ^ 31) : (nI a = -1) = False := by
  refine eq_false fun e => ?_
  have h1 := nI_toInt h
  rw [e] at h1
  have h2 : (-1 : Int32).toInt = -1 := by decide
  omega
theorem m1N' {a : Nat} (h : a < 2 ^ 31) : (-1 = nI a) = False := by
  refine eq_false fun e => ?_
  have h1 := nI_toInt h
  rw [← e] at h1
  have h2 : (-1 : Int32).toInt = -1 := by decide
  omega
theorem nI_lt0 {x : Int32} : x < 0 ↔ x.toInt < 0 := by rw [Int32.lt_iff_toInt_lt]; rfl
theorem lgc_neg {x y : Int64} : lg_cmp x y < 0 ↔ x < y := by
  unfold lg_cmp
  rcases Int.lt_trichotomy x.toInt y.toInt with h | h | h
  · have h1 : ¬ y < x := by rw [Int64.lt_iff_toInt_lt]; omega
    have h2 : x < y := by rw [Int64.lt_iff_toInt_lt]; omega
    have h3 : ¬ x = y := fun e => by rw [e] at h; omega
    simp only [gt_iff_lt, h1, h3, if_false, h2, iff_true]
    decide
  · have h3 : x = y := Int64.toInt_inj.mp h
    subst h3
    have h1 : ¬ x < x := by rw [Int64.lt_iff_toInt_lt]; omega
    simp [h1]
  · have h1 : y < x := by rw [Int64.lt_iff_toInt_lt]; omega
    have h2 : ¬ x < y := by rw [Int64.lt_iff_toInt_lt]; omega
    simp only [gt_iff_lt, h1, if_true, h2, iff_false]
    decide
theorem lgc_pos {x y : Int64} : 0 < lg_cmp x y ↔ y < x := by
  unfold lg_cmp
  rcases Int.lt_trichotomy x.toInt y.toInt with h | h | h
  · have h1 : ¬ y < x := by rw [Int64.lt_iff_toInt_lt]; omega
    have h3 : ¬ x = y := fun e => by rw [e] at h; omega
    simp only [gt_iff_lt, h1, h3, if_false, iff_false]
    decide
  · have h3 : x = y := Int64.toInt_inj.mp h
    subst h3
    have h1 : ¬ x < x := by rw [Int64.lt_iff_toInt_lt]; omega
    simp [h1]
  · have h1 : y < x := by rw [Int64.lt_iff_toInt_lt]; omega
    simp only [gt_iff_lt, h1, if_true, iff_true]
    decide
theorem lgc_zero {x y : Int64} : lg_cmp x y = 0 ↔ x = y := by
  unfold lg_cmp
  rcases Int.lt_trichotomy x.toInt y.toInt with h | h | h
  · have h1 : ¬ y < x := by rw [Int64.lt_iff_toInt_lt]; omega
    have h3 : ¬ x = y := fun e => by rw [e] at h; omega
    simp only [gt_iff_lt, h1, h3, if_false, iff_false]
    decide
  · have h3 : x = y := Int64.toInt_inj.mp h
    subst h3
    have h1 : ¬ x < x := by rw [Int64.lt_iff_toInt_lt]; omega
    simp [h1]
  · have h1 : y < x := by rw [Int64.lt_iff_toInt_lt]; omega
    have h3 : ¬ x = y := fun e => by rw [e] at h; omega
    simp only [gt_iff_lt, h1, if_true, h3, iff_false]
    decide
theorem i2l_lt {x y : Int32} : x.toInt64 < y.toInt64 ↔ x < y := by
  rw [Int64.lt_iff_toInt_lt, Int32.lt_iff_toInt_lt, Int32.toInt_toInt64, Int32.toInt_toInt64]
theorem within01 (x a b : Int32) : fX10_isWithin x a b = 0 ∨ fX10_isWithin x a b = 1 := by
  unfold fX10_isWithin
  repeat' split
  all_goals first | exact Or.inl rfl | exact Or.inr rfl
theorem within_iff {x a b : Int32} : ¬ fX10_isWithin x a b = 0 ↔ a ≤ x ∧ x ≤ b := by
  unfold fX10_isWithin
  rw [Int32.le_iff_toInt_le, Int32.le_iff_toInt_le]
  by_cases h1 : x < a
  · rw [if_pos h1]
    rw [Int32.lt_iff_toInt_lt] at h1
    constructor
    · intro h; exact absurd rfl h
    · intro h; omega
  · rw [if_neg h1]
    rw [Int32.lt_iff_toInt_lt] at h1
    by_cases h2 : b < x
    · rw [if_pos h2]
      rw [Int32.lt_iff_toInt_lt] at h2
      constructor
      · intro h; exact absurd rfl h
      · intro h; omega
    · rw [if_neg h2]
      rw [Int32.lt_iff_toInt_lt] at h2
      constructor
      · intro; omega
      · intro _; decide
/-- within lo to hi, as Nat -/
theorem withinN {x : Int32} {lo hi : Nat} (hl : lo < 2 ^ 31) (hh : hi < 2 ^ 31) (h : ¬ fX10_isWithin x (nI lo) (nI hi) = 0) : ∃ j : Nat, lo ≤ j ∧ j ≤ hi ∧ x = nI j := by
  obtain ⟨h1, h2⟩ := within_iff.mp h
  have h0 : ¬ x < 0 := by
    rw [Int32.le_iff_toInt_le, nI_toInt hl] at h1
    rw [nI_lt0]
    omega
  obtain ⟨j, hj, rfl⟩ := nI_of h0
  rw [nI_leI hl hj] at h1
  rw [nI_leI hj hh] at h2
  exact ⟨j, h1, h2, rfl⟩
theorem personN {x : Int32} (h : ¬ fX10_isPerson x = 0) : ∃ j : Nat, j < 6 ∧ x = nI j := by
  obtain ⟨j, -, h2, h3⟩ := withinN (lo := 0) (hi := 5) (by omega) (by omega) h
  exact ⟨j, by omega, h3⟩
theorem areTwoN {a b : Int32} (h : ¬ fX10_areTwo a b = 0) : ∃ i j : Nat, i < 6 ∧ j < 6 ∧ i ≠ j ∧ a = nI i ∧ b = nI j := by
  unfold fX10_areTwo at h
  by_cases h1 : fX10_isPerson a = 0
  · rw [if_pos h1] at h; exact absurd rfl h
  · rw [if_neg h1] at h
    by_cases h2 : fX10_isPerson b = 0
    · rw [if_pos h2] at h; exact absurd rfl h
    · rw [if_neg h2] at h
      by_cases h3 : a = b
      · rw [if_pos h3] at h; exact absurd rfl h
      · obtain ⟨i, hi, rfl⟩ := personN h1
        obtain ⟨j, hj, rfl⟩ := personN h2
        exact ⟨i, j, hi, hj, fun e => h3 (by rw [e]), rfl, rfl⟩
theorem knowsN {n : Nat} (hn : n ≤ 10) {bh bm x : Int32} (h : ¬ fX4_knows (nI n) bh bm x = 0) : ∃ f : Nat, f < n ∧ x = nI f := by
  unfold fX4_knows at h
  by_cases h1 : x < 0
  · rw [if_pos h1] at h; exact absurd rfl h
  · rw [if_neg h1] at h
    obtain ⟨y, hy, rfl⟩ := nI_of h1
    by_cases h2 : nI n ≤ nI y
    · rw [if_pos h2] at h; exact absurd rfl h
    · rw [nI_leI (by omega) hy] at h2
      exact ⟨y, by omega, rfl⟩
theorem bd_s {α β : Type} (a : α) (k : α → Option β) : (some a).bind k = k a := rfl
/-- a loop that runs i from 0 to N with the states g i -/
theorem iter_run {S E : Type} {st : S → Option (S ⊕ E)} (g : Nat → S) (e : E) : ∀ (k i N n : Nat), i + k = N → k < n → (∀ j, i ≤ j → j < N → st (g j) = some (Sum.inl (g (j + 1)))) → st (g N) = some (Sum.inr e) → iter st n (g i) = some e
  | 0, i, N, n + 1, h, _, _, he => by
    have : i = N := by omega
    subst this
    rw [iter_succ, he]; rfl
  | k + 1, i, N, n + 1, h, hn, hs, he => by
    rw [iter_succ, hs i (Nat.le_refl _) (by omega)]
    exact iter_run g e k (i + 1) N n (by omega) (by omega) (fun j h1 h2 => hs j (by omega) h2) he
theorem iter_for {S E : Type} {st : S → Option (S ⊕ E)} (g : Nat → S) (N : Nat) (e : E) (s0 : S) (h0 : g 0 = s0) (hN : N < 100000) (hs : ∀ j, j < N → st (g j) = some (Sum.inl (g (j + 1)))) (he : st (g N) = some (Sum.inr e)) : iter st FU s0 = some e := by
  subst h0
  exact iter_run g e N 0 N FU (by omega) hN (fun j _ h => hs j h) he
/-- a loop by an invariant and a measure -/
theorem iter_inv {S E : Type} {st : S → Option (S ⊕ E)} (I : S → Prop) (m : S → Nat) (P : E → Prop) (hs : ∀ s, I s → (∃ s', st s = some (Sum.inl s') ∧ I s' ∧ m s' < m s) ∨ (∃ e, st s = some (Sum.inr e) ∧ P e)) : ∀ (n : Nat) (s : S), I s → m s < n → ∃ e, iter st n s = some e ∧ P e
  | 0, s, _, h => absurd h (Nat.not_lt_zero _)
  | n + 1, s, hI, hm => by
    rcases hs s hI with ⟨s', h1, h2, h3⟩ | ⟨e, h1, h2⟩
    · obtain ⟨e, h4, h5⟩ := iter_inv I m P hs n s' h2 (by omega)
      exact ⟨e, by rw [iter_succ, h1]; exact h4, h5⟩
    · exact ⟨e, by rw [iter_succ, h1]; rfl, h2⟩
/-- two loops side by side -/
theorem iter_two {S E S' E' : Type} {st : S → Option (S ⊕ E)} {st' : S' → Option (S' ⊕ E')} (I : S → S' → Prop) (m : S → Nat) (P : E → E' → Prop) (hs : ∀ s s', I s s' → (∃ t t', st s = some (Sum.inl t) ∧ st' s' = some (Sum.inl t') ∧ I t t' ∧ m t < m s) ∨ (∃ e e', st s = some (Sum.inr e) ∧ st' s' = some (Sum.inr e') ∧ P e e')) : ∀ (n : Nat) (s : S) (s' : S'), I s s' → m s < n → ∃ e e', iter st n s = some e ∧ iter st' n s' = some e' ∧ P e e'
  | 0, s, s', _, h => absurd h (Nat.not_lt_zero _)
  | n + 1, s, s', hI, hm => by
    rcases hs s s' hI with ⟨t, t', h1, h1', h2, h3⟩ | ⟨e, e', h1, h1', h2⟩
    · obtain ⟨e, e', h4, h4', h5⟩ := iter_two I m P hs n t t' h2 (by omega)
      exact ⟨e, e', by rw [iter_succ, h1]; exact h4, by rw [iter_succ, h1']; exact h4', h5⟩
    · exact ⟨e, e', by rw [iter_succ, h1]; rfl, by rw [iter_succ, h1']; rfl, h2⟩
/-! the short calls -/
theorem sumsN (d : Nat → Int32) {i j : Nat} (hi : i < 6) (hj : j < 6) : fX1_sum d (nI i) (nI j) = some (d (6 * i + j)) := by
  unfold fX1_sum
  have e : nI i * 6 + nI j = nI (6 * i + j) := by
    rw [show (6 : Int32) = nI 6 from rfl, mulL, nI_add, Nat.mul_comm]
  rw [e, gd_t (inbN (by omega) (by omega)), clN (by omega)]
theorem putN (d : Nat → Int32) {i j : Nat} (hi : i < 6) (hj : j < 6) (v : Int32) : fX1_put d (nI i) (nI j) v = some (upd d (6 * i + j) v) := by
  unfold fX1_put
  have e : nI i * 6 + nI j = nI (6 * i + j) := by
    rw [show (6 : Int32) = nI 6 from rfl, mulL, nI_add, Nat.mul_comm]
  rw [e, gd_t (inbN (by omega) (by omega)), clN (by omega)]
theorem m6N (i j : Nat) : (6 * nI i + nI j : Int32) = nI (6 * i + j) := by
  rw [show (6 : Int32) = nI 6 from rfl, mulL, nI_add]
theorem upd_eq (f : Nat → Int32) (k : Nat) (x : Int32) (j : Nat) : upd f k x j = if j = k then x else f j := rfl
theorem RD_put {d debts : Nat → Int32} (h : RD d debts) (i : Nat) {v : Nat} (hv : v < 100) : RD (upd d i (nI v)) (upd debts i (nI v)) := by
  intro q hq
  rw [upd_eq, upd_eq]
  by_cases e : q = i
  · rw [if_pos e, if_pos e]; exact ⟨rfl, v, hv, rfl⟩
  · rw [if_neg e, if_neg e]; exact h q hq
theorem bankN (sz bh bm : Int32) (o : Nat → Int32) {f : Nat} (hf : f < 10) : fX4_isAtBank sz bh bm o (nI f) = some (if o f = -1 then 1 else 0) := by
  unfold fX4_isAtBank
  rw [gd_t (inbN hf (by omega)), clN (by omega)]
  by_cases h : o f = -1
  · rw [if_pos h, if_pos h]
  · rw [if_neg h, if_neg h]
theorem worthX (sz bh bm : Int32) (k l : Nat → Int32) {f : Nat} (hf : f < 10) : fX4_worthBehindHand sz bh bm k l (nI f) = some (fX5_behindHand (k f) (l f)) := by
  unfold fX4_worthBehindHand
  rw [gd_t (inbN hf (by omega)), clN (by omega)]
/-! a hand, payments, the bank, mould -/
theorem iter_4a {S E : Type} {st : S → Option (S ⊕ E)} {s0 s1 s2 s3 : S} {e : E} (n : Nat) (h0 : st s0 = some (Sum.inl s1)) (h1 : st s1 = some (Sum.inl s2)) (h2 : st s2 = some (Sum.inl s3)) (h3 : st s3 = some (Sum.inr e)) : iter st (n + 4) s0 = some e := by
  rw [show n + 4 = (n + 3) + 1 from rfl, iter_succ, h0]
  show iter st (n + 3) s1 = _
  rw [show n + 3 = (n + 2) + 1 from rfl, iter_succ, h1]
  show iter st (n + 2) s2 = _
  rw [show n + 2 = (n + 1) + 1 from rfl, iter_succ, h2]
  show iter st (n + 1) s3 = _
  rw [iter_succ, h3]
  rfl
theorem FU4 : FU = 99996 + 4 := rfl
theorem iter_4 {S E : Type} {st : S → Option (S ⊕ E)} {s0 s1 s2 s3 : S} {e : E} (h0 : st s0 = some (Sum.inl s1)) (h1 : st s1 = some (Sum.inl s2)) (h2 : st s2 = some (Sum.inl s3)) (h3 : st s3 = some (Sum.inr e)) : iter st FU s0 = some e := by
  rw [FU4]
  exact iter_4a _ h0 h1 h2 h3
theorem m4N (i : Nat) : (nI i * 4 : Int32) = nI (4 * i) := by
  rw [show (4 : Int32) = nI 4 from rfl, mulL, Nat.mul_comm]
/-- tears of frond f behind a hand of 'from' -/
def tornT (t : Nat → Int32) (f : Nat) (from_ : Int32) : Nat → Int32 := upd (upd (upd (upd t (4 * f + 3) (t (4 * f + 2))) (4 * f + 2) (t (4 * f + 1))) (4 * f + 1) (t (4 * f))) (4 * f) from_
theorem tearOffN (sz bh bm : Int32) (t : Nat → Int32) {f : Nat} (hf : f < 10) (fr0 : Int32) : fX4_tearOff sz bh bm t (nI f) fr0 = some (tornT t f fr0) := by
  unfold fX4_tearOff
  have step : ∀ (i : Nat) (T : Nat → Int32), 1 ≤ i → i ≤ 3 → fX4_tearOff_L7 (nI f) (nI i, T) = some (Sum.inl (nI (i - 1), upd T (4 * f + i) (T (4 * f + (i - 1))))) := by
    intro i T h1 h3
    unfold fX4_tearOff_L7
    show (if nI i ≤ 0 then _ else _) = _
    rw [if_neg (nI_nle (by omega) (by omega)), m4N, nI_add, show (nI (4 * f + i) - 1) = nI (4 * f + (i - 1)) by rw [show (1 : Int32) = nI 1 from rfl, subN (by omega)]; congr 1; omega, gd_t (inbN (by omega) (by omega)), gd_t (inbN (by omega) (by omega)), clN (by omega), clN (by omega)]
    show some (Sum.inl (nI i + (-1), _)) = _
    rw [show nI i + (-1) = nI (i - 1) by rw [show i = (i - 1) + 1 by omega, pk_m1]; rfl]
  have hend : ∀ T : Nat → Int32, fX4_tearOff_L7 (nI f) (nI 0, T) = some (Sum.inr T) := fun T => by
    unfold fX4_tearOff_L7
    show (if nI 0 ≤ 0 then _ else _) = _
    exact if_pos (by decide)
  rw [show (3 : Int32) = nI 3 from rfl, iter_4 (step 3 t (by omega) (by omega)) (step 2 _ (by omega) (by omega)) (step 1 _ (by omega) (by omega)) (hend _)]
  show fX4_tearOff_X7_38 (nI f) fr0 _ = _
  unfold fX4_tearOff_X7_38
  rw [m4N, gd_t (inbN (by omega) (by omega)), clN (by omega)]
  congr 1
  funext q
  simp only [tornT, upd_eq, if_true]
  repeat' split
  all_goals first | rfl | omega
theorem goByHandN (sz bh bm : Int32) (k l o t : Nat → Int32) {f : Nat} (hf : f < 10) (to : Int32) : fX4_goByHand sz bh bm k l o t (nI f) to = some (fX5_behindHand (k f) (l f), bh + (l f - fX5_behindHand (k f) (l f)), upd l f (fX5_behindHand (k f) (l f)), upd o f to, tornT t f (o f)) := by
  unfold fX4_goByHand
  rw [worthX _ _ _ _ _ hf]
  show gd (inb (nI f) 10) _ = _
  rw [gd_t (inbN hf (by omega)), clN (by omega), tearOffN _ _ _ _ hf]
  rfl
/-! loops over fronds: mould, sums, counts -/
theorem two_for {S E S' E' : Type} {st : S → Option (S ⊕ E)} {st' : S' → Option (S' ⊕ E')} (I : Nat → S → S' → Prop) (P : E → E' → Prop) (N : Nat) (hN : N < 100000) (hs : ∀ i s s', i < N → I i s s' → ∃ t t', st s = some (Sum.inl t) ∧ st' s' = some (Sum.inl t') ∧ I (i + 1) t t') (he : ∀ s s', I N s s' → ∃ e e', st s = some (Sum.inr e) ∧ st' s' = some (Sum.inr e') ∧ P e e') (s0 : S) (s0' : S') (h0 : I 0 s0 s0') : ∃ e e', iter st FU s0 = some e ∧ iter st' FU s0' = some e' ∧ P e e' := by
  have key : ∀ (k i n : Nat) (s : S) (s' : S'), i + k = N → k < n → I i s s' → ∃ e e', iter st n s = some e ∧ iter st' n s' = some e' ∧ P e e' := by
    intro k
    induction k with
    | zero =>
      intro i n s s' h1 h2 h3
      have : i = N := by omega
      subst this
      obtain ⟨e, e', a, b, c⟩ := he s s' h3
      cases n with
      | zero => omega
      | succ n => exact ⟨e, e', by rw [iter_succ, a]; rfl, by rw [iter_succ, b]; rfl, c⟩
    | succ k ih =>
      intro i n s s' h1 h2 h3
      obtain ⟨t, t', a, b, c⟩ := hs i s s' (by omega) h3
      cases n with
      | zero => omega
      | succ n =>
        obtain ⟨e, e', g1, g2, g3⟩ := ih (i + 1) n t t' (by omega) (by omega) c
        exact ⟨e, e', by rw [iter_succ, a]; exact g1, by rw [iter_succ, b]; exact g2, g3⟩
  exact key N 0 FU s0 s0' (by omega) hN h0
theorem one_for {S E : Type} {st : S → Option (S ⊕ E)} (I : Nat → S → Prop) (P : E → Prop) (N : Nat) (hN : N < 100000) (hs : ∀ i s, i < N → I i s → ∃ t, st s = some (Sum.inl t) ∧ I (i + 1) t) (he : ∀ s, I N s → ∃ e, st s = some (Sum.inr e) ∧ P e) (s0 : S) (h0 : I 0 s0) : ∃ e, iter st FU s0 = some e ∧ P e := by
  obtain ⟨e, e', h1, -, h3⟩ := two_for (st' := st) (fun i s s' => s = s' ∧ I i s) (fun e _ => P e) N hN (fun i s s' hi h => by
    obtain ⟨rfl, h⟩ := h
    obtain ⟨t, a, b⟩ := hs i s hi h
    exact ⟨t, t, a, a, rfl, b⟩) (fun s s' h => by
    obtain ⟨rfl, h⟩ := h
    obtain ⟨e, a, b⟩ := he s h
    exact ⟨e, e, a, a, b⟩) s0 s0 ⟨rfl, h0⟩
  exact ⟨e, h1, h3⟩
theorem nI1 (a : Nat) : (nI a + 1 : Int32) = nI (a + 1) := nI_add a 1
/-! new fronds: breaking, June -/
theorem iter_5a {S E : Type} {st : S → Option (S ⊕ E)} {s0 s1 s2 s3 s4 : S} {e : E} (n : Nat) (h0 : st s0 = some (Sum.inl s1)) (h1 : st s1 = some (Sum.inl s2)) (h2 : st s2 = some (Sum.inl s3)) (h3 : st s3 = some (Sum.inl s4)) (h4 : st s4 = some (Sum.inr e)) : iter st (n + 5) s0 = some e := by
  rw [show n + 5 = (n + 4) + 1 from rfl, iter_succ, h0]
  exact iter_4a n h1 h2 h3 h4
theorem FU5 : FU = 99995 + 5 := rfl
theorem iter_5 {S E : Type} {st : S → Option (S ⊕ E)} {s0 s1 s2 s3 s4 : S} {e : E} (h0 : st s0 = some (Sum.inl s1)) (h1 : st s1 = some (Sum.inl s2)) (h2 : st s2 = some (Sum.inl s3)) (h3 : st s3 = some (Sum.inl s4)) (h4 : st s4 = some (Sum.inr e)) : iter st FU s0 = some e := by
  rw [FU5]
  exact iter_5a _ h0 h1 h2 h3 h4
def newT (t : Nat → Int32) (n : Nat) : Nat → Int32 := upd (upd (upd (upd t (4 * n) (-1)) (4 * n + 1) (-1)) (4 * n + 2) (-1)) (4 * n + 3) (-1)
theorem addN {n : Nat} (hn : n < 10) (bh bm : Int32) (k l o t : Nat → Int32) (a b c : Int32) : fX4_add (nI n) bh bm k l o t a b c = some (nI n, nI (n + 1), upd k n a, upd l n b, upd o n c, newT t n) := by
  unfold fX4_add
  rw [if_pos (show nI n < 10 from nI_lt (b := 10) hn (by omega)), gd_t (inbN hn (by omega))]
  have step : ∀ (i : Nat) (T : Nat → Int32), i < 4 → fX4_add_L44 (nI n) (nI i, T) = some (Sum.inl (nI (i + 1), upd T (4 * n + i) (-1))) := by
    intro i T hi
    unfold fX4_add_L44
    show (if nI 4 ≤ nI i then _ else _) = _
    rw [if_neg (by rw [leN (by omega) (by omega)]; omega), m4N, nI_add, gd_t (inbN (by omega) (by omega)), clN (by omega)]
    show some (Sum.inl (nI i + 1, _)) = _
    rw [nI1]
  have hend : ∀ T : Nat → Int32, fX4_add_L44 (nI n) (nI 4, T) = some (Sum.inr T) := fun T => by
    unfold fX4_add_L44
    show (if 4 ≤ nI 4 then _ else _) = _
    exact if_pos (by decide)
  rw [show (0 : Int32) = nI 0 from rfl, iter_5 (step 0 t (by omega)) (step 1 _ (by omega)) (step 2 _ (by omega)) (step 3 _ (by omega)) (hend _), bd_s]
  unfold fX4_add_X44_69
  rw [clN (by omega), nI1]
  rfl
theorem addFull {n : Nat} (hn : ¬ n < 10) (hn2 : n ≤ 10) (bh bm : Int32) (k l o t : Nat → Int32) (a b c : Int32) : fX4_add (nI n) bh bm k l o t a b c = some (-1, nI n, k, l, o, t) := by
  unfold fX4_add
  rw [if_neg]
  rw [show (10 : Int32) = nI 10 from rfl, ltN (by omega) (by omega)]
  exact hn
/-! June -/
def grow (l o : Nat → Int32) (p : Nat) : Nat → Bool
  | 0 => false
  | i + 1 => grow l o p i || (decide (o i = nI p) && decide (l i = 9))
theorem bit_or : ∀ B : Fin 64, ∀ c : Fin 6, ∃ B' : Fin 64, (nI B.val ||| (1 <<< (nI c.val &&& 31))) = nI B'.val ∧ ∀ p : Fin 6, B'.val.testBit p.val = (B.val.testBit p.val || decide (p = c)) := by decide +kernel
theorem bit_and : ∀ B : Fin 64, ∀ p : Fin 6, (((nI B.val >>> (nI p.val &&& 31)) &&& 1) = 0) ↔ B.val.testBit p.val = false := by decide +kernel
theorem q_owners {k l o : Nat → Int32} (hC : RG k l o) {n : Nat} (hn : n ≤ 10) (bh bm : Int32) : ∃ B : Nat, B < 64 ∧ fX4_ownersOfWholeFronds (nI n) bh bm l o = some (nI B) ∧ ∀ p : Nat, p < 6 → B.testBit p = grow l o p n := by
  unfold fX4_ownersOfWholeFronds
  obtain ⟨e, h1, B, hB, he, hg⟩ := one_for (st := fX4_ownersOfWholeFronds_L4 (nI n) bh bm l o) (fun i s => ∃ B : Nat, B < 64 ∧ s = (nI B, nI i) ∧ ∀ p : Nat, p < 6 → B.testBit p = grow l o p i) (fun e => ∃ B : Nat, B < 64 ∧ e = nI B ∧ ∀ p : Nat, p < 6 → B.testBit p = grow l o p n) n (by omega) (fun i s hi hI => by
      obtain ⟨B, hB, rfl, hg⟩ := hI
      have hi10 : i < 10 := by omega
      unfold fX4_ownersOfWholeFronds_L4
      dsimp only
      rw [if_neg (by rw [leN (by omega) (by omega)]; omega), gd_t (inbN hi10 (by omega)), clN (by omega), bankN _ _ _ _ hi10]
      by_cases h9 : l i = 9
      · rw [if_pos h9, bd_s]
        by_cases hb : o i = -1
        · rw [if_pos hb, if_neg (by decide)]
          refine ⟨_, rfl, B, hB, by show (nI B, nI i + 1) = _; rw [nI1], fun p hp => ?_⟩
          show _ = (grow l o p i || (decide (o i = nI p) && decide (l i = 9)))
          rw [hg p hp, hb, show decide ((-1 : Int32) = nI p) = false from decide_eq_false (by rw [m1N' (by omega)]; exact id), Bool.false_and, Bool.or_false]
        · rw [if_neg hb, if_pos rfl]
          obtain ⟨c, hc, ec⟩ := (hC i hi10).2.2.resolve_left hb
          obtain ⟨B', eB, hb'⟩ := bit_or ⟨B, hB⟩ ⟨c, hc⟩
          refine ⟨_, rfl, B'.val, B'.isLt, ?_, fun p hp => ?_⟩
          · show (nI B ||| (1 <<< (o i &&& 31)), nI i + 1) = _
            rw [ec, nI1]
            exact congrArg (fun z => (z, nI (i + 1))) eB
          · show _ = (grow l o p i || (decide (o i = nI p) && decide (l i = 9)))
            rw [hb' ⟨p, hp⟩, hg p hp, h9, ec, show decide ((9 : Int32) = 9) = true from rfl, Bool.and_true]
            congr 1
            by_cases e : p = c
            · subst e; rw [decide_eq_true rfl, decide_eq_true rfl]
            · rw [decide_eq_false (fun q => e (congrArg Fin.val q)), decide_eq_false (by rw [eqN (by omega) (by omega)]; exact fun q => e q.symm)]
      · rw [if_neg h9]
        refine ⟨_, rfl, B, hB, by show (nI B, nI i + 1) = _; rw [nI1], fun p hp => ?_⟩
        show _ = (grow l o p i || (decide (o i = nI p) && decide (l i = 9)))
        rw [hg p hp, decide_eq_false h9, Bool.and_false, Bool.or_false]) (fun s hI => by
      obtain ⟨B, hB, rfl, hg⟩ := hI
      unfold fX4_ownersOfWholeFronds_L4
      dsimp only
      rw [if_pos (by rw [leN (by omega) (by omega)]; omega)]
      exact ⟨_, rfl, B, hB, rfl, hg⟩) (0, 0) ⟨0, by omega, rfl, fun p hp => by rw [Nat.zero_testBit]; rfl⟩
  subst he
  rw [h1]
  exact ⟨B, hB, rfl, hg⟩
/-! images, months by a seed -/
def cpF (n : Nat) (f g : Nat → Int32) : Nat → Int32 := fun j => if j < n then f j else g j
theorem cpF_lt {n : Nat} {f g : Nat → Int32} {j : Nat} (h : j < n) : cpF n f g j = f j := if_pos h
theorem cpyN {n : Nat} {k : Int32} (hk : k.toNatClampNeg = n) (f g : Nat → Int32) : va_cpy f g (0 : Int32).toNatClampNeg (0 : Int32).toNatClampNeg k.toNatClampNeg = cpF n f g := by
  rw [hk, show (0 : Int32).toNatClampNeg = 0 from by decide]
  funext j
  unfold va_cpy cpF
  by_cases e : j < n
  · rw [if_pos e, if_pos (by omega), Nat.sub_zero, Nat.zero_add]
  · rw [if_neg e, if_neg (by omega)]
theorem copyFromN (s1 b1 m1 : Int32) (k l o t d : Nat → Int32) (s2 b2 m2 : Int32) (k2 l2 o2 t2 d2 : Nat → Int32) : fX4_copyFrom s1 b1 m1 k l o t d s2 b2 m2 k2 l2 o2 t2 d2 = some (s2, b2, m2, cpF 10 k2 k, cpF 10 l2 l, cpF 10 o2 o, cpF 40 t2 t, cpF 36 d2 d) := by
  unfold fX4_copyFrom fX1_copyFrom
  rw [bd_s, cpyN (n := 10) (by decide), cpyN (n := 10) (by decide), cpyN (n := 10) (by decide), cpyN (n := 40) (by decide), cpyN (n := 36) (by decide)]
theorem RD_cp {d debts : Nat → Int32} (h : RD d debts) (d2 e2 : Nat → Int32) : RD (cpF 36 d d2) (cpF 36 debts e2) := by
  intro i hi
  rw [cpF_lt hi, cpF_lt hi]
  exact h i hi
/-! the draws -/
def nextS (s : Nat) : Nat := (1103515245 * s + 12345) % 2147483648
theorem nextS_lt (s : Nat) : nextS s < 2 ^ 31 := Nat.mod_lt _ (by omega)
theorem and31 (n : Nat) (h : n < 2 ^ 63) : lN n &&& 2147483647 = lN (n % 2147483648) := by
  apply Int64.toBitVec_inj.mp
  rw [Int64.toBitVec_and]
  apply BitVec.eq_of_toNat_eq
  rw [BitVec.toNat_and]
  show (BitVec.ofNat 64 n).toNat &&& 2147483647 = (BitVec.ofNat 64 (n % 2147483648)).toNat
  rw [BitVec.toNat_ofNat, BitVec.toNat_ofNat, Nat.mod_eq_of_lt (by omega), Nat.mod_eq_of_lt (by omega)]
  exact Nat.and_two_pow_sub_one_eq_mod n 31
theorem seedN (s : Nat) (h : s < 2 ^ 31) : ((1103515245 * lN s + 12345 : Int64) &&& 2147483647) = lN (nextS s) := by
  have e : (1103515245 * lN s + 12345 : Int64) = lN (1103515245 * s + 12345) := by
    rw [show (1103515245 : Int64) = lN 1103515245 from rfl, show (12345 : Int64) = lN 12345 from rfl, lN_mul, lN_add]
  rw [e, and31 _ (by omega)]
  rfl
theorem shr16 (n : Nat) (h : n < 2 ^ 31) : (lN n >>> ((16 : Int32).toInt64 &&& 63)) = lN (n / 65536) := by
  apply Int64.toInt_inj.mp
  rw [pk_lT (by omega)]
  show ((lN n).toBitVec.sshiftRight ((((16 : Int32).toInt64 &&& 63) : Int64).toBitVec.smod 64).toNat).toInt = _
  rw [show ((((16 : Int32).toInt64 &&& 63) : Int64).toBitVec.smod 64).toNat = 16 from by decide, BitVec.toInt_sshiftRight]
  show (lN n).toInt >>> 16 = _
  rw [pk_lT (by omega), Int.shiftRight_eq_div_pow]
  omega
theorem nextX {s : Nat} (h : s < 2 ^ 31) {w : Nat} (h0 : 0 < w) (hw : w < 100) : fX2_next (lN s) (nI w) = some (nI (nextS s / 65536 % w), lN (nextS s)) := by
  unfold fX2_next
  rw [if_neg (nI_nle h0 (by omega)), seedN s h, shr16 _ (nextS_lt s), nI_l (by omega), pk_lRem (by have := nextS_lt s; omega) h0 (by omega), lN_i]
  exact gd_t (decide_eq_true (by rw [show (0 : Int64) = lN 0 from rfl, pk_lEQ (by omega) (by omega)]; omega))
theorem knows_t {n f : Nat} (hn : n ≤ 10) (hf : f < n) (bh bm : Int32) : fX4_knows (nI n) bh bm (nI f) = 1 := by
  have h0 : ¬ nI f < 0 := by
    rw [show (0 : Int32) = nI 0 from rfl, ltN (by omega) (by omega)]
    omega
  unfold fX4_knows
  rw [if_neg h0, if_neg (by rw [leN (by omega) (by omega)]; omega)]
theorem J89N (x2 bm u : Int32) (su : Int64) (L : Nat → Int32) (a7 : Int64 × Int32 × (Nat → Int32) × (Nat → Int32) × (Nat → Int32)) : fX2_passMonth_J89 x2 (u, su) (bm, L) a7 = some (if x2 ≤ u then 0 else 1, a7.1, a7.2.1, bm, a7.2.2.1, a7.2.2.2.1, a7.2.2.2.2) := by
  unfold fX2_passMonth_J89
  dsimp only
  by_cases h : x2 ≤ u
  · rw [if_pos h, if_pos rfl]
  · rw [if_neg h, if_neg (by decide)]
/-! what a hand and mould leave -/
theorem hand_allX : ∀ c : Fin 5, ∀ v : Fin 10, ∃ w : Fin 10, fX5_behindHand (nI c.val) (nI v.val) = nI w.val ∧ w.val ≤ v.val := by decide +kernel
theorem mould_allX : ∀ c : Fin 5, ∀ v : Fin 10, ∃ w : Fin 10, fX5_behindDamp (nI c.val) (nI v.val) = nI w.val ∧ w.val ≤ v.val := by decide +kernel
theorem hand_lt {c v : Nat} (hc : c < 5) (hv : v < 10) : ∃ w : Nat, w < 10 ∧ w ≤ v ∧ fX5_behindHand (nI c) (nI v) = nI w := by
  obtain ⟨w, h1, h2⟩ := hand_allX ⟨c, hc⟩ ⟨v, hv⟩
  exact ⟨w.val, w.isLt, h2, h1⟩
theorem mould_lt {c v : Nat} (hc : c < 5) (hv : v < 10) : ∃ w : Nat, w < 10 ∧ w ≤ v ∧ fX5_behindDamp (nI c) (nI v) = nI w := by
  obtain ⟨w, h1, h2⟩ := mould_allX ⟨c, hc⟩ ⟨v, hv⟩
  exact ⟨w.val, w.isLt, h2, h1⟩
/-- what about answers of a frond that is there -/
theorem tellX {n : Nat} (hn : n ≤ 10) (sz bh bm : Int32) (k l o t : Nat → Int32) {f w : Nat} (hf : f < n) (hw : w < 8) : fX4_tellOf sz bh bm k l o t (nI f) (nI w) = some (if w = 0 then k f else if w = 1 then l f else if w = 2 then o f else if w = 3 then fX5_behindHand (k f) (l f) else t (4 * f + (w - 4))) := by
  have hf10 : f < 10 := by omega
  unfold fX4_tellOf
  rw [show (0 : Int32) = nI 0 from rfl, show (1 : Int32) = nI 1 from rfl, show (2 : Int32) = nI 2 from rfl, show (3 : Int32) = nI 3 from rfl]
  simp only [eqN (a := w) (b := 0) (by omega) (by omega), eqN (a := w) (b := 1) (by omega) (by omega), eqN (a := w) (b := 2) (by omega) (by omega), eqN (a := w) (b := 3) (by omega) (by omega), gd_t (inbN hf10 (by omega)), clN (show f < 2 ^ 31 by omega), worthX _ _ _ _ _ hf10]
  split
  · rfl
  · split
    · rfl
    · split
      · rfl
      · split
        · rfl
        · unfold fX4_tear
          rw [show (nI w - 4) = nI w - nI 4 from rfl, subN (by omega), show (nI f * 4) = nI (4 * f) by rw [show (4 : Int32) = nI 4 from rfl, mulL, Nat.mul_comm], nI_add, gd_t (inbN (by omega) (by omega)), clN (by omega)]
          rfl
theorem aboutX {n : Nat} (hn : n ≤ 10) (kp bh bm : Int32) (k l o t : Nat → Int32) {f w : Nat} (hf : f < n) (hw : w < 8) : fX10_about kp (nI n) bh bm k l o t (nI f) (nI w) = some (if w = 0 then k f else if w = 1 then l f else if w = 2 then o f else if w = 3 then fX5_behindHand (k f) (l f) else t (4 * f + (w - 4))) := by
  unfold fX10_about
  rw [knows_t hn hf, if_neg (show ¬ (1 : Int32) = 0 by decide), if_neg (show ¬ fX10_isWithin (nI w) 0 7 = 0 from within_iff.mpr ⟨nI_le (a := 0) (Nat.zero_le _) (by omega), nI_le (b := 7) (by omega) (by omega)⟩), tellX hn _ _ _ _ _ _ _ hf hw]
  rfl
