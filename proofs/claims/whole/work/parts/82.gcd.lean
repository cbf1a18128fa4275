/-! the greatest common divisor, on both sides -/
theorem lN_z {a : Nat} (h : a < 2 ^ 62) : (lN a = 0) = (a = 0) := by
  apply propext
  constructor
  · intro e
    have h1 : (lN a).toInt = (a : Int) := Int64.toInt_ofNat_of_lt (show a < 2 ^ 63 by omega)
    rw [e] at h1
    have h2 : (0 : Int64).toInt = 0 := by decide
    omega
  · intro e
    subst e
    rfl
theorem nzlN {a : Nat} (h0 : 0 < a) (h : a < 2 ^ 62) : nzl (lN a) = true := by
  unfold nzl
  refine decide_eq_true ?_
  rw [lN_z h]
  omega
theorem lgzN {a : Nat} (h : a < 2 ^ 62) : (lg_cmp (lN a) 0 = 0) = (a = 0) := by
  rw [← lN_z h]
  exact propext lgc_zero
theorem remHalf {S B n : Nat} (h : S ≤ B) (h0 : 0 < S) (hp : S * B < 2 ^ (n + 1)) : B % S * S < 2 ^ n := by
  have h1 := Nat.mod_lt B h0
  have h2 : 2 * (B % S) ≤ B := by
    have h3 := Nat.div_add_mod B S
    have h4 : 0 < B / S := Nat.div_pos h h0
    have h5 : S * 1 ≤ S * (B / S) := Nat.mul_le_mul_left S h4
    omega
  have h6 : S * (2 * (B % S)) ≤ S * B := Nat.mul_le_mul_left S h2
  have h7 : S * (2 * (B % S)) = 2 * (B % S * S) := by rw [Nat.mul_left_comm, Nat.mul_comm S]
  rw [Nat.pow_succ] at hp
  omega
theorem gcdX : ∀ (n S B i k : Nat), S ≤ B → S * B < 2 ^ n → B < 2 ^ 62 → i + n < 100 → n < k → iter fX0_commonDivisor_L9 k (lN B, lN S, nI i) = some (lN (Nat.gcd B S))
  | n, S, B, i, 0, _, _, _, _, hk => absurd hk (Nat.not_lt_zero _)
  | n, S, B, i, k + 1, h, hp, hB, hi, hk => by
    have h100 : ¬ (100 : Int32) ≤ nI i := by
      rw [show (100 : Int32) = nI 100 from rfl, leN (by omega) (by omega)]
      omega
    by_cases c : S = 0
    · subst c
      have h0 : fX0_commonDivisor_L9 (lN B, lN 0, nI i) = some (Sum.inr (lN B)) := by
        unfold fX0_commonDivisor_L9
        dsimp only
        rw [if_neg h100, if_pos (by rw [lgzN (by omega)])]
      rw [iter_succ, h0, bd_s, Nat.gcd_zero_right]
      rfl
    · have h0 : fX0_commonDivisor_L9 (lN B, lN S, nI i) = some (Sum.inl (lN S, lN (B % S), nI (i + 1))) := by
        unfold fX0_commonDivisor_L9
        dsimp only
        rw [if_neg h100, if_neg (by rw [lgzN (by omega)]; exact c), gd_t (nzlN (by omega) (by omega)), pk_lRem (by omega) (by omega) (by omega), nI1]
      rw [iter_succ, h0, bd_s]
      have h1 := Nat.mod_lt B (show 0 < S by omega)
      cases n with
      | zero =>
        have : 1 * 1 ≤ S * B := Nat.mul_le_mul (by omega) (by omega)
        simp at hp
        omega
      | succ n =>
        show iter _ k (lN S, lN (B % S), nI (i + 1)) = _
        rw [gcdX n (B % S) S (i + 1) k (by omega) (remHalf h (by omega) hp) (by omega) (by omega) (by omega), Nat.gcd_comm S, ← Nat.gcd_rec, Nat.gcd_comm]
theorem gcdM : ∀ (n S B k : Nat), S ≤ B → S * B < 2 ^ n → B < 2 ^ 62 → n < k → iter fX11_term_L6 k (lN S, lN B) = some (lN (Nat.gcd B S))
  | n, S, B, 0, _, _, _, hk => absurd hk (Nat.not_lt_zero _)
  | n, S, B, k + 1, h, hp, hB, hk => by
    by_cases c : S = 0
    · subst c
      have h0 : fX11_term_L6 (lN 0, lN B) = some (Sum.inr (lN B)) := by
        unfold fX11_term_L6
        dsimp only
        rw [if_pos (by rw [lgzN (by omega)])]
      rw [iter_succ, h0, bd_s, Nat.gcd_zero_right]
      rfl
    · have h0 : fX11_term_L6 (lN S, lN B) = some (Sum.inl (lN (B % S), lN S)) := by
        unfold fX11_term_L6
        dsimp only
        rw [if_neg (by rw [lgzN (by omega)]; exact c), gd_t (nzlN (by omega) (by omega)), pk_lRem (by omega) (by omega) (by omega)]
      rw [iter_succ, h0, bd_s]
      have h1 := Nat.mod_lt B (show 0 < S by omega)
      cases n with
      | zero =>
        have : 1 * 1 ≤ S * B := Nat.mul_le_mul (by omega) (by omega)
        simp at hp
        omega
      | succ n =>
        show iter _ k (lN (B % S), lN S) = _
        rw [gcdM n (B % S) S k (by omega) (remHalf h (by omega) hp) (by omega) (by omega), Nat.gcd_comm S, ← Nat.gcd_rec, Nat.gcd_comm]
theorem divX {a b : Nat} (hb0 : 0 < b) (ha : a < 2 ^ 34) (hb : b < 2 ^ 30) : fX0_commonDivisor (lN a) (lN b) = some (lN (Nat.gcd a b)) := by
  unfold fX0_commonDivisor
  have h1 := Nat.mod_lt a hb0
  have hp : a % b * b < 2 ^ 60 := by
    have : a % b * b < 2 ^ 30 * 2 ^ 30 := Nat.mul_lt_mul'' (by omega) hb
    omega
  rw [show FU = 99999 + 1 from rfl, iter_succ]
  have h0 : fX0_commonDivisor_L9 (lN a, lN b, 0) = some (Sum.inl (lN b, lN (a % b), nI 1)) := by
    unfold fX0_commonDivisor_L9
    dsimp only
    rw [if_neg (by decide), if_neg (by rw [lgzN (by omega)]; omega), gd_t (nzlN hb0 (by omega)), pk_lRem (by omega) hb0 (by omega)]
    rfl
  rw [h0, bd_s]
  show (iter _ 99999 (lN b, lN (a % b), nI 1)).bind _ = _
  rw [gcdX 60 (a % b) b 1 99999 (by omega) hp (by omega) (by omega) (by omega), bd_s, Nat.gcd_comm b, ← Nat.gcd_rec, Nat.gcd_comm]
  rfl
theorem divM {a b : Nat} (hb0 : 0 < b) (ha : a < 2 ^ 34) (hb : b < 2 ^ 30) : iter fX11_term_L6 FU (lN a, lN b) = some (lN (Nat.gcd a b)) := by
  by_cases c : a = 0
  · subst c
    have h := gcdM 0 0 b FU (by omega) (by omega) (by omega) (show 0 < 100000 by omega)
    rw [h, Nat.gcd_comm]
  · have h1 := Nat.mod_lt b (show 0 < a by omega)
    have hp : b % a * a < 2 ^ 68 := by
      have : b % a * a < 2 ^ 34 * 2 ^ 34 := Nat.mul_lt_mul'' (by omega) ha
      omega
    rw [show FU = 99999 + 1 from rfl, iter_succ]
    have h0 : fX11_term_L6 (lN a, lN b) = some (Sum.inl (lN (b % a), lN a)) := by
      unfold fX11_term_L6
      dsimp only
      rw [if_neg (by rw [lgzN (by omega)]; omega), gd_t (nzlN (by omega) (by omega)), pk_lRem (by omega) (by omega) (by omega)]
    rw [h0, bd_s]
    show iter _ 99999 (lN (b % a), lN a) = _
    rw [gcdM 68 (b % a) a 99999 (by omega) hp (by omega) (by omega), Nat.gcd_comm a, ← Nat.gcd_rec]
theorem termM {a b : Nat} (hb0 : 0 < b) (ha : a < 2 ^ 34) (hb : b < 2 ^ 30) (x : Int32) : fX11_term (lN a) (lN b) x = some (if x = 0 then lN (a / Nat.gcd a b) else lN (b / Nat.gcd a b)) := by
  have hg : 0 < Nat.gcd a b := Nat.gcd_pos_of_pos_right a hb0
  have hg2 : Nat.gcd a b ≤ b := Nat.gcd_le_right a hb0
  unfold fX11_term
  rw [divM hb0 ha hb, bd_s]
  unfold fX11_term_X6_31
  by_cases c : x = 0
  · rw [if_pos c, if_pos c, gd_t (nzlN hg (by omega)), pk_lDiv (by omega) hg (by omega)]
  · rw [if_neg c, if_neg c, gd_t (nzlN hg (by omega)), pk_lDiv (by omega) hg (by omega)]
