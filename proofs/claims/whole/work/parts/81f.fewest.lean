/-! fewest: the class's rows -/
theorem addBits : ∀ p : Fin 6, ∀ T : Fin (2 ^ p.val), (2 ^ p.val + T.val).testBit p.val = true ∧ T.val.testBit p.val = false ∧ ∀ q : Fin 6, q.val < p.val → (2 ^ p.val + T.val).testBit q.val = T.val.testBit q.val := by decide +kernel
def psN (d : Nat → Int32) (S : Nat) : Nat → Int32
  | 0 => 0
  | q + 1 => psN d S q + xN S q * bsN d q 6
theorem psN_all (d : Nat → Int32) (S : Nat) : psN d S 6 = balN d S := by
  unfold balN
  rw [bal_same]
  simp only [psN]
  grind
theorem psN_same (d : Nat → Int32) (S T : Nat) : ∀ n : Nat, (∀ q, q < n → S.testBit q = T.testBit q) → psN d S n = psN d T n
  | 0, _ => rfl
  | n + 1, h => by
    show psN d S n + xN S n * bsN d n 6 = psN d T n + xN T n * bsN d n 6
    rw [psN_same d S T n (fun q hq => h q (by omega))]
    unfold xN
    rw [h n (by omega)]
theorem psN_low (d : Nat → Int32) {p T : Nat} (hp : p < 6) (hT : T < 2 ^ p) : psN d T (p + 1) = psN d T p := by
  show psN d T p + xN T p * bsN d p 6 = _
  unfold xN
  rw [(addBits ⟨p, hp⟩ ⟨T, hT⟩).2.1, if_neg Bool.false_ne_true, Int32.zero_mul, Int32.add_zero]
theorem psN_high (d : Nat → Int32) {p T : Nat} (hp : p < 6) (hT : T < 2 ^ p) : psN d (2 ^ p + T) (p + 1) = psN d T p + bsN d p 6 := by
  show psN d (2 ^ p + T) p + xN (2 ^ p + T) p * bsN d p 6 = _
  obtain ⟨h1, -, h3⟩ := addBits ⟨p, hp⟩ ⟨T, hT⟩
  dsimp only at h1 h3
  rw [psN_same d (2 ^ p + T) T p (fun q hq => h3 ⟨q, by omega⟩ hq)]
  unfold xN
  rw [h1, if_pos rfl, Int32.one_mul]
theorem pow6 : ∀ p : Fin 7, 2 ^ p.val ≤ 64 := by decide
theorem balRow (d : Nat → Int32) (b0 : Nat → Int32) (h0 : b0 0 = 0) : ∃ b, iter (fX3_most_L2 d) FU (0, b0) = some b ∧ ∀ S, S < 64 → b S = balN d S := by
  obtain ⟨e, h1, h2⟩ := one_for (st := fX3_most_L2 d) (fun p z => z.1 = nI p ∧ ∀ S, S < 2 ^ p → z.2 S = psN d S p) (fun e => ∀ S, S < 64 → e S = balN d S) 6 (by omega)
    (fun p z hp hI => by
      obtain ⟨x, b⟩ := z
      obtain ⟨w1, w2⟩ := hI
      dsimp only at w1 w2
      subst w1
      have hpw : 2 ^ (p + 1) = 2 ^ p + 2 ^ p := by rw [Nat.pow_succ]; omega
      have hp64 : 2 ^ (p + 1) ≤ 64 := pow6 ⟨p + 1, by omega⟩
      have hsh : (1 <<< (nI p &&& 31) : Int32) = nI (2 ^ p) := pow2N ⟨p, by omega⟩
      unfold fX3_most_L2
      dsimp only
      rw [if_neg (show ¬ (6 : Int32) ≤ nI p by rw [show (6 : Int32) = nI 6 from rfl, leN (by omega) (by omega)]; omega), balX d hp, bd_s]
      obtain ⟨b', a1, a2⟩ := one_for (st := fX3_most_L22 (nI p, b) (bsN d p 6)) (fun T z => z.1 = nI T ∧ (∀ S, S < 2 ^ p → z.2 S = b S) ∧ ∀ S, S < T → z.2 (2 ^ p + S) = b S + bsN d p 6) (fun e => (∀ S, S < 2 ^ p → e S = b S) ∧ ∀ S, S < 2 ^ p → e (2 ^ p + S) = b S + bsN d p 6) (2 ^ p) (by omega)
        (fun T z hT hI => by
          obtain ⟨x, b'⟩ := z
          obtain ⟨v1, v2, v3⟩ := hI
          dsimp only at v1 v2 v3
          subst v1
          unfold fX3_most_L22
          dsimp only
          rw [hsh, if_neg (show ¬ nI (2 ^ p) ≤ nI T by rw [leN (by omega) (by omega)]; omega), show nI (2 ^ p) + nI T = nI (2 ^ p + T) from nI_add _ _, gd_t (inbN (show T < 64 by omega) (by omega)), gd_t (inbN (show 2 ^ p + T < 64 by omega) (by omega)), clN (show 2 ^ p + T < 2 ^ 31 by omega), clN (show T < 2 ^ 31 by omega), nI1, v2 T hT]
          refine ⟨_, rfl, rfl, fun S hS => ?_, fun S hS => ?_⟩
          · show upd b' (2 ^ p + T) _ S = _
            rw [upd_eq, if_neg (by omega), v2 S hS]
          · show upd b' (2 ^ p + T) _ (2 ^ p + S) = _
            rw [upd_eq]
            by_cases e : S = T
            · subst e; rw [if_pos rfl]
            · rw [if_neg (by omega), v3 S (by omega)])
        (fun z hI => by
          obtain ⟨x, b'⟩ := z
          obtain ⟨v1, v2, v3⟩ := hI
          dsimp only at v1 v2 v3
          subst v1
          unfold fX3_most_L22
          dsimp only
          rw [hsh, if_pos (show nI (2 ^ p) ≤ nI (2 ^ p) by rw [leN (by omega) (by omega)]; omega)]
          exact ⟨_, rfl, v2, v3⟩) (0, b) ⟨rfl, fun _ _ => rfl, fun S hS => by omega⟩
      rw [a1, bd_s]
      unfold fX3_most_X22_54
      refine ⟨_, rfl, nI1 p, fun S hS => ?_⟩
      show b' S = _
      by_cases c : S < 2 ^ p
      · rw [a2.1 S c, w2 S c, psN_low d hp c]
      · have hT : S - 2 ^ p < 2 ^ p := by omega
        have e : S = 2 ^ p + (S - 2 ^ p) := by omega
        rw [e, a2.2 _ hT, w2 _ hT, psN_high d hp hT])
    (fun z hI => by
      obtain ⟨x, b⟩ := z
      obtain ⟨w1, w2⟩ := hI
      dsimp only at w1 w2
      subst w1
      unfold fX3_most_L2
      dsimp only
      rw [if_pos (by decide)]
      exact ⟨_, rfl, fun S hS => by rw [w2 S hS, psN_all]⟩) (0, b0) ⟨rfl, fun S hS => by
        have : S = 0 := by simp at hS; exact hS
        subst this
        exact h0⟩
  exact ⟨e, h1, h2⟩
/-- what the class's row holds for the sets below B -/
def eOK (d : Nat → Int32) (g e : Nat → Int32) (B : Nat) : Prop := e 0 = 0 ∧ ∀ S, S < B → ∃ c, c ≤ S ∧ e S = nI c ∧ (∃ T, S &&& T = T ∧ balN d T = 0 ∧ g T = nI c) ∧ ∀ T, S &&& T = T → balN d T = 0 → ∃ c', c' ≤ c ∧ g T = nI c'
theorem takeSub : ∀ S : Fin 64, ∀ p : Fin 6, S.val.testBit p.val = true → S.val &&& (S.val ^^^ 2 ^ p.val) = S.val ^^^ 2 ^ p.val := by decide +kernel
theorem restSub : ∀ S T : Fin 64, S.val &&& T.val = T.val → S.val &&& (S.val ^^^ T.val) = S.val ^^^ T.val ∧ S.val ^^^ (S.val ^^^ T.val) = T.val ∧ S.val ^^^ T.val < 64 ∧ (S.val ^^^ T.val = 0 → S = T) ∧ (S.val ^^^ T.val = S.val → T.val = 0) := by decide +kernel
theorem subTrans {S T U : Nat} (h1 : S &&& T = T) (h2 : T &&& U = U) : S &&& U = U := by
  rw [← h2, ← Nat.and_assoc, h1]
