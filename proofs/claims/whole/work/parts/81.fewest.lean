/-! fewest: balances -/
def bsN (d : Nat → Int32) (p : Nat) : Nat → Int32
  | 0 => 0
  | j + 1 => bsN d p j + (d (6 * p + j) - d (6 * j + p))
theorem balX (d : Nat → Int32) {p : Nat} (hp : p < 6) : fX1_balance d (nI p) = some (bsN d p 6) := by
  unfold fX1_balance
  obtain ⟨e, h1, h2⟩ := one_for (st := fX1_balance_L4 d (nI p)) (fun j z => z = (bsN d p j, nI j)) (fun e => e = bsN d p 6) 6 (by omega)
    (fun j z hj hI => by
      subst hI
      unfold fX1_balance_L4
      dsimp only
      rw [if_neg (show ¬ (6 : Int32) ≤ nI j by rw [show (6 : Int32) = nI 6 from rfl, leN (by omega) (by omega)]; omega), sumsN d hp hj, sumsN d hj hp, bd_s, bd_s, nI1]
      exact ⟨_, rfl, rfl⟩)
    (fun z hI => by
      subst hI
      unfold fX1_balance_L4
      dsimp only
      rw [if_pos (by decide)]
      exact ⟨_, rfl, rfl⟩) (0, 0) rfl
  rw [h1, h2]
  rfl
def xN (S p : Nat) : Int32 := if S.testBit p = true then 1 else 0
def msN (d : Nat → Int32) (S : Nat) : Nat → Int32
  | 0 => 0
  | i + 1 => msN d S i + xN S (i / 6) * d i - xN S (i % 6) * d i
theorem balM {d debts : Nat → Int32} (hD : RD d debts) {S : Nat} (hS : S < 64) (pm rm td n bh bm rn sn km kb kc : Int32) (hh : Int64) : fX11_balance pm rm td n bh bm rn sn km kb kc hh debts (nI S) = some (msN d S 36) := by
  unfold fX11_balance
  obtain ⟨e, h1, h2⟩ := one_for (st := fX11_balance_L4 debts (nI S)) (fun i z => z = (msN d S i, nI i)) (fun e => e = msN d S 36) 36 (by omega)
    (fun i z hi hI => by
      subst hI
      unfold fX11_balance_L4 fX11_balance_J33 fX11_balance_J58
      dsimp only
      rw [if_neg (show ¬ (36 : Int32) ≤ nI i by rw [show (36 : Int32) = nI 36 from rfl, leN (by omega) (by omega)]; omega), rem6N (by omega), div6N (by omega), bitN ⟨S, by omega⟩ ⟨i / 6, by omega⟩, bitN ⟨S, by omega⟩ ⟨i % 6, by omega⟩, gd_t (inbN (show i < 36 by omega) (by omega)), gd_t (inbN (show i < 36 by omega) (by omega)), clN (show i < 2 ^ 31 by omega), (hD i hi).1, nI1]
      have hM : msN d S (i + 1) = msN d S i + xN S (i / 6) * d i - xN S (i % 6) * d i := rfl
      rw [hM]
      unfold xN
      dsimp only
      by_cases c1 : S.testBit (i / 6) = true
      · rw [if_pos c1, if_pos rfl]
        by_cases c2 : S.testBit (i % 6) = true
        · rw [if_pos c2, if_pos rfl, Int32.one_mul]; exact ⟨_, rfl, rfl⟩
        · rw [if_neg c2, if_neg (show ¬ (0 : Int32) = 1 by decide), Int32.one_mul, Int32.zero_mul]; exact ⟨_, rfl, rfl⟩
      · rw [if_neg c1, if_neg (show ¬ (0 : Int32) = 1 by decide)]
        by_cases c2 : S.testBit (i % 6) = true
        · rw [if_pos c2, if_pos rfl, Int32.one_mul, Int32.zero_mul, gd_t (inbN (show i < 36 by omega) (by omega))]; exact ⟨_, rfl, rfl⟩
        · rw [if_neg c2, if_neg (show ¬ (0 : Int32) = 1 by decide), Int32.zero_mul]; exact ⟨_, rfl, rfl⟩)
    (fun z hI => by
      subst hI
      unfold fX11_balance_L4
      dsimp only
      rw [if_pos (by decide)]
      exact ⟨_, rfl, rfl⟩) (0, 0) rfl
  rw [h1, h2]
  rfl
theorem bal_same (d : Nat → Int32) (S : Nat) : msN d S 36 = xN S 0 * bsN d 0 6 + xN S 1 * bsN d 1 6 + xN S 2 * bsN d 2 6 + xN S 3 * bsN d 3 6 + xN S 4 * bsN d 4 6 + xN S 5 * bsN d 5 6 := by
  simp only [msN, bsN, Nat.reduceDiv, Nat.reduceMod, Nat.reduceMul, Nat.reduceAdd]
  generalize xN S 0 = x0
  generalize xN S 1 = x1
  generalize xN S 2 = x2
  generalize xN S 3 = x3
  generalize xN S 4 = x4
  generalize xN S 5 = x5
  grind
