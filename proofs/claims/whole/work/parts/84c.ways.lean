/-! rows of people, as Nat: counted one by one, and step by step -/
theorem sumN_plus (f g : Nat → Nat) : ∀ n : Nat, sumN (fun s => f s + g s) n = sumN f n + sumN g n
  | 0 => rfl
  | n + 1 => by
    show sumN (fun s => f s + g s) n + (f n + g n) = (sumN f n + f n) + (sumN g n + g n)
    rw [sumN_plus f g n]
    omega
theorem sumN_one (x : Nat) (b : Nat) : ∀ n : Nat, sumN (fun q => if b = q then x else 0) n = if b < n then x else 0
  | 0 => by rw [if_neg (by omega)]; rfl
  | n + 1 => by
    show sumN (fun q => if b = q then x else 0) n + (if b = n then x else 0) = _
    rw [sumN_one x b n]
    by_cases h1 : b < n
    · rw [if_pos h1, if_neg (by omega), if_pos (by omega), Nat.add_zero]
    · by_cases h2 : b = n
      · rw [if_neg h1, if_pos h2, if_pos (by omega), Nat.zero_add]
      · rw [if_neg h1, if_neg h2, if_neg (by omega)]
theorem sumN_one' (x : Nat → Nat) {b n : Nat} (hb : b < n) : sumN (fun q => if q = b then x q else 0) n = x b := by
  have : sumN (fun q => if q = b then x q else 0) n = sumN (fun q => if b = q then x b else 0) n := sumN_congr n (fun s _ => by
    by_cases h : s = b
    · rw [if_pos h, if_pos h.symm, h]
    · rw [if_neg h, if_neg (fun w => h w.symm)])
  rw [this, sumN_one, if_pos hb]
theorem sumN_swap (B G : Nat → Nat) {m : Nat} : ∀ n : Nat, (∀ s, s < n → B s < m) → sumN (fun q => sumN (fun s => if B s = q then G s else 0) n) m = sumN G n
  | 0, _ => sumN_zero m (fun _ _ => rfl)
  | n + 1, h => by
    show sumN (fun q => sumN (fun s => if B s = q then G s else 0) n + (if B n = q then G n else 0)) m = sumN G n + G n
    rw [sumN_plus, sumN_swap B G n (fun s hs => h s (by omega)), sumN_one, if_pos (h n (by omega))]
theorem sumN_split (B G : Nat → Nat) (p : Nat) : ∀ n : Nat, sumN (fun s => if B s = p then 0 else G s) n + sumN (fun s => if B s = p then G s else 0) n = sumN G n
  | 0 => rfl
  | n + 1 => by
    show (sumN (fun s => if B s = p then 0 else G s) n + (if B n = p then 0 else G n)) + (sumN (fun s => if B s = p then G s else 0) n + (if B n = p then G n else 0)) = sumN G n + G n
    rw [← sumN_split B G p n]
    by_cases h : B n = p
    · rw [if_pos h, if_pos h]; omega
    · rw [if_neg h, if_neg h]; omega
theorem sumN_mul (f : Nat → Nat) (n : Nat) : ∀ m : Nat, sumN f (n * m) = sumN (fun d => sumN (fun s => f (n * d + s)) n) m
  | 0 => rfl
  | m + 1 => by
    show sumN f (n * m + n) = sumN (fun d => sumN (fun s => f (n * d + s)) n) m + sumN (fun s => f (n * m + s)) n
    rw [sumN_add, sumN_mul f n m]
/-- the people of a code, one behind the other -/
def atN (fm code : Nat) : Nat → Nat
  | 0 => fm
  | k + 1 => code / 6 ^ k % 6
theorem at_lt {fm : Nat} (hfm : fm < 6) (code : Nat) : ∀ k, atN fm code k < 6
  | 0 => hfm
  | k + 1 => Nat.mod_lt _ (by omega)
theorem at_top (fm : Nat) {k d s : Nat} (hd : d < 6) (hs : s < 6 ^ k) : atN fm (6 ^ k * d + s) (k + 1) = d := by
  show (6 ^ k * d + s) / 6 ^ k % 6 = d
  rw [Nat.mul_add_div (by omega), Nat.div_eq_of_lt hs, Nat.add_zero, Nat.mod_eq_of_lt hd]
theorem at_low (fm : Nat) {k d s : Nat} : ∀ i, i ≤ k → atN fm (6 ^ k * d + s) i = atN fm s i
  | 0, _ => rfl
  | i + 1, h => by
    show (6 ^ k * d + s) / 6 ^ i % 6 = s / 6 ^ i % 6
    have e : 6 ^ k * d = 6 ^ i * (6 * (6 ^ (k - (i + 1)) * d)) := by
      rw [← Nat.mul_assoc (6 ^ i), ← Nat.mul_assoc, ← Nat.pow_succ, ← Nat.pow_add]
      congr 2
      omega
    rw [e, Nat.mul_add_div (Nat.pow_pos (by omega)), Nat.mul_add_mod]
def okT (t : Nat → Int32) (left q : Nat) : Prop := left ≤ 4 → t (left - 1) = nI q
noncomputable def ifC (p : Prop) (a b : Nat) : Nat := @ite Nat p (Classical.propDecidable p) a b
theorem ifC_pos {p : Prop} {a b : Nat} (h : p) : ifC p a b = a := if_pos h
theorem ifC_neg {p : Prop} {a b : Nat} (h : ¬ p) : ifC p a b = b := if_neg h
/-- nobody gives to himself, and the tears say so -/
def goodW (fm : Nat) (t : Nat → Int32) (h code : Nat) : Nat → Prop
  | 0 => True
  | k + 1 => goodW fm t h code k ∧ ¬ atN fm code k = atN fm code (k + 1) ∧ okT t (h - k) (atN fm code k)
theorem good_low (fm : Nat) (t : Nat → Int32) (h : Nat) {k d s : Nat} : ∀ i, i ≤ k → (goodW fm t h (6 ^ k * d + s) i ↔ goodW fm t h s i)
  | 0, _ => Iff.rfl
  | i + 1, hi => by
    unfold goodW
    rw [good_low fm t h i (by omega), at_low fm i (by omega), at_low fm (i + 1) hi]
noncomputable def cntN (fm : Nat) (t : Nat → Int32) (h k p : Nat) : Nat := sumN (fun s => ifC (goodW fm t h s k ∧ atN fm s k = p) 1 0) (6 ^ k)
noncomputable def kepN (t : Nat → Int32) (left : Nat) (R : Nat → Nat) : Nat → Nat := fun q => ifC (okT t left q) (R q) 0
noncomputable def stpN (t : Nat → Int32) (left : Nat) (R : Nat → Nat) : Nat → Nat := fun p => sumN (kepN t left R) 6 - kepN t left R p
noncomputable def wayN (fm : Nat) (t : Nat → Int32) (h : Nat) : Nat → Nat → Nat
  | 0 => fun p => if p = fm then 1 else 0
  | k + 1 => stpN t (h - k) (wayN fm t h k)
theorem cnt_way {fm : Nat} (hfm : fm < 6) (t : Nat → Int32) (h : Nat) : ∀ k p : Nat, p < 6 → cntN fm t h k p = wayN fm t h k p
  | 0, p, hp => by
    show 0 + ifC (True ∧ fm = p) 1 0 = if p = fm then 1 else 0
    by_cases c : p = fm
    · rw [ifC_pos ⟨trivial, c.symm⟩, if_pos c]
    · rw [ifC_neg (show ¬ (True ∧ fm = p) from fun w => c w.2.symm), if_neg c]
  | k + 1, p, hp => by
    have hG : ∀ q, q < 6 → kepN t (h - k) (wayN fm t h k) q = sumN (fun s => if atN fm s k = q then (ifC (goodW fm t h s k ∧ okT t (h - k) (atN fm s k)) 1 0) else 0) (6 ^ k) := by
      intro q hq
      unfold kepN
      by_cases c : okT t (h - k) q
      · rw [ifC_pos c, ← cnt_way hfm t h k q hq]
        refine sumN_congr _ (fun s _ => ?_)
        by_cases c1 : atN fm s k = q
        · rw [if_pos c1, c1]
          by_cases c2 : goodW fm t h s k
          · rw [ifC_pos (show goodW fm t h s k ∧ q = q from ⟨c2, rfl⟩), ifC_pos (show goodW fm t h s k ∧ okT t (h - k) q from ⟨c2, c⟩)]
          · rw [ifC_neg (show ¬ (goodW fm t h s k ∧ q = q) from fun w => c2 w.1), ifC_neg (show ¬ (goodW fm t h s k ∧ okT t (h - k) q) from fun w => c2 w.1)]
        · rw [if_neg c1, ifC_neg (show ¬ (goodW fm t h s k ∧ atN fm s k = q) from fun w => c1 w.2)]
      · rw [ifC_neg c]
        refine (sumN_zero _ (fun s _ => ?_)).symm
        by_cases c1 : atN fm s k = q
        · rw [if_pos c1, c1, ifC_neg (show ¬ (goodW fm t h s k ∧ okT t (h - k) q) from fun w => c w.2)]
        · rw [if_neg c1]
    have hS : sumN (kepN t (h - k) (wayN fm t h k)) 6 = sumN (fun s => ifC (goodW fm t h s k ∧ okT t (h - k) (atN fm s k)) 1 0) (6 ^ k) := by
      rw [sumN_congr 6 hG]
      exact sumN_swap (fun s => atN fm s k) _ _ (fun s _ => at_lt hfm s k)
    show cntN fm t h (k + 1) p = sumN (kepN t (h - k) (wayN fm t h k)) 6 - kepN t (h - k) (wayN fm t h k) p
    rw [hS, hG p hp, ← sumN_split (fun s => atN fm s k) (fun s => ifC (goodW fm t h s k ∧ okT t (h - k) (atN fm s k)) 1 0) p (6 ^ k), Nat.add_sub_cancel]
    unfold cntN
    rw [Nat.pow_succ, sumN_mul]
    have : sumN (fun d => sumN (fun s => ifC (goodW fm t h (6 ^ k * d + s) (k + 1) ∧ atN fm (6 ^ k * d + s) (k + 1) = p) 1 0) (6 ^ k)) 6 = sumN (fun d => if d = p then sumN (fun s => if atN fm s k = d then 0 else (ifC (goodW fm t h s k ∧ okT t (h - k) (atN fm s k)) 1 0)) (6 ^ k) else 0) 6 := by
      refine sumN_congr 6 (fun d hd => ?_)
      by_cases c : d = p
      · rw [if_pos c]
        refine sumN_congr _ (fun s hs => ?_)
        have e1 : (goodW fm t h (6 ^ k * d + s) (k + 1) ∧ atN fm (6 ^ k * d + s) (k + 1) = p) ↔ (¬ atN fm s k = d ∧ goodW fm t h s k ∧ okT t (h - k) (atN fm s k)) := by
          have e0 : goodW fm t h (6 ^ k * d + s) (k + 1) = (goodW fm t h (6 ^ k * d + s) k ∧ ¬ atN fm (6 ^ k * d + s) k = atN fm (6 ^ k * d + s) (k + 1) ∧ okT t (h - k) (atN fm (6 ^ k * d + s) k)) := rfl
          rw [e0, at_top fm hd hs, good_low fm t h k (by omega), at_low fm k (by omega)]
          exact ⟨fun w => ⟨w.1.2.1, w.1.1, w.1.2.2⟩, fun w => ⟨⟨w.2.1, w.1, w.2.2⟩, c⟩⟩
        by_cases c1 : atN fm s k = d
        · rw [if_pos c1, ifC_neg (fun w => (e1.mp w).1 c1)]
        · rw [if_neg c1]
          by_cases c2 : goodW fm t h s k ∧ okT t (h - k) (atN fm s k)
          · rw [ifC_pos c2, ifC_pos (e1.mpr ⟨c1, c2⟩)]
          · rw [ifC_neg c2, ifC_neg (fun w => c2 (e1.mp w).2)]
      · rw [if_neg c]
        refine sumN_zero _ (fun s hs => ?_)
        rw [ifC_neg (fun w => c (by rw [← w.2, at_top fm hd hs]))]
    rw [this]
    exact sumN_one' (fun d => sumN (fun s => if atN fm s k = d then 0 else (ifC (goodW fm t h s k ∧ okT t (h - k) (atN fm s k)) 1 0)) (6 ^ k)) hp
