/-! the months to come: how many of ten to the months chances each number of leaflets has, as Nat -/
theorem updL_eq (f : Nat → Int64) (k : Nat) (x : Int64) (j : Nat) : vp_updL f k x j = if j = k then x else f j := rfl
def dsN (w : Nat → Nat) (t u : Nat) (a : Nat → Nat) (v : Nat) : Nat → Nat
  | 0 => 0
  | n + 1 => dsN w t u a v n + ((if w n = v then a n * t else 0) + (if n = v then a n * u else 0))
def pdN (w : Nat → Nat) (t u v0 : Nat) : Nat → Nat → Nat
  | 0 => fun v => if v = v0 then 1 else 0
  | k + 1 => fun v => dsN w t u (pdN w t u v0 k) v 10
def wuN (h p : Nat → Nat) : Nat → Nat
  | 0 => 0
  | n + 1 => wuN h p n + p n * h n
def sum10 (f : Nat → Nat) : Nat := f 0 + f 1 + f 2 + f 3 + f 4 + f 5 + f 6 + f 7 + f 8 + f 9
theorem sum10_add (f g : Nat → Nat) : sum10 (fun v => f v + g v) = sum10 f + sum10 g := by
  unfold sum10
  dsimp only
  omega
theorem sum10_one {i : Nat} (hi : i < 10) (x : Nat) : sum10 (fun v => if i = v then x else 0) = x := by
  have : i = 0 ∨ i = 1 ∨ i = 2 ∨ i = 3 ∨ i = 4 ∨ i = 5 ∨ i = 6 ∨ i = 7 ∨ i = 8 ∨ i = 9 := by omega
  unfold sum10
  rcases this with h | h | h | h | h | h | h | h | h | h <;> subst h <;> simp
theorem ds_zero (w : Nat → Nat) (t u : Nat) (a : Nat → Nat) (v : Nat) : ∀ n : Nat, (∀ j, j < n → w j ≠ v ∧ j ≠ v) → dsN w t u a v n = 0
  | 0, _ => rfl
  | n + 1, h => by
    show dsN w t u a v n + _ = 0
    obtain ⟨h1, h2⟩ := h n (by omega)
    rw [ds_zero w t u a v n (fun j hj => h j (by omega)), if_neg h1, if_neg h2]
theorem ds_sum (w : Nat → Nat) (t u : Nat) (a : Nat → Nat) : ∀ n : Nat, n ≤ 10 → (∀ j, j < n → w j < 10) → sum10 (fun v => dsN w t u a v n) = (List.range n).foldl (fun s j => s + a j * (t + u)) 0
  | 0, _, _ => rfl
  | n + 1, hn, h => by
    have e : (fun v => dsN w t u a v (n + 1)) = fun v => dsN w t u a v n + ((if w n = v then a n * t else 0) + (if n = v then a n * u else 0)) := rfl
    rw [e, sum10_add, sum10_add, ds_sum w t u a n (by omega) (fun j hj => h j (by omega)), sum10_one (h n (by omega)), sum10_one (by omega), List.range_succ, List.foldl_append, ← Nat.mul_add]
    rfl
theorem pd_sum {w : Nat → Nat} (hw : ∀ j, j < 10 → w j < 10) {t u v0 : Nat} (htu : t + u = 10) (hv : v0 < 10) : ∀ k : Nat, sum10 (pdN w t u v0 k) = 10 ^ k
  | 0 => by
    have e : pdN w t u v0 0 = fun v => if v0 = v then 1 else 0 := by
      funext v
      show (if v = v0 then 1 else 0) = _
      by_cases c : v = v0
      · rw [if_pos c, if_pos c.symm]
      · rw [if_neg c, if_neg (Ne.symm c)]
    rw [e, sum10_one hv, Nat.pow_zero]
  | k + 1 => by
    show sum10 (fun v => dsN w t u (pdN w t u v0 k) v 10) = _
    rw [ds_sum w t u _ 10 (by omega) hw, htu, Nat.pow_succ, ← pd_sum hw htu hv k]
    simp only [List.range, List.range.loop, List.foldl]
    unfold sum10
    omega
theorem wu_le {h p : Nat → Nat} (hh : ∀ v, v < 10 → h v ≤ 9) : wuN h p 10 ≤ 9 * sum10 p := by
  have key : ∀ v, v < 10 → p v * h v ≤ 9 * p v := fun v hv => by
    have := Nat.mul_le_mul_left (p v) (hh v hv)
    rw [Nat.mul_comm 9]
    exact this
  have k0 := key 0 (by omega)
  have k1 := key 1 (by omega)
  have k2 := key 2 (by omega)
  have k3 := key 3 (by omega)
  have k4 := key 4 (by omega)
  have k5 := key 5 (by omega)
  have k6 := key 6 (by omega)
  have k7 := key 7 (by omega)
  have k8 := key 8 (by omega)
  have k9 := key 9 (by omega)
  simp only [wuN]
  unfold sum10
  omega
theorem ds_bank (w : Nat → Nat) {t u : Nat} (htu : t + u = 10) (a : Nat → Nat) (v : Nat) : ∀ n : Nat, dsN w 0 10 a v n = dsN (fun j => j) t u a v n
  | 0 => rfl
  | n + 1 => by
    show dsN w 0 10 a v n + _ = dsN (fun j => j) t u a v n + _
    rw [ds_bank w htu a v n]
    by_cases c : n = v
    · rw [if_pos c, if_pos c, if_pos c, ← Nat.mul_add, htu]
      by_cases c2 : w n = v
      · rw [if_pos c2]; omega
      · rw [if_neg c2]; omega
    · rw [if_neg c, if_neg c, if_neg c]
      by_cases c2 : w n = v
      · rw [if_pos c2]; omega
      · rw [if_neg c2]
theorem pd_bank (w : Nat → Nat) {t u : Nat} (htu : t + u = 10) (v0 : Nat) : ∀ k : Nat, pdN w 0 10 v0 k = pdN (fun j => j) t u v0 k
  | 0 => rfl
  | k + 1 => by
    funext v
    show dsN w 0 10 (pdN w 0 10 v0 k) v 10 = dsN (fun j => j) t u (pdN (fun j => j) t u v0 k) v 10
    rw [pd_bank w htu v0 k]
    exact ds_bank w htu _ v 10
def mvN (c v : Nat) : Nat := (fX5_behindDamp (nI c) (nI v)).toNatClampNeg
def hvN (c v : Nat) : Nat := (fX5_behindHand (nI c) (nI v)).toNatClampNeg
theorem mv_eq {c v : Nat} (hc : c < 5) (hv : v < 10) : fX5_behindDamp (nI c) (nI v) = nI (mvN c v) ∧ mvN c v ≤ v := by
  obtain ⟨w, h1, h2, h3⟩ := mould_lt hc hv
  unfold mvN
  rw [h3, clN (by omega)]
  exact ⟨rfl, h2⟩
theorem hv_eq {c v : Nat} (hc : c < 5) (hv : v < 10) : fX5_behindHand (nI c) (nI v) = nI (hvN c v) ∧ hvN c v ≤ 9 := by
  obtain ⟨w, h1, h2, h3⟩ := hand_lt hc hv
  unfold hvN
  rw [h3, clN (by omega)]
  exact ⟨rfl, by omega⟩
/-- a row of longs and one of Nat -/
def RLn (b : Nat → Int64) (a : Nat → Nat) : Prop := ∀ v, v < 10 → b v = lN (a v)
theorem p10N (k : Nat) : lN (10 ^ k) * 10 = lN (10 ^ (k + 1)) := by
  rw [Nat.pow_succ]
  exact lN_mul (10 ^ k) 10
theorem tenN {t : Nat} (ht : t ≤ 10) : (10 - nI t : Int32).toInt64 = lN (10 - t) := by
  rw [show (10 : Int32) = nI 10 from rfl, subN ht, nI_l (by omega)]
theorem passX {c t : Nat} (hc : c < 5) (ht : t ≤ 10) (al : Int64) {b : Nat → Int64} {a : Nat → Nat} (hb : RLn b a) : ∃ b', fX0_passMonth al (nI c) (nI t) b = some (al * 10, b') ∧ RLn b' (fun v => dsN (mvN c) t (10 - t) a v 10) := by
  unfold fX0_passMonth
  obtain ⟨e, h1, h2⟩ := one_for (st := fX0_passMonth_L14 (nI c) (nI t)) (fun m z => z.1 = nI m ∧ (∀ j, j < m → z.2 j = lN (dsN (mvN c) t (10 - t) a j m)) ∧ ∀ j, m ≤ j → j < 10 → z.2 j = lN (a j)) (fun e => RLn e (fun v => dsN (mvN c) t (10 - t) a v 10)) 10 (by omega)
    (fun m z hm hI => by
      obtain ⟨x, b⟩ := z
      obtain ⟨w1, w2, w3⟩ := hI
      dsimp only at w1 w2 w3
      subst w1
      obtain ⟨m1, m2⟩ := mv_eq hc hm
      unfold fX0_passMonth_L14
      dsimp only
      rw [if_neg (show ¬ (9 : Int32) < nI m by rw [show (9 : Int32) = nI 9 from rfl, ltN (by omega) (by omega)]; omega), m1, gd_t (inbN (show m < 10 by omega) (by omega)), gd_t (inbN (show mvN c m < 10 by omega) (by omega)), clN (show m < 2 ^ 31 by omega), clN (show mvN c m < 2 ^ 31 by omega), nI1, tenN ht, nI_l (show t < 2 ^ 31 by omega), w3 m (Nat.le_refl m) hm, lN_mul, lN_mul]
      refine ⟨_, rfl, rfl, fun j hj => ?_, fun j hj hj2 => ?_⟩
      · show (if j = mvN c m then (if mvN c m = m then lN (a m * (10 - t)) else b (mvN c m)) + lN (a m * t) else (if j = m then lN (a m * (10 - t)) else b j)) = lN (dsN (mvN c) t (10 - t) a j m + ((if mvN c m = j then a m * t else 0) + (if m = j then a m * (10 - t) else 0)))
        by_cases e1 : j = m
        · subst e1
          rw [ds_zero (mvN c) t (10 - t) a j j (fun i hi => by
            obtain ⟨i1, i2⟩ := mv_eq hc (show i < 10 by omega)
            exact ⟨by omega, by omega⟩)]
          by_cases e2 : mvN c j = j
          · rw [if_pos e2.symm, if_pos e2, if_pos e2, if_pos rfl, lN_add, Nat.zero_add, Nat.add_comm]
          · rw [if_neg (fun w => e2 w.symm), if_pos rfl, if_neg e2, if_pos rfl, Nat.zero_add, Nat.zero_add]
        · by_cases e2 : mvN c m = j
          · rw [if_pos e2.symm, if_neg (fun w => e1 (e2.symm.trans w)), if_pos e2, if_neg (fun w => e1 w.symm), e2, w2 j (by omega), lN_add, Nat.add_zero]
          · rw [if_neg (fun w => e2 w.symm), if_neg e1, if_neg e2, if_neg (fun w => e1 w.symm), w2 j (by omega)]
            rfl
      · show (if j = mvN c m then (if mvN c m = m then lN (a m * (10 - t)) else b (mvN c m)) + lN (a m * t) else (if j = m then lN (a m * (10 - t)) else b j)) = lN (a j)
        rw [if_neg (by omega), if_neg (by omega), w3 j (by omega) hj2])
    (fun z hI => by
      obtain ⟨x, b⟩ := z
      obtain ⟨w1, w2, w3⟩ := hI
      dsimp only at w1 w2 w3
      subst w1
      unfold fX0_passMonth_L14
      dsimp only
      rw [if_pos (by decide)]
      exact ⟨_, rfl, w2⟩) (0, b) ⟨rfl, fun j hj => by omega, fun j _ hj => hb j hj⟩
  rw [h1, bd_s]
  exact ⟨e, rfl, h2⟩
theorem worthAllX {c : Nat} (hc : c < 5) (al : Int64) (t : Int32) {b : Nat → Int64} {a : Nat → Nat} (hb : RLn b a) : fX0_worthOfAll al (nI c) t b = some (lN (wuN (hvN c) a 10)) := by
  unfold fX0_worthOfAll
  obtain ⟨e, h1, h2⟩ := one_for (st := fX0_worthOfAll_L4 (nI c) b) (fun m z => z = (lN (wuN (hvN c) a m), nI m)) (fun e => e = lN (wuN (hvN c) a 10)) 10 (by omega)
    (fun m z hm hI => by
      subst hI
      obtain ⟨m1, m2⟩ := hv_eq hc hm
      unfold fX0_worthOfAll_L4
      dsimp only
      rw [if_neg (show ¬ (9 : Int32) < nI m by rw [show (9 : Int32) = nI 9 from rfl, ltN (by omega) (by omega)]; omega), m1, gd_t (inbN (show m < 10 by omega) (by omega)), clN (show m < 2 ^ 31 by omega), nI1, hb m hm, nI_l (by omega), lN_mul, lN_add]
      exact ⟨_, rfl, rfl⟩)
    (fun z hI => by
      subst hI
      unfold fX0_worthOfAll_L4
      dsimp only
      rw [if_pos (by decide)]
      exact ⟨_, rfl, rfl⟩) (0, 0) rfl
  rw [h1, h2]
  rfl
