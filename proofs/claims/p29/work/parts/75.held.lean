/-! the greatest common divisor, on both sides -/
theorem lN_z {a : Nat} (h : a < 2 ^ 62) : (lN a = 0) = (a = 0) := by
  apply propext
  constructor
  · intro e
    have h1 : (lN a).toInt = (a : Int) := Int64.toInt_ofNat_of_lt (show a < 2 ^ 63 by omega)
    rw [e] at h1
    have h2 : (0 : Int64).toInt = 0 := by decide
    omega
  · intro e
    subst e
    rfl
theorem nzlN {a : Nat} (h0 : 0 < a) (h : a < 2 ^ 62) : nzl (lN a) = true := by
  unfold nzl
  refine decide_eq_true ?_
  rw [lN_z h]
  omega
theorem lgzN {a : Nat} (h : a < 2 ^ 62) : (lg_cmp (lN a) 0 = 0) = (a = 0) := by
  rw [← lN_z h]
  exact propext lgc_zero
theorem remHalf {S B n : Nat} (h : S ≤ B) (h0 : 0 < S) (hp : S * B < 2 ^ (n + 1)) : B % S * S < 2 ^ n := by
  have h1 := Nat.mod_lt B h0
  have h2 : 2 * (B % S) ≤ B := by
    have h3 := Nat.div_add_mod B S
    have h4 : 0 < B / S := Nat.div_pos h h0
    have h5 : S * 1 ≤ S * (B / S) := Nat.mul_le_mul_left S h4
    omega
  have h6 : S * (2 * (B % S)) ≤ S * B := Nat.mul_le_mul_left S h2
  have h7 : S * (2 * (B % S)) = 2 * (B % S * S) := by rw [Nat.mul_left_comm, Nat.mul_comm S]
  rw [Nat.pow_succ] at hp
  omega
theorem gcdX : ∀ (n S B i k : Nat), S ≤ B → S * B < 2 ^ n → B < 2 ^ 62 → i + n < 100 → n < k → iter fX0_commonDivisor_L9 k (lN B, lN S, nI i) = some (lN (Nat.gcd B S))
  | n, S, B, i, 0, _, _, _, _, hk => absurd hk (Nat.not_lt_zero _)
  | n, S, B, i, k + 1, h, hp, hB, hi, hk => by
    have h100 : ¬ (100 : Int32) ≤ nI i := by
      rw [show (100 : Int32) = nI 100 from rfl, leN (by omega) (by omega)]
      omega
    by_cases c : S = 0
    · subst c
      have h0 : fX0_commonDivisor_L9 (lN B, lN 0, nI i) = some (Sum.inr (lN B)) := by
        unfold fX0_commonDivisor_L9
        dsimp only
        rw [if_neg h100, if_pos (by rw [lgzN (by omega)])]
      rw [iter_succ, h0, bd_s, Nat.gcd_zero_right]
      rfl
    · have h0 : fX0_commonDivisor_L9 (lN B, lN S, nI i) = some (Sum.inl (lN S, lN (B % S), nI (i + 1))) := by
        unfold fX0_commonDivisor_L9
        dsimp only
        rw [if_neg h100, if_neg (by rw [lgzN (by omega)]; exact c), gd_t (nzlN (by omega) (by omega)), pk_lRem (by omega) (by omega) (by omega), nI1]
      rw [iter_succ, h0, bd_s]
      have h1 := Nat.mod_lt B (show 0 < S by omega)
      cases n with
      | zero =>
        have : 1 * 1 ≤ S * B := Nat.mul_le_mul (by omega) (by omega)
        simp at hp
        omega
      | succ n =>
        show iter _ k (lN S, lN (B % S), nI (i + 1)) = _
        rw [gcdX n (B % S) S (i + 1) k (by omega) (remHalf h (by omega) hp) (by omega) (by omega) (by omega), Nat.gcd_comm S, ← Nat.gcd_rec, Nat.gcd_comm]
theorem divX {a b : Nat} (hb0 : 0 < b) (ha : a < 2 ^ 34) (hb : b < 2 ^ 30) : fX0_commonDivisor (lN a) (lN b) = some (lN (Nat.gcd a b)) := by
  unfold fX0_commonDivisor
  have h1 := Nat.mod_lt a hb0
  have hp : a % b * b < 2 ^ 60 := by
    have : a % b * b < 2 ^ 30 * 2 ^ 30 := Nat.mul_lt_mul'' (by omega) hb
    omega
  rw [show FU = 99999 + 1 from rfl, iter_succ]
  have h0 : fX0_commonDivisor_L9 (lN a, lN b, 0) = some (Sum.inl (lN b, lN (a % b), nI 1)) := by
    unfold fX0_commonDivisor_L9
    dsimp only
    rw [if_neg (by decide), if_neg (by rw [lgzN (by omega)]; omega), gd_t (nzlN hb0 (by omega)), pk_lRem (by omega) hb0 (by omega)]
    rfl
  rw [h0, bd_s]
  show (iter _ 99999 (lN b, lN (a % b), nI 1)).bind _ = _
  rw [gcdX 60 (a % b) b 1 99999 (by omega) hp (by omega) (by omega) (by omega), bd_s, Nat.gcd_comm b, ← Nat.gcd_rec, Nat.gcd_comm]
  rfl
/-! the months to come: how many of ten to the months chances each number of leaflets has, as Nat -/
theorem updL_eq (f : Nat → Int64) (k : Nat) (x : Int64) (j : Nat) : vp_updL f k x j = if j = k then x else f j := rfl
def dsN (w : Nat → Nat) (t u : Nat) (a : Nat → Nat) (v : Nat) : Nat → Nat
  | 0 => 0
  | n + 1 => dsN w t u a v n + ((if w n = v then a n * t else 0) + (if n = v then a n * u else 0))
def pdN (w : Nat → Nat) (t u v0 : Nat) : Nat → Nat → Nat
  | 0 => fun v => if v = v0 then 1 else 0
  | k + 1 => fun v => dsN w t u (pdN w t u v0 k) v 10
def wuN (h p : Nat → Nat) : Nat → Nat
  | 0 => 0
  | n + 1 => wuN h p n + p n * h n
def sum10 (f : Nat → Nat) : Nat := f 0 + f 1 + f 2 + f 3 + f 4 + f 5 + f 6 + f 7 + f 8 + f 9
theorem sum10_add (f g : Nat → Nat) : sum10 (fun v => f v + g v) = sum10 f + sum10 g := by
  unfold sum10
  dsimp only
  omega
theorem sum10_one {i : Nat} (hi : i < 10) (x : Nat) : sum10 (fun v => if i = v then x else 0) = x := by
  have : i = 0 ∨ i = 1 ∨ i = 2 ∨ i = 3 ∨ i = 4 ∨ i = 5 ∨ i = 6 ∨ i = 7 ∨ i = 8 ∨ i = 9 := by omega
  unfold sum10
  rcases this with h | h | h | h | h | h | h | h | h | h <;> subst h <;> simp
theorem ds_zero (w : Nat → Nat) (t u : Nat) (a : Nat → Nat) (v : Nat) : ∀ n : Nat, (∀ j, j < n → w j ≠ v ∧ j ≠ v) → dsN w t u a v n = 0
  | 0, _ => rfl
  | n + 1, h => by
    show dsN w t u a v n + _ = 0
    obtain ⟨h1, h2⟩ := h n (by omega)
    rw [ds_zero w t u a v n (fun j hj => h j (by omega)), if_neg h1, if_neg h2]
theorem ds_sum (w : Nat → Nat) (t u : Nat) (a : Nat → Nat) : ∀ n : Nat, n ≤ 10 → (∀ j, j < n → w j < 10) → sum10 (fun v => dsN w t u a v n) = (List.range n).foldl (fun s j => s + a j * (t + u)) 0
  | 0, _, _ => rfl
  | n + 1, hn, h => by
    have e : (fun v => dsN w t u a v (n + 1)) = fun v => dsN w t u a v n + ((if w n = v then a n * t else 0) + (if n = v then a n * u else 0)) := rfl
    rw [e, sum10_add, sum10_add, ds_sum w t u a n (by omega) (fun j hj => h j (by omega)), sum10_one (h n (by omega)), sum10_one (by omega), List.range_succ, List.foldl_append, ← Nat.mul_add]
    rfl
theorem pd_sum {w : Nat → Nat} (hw : ∀ j, j < 10 → w j < 10) {t u v0 : Nat} (htu : t + u = 10) (hv : v0 < 10) : ∀ k : Nat, sum10 (pdN w t u v0 k) = 10 ^ k
  | 0 => by
    have e : pdN w t u v0 0 = fun v => if v0 = v then 1 else 0 := by
      funext v
      show (if v = v0 then 1 else 0) = _
      by_cases c : v = v0
      · rw [if_pos c, if_pos c.symm]
      · rw [if_neg c, if_neg (Ne.symm c)]
    rw [e, sum10_one hv, Nat.pow_zero]
  | k + 1 => by
    show sum10 (fun v => dsN w t u (pdN w t u v0 k) v 10) = _
    rw [ds_sum w t u _ 10 (by omega) hw, htu, Nat.pow_succ, ← pd_sum hw htu hv k]
    simp only [List.range, List.range.loop, List.foldl]
    unfold sum10
    omega
theorem wu_le {h p : Nat → Nat} (hh : ∀ v, v < 10 → h v ≤ 9) : wuN h p 10 ≤ 9 * sum10 p := by
  have key : ∀ v, v < 10 → p v * h v ≤ 9 * p v := fun v hv => by
    have := Nat.mul_le_mul_left (p v) (hh v hv)
    rw [Nat.mul_comm 9]
    exact this
  have k0 := key 0 (by omega)
  have k1 := key 1 (by omega)
  have k2 := key 2 (by omega)
  have k3 := key 3 (by omega)
  have k4 := key 4 (by omega)
  have k5 := key 5 (by omega)
  have k6 := key 6 (by omega)
  have k7 := key 7 (by omega)
  have k8 := key 8 (by omega)
  have k9 := key 9 (by omega)
  simp only [wuN]
  unfold sum10
  omega
theorem ds_bank (w : Nat → Nat) {t u : Nat} (htu : t + u = 10) (a : Nat → Nat) (v : Nat) : ∀ n : Nat, dsN w 0 10 a v n = dsN (fun j => j) t u a v n
  | 0 => rfl
  | n + 1 => by
    show dsN w 0 10 a v n + _ = dsN (fun j => j) t u a v n + _
    rw [ds_bank w htu a v n]
    by_cases c : n = v
    · rw [if_pos c, if_pos c, if_pos c, ← Nat.mul_add, htu]
      by_cases c2 : w n = v
      · rw [if_pos c2]; omega
      · rw [if_neg c2]; omega
    · rw [if_neg c, if_neg c, if_neg c]
      by_cases c2 : w n = v
      · rw [if_pos c2]; omega
      · rw [if_neg c2]
theorem pd_bank (w : Nat → Nat) {t u : Nat} (htu : t + u = 10) (v0 : Nat) : ∀ k : Nat, pdN w 0 10 v0 k = pdN (fun j => j) t u v0 k
  | 0 => rfl
  | k + 1 => by
    funext v
    show dsN w 0 10 (pdN w 0 10 v0 k) v 10 = dsN (fun j => j) t u (pdN (fun j => j) t u v0 k) v 10
    rw [pd_bank w htu v0 k]
    exact ds_bank w htu _ v 10
def mvN (c v : Nat) : Nat := (fX5_behindDamp (nI c) (nI v)).toNatClampNeg
def hvN (c v : Nat) : Nat := (fX5_behindHand (nI c) (nI v)).toNatClampNeg
theorem mv_eq {c v : Nat} (hc : c < 5) (hv : v < 10) : fX5_behindDamp (nI c) (nI v) = nI (mvN c v) ∧ mvN c v ≤ v := by
  obtain ⟨w, h1, h2, h3⟩ := mould_lt hc hv
  unfold mvN
  rw [h3, clN (by omega)]
  exact ⟨rfl, h2⟩
theorem hv_eq {c v : Nat} (hc : c < 5) (hv : v < 10) : fX5_behindHand (nI c) (nI v) = nI (hvN c v) ∧ hvN c v ≤ 9 := by
  obtain ⟨w, h1, h2, h3⟩ := hand_lt hc hv
  unfold hvN
  rw [h3, clN (by omega)]
  exact ⟨rfl, by omega⟩
/-- a row of longs and one of Nat -/
def RLn (b : Nat → Int64) (a : Nat → Nat) : Prop := ∀ v, v < 10 → b v = lN (a v)
theorem p10N (k : Nat) : lN (10 ^ k) * 10 = lN (10 ^ (k + 1)) := by
  rw [Nat.pow_succ]
  exact lN_mul (10 ^ k) 10
theorem tenN {t : Nat} (ht : t ≤ 10) : (10 - nI t : Int32).toInt64 = lN (10 - t) := by
  rw [show (10 : Int32) = nI 10 from rfl, subN ht, nI_l (by omega)]
theorem passX {c t : Nat} (hc : c < 5) (ht : t ≤ 10) (al : Int64) {b : Nat → Int64} {a : Nat → Nat} (hb : RLn b a) : ∃ b', fX0_passMonth al (nI c) (nI t) b = some (al * 10, b') ∧ RLn b' (fun v => dsN (mvN c) t (10 - t) a v 10) := by
  unfold fX0_passMonth
  obtain ⟨e, h1, h2⟩ := one_for (st := fX0_passMonth_L14 (nI c) (nI t)) (fun m z => z.1 = nI m ∧ (∀ j, j < m → z.2 j = lN (dsN (mvN c) t (10 - t) a j m)) ∧ ∀ j, m ≤ j → j < 10 → z.2 j = lN (a j)) (fun e => RLn e (fun v => dsN (mvN c) t (10 - t) a v 10)) 10 (by omega)
    (fun m z hm hI => by
      obtain ⟨x, b⟩ := z
      obtain ⟨w1, w2, w3⟩ := hI
      dsimp only at w1 w2 w3
      subst w1
      obtain ⟨m1, m2⟩ := mv_eq hc hm
      unfold fX0_passMonth_L14
      dsimp only
      rw [if_neg (show ¬ (9 : Int32) < nI m by rw [show (9 : Int32) = nI 9 from rfl, ltN (by omega) (by omega)]; omega), m1, gd_t (inbN (show m < 10 by omega) (by omega)), gd_t (inbN (show mvN c m < 10 by omega) (by omega)), clN (show m < 2 ^ 31 by omega), clN (show mvN c m < 2 ^ 31 by omega), nI1, tenN ht, nI_l (show t < 2 ^ 31 by omega), w3 m (Nat.le_refl m) hm, lN_mul, lN_mul]
      refine ⟨_, rfl, rfl, fun j hj => ?_, fun j hj hj2 => ?_⟩
      · show (if j = mvN c m then (if mvN c m = m then lN (a m * (10 - t)) else b (mvN c m)) + lN (a m * t) else (if j = m then lN (a m * (10 - t)) else b j)) = lN (dsN (mvN c) t (10 - t) a j m + ((if mvN c m = j then a m * t else 0) + (if m = j then a m * (10 - t) else 0)))
        by_cases e1 : j = m
        · subst e1
          rw [ds_zero (mvN c) t (10 - t) a j j (fun i hi => by
            obtain ⟨i1, i2⟩ := mv_eq hc (show i < 10 by omega)
            exact ⟨by omega, by omega⟩)]
          by_cases e2 : mvN c j = j
          · rw [if_pos e2.symm, if_pos e2, if_pos e2, if_pos rfl, lN_add, Nat.zero_add, Nat.add_comm]
          · rw [if_neg (fun w => e2 w.symm), if_pos rfl, if_neg e2, if_pos rfl, Nat.zero_add, Nat.zero_add]
        · by_cases e2 : mvN c m = j
          · rw [if_pos e2.symm, if_neg (fun w => e1 (e2.symm.trans w)), if_pos e2, if_neg (fun w => e1 w.symm), e2, w2 j (by omega), lN_add, Nat.add_zero]
          · rw [if_neg (fun w => e2 w.symm), if_neg e1, if_neg e2, if_neg (fun w => e1 w.symm), w2 j (by omega)]
            rfl
      · show (if j = mvN c m then (if mvN c m = m then lN (a m * (10 - t)) else b (mvN c m)) + lN (a m * t) else (if j = m then lN (a m * (10 - t)) else b j)) = lN (a j)
        rw [if_neg (by omega), if_neg (by omega), w3 j (by omega) hj2])
    (fun z hI => by
      obtain ⟨x, b⟩ := z
      obtain ⟨w1, w2, w3⟩ := hI
      dsimp only at w1 w2 w3
      subst w1
      unfold fX0_passMonth_L14
      dsimp only
      rw [if_pos (by decide)]
      exact ⟨_, rfl, w2⟩) (0, b) ⟨rfl, fun j hj => by omega, fun j _ hj => hb j hj⟩
  rw [h1, bd_s]
  exact ⟨e, rfl, h2⟩
theorem worthAllX {c : Nat} (hc : c < 5) (al : Int64) (t : Int32) {b : Nat → Int64} {a : Nat → Nat} (hb : RLn b a) : fX0_worthOfAll al (nI c) t b = some (lN (wuN (hvN c) a 10)) := by
  unfold fX0_worthOfAll
  obtain ⟨e, h1, h2⟩ := one_for (st := fX0_worthOfAll_L4 (nI c) b) (fun m z => z = (lN (wuN (hvN c) a m), nI m)) (fun e => e = lN (wuN (hvN c) a 10)) 10 (by omega)
    (fun m z hm hI => by
      subst hI
      obtain ⟨m1, m2⟩ := hv_eq hc hm
      unfold fX0_worthOfAll_L4
      dsimp only
      rw [if_neg (show ¬ (9 : Int32) < nI m by rw [show (9 : Int32) = nI 9 from rfl, ltN (by omega) (by omega)]; omega), m1, gd_t (inbN (show m < 10 by omega) (by omega)), clN (show m < 2 ^ 31 by omega), nI1, hb m hm, nI_l (by omega), lN_mul, lN_add]
      exact ⟨_, rfl, rfl⟩)
    (fun z hI => by
      subst hI
      unfold fX0_worthOfAll_L4
      dsimp only
      rw [if_pos (by decide)]
      exact ⟨_, rfl, rfl⟩) (0, 0) rfl
  rw [h1, h2]
  rfl
/-! the months to come: the model's rows -/
def wwN (c : Nat) (o : Int32) : Nat → Nat := if o = -1 then fun j => j else mvN c
theorem ww_le {c : Nat} (hc : c < 5) (o : Int32) {v : Nat} (hv : v < 10) : wwN c o v ≤ v := by
  unfold wwN
  by_cases h : o = -1
  · rw [if_pos h]; exact Nat.le_refl v
  · rw [if_neg h]; exact (mv_eq hc hv).2
theorem ww_lt {c : Nat} (hc : c < 5) (o : Int32) : ∀ v, v < 10 → wwN c o v < 10 := fun v hv => by
  have := ww_le hc o hv
  omega
/-! held, when -/
def ttN (o : Int32) (t : Nat) : Nat := if o = -1 then 0 else t
theorem pd_same {c t : Nat} (ht : t ≤ 10) (o : Int32) (v0 m : Nat) : pdN (mvN c) (ttN o t) (10 - ttN o t) v0 m = pdN (wwN c o) t (10 - t) v0 m := by
  unfold ttN wwN
  by_cases h : o = -1
  · rw [if_pos h, if_pos h]
    exact pd_bank (mvN c) (by omega) v0 m
  · rw [if_neg h, if_neg h]
theorem tt_le {t : Nat} (ht : t ≤ 10) (o : Int32) : ttN o t ≤ 10 := by
  unfold ttN
  by_cases h : o = -1
  · rw [if_pos h]; omega
  · rw [if_neg h]; exact ht
theorem beginX {k l o : Nat → Int32} {f c v0 t : Nat} (hf : f < 10) (hk : k f = nI c) (hv : v0 < 10) (hl : l f = nI v0) (ca : Int64) (ck ct : Int32) (cb : Nat → Int64) (sz bh bm : Int32) : ∃ b, fX0_begin ca ck ct cb sz bh bm k l o (nI f) (nI t) = some (lN (10 ^ 0), nI c, nI (ttN (o f) t), b) ∧ RLn b (pdN (mvN c) (ttN (o f) t) (10 - ttN (o f) t) v0 0) := by
  unfold fX0_begin
  obtain ⟨L1, a1, a2⟩ := one_for (st := fX0_begin_L3 l (nI f)) (fun j z => z.1 = nI j ∧ ∀ i, i < j → z.2 i = lN (pdN (mvN c) (ttN (o f) t) (10 - ttN (o f) t) v0 0 i)) (fun e => RLn e (pdN (mvN c) (ttN (o f) t) (10 - ttN (o f) t) v0 0)) 10 (by omega)
    (fun j z hj hI => by
      obtain ⟨x, b⟩ := z
      obtain ⟨w1, w2⟩ := hI
      dsimp only at w1 w2
      subst w1
      unfold fX0_begin_L3
      dsimp only
      rw [if_neg (show ¬ (9 : Int32) < nI j by rw [show (9 : Int32) = nI 9 from rfl, ltN (by omega) (by omega)]; omega), clN (show f < 2 ^ 31 by omega), hl, gd_t (inbN (show f < 10 by omega) (by omega)), gd_t (inbN (show j < 10 by omega) (by omega)), clN (show j < 2 ^ 31 by omega), nI1]
      refine ⟨_, rfl, rfl, fun i hi => ?_⟩
      show vp_updL b j _ i = lN (if i = v0 then 1 else 0)
      rw [updL_eq]
      have e : (nI j = nI v0) = (j = v0) := eqN (by omega) (by omega)
      by_cases c : i = j
      · subst c
        rw [if_pos rfl]
        by_cases c2 : i = v0
        · rw [if_pos (e.mpr c2), if_pos c2]; rfl
        · rw [if_neg (fun w => c2 (e.mp w)), if_neg c2]; rfl
      · rw [if_neg c]
        exact w2 i (by omega))
    (fun z hI => by
      obtain ⟨x, b⟩ := z
      obtain ⟨w1, w2⟩ := hI
      dsimp only at w1 w2
      subst w1
      unfold fX0_begin_L3
      dsimp only
      rw [if_pos (by decide)]
      exact ⟨_, rfl, w2⟩) (0, cb) ⟨rfl, fun j hj => by omega⟩
  rw [a1, bd_s]
  unfold fX0_begin_X3_39
  rw [gd_t (inbN (show f < 10 by omega) (by omega)), bankN sz bh bm o hf, bd_s, clN (show f < 2 ^ 31 by omega), hk]
  refine ⟨L1, ?_, a2⟩
  have e : (if (if o f = -1 then 1 else 0 : Int32) = 0 then nI t else 0 : Int32) = nI (ttN (o f) t) := by
    unfold ttN
    by_cases h : o f = -1
    · rw [if_pos h, if_pos h, if_neg (show ¬ (1 : Int32) = 0 by decide)]; rfl
    · rw [if_neg h, if_neg h, if_pos rfl]
  rw [e]
  rfl
theorem wu_bound {c t v0 : Nat} (hc : c < 5) (ht : t ≤ 10) (hv : v0 < 10) (m : Nat) : wuN (hvN c) (pdN (mvN c) t (10 - t) v0 m) 10 ≤ 9 * 10 ^ m := by
  have h1 := wu_le (h := hvN c) (p := pdN (mvN c) t (10 - t) v0 m) (fun v hv => (hv_eq hc hv).2)
  rw [pd_sum (fun j hj => by have := (mv_eq hc hj).2; omega) (show t + (10 - t) = 10 by omega) hv m] at h1
  exact h1
theorem pow9 : ∀ m : Fin 10, 0 < 10 ^ m.val ∧ 10 ^ m.val < 2 ^ 30 ∧ 9 * 10 ^ m.val < 2 ^ 34 := by decide
/-! held and when: the class -/
def upN (c t v0 : Nat) (ow : Int32) (m : Nat) : Nat := wuN (hvN c) (pdN (wwN c ow) t (10 - t) v0 m) 10
theorem up_bound {c t v0 : Nat} (hc : c < 5) (ht : t ≤ 10) (hv : v0 < 10) (ow : Int32) (m : Nat) : upN c t v0 ow m ≤ 9 * 10 ^ m := by
  unfold upN
  rw [← pd_same ht ow v0 m]
  exact wu_bound hc (tt_le ht ow) hv m
theorem meanX {k l o : Nat → Int32} {f c v0 t m : Nat} (hf : f < 10) (hc : c < 5) (hk : k f = nI c) (hv : v0 < 10) (hl : l f = nI v0) (ht : t ≤ 10) (hm : m < 10) (kp sz bh bm : Int32) (ca : Int64) (ck ct : Int32) (cb : Nat → Int64) (part : Int32) : ∃ q : Int64 × Int32 × Int32 × (Nat → Int64), fX10_meanOf kp sz bh bm k l o ca ck ct cb (nI f) (nI m) (nI t) part = some ((if part = 0 then lN (upN c t v0 (o f) m / Nat.gcd (upN c t v0 (o f) m) (10 ^ m)) else lN (10 ^ m / Nat.gcd (upN c t v0 (o f) m) (10 ^ m))), q) := by
  obtain ⟨b, h1, h2⟩ := beginX (o := o) (t := t) hf hk hv hl ca ck ct cb sz bh bm
  have ht' := tt_le ht (o f)
  unfold fX10_meanOf
  rw [h1, bd_s]
  obtain ⟨e, b1, b2, b3⟩ := one_for (st := fX10_meanOf_L16 (nI m) (lN (10 ^ 0), nI c, nI (ttN (o f) t), b)) (fun j z => z.1 = nI j ∧ z.2.1 = lN (10 ^ j) ∧ RLn z.2.2 (pdN (mvN c) (ttN (o f) t) (10 - ttN (o f) t) v0 j)) (fun e => e.1 = lN (10 ^ m) ∧ RLn e.2 (pdN (mvN c) (ttN (o f) t) (10 - ttN (o f) t) v0 m)) m (by omega)
    (fun j z hj hI => by
      obtain ⟨x, y, b'⟩ := z
      obtain ⟨w1, w2, w3⟩ := hI
      dsimp only at w1 w2 w3
      subst w1 w2
      unfold fX10_meanOf_L16
      dsimp only
      have e : (nI m ≤ nI j) = (m ≤ j) := leN (by omega) (by omega)
      rw [if_neg (fun w => by have := e.mp w; omega)]
      obtain ⟨b2, c1, c2⟩ := passX hc ht' (lN (10 ^ j)) w3
      rw [c1, bd_s, p10N]
      exact ⟨_, rfl, nI1 j, rfl, c2⟩)
    (fun z hI => by
      obtain ⟨x, y, b'⟩ := z
      obtain ⟨w1, w2, w3⟩ := hI
      dsimp only at w1 w2 w3
      subst w1
      unfold fX10_meanOf_L16
      dsimp only
      have e : (nI m ≤ nI m) = (m ≤ m) := leN (by omega) (by omega)
      rw [if_pos (e.mpr (Nat.le_refl m))]
      exact ⟨_, rfl, w2, w3⟩) (0, lN (10 ^ 0), b) ⟨rfl, rfl, h2⟩
  show ∃ q, (iter _ FU (0, lN (10 ^ 0), b)).bind _ = some (_, q)
  rw [b1, bd_s]
  unfold fX10_meanOf_X16_35 fX0_meanInLowestTerms
  dsimp only
  rw [b2, worthAllX hc (lN (10 ^ m)) (nI (ttN (o f) t)) b3, bd_s]
  obtain ⟨p1, p2, p3⟩ := pow9 ⟨m, hm⟩
  dsimp only at p1 p2 p3
  have hw := up_bound hc ht hv (o f) m
  have hsame : wuN (hvN c) (pdN (mvN c) (ttN (o f) t) (10 - ttN (o f) t) v0 m) 10 = upN c t v0 (o f) m := by
    unfold upN
    rw [pd_same ht (o f) v0 m]
  rw [hsame]
  generalize upN c t v0 (o f) m = A at hw ⊢
  have hA : A < 2 ^ 34 := by omega
  have hg : 0 < Nat.gcd A (10 ^ m) := Nat.gcd_pos_of_pos_right A p1
  have hg2 : Nat.gcd A (10 ^ m) ≤ 10 ^ m := Nat.gcd_le_right A p1
  rw [divX p1 hA p2, bd_s, if_neg (by rw [lgzN (by omega)]; omega), pk_lDiv (by omega) hg (by omega), pk_lDiv (by omega) hg (by omega), gd_t (nzlN hg (by omega)), gd_t (nzlN hg (by omega))]
  by_cases c0 : part = 0
  · rw [if_pos c0, if_pos c0]; exact ⟨_, rfl⟩
  · rw [if_neg c0, if_neg c0]; exact ⟨_, rfl⟩
theorem heldX {n : Nat} (hn : n ≤ 10) {k l o : Nat → Int32} {f c v0 t m : Nat} (hf : f < n) (hc : c < 5) (hk : k f = nI c) (hv : v0 < 10) (hl : l f = nI v0) (ht : t ≤ 10) (hm : m < 10) (kp bh bm : Int32) (ca : Int64) (ck ct : Int32) (cb : Nat → Int64) {part : Int32} (hp : part = 0 ∨ part = 1) : ∃ q : Int64 × Int32 × Int32 × (Nat → Int64), fX10_held kp (nI n) bh bm k l o ca ck ct cb (nI f) (nI m) (nI t) part = some ((if part = 0 then lN (upN c t v0 (o f) m / Nat.gcd (upN c t v0 (o f) m) (10 ^ m)) else lN (10 ^ m / Nat.gcd (upN c t v0 (o f) m) (10 ^ m))), q) := by
  obtain ⟨q, h⟩ := meanX (o := o) (show f < 10 by omega) hc hk hv hl ht hm kp (nI n) bh bm ca ck ct cb part
  unfold fX10_held
  rw [knows_t hn hf, if_neg (show ¬ (1 : Int32) = 0 by decide), if_neg (show ¬ fX10_isWithin (nI m) 0 9 = 0 from within_iff.mpr ⟨nI_le (a := 0) (Nat.zero_le _) (by omega), nI_le (b := 9) (by omega) (by omega)⟩), if_neg (show ¬ fX10_isWithin (nI t) 0 10 = 0 from within_iff.mpr ⟨nI_le (a := 0) (Nat.zero_le _) (by omega), nI_le (b := 10) (by omega) (by omega)⟩), if_neg (show ¬ fX10_isWithin part 0 1 = 0 by rcases hp with rfl | rfl <;> decide), h, bd_s]
  exact ⟨_, rfl⟩
def whF (U : Nat → Int64) : Nat → Int32
  | 0 => 0
  | j + 1 => if lg_cmp (U (j + 1)) (U 0 * lN (10 ^ (j + 1))) < 0 then whF U j else nI (j + 1)
theorem whenX {n : Nat} (hn : n ≤ 10) {k l o : Nat → Int32} {f c v0 t m : Nat} (hf : f < n) (hc : c < 5) (hk : k f = nI c) (hv : v0 < 10) (hl : l f = nI v0) (ht : t ≤ 10) (hm : m < 10) {U : Nat → Int64} (hUp : ∀ j : Nat, lN (upN c t v0 (o f) j) = U j) (kp bh bm : Int32) (ca : Int64) (ck ct : Int32) (cb : Nat → Int64) : ∃ q : Int64 × Int32 × Int32 × (Nat → Int64), fX10_when kp (nI n) bh bm k l o ca ck ct cb (nI f) (nI m) (nI t) = some (whF U m, q) := by
  obtain ⟨b, a1, a2⟩ := beginX (o := o) (t := t) (show f < 10 by omega) hk hv hl ca ck ct cb (nI n) bh bm
  have ht' := tt_le ht (o f)
  have hU : ∀ j : Nat, lN (wuN (hvN c) (pdN (mvN c) (ttN (o f) t) (10 - ttN (o f) t) v0 j) 10) = U j := by
    intro j
    rw [← hUp j]
    unfold upN
    rw [pd_same ht (o f) v0 j]
  obtain ⟨p, hp⟩ : ∃ p : Nat → Int64, ∀ j : Nat, lN (10 ^ j) = p j := ⟨fun j => lN (10 ^ j), fun j => rfl⟩
  have hp10 : ∀ j : Nat, p j * 10 = p (j + 1) := fun j => by rw [← hp, ← hp]; exact p10N j
  have hwS : ∀ j : Nat, whF U (j + 1) = if lg_cmp (U (j + 1)) (U 0 * p (j + 1)) < 0 then whF U j else nI (j + 1) := fun j => by rw [← hp]; rfl
  unfold fX10_when
  rw [knows_t hn hf, if_neg (show ¬ (1 : Int32) = 0 by decide), if_neg (show ¬ fX10_isWithin (nI m) 0 9 = 0 from within_iff.mpr ⟨nI_le (a := 0) (Nat.zero_le _) (by omega), nI_le (b := 9) (by omega) (by omega)⟩), if_neg (show ¬ fX10_isWithin (nI t) 0 10 = 0 from within_iff.mpr ⟨nI_le (a := 0) (Nat.zero_le _) (by omega), nI_le (b := 10) (by omega) (by omega)⟩), a1, bd_s, hp 0]
  unfold fX0_lastMonthOfNoLess
  rw [worthAllX hc (p 0) (nI (ttN (o f) t)) a2, bd_s, hU 0]
  obtain ⟨e, b1, b2⟩ := one_for (st := fX0_lastMonthOfNoLess_L11 (nI c) (nI (ttN (o f) t)) (nI m) (U 0)) (fun j z => z.1 = whF U j ∧ z.2.1 = nI (j + 1) ∧ z.2.2.1 = p j ∧ RLn z.2.2.2 (pdN (mvN c) (ttN (o f) t) (10 - ttN (o f) t) v0 j)) (fun e => e.1 = whF U m) m (by omega)
    (fun j z hj hI => by
      obtain ⟨x, y, al, b'⟩ := z
      obtain ⟨w1, w2, w4, w5⟩ := hI
      dsimp only at w1 w2 w4 w5
      subst w1 w2 w4
      unfold fX0_lastMonthOfNoLess_L11
      dsimp only
      have e : (nI m < nI (j + 1)) = (m < j + 1) := ltN (by omega) (by omega)
      rw [if_neg (fun w => by have := e.mp w; omega)]
      obtain ⟨b2, c1, c2⟩ := passX hc ht' (p j) w5
      rw [c1, bd_s]
      dsimp only
      have hp2 : (fun v => dsN (mvN c) (ttN (o f) t) (10 - ttN (o f) t) (pdN (mvN c) (ttN (o f) t) (10 - ttN (o f) t) v0 j) v 10) = pdN (mvN c) (ttN (o f) t) (10 - ttN (o f) t) v0 (j + 1) := rfl
      rw [hp2] at c2
      rw [worthAllX hc (p j * 10) (nI (ttN (o f) t)) c2, bd_s, hp10, hU (j + 1)]
      exact ⟨_, rfl, (hwS j).symm, nI1 (j + 1), rfl, c2⟩)
    (fun z hI => by
      obtain ⟨x, y, al, b'⟩ := z
      obtain ⟨w1, w2, w4, w5⟩ := hI
      dsimp only at w1 w2 w4 w5
      subst w1 w2 w4
      unfold fX0_lastMonthOfNoLess_L11
      dsimp only
      have e : (nI m < nI (m + 1)) = (m < m + 1) := ltN (by omega) (by omega)
      rw [if_pos (e.mpr (by omega))]
      exact ⟨_, rfl, rfl⟩) (0, 1, p 0, b) ⟨rfl, rfl, rfl, a2⟩
  rw [b1, bd_s]
  unfold fX0_lastMonthOfNoLess_X11_45
  rw [bd_s, b2]
  exact ⟨_, rfl⟩
/-! held and when: the law's rows of months -/
def rsum (g : Nat → Nat) : Nat → Nat
  | 0 => 0
  | n + 1 => rsum g n + g n
def wtN (t u row : Nat) : Nat → Nat
  | 0 => 1
  | i + 1 => wtN t u row i * (if row.testBit i = true then t else u)
def hasN (w : Nat → Nat) (v0 row : Nat) : Nat → Nat
  | 0 => v0
  | i + 1 => if row.testBit i = true then w (hasN w v0 row i) else hasN w v0 row i
theorem rsum_add (g : Nat → Nat) (a : Nat) : ∀ b : Nat, rsum g (a + b) = rsum g a + rsum (fun i => g (a + i)) b
  | 0 => rfl
  | b + 1 => by
    show rsum g (a + b) + g (a + b) = rsum g a + (rsum (fun i => g (a + i)) b + g (a + b))
    rw [rsum_add g a b, Nat.add_assoc]
theorem rsum_same {g h : Nat → Nat} : ∀ n : Nat, (∀ i : Nat, i < n → g i = h i) → rsum g n = rsum h n
  | 0, _ => rfl
  | n + 1, e => by
    show rsum g n + g n = rsum h n + h n
    rw [rsum_same n (fun i hi => e i (by omega)), e n (by omega)]
theorem rsum_two (g h : Nat → Nat) : ∀ n : Nat, rsum g n + rsum h n = rsum (fun i => g i + h i) n
  | 0 => rfl
  | n + 1 => by
    show rsum g n + g n + (rsum h n + h n) = rsum (fun i => g i + h i) n + (g n + h n)
    rw [← rsum_two g h n]
    omega
theorem wt_low (t u : Nat) {row k : Nat} : ∀ j : Nat, j ≤ k → wtN t u (2 ^ k + row) j = wtN t u row j
  | 0, _ => rfl
  | j + 1, h => by
    show wtN t u (2 ^ k + row) j * _ = wtN t u row j * _
    rw [wt_low t u j (by omega), Nat.testBit_two_pow_add_gt (show j < k by omega)]
theorem has_low (w : Nat → Nat) (v0 : Nat) {row k : Nat} : ∀ j : Nat, j ≤ k → hasN w v0 (2 ^ k + row) j = hasN w v0 row j
  | 0, _ => rfl
  | j + 1, h => by
    show (if (2 ^ k + row).testBit j = true then w (hasN w v0 (2 ^ k + row) j) else hasN w v0 (2 ^ k + row) j) = if row.testBit j = true then w (hasN w v0 row j) else hasN w v0 row j
    rw [has_low w v0 j (by omega), Nat.testBit_two_pow_add_gt (show j < k by omega)]
theorem has_lt {w : Nat → Nat} (hw : ∀ j, j < 10 → w j < 10) {v0 : Nat} (hv : v0 < 10) (row : Nat) : ∀ j : Nat, hasN w v0 row j < 10
  | 0 => hv
  | j + 1 => by
    have := has_lt hw hv row j
    show (if row.testBit j = true then w (hasN w v0 row j) else hasN w v0 row j) < 10
    by_cases c : row.testBit j = true
    · rw [if_pos c]; exact hw _ this
    · rw [if_neg c]; exact this
theorem wu_add (h p q : Nat → Nat) : ∀ n : Nat, wuN h (fun v => p v + q v) n = wuN h p n + wuN h q n
  | 0 => rfl
  | n + 1 => by
    show wuN h (fun v => p v + q v) n + (p n + q n) * h n = wuN h p n + p n * h n + (wuN h q n + q n * h n)
    rw [wu_add h p q n, Nat.add_mul]
    omega
theorem wu_none (h : Nat → Nat) (i x : Nat) : ∀ n : Nat, n ≤ i → wuN h (fun v => if i = v then x else 0) n = 0
  | 0, _ => rfl
  | n + 1, e => by
    show wuN h (fun v => if i = v then x else 0) n + (if i = n then x else 0) * h n = 0
    rw [wu_none h i x n (by omega), if_neg (by omega), Nat.zero_mul]
theorem wu_one (h : Nat → Nat) {i : Nat} (x : Nat) : ∀ n : Nat, i < n → wuN h (fun v => if i = v then x else 0) n = x * h i
  | 0, e => absurd e (Nat.not_lt_zero _)
  | n + 1, e => by
    show wuN h (fun v => if i = v then x else 0) n + (if i = n then x else 0) * h n = x * h i
    by_cases c : i = n
    · subst c
      rw [wu_none h i x i (Nat.le_refl i), if_pos rfl, Nat.zero_add]
    · rw [wu_one h x n (by omega), if_neg c, Nat.zero_mul, Nat.add_zero]
theorem wu_ds {w : Nat → Nat} (hw : ∀ j, j < 10 → w j < 10) (t u : Nat) (a h : Nat → Nat) : ∀ n : Nat, n ≤ 10 → wuN h (fun v => dsN w t u a v n) 10 = wuN (fun v => u * h v + t * h (w v)) a n
  | 0, _ => by
    show wuN h (fun v => 0) 10 = 0
    simp [wuN]
  | n + 1, e => by
    have e1 : (fun v => dsN w t u a v (n + 1)) = fun v => dsN w t u a v n + ((if w n = v then a n * t else 0) + (if n = v then a n * u else 0)) := rfl
    rw [e1, wu_add, wu_add, wu_ds hw t u a h n (by omega), wu_one h (a n * t) 10 (hw n (by omega)), wu_one h (a n * u) 10 (show n < 10 by omega)]
    show wuN (fun v => u * h v + t * h (w v)) a n + (a n * t * h (w n) + a n * u * h n) = wuN (fun v => u * h v + t * h (w v)) a n + a n * (u * h n + t * h (w n))
    rw [Nat.mul_add, Nat.mul_assoc, Nat.mul_assoc]
    omega
theorem rowsN {w : Nat → Nat} (hw : ∀ j, j < 10 → w j < 10) (t u : Nat) {v0 : Nat} (hv : v0 < 10) : ∀ (k : Nat) (h : Nat → Nat), rsum (fun row => wtN t u row k * h (hasN w v0 row k)) (2 ^ k) = wuN h (pdN w t u v0 k) 10
  | 0, h => by
    show 0 + 1 * h v0 = wuN h (fun v => if v = v0 then 1 else 0) 10
    have e : (fun v => if v = v0 then 1 else 0) = fun v => if v0 = v then 1 else 0 := by
      funext v
      by_cases c : v = v0
      · rw [if_pos c, if_pos c.symm]
      · rw [if_neg c, if_neg (Ne.symm c)]
    rw [e, wu_one h 1 10 hv, Nat.zero_add]
  | k + 1, h => by
    have ih := rowsN hw t u hv k (fun v => u * h v + t * h (w v))
    have e1 := wu_ds hw t u (pdN w t u v0 k) h 10 (Nat.le_refl _)
    show _ = wuN h (fun v => dsN w t u (pdN w t u v0 k) v 10) 10
    rw [e1, ← ih, Nat.pow_succ, Nat.mul_two, rsum_add]
    have a1 : rsum (fun row => wtN t u row (k + 1) * h (hasN w v0 row (k + 1))) (2 ^ k) = rsum (fun row => wtN t u row k * (u * h (hasN w v0 row k))) (2 ^ k) := by
      refine rsum_same _ fun i hi => ?_
      show wtN t u i k * (if i.testBit k = true then t else u) * h (if i.testBit k = true then w (hasN w v0 i k) else hasN w v0 i k) = _
      rw [Nat.testBit_lt_two_pow hi, if_neg Bool.false_ne_true, if_neg Bool.false_ne_true, Nat.mul_assoc]
    have a2 : rsum (fun i => (fun row => wtN t u row (k + 1) * h (hasN w v0 row (k + 1))) (2 ^ k + i)) (2 ^ k) = rsum (fun row => wtN t u row k * (t * h (w (hasN w v0 row k)))) (2 ^ k) := by
      refine rsum_same _ fun i hi => ?_
      show wtN t u (2 ^ k + i) k * (if (2 ^ k + i).testBit k = true then t else u) * h (if (2 ^ k + i).testBit k = true then w (hasN w v0 (2 ^ k + i) k) else hasN w v0 (2 ^ k + i) k) = _
      rw [Nat.testBit_two_pow_add_eq, Nat.testBit_lt_two_pow hi]
      show wtN t u (2 ^ k + i) k * t * h (w (hasN w v0 (2 ^ k + i) k)) = _
      rw [wt_low t u k (Nat.le_refl k), has_low w v0 k (Nat.le_refl k), Nat.mul_assoc]
    rw [a1, a2, rsum_two]
    refine rsum_same _ fun i hi => ?_
    show wtN t u i k * (u * h (hasN w v0 i k)) + wtN t u i k * (t * h (w (hasN w v0 i k))) = wtN t u i k * (u * h (hasN w v0 i k) + t * h (w (hasN w v0 i k)))
    rw [Nat.mul_add]
theorem dampW {c : Nat} (hc : c < 5) {v : Nat} (hv : v < 10) : fL_damp (nI c) (nI v) = nI (mvN c v) := (dampL ⟨c, hc⟩ ⟨v, hv⟩).trans (mv_eq hc hv).1
theorem handW {c : Nat} (hc : c < 5) {v : Nat} (hv : v < 10) : fL_hand (nI c) (nI v) = nI (hvN c v) := (handL ⟨c, hc⟩ ⟨v, hv⟩).trans (hv_eq hc hv).1
/-- one row of months -/
theorem rowL {n : Nat} {k l o d : Nat → Int32} (hW : RW n k l o d) {f c v0 t K : Nat} (hf : f < 10) (hc : c < 5) (hk : k f = nI c) (hv : v0 < 10) (ht : t ≤ 10) (hK : K < 10) {row : Nat} (hrow : row < 1024) {z3 : Int64 × Int32 × Int64 × Int32} (hz3 : z3.2.2.2 = nI K) {z26 : Int64 × Int32} (hz26 : z26.2 = nI row) : iter (fL_held_L64 33 d (nI f) (nI t) z3 z26) FU (1, nI v0, 0) = some (lN (wtN t (10 - t) row K), nI (hasN (wwN c (o f)) v0 row K)) := by
  obtain ⟨hn, h0, hV, hG⟩ := hW
  obtain ⟨v1, v2, v3⟩ := hV f hf
  refine iter_for (fun i => (lN (wtN t (10 - t) row i), nI (hasN (wwN c (o f)) v0 row i), nI i)) K _ _ rfl (by omega) (fun i hi => ?_) ?_
  · have hh := has_lt (ww_lt hc (o f)) hv row i
    show fL_held_L64 33 d (nI f) (nI t) z3 z26 (lN (wtN t (10 - t) row i), nI (hasN (wwN c (o f)) v0 row i), nI i) = some (Sum.inl (lN (wtN t (10 - t) row i * (if row.testBit i = true then t else 10 - t)), nI (if row.testBit i = true then wwN c (o f) (hasN (wwN c (o f)) v0 row i) else hasN (wwN c (o f)) v0 row i), nI (i + 1)))
    generalize hasN (wwN c (o f)) v0 row i = v at hh ⊢
    unfold fL_held_L64 fL_held_J138 fL_held_J140
    dsimp only
    rw [hz3, hz26, if_neg (by rw [leN (by omega) (by omega)]; omega), bitN ⟨row, hrow⟩ ⟨i, by omega⟩, nI1, tenN ht, nI_l (show t < 2 ^ 31 by omega)]
    dsimp only
    cases hb : row.testBit i with
    | false =>
      rw [if_neg Bool.false_ne_true, if_neg (show ¬ (0 : Int32) = 1 by decide), if_pos rfl, if_pos rfl, lN_mul, if_neg Bool.false_ne_true, if_neg Bool.false_ne_true]
    | true =>
      rw [if_pos rfl, if_pos rfl, if_neg (show ¬ (1 : Int32) = 0 by decide), if_neg (show ¬ (1 : Int32) = 0 by decide), lN_mul, if_pos rfl, if_pos rfl, a21N, a1N, gd_t (inbN (by omega) (by omega)), clN (by omega), clN (by omega), v3, v1, hk, dampW hc hh]
      unfold wwN
      by_cases hb : o f = -1
      · rw [if_pos hb, if_pos (by rw [hb]; decide)]
      · obtain ⟨p, hp, ep⟩ := (hG f hf).2.2.resolve_left hb
        rw [if_neg hb, if_neg (by rw [ep, show (0 : Int32) = nI 0 from rfl, ltN (by omega) (by omega)]; omega)]
  · show fL_held_L64 33 d (nI f) (nI t) z3 z26 (lN (wtN t (10 - t) row K), nI (hasN (wwN c (o f)) v0 row K), nI K) = _
    unfold fL_held_L64
    dsimp only
    rw [hz3, if_pos (by rw [leN (by omega) (by omega)]; omega)]
/-- all rows of K months -/
theorem rowsL {n : Nat} {k l o d : Nat → Int32} (hW : RW n k l o d) {f c v0 t K : Nat} (hf : f < 10) (hc : c < 5) (hk : k f = nI c) (hv : v0 < 10) (hl : l f = nI v0) (ht : t ≤ 10) (hK : K < 10) {z3 : Int64 × Int32 × Int64 × Int32} (hz3 : z3.2.2.2 = nI K) : iter (fL_held_L41 33 d (nI f) (nI t) z3) FU (0, 0) = some (lN (upN c t v0 (o f) K)) := by
  obtain ⟨v1, v2, v3⟩ := hW.2.2.1 f hf
  have h2K : 2 ^ K ≤ 2 ^ 9 := Nat.pow_le_pow_right (by omega) (by omega)
  have hp2 := pow2N ⟨K, by omega⟩
  dsimp only at hp2
  have hall : upN c t v0 (o f) K = rsum (fun row => wtN t (10 - t) row K * hvN c (hasN (wwN c (o f)) v0 row K)) (2 ^ K) := (rowsN (ww_lt hc (o f)) t (10 - t) hv K (hvN c)).symm
  rw [hall]
  refine iter_for (fun row => (lN (rsum (fun row => wtN t (10 - t) row K * hvN c (hasN (wwN c (o f)) v0 row K)) row), nI row)) (2 ^ K) _ _ rfl (by omega) (fun row hr => ?_) ?_
  · have hh := has_lt (ww_lt hc (o f)) hv row K
    have h9 := (hv_eq hc hh).2
    generalize hg : (fun row => wtN t (10 - t) row K * hvN c (hasN (wwN c (o f)) v0 row K)) = g
    show fL_held_L41 33 d (nI f) (nI t) z3 (lN (rsum g row), nI row) = some (Sum.inl (lN (rsum g row + g row), nI (row + 1)))
    unfold fL_held_L41
    dsimp only
    rw [hz3, hp2, if_neg (by rw [leN (by omega) (by omega)]; omega), a11N, clN (show 11 + f < 2 ^ 31 by omega), v2, hl, rowL hW hf hc hk hv ht hK (show row < 1024 by omega) hz3 rfl, bd_s]
    unfold fL_held_X64_148
    dsimp only
    rw [a1N, clN (by omega), v1, hk, handW hc hh, nI_l (by omega), lN_mul, lN_add, nI1, ← hg]
  · show fL_held_L41 33 d (nI f) (nI t) z3 (lN _, nI (2 ^ K)) = _
    unfold fL_held_L41
    dsimp only
    rw [hz3, hp2, if_pos (by rw [leN (by omega) (by omega)]; omega)]
theorem gcdLw : ∀ (n S B k : Nat), S ≤ B → S * B < 2 ^ n → B < 2 ^ 62 → n < k → iter fL_held_L216 k (lN B, lN S) = some (lN (Nat.gcd B S))
  | n, S, B, 0, _, _, _, hk => absurd hk (Nat.not_lt_zero _)
  | n, S, B, k + 1, h, hp, hB, hk => by
    by_cases c : S = 0
    · subst c
      have h0 : fL_held_L216 (lN B, lN 0) = some (Sum.inr (lN B)) := by
        unfold fL_held_L216
        dsimp only
        rw [if_pos (by rw [lgzN (by omega)])]
      rw [iter_succ, h0, bd_s, Nat.gcd_zero_right]
      rfl
    · have h0 : fL_held_L216 (lN B, lN S) = some (Sum.inl (lN S, lN (B % S))) := by
        unfold fL_held_L216
        dsimp only
        rw [if_neg (by rw [lgzN (by omega)]; exact c), gd_t (nzlN (by omega) (by omega)), pk_lRem (by omega) (by omega) (by omega)]
      rw [iter_succ, h0, bd_s]
      have h1 := Nat.mod_lt B (show 0 < S by omega)
      cases n with
      | zero =>
        have : 1 * 1 ≤ S * B := Nat.mul_le_mul (by omega) (by omega)
        simp at hp
        omega
      | succ n =>
        show iter _ k (lN S, lN (B % S)) = _
        rw [gcdLw n (B % S) S k (by omega) (remHalf h (by omega) hp) (by omega) (by omega), Nat.gcd_comm S, ← Nat.gcd_rec, Nat.gcd_comm]
theorem divLw {a b : Nat} (ha : a < 2 ^ 30) (hb : b < 2 ^ 34) : iter fL_held_L216 FU (lN a, lN b) = some (lN (Nat.gcd a b)) := by
  rw [show FU = 99999 + 1 from rfl, iter_succ]
  by_cases c : b = 0
  · subst c
    have h0 : fL_held_L216 (lN a, lN 0) = some (Sum.inr (lN a)) := by
      unfold fL_held_L216
      dsimp only
      rw [if_pos (by rw [lgzN (by omega)])]
    rw [h0, bd_s, Nat.gcd_zero_right]
    rfl
  · have h1 := Nat.mod_lt a (show 0 < b by omega)
    have h2 := Nat.mod_le a b
    have hp : a % b * b < 2 ^ 64 := by
      have : a % b * b < 2 ^ 30 * 2 ^ 34 := Nat.mul_lt_mul'' (by omega) hb
      omega
    have h0 : fL_held_L216 (lN a, lN b) = some (Sum.inl (lN b, lN (a % b))) := by
      unfold fL_held_L216
      dsimp only
      rw [if_neg (by rw [lgzN (by omega)]; exact c), gd_t (nzlN (by omega) (by omega)), pk_lRem (by omega) (by omega) (by omega)]
    rw [h0, bd_s]
    show iter _ 99999 (lN b, lN (a % b)) = _
    rw [gcdLw 64 (a % b) b 99999 (by omega) hp (by omega) (by omega), Nat.gcd_comm b, ← Nat.gcd_rec, Nat.gcd_comm]
theorem heldN {n : Nat} {k l o d : Nat → Int32} (hW : RW n k l o d) {f m t : Nat} (hf : f < n) (hm : m < 10) (ht : t ≤ 10) (kp bh bm : Int32) (ca : Int64) (ck ct : Int32) (cb : Nat → Int64) : ∃ q : Int64 × Int32 × Int32 × (Nat → Int64), fL_held 33 kp (nI n) bh bm k l o ca ck ct cb d (nI f) (nI m) (nI t) = some (1, q.1, q.2.1, q.2.2.1, q.2.2.2) := by
  have hn := hW.1
  have hf10 : f < 10 := by omega
  obtain ⟨v1, v2, v3⟩ := hW.2.2.1 f hf10
  obtain ⟨⟨c, hc, hk⟩, ⟨v0, hv, hl⟩, -⟩ := hW.2.2.2 f hf10
  have hu0 : upN c t v0 (o f) 0 = hvN c v0 := by
    have h := rowsN (ww_lt hc (o f)) t (10 - t) hv 0 (hvN c)
    show wuN (hvN c) (pdN (wwN c (o f)) t (10 - t) v0 0) 10 = _
    rw [← h]
    show 0 + 1 * hvN c v0 = _
    omega
  have h9 := (hv_eq hc hv).2
  unfold fL_held
  rw [a1N, a11N, gd_t (inbN (by omega) (by omega)), gd_t (inbN (by omega) (by omega))]
  obtain ⟨U, hU⟩ : ∃ U : Nat → Int64, ∀ j : Nat, lN (upN c t v0 (o f) j) = U j := ⟨fun j => lN (upN c t v0 (o f) j), fun j => rfl⟩
  obtain ⟨p, hp⟩ : ∃ p : Nat → Int64, ∀ j : Nat, lN (10 ^ j) = p j := ⟨fun j => lN (10 ^ j), fun j => rfl⟩
  have hp10 : ∀ j : Nat, p j * 10 = p (j + 1) := fun j => by rw [← hp, ← hp]; exact p10N j
  have hwS : ∀ j : Nat, whF U (j + 1) = if lg_cmp (U (j + 1)) (U 0 * p (j + 1)) < 0 then whF U j else nI (j + 1) := fun j => by rw [← hp]; rfl
  have hfirst : lN (hvN c v0) = U 0 := by rw [← hU 0, hu0]
  have hloop : iter (fL_held_L29 33 d (nI f) (nI m) (nI t)) FU (1, 0, 0, 0) = some (p m, whF U m, U m) := by
    have h := iter_for (st := fL_held_L29 33 d (nI f) (nI m) (nI t)) (fun j => (p (if j ≤ m then j else m), whF U (j - 1), (if j = 0 then 0 else U (j - 1)), nI j)) (m + 1) (p m, whF U m, U m) (p 0, 0, 0, nI 0) rfl (by omega) (fun j hj => by
      show fL_held_L29 33 d (nI f) (nI m) (nI t) (p (if j ≤ m then j else m), whF U (j - 1), (if j = 0 then 0 else U (j - 1)), nI j) = some (Sum.inl (p (if j + 1 ≤ m then j + 1 else m), whF U (j + 1 - 1), (if j + 1 = 0 then 0 else U (j + 1 - 1)), nI (j + 1)))
      rw [if_pos (show j ≤ m by omega), if_neg (show ¬ j + 1 = 0 by omega), show j + 1 - 1 = j by omega]
      unfold fL_held_L29
      dsimp only
      rw [if_neg (by rw [ltN (by omega) (by omega)]; omega), rowsL hW hf10 hc hk hv hl ht (show j < 10 by omega) rfl, bd_s, hU j]
      unfold fL_held_X41_173
      dsimp only
      rw [a1N, a11N, clN (by omega), clN (by omega), v1, v2, hk, hl, handW hc hv, nI_l (by omega), nI1, hfirst]
      have e1 : (nI m ≤ nI j) = (m ≤ j) := leN (by omega) (by omega)
      have g1 : (if nI m ≤ nI j then p j else p j * 10 : Int64) = p (if j + 1 ≤ m then j + 1 else m) := by
        by_cases h : m ≤ j
        · rw [if_pos (e1.mpr h), if_neg (by omega), show j = m by omega]
        · rw [if_neg (fun q => h (e1.mp q)), if_pos (by omega), hp10]
      have g2 : (if lg_cmp (U j) (U 0 * p j) < 0 then whF U (j - 1) else nI j : Int32) = whF U j := by
        cases j with
        | zero =>
          by_cases h : lg_cmp (U 0) (U 0 * p 0) < 0
          · rw [if_pos h]
          · rw [if_neg h]; rfl
        | succ j => exact (hwS j).symm
      rw [g1, g2]) (by
      show fL_held_L29 33 d (nI f) (nI m) (nI t) (p (if m + 1 ≤ m then m + 1 else m), whF U (m + 1 - 1), (if m + 1 = 0 then 0 else U (m + 1 - 1)), nI (m + 1)) = _
      rw [if_neg (show ¬ m + 1 ≤ m by omega), if_neg (show ¬ m + 1 = 0 by omega), show m + 1 - 1 = m by omega]
      unfold fL_held_L29
      dsimp only
      rw [if_pos (by rw [ltN (by omega) (by omega)]; omega)])
    rw [← hp 0] at h
    exact h
  rw [hloop, bd_s]
  unfold fL_held_X29_208
  dsimp only
  obtain ⟨p1, p2, p3⟩ := pow9 ⟨m, hm⟩
  dsimp only at p1 p2 p3
  have hb := up_bound hc ht hv (o f) m
  obtain ⟨q1, h1⟩ := heldX hn (o := o) hf hc hk hv hl ht hm kp bh bm ca ck ct cb (part := 0) (Or.inl rfl)
  obtain ⟨q2, h2⟩ := heldX hn (o := o) hf hc hk hv hl ht hm kp bh bm q1.1 q1.2.1 q1.2.2.1 q1.2.2.2 (part := 1) (Or.inr rfl)
  obtain ⟨q3, h3⟩ := whenX hn (o := o) hf hc hk hv hl ht hm hU kp bh bm q2.1 q2.2.1 q2.2.2.1 q2.2.2.2
  rw [if_pos rfl] at h1
  rw [if_neg (show ¬ (1 : Int32) = 0 by decide)] at h2
  rw [← hU m, ← hp m]
  generalize upN c t v0 (o f) m = A at hb h1 h2 ⊢
  have hg : 0 < Nat.gcd (10 ^ m) A := Nat.gcd_pos_of_pos_left _ p1
  have hg2 : Nat.gcd (10 ^ m) A ≤ 10 ^ m := Nat.gcd_le_left _ p1
  rw [divLw p2 (by omega), bd_s]
  unfold fL_held_X216_241
  dsimp only
  rw [h1, bd_s, gd_t (nzlN hg (by omega)), pk_lDiv (by omega) hg (by omega), pk_lDiv (by omega) hg (by omega)]
  dsimp only
  rw [Nat.gcd_comm (10 ^ m), if_pos (lgc_zero.mpr rfl), h2, bd_s]
  dsimp only
  rw [if_pos (lgc_zero.mpr rfl), h3, bd_s]
  dsimp only
  rw [if_pos rfl]
  exact ⟨q3, rfl⟩
