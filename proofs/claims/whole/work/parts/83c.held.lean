/-! held, when -/
def ttN (o : Int32) (t : Nat) : Nat := if o = -1 then 0 else t
theorem pd_same {c t : Nat} (ht : t ≤ 10) (o : Int32) (v0 m : Nat) : pdN (mvN c) (ttN o t) (10 - ttN o t) v0 m = pdN (wwN c o) t (10 - t) v0 m := by
  unfold ttN wwN
  by_cases h : o = -1
  · rw [if_pos h, if_pos h]
    exact pd_bank (mvN c) (by omega) v0 m
  · rw [if_neg h, if_neg h]
theorem tt_le {t : Nat} (ht : t ≤ 10) (o : Int32) : ttN o t ≤ 10 := by
  unfold ttN
  by_cases h : o = -1
  · rw [if_pos h]; omega
  · rw [if_neg h]; exact ht
theorem beginX {k l o : Nat → Int32} {f c v0 t : Nat} (hf : f < 10) (hk : k f = nI c) (hv : v0 < 10) (hl : l f = nI v0) (ca : Int64) (ck ct : Int32) (cb : Nat → Int64) (sz bh bm : Int32) : ∃ b, fX0_begin ca ck ct cb sz bh bm k l o (nI f) (nI t) = some (lN (10 ^ 0), nI c, nI (ttN (o f) t), b) ∧ RLn b (pdN (mvN c) (ttN (o f) t) (10 - ttN (o f) t) v0 0) := by
  unfold fX0_begin
  obtain ⟨L1, a1, a2⟩ := one_for (st := fX0_begin_L3 l (nI f)) (fun j z => z.1 = nI j ∧ ∀ i, i < j → z.2 i = lN (pdN (mvN c) (ttN (o f) t) (10 - ttN (o f) t) v0 0 i)) (fun e => RLn e (pdN (mvN c) (ttN (o f) t) (10 - ttN (o f) t) v0 0)) 10 (by omega)
    (fun j z hj hI => by
      obtain ⟨x, b⟩ := z
      obtain ⟨w1, w2⟩ := hI
      dsimp only at w1 w2
      subst w1
      unfold fX0_begin_L3
      dsimp only
      rw [if_neg (show ¬ (9 : Int32) < nI j by rw [show (9 : Int32) = nI 9 from rfl, ltN (by omega) (by omega)]; omega), clN (show f < 2 ^ 31 by omega), hl, gd_t (inbN (show f < 10 by omega) (by omega)), gd_t (inbN (show j < 10 by omega) (by omega)), clN (show j < 2 ^ 31 by omega), nI1]
      refine ⟨_, rfl, rfl, fun i hi => ?_⟩
      show vp_updL b j _ i = lN (if i = v0 then 1 else 0)
      rw [updL_eq]
      have e : (nI j = nI v0) = (j = v0) := eqN (by omega) (by omega)
      by_cases c : i = j
      · subst c
        rw [if_pos rfl]
        by_cases c2 : i = v0
        · rw [if_pos (e.mpr c2), if_pos c2]; rfl
        · rw [if_neg (fun w => c2 (e.mp w)), if_neg c2]; rfl
      · rw [if_neg c]
        exact w2 i (by omega))
    (fun z hI => by
      obtain ⟨x, b⟩ := z
      obtain ⟨w1, w2⟩ := hI
      dsimp only at w1 w2
      subst w1
      unfold fX0_begin_L3
      dsimp only
      rw [if_pos (by decide)]
      exact ⟨_, rfl, w2⟩) (0, cb) ⟨rfl, fun j hj => by omega⟩
  rw [a1, bd_s]
  unfold fX0_begin_X3_39
  rw [gd_t (inbN (show f < 10 by omega) (by omega)), bankN sz bh bm o hf, bd_s, clN (show f < 2 ^ 31 by omega), hk]
  refine ⟨L1, ?_, a2⟩
  have e : (if (if o f = -1 then 1 else 0 : Int32) = 0 then nI t else 0 : Int32) = nI (ttN (o f) t) := by
    unfold ttN
    by_cases h : o f = -1
    · rw [if_pos h, if_pos h, if_neg (show ¬ (1 : Int32) = 0 by decide)]; rfl
    · rw [if_neg h, if_neg h, if_pos rfl]
  rw [e]
  rfl
theorem wu_bound {c t v0 : Nat} (hc : c < 5) (ht : t ≤ 10) (hv : v0 < 10) (m : Nat) : wuN (hvN c) (pdN (mvN c) t (10 - t) v0 m) 10 ≤ 9 * 10 ^ m := by
  have h1 := wu_le (h := hvN c) (p := pdN (mvN c) t (10 - t) v0 m) (fun v hv => (hv_eq hc hv).2)
  rw [pd_sum (fun j hj => by have := (mv_eq hc hj).2; omega) (show t + (10 - t) = 10 by omega) hv m] at h1
  exact h1
theorem pow9 : ∀ m : Fin 10, 0 < 10 ^ m.val ∧ 10 ^ m.val < 2 ^ 30 ∧ 9 * 10 ^ m.val < 2 ^ 34 := by decide
theorem meanX {k l o : Nat → Int32} {f c v0 t m : Nat} (hf : f < 10) (hc : c < 5) (hk : k f = nI c) (hv : v0 < 10) (hl : l f = nI v0) (ht : t ≤ 10) (hm : m < 10) (kp sz bh bm : Int32) (ca : Int64) (ck ct : Int32) (cb : Nat → Int64) (part : Int32) : ∃ zx, fX10_meanOf kp sz bh bm k l o ca ck ct cb (nI f) (nI m) (nI t) part = some zx ∧ fX11_term (lN (wuN (hvN c) (pdN (wwN c (o f)) t (10 - t) v0 m) 10)) (lN (10 ^ m)) part = some zx.1 := by
  obtain ⟨b, h1, h2⟩ := beginX (o := o) (t := t) hf hk hv hl ca ck ct cb sz bh bm
  have ht' := tt_le ht (o f)
  unfold fX10_meanOf
  rw [h1, bd_s]
  obtain ⟨e, b1, b2, b3⟩ := one_for (st := fX10_meanOf_L16 (nI m) (lN (10 ^ 0), nI c, nI (ttN (o f) t), b)) (fun j z => z.1 = nI j ∧ z.2.1 = lN (10 ^ j) ∧ RLn z.2.2 (pdN (mvN c) (ttN (o f) t) (10 - ttN (o f) t) v0 j)) (fun e => e.1 = lN (10 ^ m) ∧ RLn e.2 (pdN (mvN c) (ttN (o f) t) (10 - ttN (o f) t) v0 m)) m (by omega)
    (fun j z hj hI => by
      obtain ⟨x, y, b'⟩ := z
      obtain ⟨w1, w2, w3⟩ := hI
      dsimp only at w1 w2 w3
      subst w1 w2
      unfold fX10_meanOf_L16
      dsimp only
      have e : (nI m ≤ nI j) = (m ≤ j) := leN (by omega) (by omega)
      rw [if_neg (fun w => by have := e.mp w; omega)]
      obtain ⟨b2, c1, c2⟩ := passX hc ht' (lN (10 ^ j)) w3
      rw [c1, bd_s, p10N]
      exact ⟨_, rfl, nI1 j, rfl, c2⟩)
    (fun z hI => by
      obtain ⟨x, y, b'⟩ := z
      obtain ⟨w1, w2, w3⟩ := hI
      dsimp only at w1 w2 w3
      subst w1
      unfold fX10_meanOf_L16
      dsimp only
      have e : (nI m ≤ nI m) = (m ≤ m) := leN (by omega) (by omega)
      rw [if_pos (e.mpr (Nat.le_refl m))]
      exact ⟨_, rfl, w2, w3⟩) (0, lN (10 ^ 0), b) ⟨rfl, rfl, h2⟩
  show ∃ zx, (iter _ FU (0, lN (10 ^ 0), b)).bind _ = some zx ∧ _
  rw [b1, bd_s]
  unfold fX10_meanOf_X16_35 fX0_meanInLowestTerms
  dsimp only
  rw [b2, worthAllX hc (lN (10 ^ m)) (nI (ttN (o f) t)) b3, bd_s]
  obtain ⟨p1, p2, p3⟩ := pow9 ⟨m, hm⟩
  dsimp only at p1 p2 p3
  have hw := wu_bound hc ht' hv m
  rw [← pd_same ht (o f) v0 m]
  generalize wuN (hvN c) (pdN (mvN c) (ttN (o f) t) (10 - ttN (o f) t) v0 m) 10 = A at hw ⊢
  have hA : A < 2 ^ 34 := by omega
  have hg : 0 < Nat.gcd A (10 ^ m) := Nat.gcd_pos_of_pos_right A p1
  have hg2 : Nat.gcd A (10 ^ m) ≤ 10 ^ m := Nat.gcd_le_right A p1
  rw [divX p1 hA p2, bd_s, termM p1 hA p2, if_neg (by rw [lgzN (by omega)]; omega), pk_lDiv (by omega) hg (by omega), pk_lDiv (by omega) hg (by omega), gd_t (nzlN hg (by omega)), gd_t (nzlN hg (by omega))]
  by_cases c0 : part = 0
  · rw [if_pos c0, if_pos c0]; exact ⟨_, rfl, rfl⟩
  · rw [if_neg c0, if_neg c0]; exact ⟨_, rfl, rfl⟩
