/-! the months to come: the model's rows -/
def wwN (c : Nat) (o : Int32) : Nat → Nat := if o = -1 then fun j => j else mvN c
theorem ww_le {c : Nat} (hc : c < 5) (o : Int32) {v : Nat} (hv : v < 10) : wwN c o v ≤ v := by
  unfold wwN
  by_cases h : o = -1
  · rw [if_pos h]; exact Nat.le_refl v
  · rw [if_neg h]; exact (mv_eq hc hv).2
theorem ww_lt {c : Nat} (hc : c < 5) (o : Int32) : ∀ v, v < 10 → wwN c o v < 10 := fun v hv => by
  have := ww_le hc o hv
  omega
theorem dampM {c : Nat} (hc : c < 5) {o kk : Int32} (hk : kk = nI c) {v : Nat} (hv : v < 10) : (if (if o = -1 then 1 else 0 : Int32) = 0 then (fX11_byMould kk (nI v)) else nI v : Int32) = nI (wwN c o v) := by
  subst hk
  unfold wwN
  by_cases h : o = -1
  · rw [if_pos h, if_pos h, if_neg (show ¬ (1 : Int32) = 0 by decide)]
  · rw [if_neg h, if_neg h, if_pos rfl, mould_eq hc hv, (mv_eq hc hv).1]
theorem zeroM (T : Nat → Int64) : ∃ T', iter fX11_heldUp_L89 FU (0, T) = some T' ∧ ∀ j, j < 10 → T' j = lN 0 := by
  obtain ⟨e, h1, h2⟩ := one_for (st := fX11_heldUp_L89) (fun m z => z.1 = nI m ∧ ∀ j, j < m → z.2 j = lN 0) (fun e => ∀ j, j < 10 → e j = lN 0) 10 (by omega)
    (fun m z hm hI => by
      obtain ⟨x, b⟩ := z
      obtain ⟨w1, w2⟩ := hI
      dsimp only at w1 w2
      subst w1
      unfold fX11_heldUp_L89
      dsimp only
      rw [if_neg (show ¬ (10 : Int32) ≤ nI m by rw [show (10 : Int32) = nI 10 from rfl, leN (by omega) (by omega)]; omega), gd_t (inbN (show m < 10 by omega) (by omega)), clN (show m < 2 ^ 31 by omega), nI1]
      refine ⟨_, rfl, rfl, fun j hj => ?_⟩
      show vp_updL b m 0 j = _
      rw [updL_eq]
      by_cases c : j = m
      · rw [if_pos c]; rfl
      · rw [if_neg c, w2 j (by omega)])
    (fun z hI => by
      obtain ⟨x, b⟩ := z
      obtain ⟨w1, w2⟩ := hI
      dsimp only at w1 w2
      subst w1
      unfold fX11_heldUp_L89
      dsimp only
      rw [if_pos (by decide)]
      exact ⟨_, rfl, w2⟩) (0, T) ⟨rfl, fun j hj => by omega⟩
  exact ⟨e, h1, h2⟩
theorem copyM (A B : Nat → Int64) : ∃ B', iter (fX11_heldUp_L191 A) FU (0, B) = some B' ∧ ∀ j, j < 10 → B' j = A j := by
  obtain ⟨e, h1, h2⟩ := one_for (st := fX11_heldUp_L191 A) (fun m z => z.1 = nI m ∧ ∀ j, j < m → z.2 j = A j) (fun e => ∀ j, j < 10 → e j = A j) 10 (by omega)
    (fun m z hm hI => by
      obtain ⟨x, b⟩ := z
      obtain ⟨w1, w2⟩ := hI
      dsimp only at w1 w2
      subst w1
      unfold fX11_heldUp_L191
      dsimp only
      rw [if_neg (show ¬ (10 : Int32) ≤ nI m by rw [show (10 : Int32) = nI 10 from rfl, leN (by omega) (by omega)]; omega), gd_t (inbN (show m < 10 by omega) (by omega)), clN (show m < 2 ^ 31 by omega), nI1]
      refine ⟨_, rfl, rfl, fun j hj => ?_⟩
      show vp_updL b m _ j = _
      rw [updL_eq]
      by_cases c : j = m
      · rw [if_pos c, c]
      · rw [if_neg c, w2 j (by omega)])
    (fun z hI => by
      obtain ⟨x, b⟩ := z
      obtain ⟨w1, w2⟩ := hI
      dsimp only at w1 w2
      subst w1
      unfold fX11_heldUp_L191
      dsimp only
      rw [if_pos (by decide)]
      exact ⟨_, rfl, w2⟩) (0, B) ⟨rfl, fun j hj => by omega⟩
  exact ⟨e, h1, h2⟩
theorem spreadM {c f t : Nat} (hc : c < 5) (hf : f < 10) (ht : t ≤ 10) {rows : Nat → Int32} (hk : rows (8 * f) = nI c) {z9 : Int32 × (Nat → Int64) × (Nat → Int64)} {a : Nat → Nat} (ha : RLn z9.2.1 a) {T : Nat → Int64} (hT : ∀ j, j < 10 → T j = lN 0) : ∃ T', iter (fX11_heldUp_L113 rows (nI f) (nI t) z9) FU (0, T) = some T' ∧ RLn T' (fun v => dsN (wwN c (rows (8 * f + 2))) t (10 - t) a v 10) := by
  obtain ⟨e, h1, h2⟩ := one_for (st := fX11_heldUp_L113 rows (nI f) (nI t) z9) (fun m z => z.1 = nI m ∧ ∀ j, j < 10 → z.2 j = lN (dsN (wwN c (rows (8 * f + 2))) t (10 - t) a j m)) (fun e => RLn e (fun v => dsN (wwN c (rows (8 * f + 2))) t (10 - t) a v 10)) 10 (by omega)
    (fun m z hm hI => by
      obtain ⟨x, b⟩ := z
      obtain ⟨w1, w2⟩ := hI
      dsimp only at w1 w2
      subst w1
      have hw := ww_lt hc (rows (8 * f + 2)) m hm
      unfold fX11_heldUp_L113
      dsimp only
      rw [if_neg (show ¬ (10 : Int32) ≤ nI m by rw [show (10 : Int32) = nI 10 from rfl, leN (by omega) (by omega)]; omega), m8N2, m8N0, clN (show 8 * f + 2 < 2 ^ 31 by omega), clN (show 8 * f < 2 ^ 31 by omega), dampM hc hk hm, gd_t (inbN hw (by omega)), gd_t (inbN (show m < 10 by omega) (by omega)), clN (show m < 2 ^ 31 by omega), clN (show wwN c (rows (8 * f + 2)) m < 2 ^ 31 by omega), nI1, tenN ht, nI_l (show t < 2 ^ 31 by omega), ha m hm, lN_mul, lN_mul]
      refine ⟨_, rfl, rfl, fun j hj => ?_⟩
      generalize wwN c (rows (8 * f + 2)) = w at hw w2 ⊢
      show (if j = m then (if m = w m then b (w m) + lN (a m * t) else b m) + lN (a m * (10 - t)) else (if j = w m then b (w m) + lN (a m * t) else b j)) = lN (dsN w t (10 - t) a j m + ((if w m = j then a m * t else 0) + (if m = j then a m * (10 - t) else 0)))
      by_cases e1 : j = m
      · subst e1
        by_cases e2 : w j = j
        · rw [if_pos rfl, if_pos e2.symm, if_pos e2, if_pos rfl, e2, w2 j hj, lN_add, lN_add, Nat.add_assoc]
        · rw [if_pos rfl, if_neg (fun k => e2 k.symm), if_neg e2, if_pos rfl, w2 j hj, lN_add, Nat.zero_add]
      · by_cases e2 : w m = j
        · rw [if_neg e1, if_pos e2.symm, if_pos e2, if_neg (fun k => e1 k.symm), e2, w2 j hj, lN_add, Nat.add_zero]
        · rw [if_neg e1, if_neg (fun k => e2 k.symm), if_neg e2, if_neg (fun k => e1 k.symm), w2 j hj]
          rfl)
    (fun z hI => by
      obtain ⟨x, b⟩ := z
      obtain ⟨w1, w2⟩ := hI
      dsimp only at w1 w2
      subst w1
      unfold fX11_heldUp_L113
      dsimp only
      rw [if_pos (by decide)]
      exact ⟨_, rfl, w2⟩) (0, T) ⟨rfl, hT⟩
  exact ⟨e, h1, h2⟩
theorem sumM {c f : Nat} (hc : c < 5) (hf : f < 10) {rows : Nat → Int32} (hk : rows (8 * f) = nI c) {a11 : (Nat → Int64) × (Nat → Int64)} {a : Nat → Nat} (ha : RLn a11.1 a) : iter (fX11_heldUp_L230 rows (nI f) a11) FU (0, 0) = some (lN (wuN (hvN c) a 10)) := by
  obtain ⟨e, h1, h2⟩ := one_for (st := fX11_heldUp_L230 rows (nI f) a11) (fun m z => z = (lN (wuN (hvN c) a m), nI m)) (fun e => e = lN (wuN (hvN c) a 10)) 10 (by omega)
    (fun m z hm hI => by
      subst hI
      obtain ⟨m1, m2⟩ := hv_eq hc hm
      unfold fX11_heldUp_L230
      dsimp only
      rw [if_neg (show ¬ (10 : Int32) ≤ nI m by rw [show (10 : Int32) = nI 10 from rfl, leN (by omega) (by omega)]; omega), m8N0, clN (show 8 * f < 2 ^ 31 by omega), hk, hand_eq hc hm, m1, gd_t (inbN (show m < 10 by omega) (by omega)), clN (show m < 2 ^ 31 by omega), nI1, ha m hm, nI_l (by omega), lN_mul, lN_add]
      exact ⟨_, rfl, rfl⟩)
    (fun z hI => by
      subst hI
      unfold fX11_heldUp_L230
      dsimp only
      rw [if_pos (by decide)]
      exact ⟨_, rfl, rfl⟩) (0, 0) rfl
  rw [h1, h2]
theorem heldM {c f t v0 m : Nat} (hc : c < 5) (hf : f < 10) (ht : t ≤ 10) (hv : v0 < 10) (hm : m < 1000) {rows : Nat → Int32} (hk : rows (8 * f) = nI c) (hl : rows (8 * f + 1) = nI v0) (pm rm td n bh bm rn sn km kb kc : Int32) (hh : Int64) (L0 T0 : Nat → Int64) : ∃ L T, fX11_heldUp pm rm td n bh bm rn sn km kb kc hh rows L0 T0 (nI f) (nI m) (nI t) = some (lN (wuN (hvN c) (pdN (wwN c (rows (8 * f + 2))) t (10 - t) v0 m) 10), L, T) := by
  unfold fX11_heldUp
  rw [m8N2, m8N0, gd_t (inbN (show 8 * f < 80 by omega) (by omega)), gd_t (inbN (show 8 * f + 2 < 80 by omega) (by omega))]
  obtain ⟨L1, a1, a2⟩ := one_for (st := fX11_heldUp_L36 rows (nI f)) (fun j z => z.1 = nI j ∧ ∀ i, i < j → z.2 i = lN (pdN (wwN c (rows (8 * f + 2))) t (10 - t) v0 0 i)) (fun e => RLn e (pdN (wwN c (rows (8 * f + 2))) t (10 - t) v0 0)) 10 (by omega)
    (fun j z hj hI => by
      obtain ⟨x, b⟩ := z
      obtain ⟨w1, w2⟩ := hI
      dsimp only at w1 w2
      subst w1
      unfold fX11_heldUp_L36
      dsimp only
      rw [if_neg (show ¬ (10 : Int32) ≤ nI j by rw [show (10 : Int32) = nI 10 from rfl, leN (by omega) (by omega)]; omega), m8N1, clN (show 8 * f + 1 < 2 ^ 31 by omega), hl, gd_t (inbN (show 8 * f + 1 < 80 by omega) (by omega)), gd_t (inbN (show j < 10 by omega) (by omega)), clN (show j < 2 ^ 31 by omega), nI1]
      refine ⟨_, rfl, rfl, fun i hi => ?_⟩
      show vp_updL b j _ i = lN (if i = v0 then 1 else 0)
      rw [updL_eq]
      have e : (nI j = nI v0) = (j = v0) := eqN (by omega) (by omega)
      by_cases c : i = j
      · subst c
        rw [if_pos rfl]
        by_cases c2 : i = v0
        · rw [if_pos (e.mpr c2), if_pos c2]; rfl
        · rw [if_neg (fun w => c2 (e.mp w)), if_neg c2]; rfl
      · rw [if_neg c]
        exact w2 i (by omega))
    (fun z hI => by
      obtain ⟨x, b⟩ := z
      obtain ⟨w1, w2⟩ := hI
      dsimp only at w1 w2
      subst w1
      unfold fX11_heldUp_L36
      dsimp only
      rw [if_pos (by decide)]
      exact ⟨_, rfl, w2⟩) (0, L0) ⟨rfl, fun j hj => by omega⟩
  rw [a1, bd_s]
  unfold fX11_heldUp_X36_77
  obtain ⟨e, b1, b2⟩ := one_for (st := fX11_heldUp_L80 rows (nI f) (nI m) (nI t)) (fun j z => z.1 = nI j ∧ RLn z.2.1 (pdN (wwN c (rows (8 * f + 2))) t (10 - t) v0 j)) (fun e => RLn e.1 (pdN (wwN c (rows (8 * f + 2))) t (10 - t) v0 m)) m (by omega)
    (fun j z hj hI => by
      obtain ⟨x, b, b'⟩ := z
      obtain ⟨w1, w2⟩ := hI
      dsimp only at w1 w2
      subst w1
      unfold fX11_heldUp_L80
      dsimp only
      have e : (nI m ≤ nI j) = (m ≤ j) := leN (by omega) (by omega)
      rw [if_neg (fun w => by have := e.mp w; omega)]
      obtain ⟨T1, c1, c2⟩ := zeroM b'
      rw [c1, bd_s]
      unfold fX11_heldUp_X89_110
      obtain ⟨T2, d1, d2⟩ := spreadM (z9 := (nI j, b, b')) hc hf ht hk w2 c2
      rw [d1, bd_s]
      unfold fX11_heldUp_X113_188
      dsimp only
      obtain ⟨B2, e1, e2⟩ := copyM T2 b
      rw [e1, bd_s]
      unfold fX11_heldUp_X191_218
      exact ⟨_, rfl, nI1 j, fun v hv => (e2 v hv).trans (d2 v hv)⟩)
    (fun z hI => by
      obtain ⟨x, b, b'⟩ := z
      obtain ⟨w1, w2⟩ := hI
      dsimp only at w1 w2
      subst w1
      unfold fX11_heldUp_L80
      dsimp only
      have e : (nI m ≤ nI m) = (m ≤ m) := leN (by omega) (by omega)
      rw [if_pos (e.mpr (Nat.le_refl m))]
      exact ⟨_, rfl, w2⟩) (0, L1, T0) ⟨rfl, a2⟩
  rw [b1, bd_s]
  unfold fX11_heldUp_X80_224
  rw [sumM hc hf hk b2, bd_s]
  exact ⟨_, _, rfl⟩
theorem powM {m : Nat} (hm : m < 1000) : fX11_power (nI m) = some (lN (10 ^ m)) := by
  unfold fX11_power
  obtain ⟨e, h1, h2⟩ := one_for (st := fX11_power_L4 (nI m)) (fun j z => z = (lN (10 ^ j), nI j)) (fun e => e = lN (10 ^ m)) m (by omega)
    (fun j z hj hI => by
      subst hI
      unfold fX11_power_L4
      dsimp only
      have e : (nI m ≤ nI j) = (m ≤ j) := leN (by omega) (by omega)
      rw [if_neg (fun w => by have := e.mp w; omega), p10N, nI1]
      exact ⟨_, rfl, rfl⟩)
    (fun z hI => by
      subst hI
      unfold fX11_power_L4
      dsimp only
      have e : (nI m ≤ nI m) = (m ≤ m) := leN (by omega) (by omega)
      rw [if_pos (e.mpr (Nat.le_refl m))]
      exact ⟨_, rfl, rfl⟩) (1, 0) rfl
  rw [h1, h2]
  rfl
