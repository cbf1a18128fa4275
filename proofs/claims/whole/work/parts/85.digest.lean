/-! the digest: fronds, debts -/
theorem sayN (pm rm td n bh bm rn sn km kb kc : Int32) (h v : Int64) : fX11_say pm rm td n bh bm rn sn km kb kc h v = some (31 * h + v) := rfl
theorem p1000 : (1000 : Int64) = lN (10 ^ 3) := by decide +kernel
theorem g_frond {k l o t rows : Nat → Int32} {n : Nat} (hC : RC k l o t rows) (hn : n ≤ 10) (bh bm : Int32) (kp pm rm td mb mc rn sn km kb kc : Int32) {f : Nat} (hf : f < n) (h0 : Int64) (ca : Int64) (ck ct : Int32) (cb : Nat → Int64) (ml mt : Nat → Int64) : ∃ (hA : Int64) (a : Int64) (b c : Int32) (q : Nat → Int64) (L T : Nat → Int64), fX10_withFronds_L5 kp (nI n) bh bm k l o t (h0, nI f, ca, ck, ct, cb) = some (Sum.inl (hA, nI (f + 1), a, b, c, q)) ∧ fX11_sayFrond pm rm td (nI n) mb mc rn sn km kb kc h0 rows ml mt (nI f) = some (hA, L, T) := by
  have hf10 : f < 10 := by omega
  obtain ⟨⟨c, hc, hkc⟩, ⟨v0, hv, hlv⟩, -⟩ := hC.2.2 f hf10
  obtain ⟨r1, r2, r3⟩ := hC.1 f hf10
  unfold fX10_withFronds_L5 fX11_sayFrond
  dsimp only
  have e : (nI n ≤ nI f) = (n ≤ f) := leN (by omega) (by omega)
  rw [if_neg (fun w => by have := e.mp w; omega)]
  obtain ⟨e1, e1', a1, a2, rfl⟩ := two_for (st := fX10_withFronds_L20 (nI n) bh bm k l o t (h0, nI f, ca, ck, ct, cb)) (st' := fX11_sayFrond_L2 pm rm td (nI n) mb mc rn sn km kb kc rows (nI f))
    (fun w z z' => z.1 = z'.2 ∧ z.2 = nI w ∧ z'.1 = nI w) (fun e e' => e = e') 8 (by omega)
    (fun w z z' hw hI => by
      obtain ⟨x, y⟩ := z
      obtain ⟨x', y'⟩ := z'
      obtain ⟨w1, w2, w3⟩ := hI
      dsimp only at w1 w2 w3
      subst w1 w2 w3
      unfold fX10_withFronds_L20 fX11_sayFrond_L2
      dsimp only
      obtain ⟨z, b1, b2⟩ := q_tell hC hn bh bm (nI n) kp pm rm td (nI n) mb mc rn sn km kb kc x hf hw
      rw [if_neg (show ¬ (7 : Int32) < nI w by rw [show (7 : Int32) = nI 7 from rfl, ltN (by omega) (by omega)]; omega), if_neg (show ¬ (8 : Int32) ≤ nI w by rw [show (8 : Int32) = nI 8 from rfl, leN (by omega) (by omega)]; omega), b1, b2, bd_s, bd_s, sayN, bd_s, nI1]
      exact ⟨_, _, rfl, rfl, rfl, rfl, rfl⟩)
    (fun z z' hI => by
      obtain ⟨x, y⟩ := z
      obtain ⟨x', y'⟩ := z'
      obtain ⟨w1, w2, w3⟩ := hI
      dsimp only at w1 w2 w3
      subst w1 w2 w3
      unfold fX10_withFronds_L20 fX11_sayFrond_L2
      dsimp only
      rw [if_pos (by decide), if_pos (by decide)]
      exact ⟨_, _, rfl, rfl, rfl⟩) (h0, 0) (0, h0) ⟨rfl, rfl, rfl⟩
  rw [a1, a2, bd_s, bd_s]
  unfold fX10_withFronds_X20_52 fX11_sayFrond_X2_25
  dsimp only
  obtain ⟨zx, b1, b2⟩ := meanX (o := o) (t := 5) hf10 hc hkc hv hlv (by omega) (show 3 < 10 by omega) kp (nI n) bh bm ca ck ct cb 0
  obtain ⟨zy, c1, c2⟩ := meanX (o := o) (t := 5) hf10 hc hkc hv hlv (by omega) (show 3 < 10 by omega) kp (nI n) bh bm zx.2.1 zx.2.2.1 zx.2.2.2.1 zx.2.2.2.2 1
  have hM := fun (hh : Int64) (L T : Nat → Int64) => heldM hc hf10 (show 5 ≤ 10 by omega) hv (show 3 < 1000 by omega) (r1.trans hkc) (r2.trans hlv) pm rm td (nI n) mb mc rn sn km kb kc hh L T
  rw [r3] at hM
  obtain ⟨L1, T1, m1⟩ := hM e1 ml mt
  rw [show (3 : Int32) = nI 3 from rfl, show (5 : Int32) = nI 5 from rfl, b1, bd_s, c1, bd_s, m1, bd_s]
  dsimp only
  rw [p1000, b2, bd_s, sayN, bd_s]
  obtain ⟨L2, T2, m2⟩ := hM (31 * e1 + zx.1) L1 T1
  rw [m2, bd_s]
  dsimp only
  rw [c2, bd_s, sayN, bd_s, nI1]
  exact ⟨_, _, _, _, _, _, _, rfl, rfl⟩
theorem g_fronds {k l o t rows : Nat → Int32} {n : Nat} (hC : RC k l o t rows) (hn : n ≤ 10) (bh bm : Int32) (kp pm rm td mb mc rn sn km kb kc : Int32) (ca : Int64) (ck ct : Int32) (cb : Nat → Int64) (ml mt : Nat → Int64) : ∃ (u1 : Int64 × Int64 × Int32 × Int32 × (Nat → Int64)) (L T : Nat → Int64), fX10_withFronds kp (nI n) bh bm k l o t ca ck ct cb 661 = some u1 ∧ iter (fX11_digest_L9 pm rm td (nI n) mb mc rn sn km kb kc rows) FU (0, 661, ml, mt) = some (u1.1, L, T) := by
  unfold fX10_withFronds
  obtain ⟨e, e', a1, a2, a3⟩ := two_for (st := fX10_withFronds_L5 kp (nI n) bh bm k l o t) (st' := fX11_digest_L9 pm rm td (nI n) mb mc rn sn km kb kc rows)
    (fun f z z' => z.1 = z'.2.1 ∧ z.2.1 = nI f ∧ z'.1 = nI f) (fun e e' => e.1 = e'.1) n (by omega)
    (fun f z z' hf hI => by
      obtain ⟨x, y, b1, b2, b3, b4⟩ := z
      obtain ⟨x', y', c1, c2⟩ := z'
      obtain ⟨w1, w2, w3⟩ := hI
      dsimp only at w1 w2 w3
      subst w1 w2 w3
      obtain ⟨hA, a, b, c, q, L, T, d1, d2⟩ := g_frond hC hn bh bm kp pm rm td mb mc rn sn km kb kc hf x b1 b2 b3 b4 c1 c2
      unfold fX11_digest_L9
      dsimp only
      have e : (nI n ≤ nI f) = (n ≤ f) := leN (by omega) (by omega)
      rw [d1, d2, if_neg (fun w => by have := e.mp w; omega), bd_s, nI1]
      exact ⟨_, _, rfl, rfl, rfl, rfl, rfl⟩)
    (fun z z' hI => by
      obtain ⟨x, y, b1, b2, b3, b4⟩ := z
      obtain ⟨x', y', c1, c2⟩ := z'
      obtain ⟨w1, w2, w3⟩ := hI
      dsimp only at w1 w2 w3
      subst w1 w2 w3
      unfold fX10_withFronds_L5 fX11_digest_L9
      dsimp only
      have e : (nI n ≤ nI n) = (n ≤ n) := leN (by omega) (by omega)
      rw [if_pos (e.mpr (Nat.le_refl n)), if_pos (e.mpr (Nat.le_refl n))]
      exact ⟨_, _, rfl, rfl, rfl⟩) (661, 0, ca, ck, ct, cb) (0, 661, ml, mt) ⟨rfl, rfl, rfl⟩
  obtain ⟨y', y2, y3⟩ := e'
  dsimp only at a3
  subst a3
  rw [a1, a2, bd_s]
  exact ⟨_, _, _, rfl, rfl⟩
def dhN (d : Nat → Int32) (h0 : Int64) : Nat → Int64
  | 0 => h0
  | k + 1 => if k / 6 = k % 6 then dhN d h0 k else 31 * dhN d h0 k + (d k).toInt64
theorem g_debtsX (d : Nat → Int32) (h0 : Int64) : iter (fX10_withDebts_L5 d) FU (h0, 0) = some (dhN d h0 36) := by
  obtain ⟨e, h1, h2⟩ := one_for (st := fX10_withDebts_L5 d) (fun a z => z = (dhN d h0 (6 * a), nI a)) (fun e => e = dhN d h0 36) 6 (by omega)
    (fun a z ha hI => by
      subst hI
      unfold fX10_withDebts_L5
      dsimp only
      rw [if_neg (show ¬ (6 : Int32) ≤ nI a by rw [show (6 : Int32) = nI 6 from rfl, leN (by omega) (by omega)]; omega)]
      obtain ⟨e, a1, a2⟩ := one_for (st := fX10_withDebts_L15 d (dhN d h0 (6 * a), nI a)) (fun b z => z = (dhN d h0 (6 * a + b), nI b)) (fun e => e = dhN d h0 (6 * a + 6)) 6 (by omega)
        (fun b z hb hI => by
          subst hI
          unfold fX10_withDebts_L15 fX10_withDebts_J51
          dsimp only
          have e : (nI a = nI b) = (a = b) := eqN (by omega) (by omega)
          have hs : dhN d h0 (6 * a + (b + 1)) = if (6 * a + b) / 6 = (6 * a + b) % 6 then dhN d h0 (6 * a + b) else 31 * dhN d h0 (6 * a + b) + (d (6 * a + b)).toInt64 := rfl
          rw [if_neg (show ¬ (6 : Int32) ≤ nI b by rw [show (6 : Int32) = nI 6 from rfl, leN (by omega) (by omega)]; omega), sumsN d ha hb, bd_s, nI1, hs]
          by_cases c : a = b
          · rw [if_pos (e.mpr c), if_pos (by omega)]; exact ⟨_, rfl, rfl⟩
          · rw [if_neg (fun w => c (e.mp w)), if_neg (by omega)]; exact ⟨_, rfl, rfl⟩)
        (fun z hI => by
          subst hI
          unfold fX10_withDebts_L15
          dsimp only
          rw [if_pos (by decide)]
          exact ⟨_, rfl, rfl⟩) (dhN d h0 (6 * a), 0) rfl
      rw [a1, a2, bd_s]
      unfold fX10_withDebts_X15_57
      dsimp only
      rw [nI1]
      exact ⟨_, rfl, rfl⟩)
    (fun z hI => by
      subst hI
      unfold fX10_withDebts_L5
      dsimp only
      rw [if_pos (by decide)]
      exact ⟨_, rfl, rfl⟩) (h0, 0) rfl
  rw [h1, h2]
theorem g_debtsM {d debts : Nat → Int32} (hD : RD d debts) (pm rm td n bh bm rn sn km kb kc : Int32) (h0 : Int64) : iter (fX11_digest_L30 pm rm td n bh bm rn sn km kb kc debts) FU (0, h0) = some (dhN d h0 36) := by
  obtain ⟨e, h1, h2⟩ := one_for (st := fX11_digest_L30 pm rm td n bh bm rn sn km kb kc debts) (fun k z => z = (nI k, dhN d h0 k)) (fun e => e = dhN d h0 36) 36 (by omega)
    (fun k z hk hI => by
      subst hI
      unfold fX11_digest_L30 fX11_digest_J58
      dsimp only
      have e : (nI (k / 6) = nI (k % 6)) = (k / 6 = k % 6) := eqN (by omega) (by omega)
      have hs : dhN d h0 (k + 1) = if k / 6 = k % 6 then dhN d h0 k else 31 * dhN d h0 k + (d k).toInt64 := rfl
      rw [if_neg (show ¬ (36 : Int32) ≤ nI k by rw [show (36 : Int32) = nI 36 from rfl, leN (by omega) (by omega)]; omega), rem6N (by omega), div6N (by omega), gd_t (inbN (show k < 36 by omega) (by omega)), clN (show k < 2 ^ 31 by omega), sayN, bd_s, nI1, hs, (hD k hk).1]
      by_cases c : k / 6 = k % 6
      · rw [if_pos (e.mpr c), if_pos c]; exact ⟨_, rfl, rfl⟩
      · rw [if_neg (fun w => c (e.mp w)), if_neg c]; exact ⟨_, rfl, rfl⟩)
    (fun z hI => by
      subst hI
      unfold fX11_digest_L30
      dsimp only
      rw [if_pos (by decide)]
      exact ⟨_, rfl, rfl⟩) (0, h0) rfl
  rw [h1, h2]
