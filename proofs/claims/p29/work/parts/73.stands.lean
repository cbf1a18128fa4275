/-! all that is told of it stands -/
def cntB (o : Nat → Int32) : Nat → Int32
  | 0 => 0
  | i + 1 => cntB o i + (if o i = -1 then 1 else 0)
theorem leafX {n : Nat} (hn : n ≤ 10) (bh bm : Int32) (l : Nat → Int32) : fX4_leafletsOfAll (nI n) bh bm l = some (sumL l n) := by
  unfold fX4_leafletsOfAll
  have h := iter_for (st := fX4_leafletsOfAll_L4 (nI n) l) (fun i => (sumL l i, nI i)) n (sumL l n) (0, 0) rfl (by omega) (fun i hi => by
    unfold fX4_leafletsOfAll_L4
    dsimp only
    rw [if_neg (by rw [leN (by omega) (by omega)]; omega), gd_t (inbN (by omega) (by omega)), clN (by omega), nI1]
    rfl) (by
    unfold fX4_leafletsOfAll_L4
    dsimp only
    rw [if_pos (by rw [leN (by omega) (by omega)]; omega)])
  rw [h]
  rfl
theorem bankX {n : Nat} (hn : n ≤ 10) (bh bm : Int32) (o : Nat → Int32) : fX4_frondsAtBank (nI n) bh bm o = some (cntB o n) := by
  unfold fX4_frondsAtBank
  have h := iter_for (st := fX4_frondsAtBank_L4 (nI n) bh bm o) (fun i => (cntB o i, nI i)) n (cntB o n) (0, 0) rfl (by omega) (fun i hi => by
    unfold fX4_frondsAtBank_L4
    dsimp only
    rw [if_neg (by rw [leN (by omega) (by omega)]; omega), bankN _ _ _ _ (show i < 10 by omega), bd_s, nI1]
    show some (Sum.inl ((if (if o i = -1 then 1 else 0 : Int32) = 0 then cntB o i else cntB o i + 1), nI (i + 1))) = some (Sum.inl (cntB o i + (if o i = -1 then 1 else 0), nI (i + 1)))
    by_cases hb : o i = -1
    · rw [if_pos hb, if_neg (show ¬ (1 : Int32) = 0 by decide)]
    · rw [if_neg hb, if_pos rfl, Int32.add_zero]) (by
    unfold fX4_frondsAtBank_L4
    dsimp only
    rw [if_pos (by rw [leN (by omega) (by omega)]; omega)])
  rw [h]
  rfl
theorem totalX (d : Nat → Int32) : fX1_total d = some (sumL d 36) := by
  unfold fX1_total
  have h := iter_for (st := fX1_total_L13 d) (fun i => (sumL d i, nI i)) 36 (sumL d 36) (0, 0) rfl (by omega) (fun i hi => by
    unfold fX1_total_L13
    dsimp only
    rw [if_neg (show ¬ (36 : Int32) ≤ nI i by rw [show (36 : Int32) = nI 36 from rfl, leN (by omega) (by omega)]; omega), gd_t (inbN (by omega) (by omega)), clN (by omega), nI1]
    rfl) (by
    unfold fX1_total_L13
    dsimp only
    rw [if_pos (by decide)])
  rw [h]
  rfl
theorem sumL_same {l m : Nat → Int32} : ∀ n : Nat, (∀ i : Nat, i < n → l i = m i) → sumL l n = sumL m n
  | 0, _ => rfl
  | n + 1, h => by
    show sumL l n + l n = sumL m n + m n
    rw [sumL_same n (fun i hi => h i (by omega)), h n (by omega)]
theorem person_t {a : Nat} (h : a < 6) : ¬ fX10_isPerson (nI a) = 0 := by
  unfold fX10_isPerson
  exact within_iff.mpr ⟨nI_le (a := 0) (Nat.zero_le _) (by omega), nI_le (b := 5) (by omega) (by omega)⟩
theorem owesX (kp sz bh bm : Int32) (dd : Nat → Int32) {a b : Nat} (ha : a < 6) (hb : b < 6) : fX10_owes kp sz bh bm dd (nI a) (nI b) = some (if a = b then -101 else dd (6 * a + b)) := by
  unfold fX10_owes fX10_areTwo
  have e : (nI a = nI b) = (a = b) := eqN (by omega) (by omega)
  rw [if_neg (person_t ha), if_neg (person_t hb)]
  by_cases h : a = b
  · rw [if_pos (e.mpr h), if_pos rfl, if_pos h]
  · rw [if_neg (fun q => h (e.mp q)), if_neg (show ¬ (1 : Int32) = 0 by decide), sumsN _ ha hb, if_neg h]
    rfl
theorem standsIn {n : Nat} (hn : n ≤ 10) (kp bh bm : Int32) {k l o t r : Nat → Int32} (hT : ∀ i : Nat, i < 40 → r i = t i) {i : Nat} (hi : i < n) {z1 : Int32 × Int32 × Int32} (hz : z1.2.2 = nI i) : iter (fL_stands_L98 40 kp (nI n) bh bm k l o t r z1) FU 0 = some (Sum.inr ()) := by
  refine iter_for (fun j => nI j) 4 (Sum.inr ()) 0 rfl (by omega) (fun j hj => ?_) ?_
  · show fL_stands_L98 40 kp (nI n) bh bm k l o t r z1 (nI j) = some (Sum.inl (nI (j + 1)))
    unfold fL_stands_L98
    have ha := aboutX hn kp bh bm k l o t hi (w := 4 + j) (by omega)
    rw [if_neg (by omega), if_neg (by omega), if_neg (by omega), if_neg (by omega), show 4 + j - 4 = j by omega] at ha
    rw [hz, if_neg (show ¬ (4 : Int32) ≤ nI j by rw [show (4 : Int32) = nI 4 from rfl, leN (by omega) (by omega)]; omega), show (4 + nI j : Int32) = nI (4 + j) from nI_add 4 j, ha, bd_s, m4L, nI_add, gd_t (inbN (by omega) (by omega)), clN (by omega), hT _ (by omega), if_pos rfl, nI1]
  · show fL_stands_L98 40 kp (nI n) bh bm k l o t r z1 (nI 4) = some (Sum.inr (Sum.inr ()))
    unfold fL_stands_L98
    exact if_pos (by decide)
theorem standsOne {n : Nat} {k l o t dd d r w : Nat → Int32} {bh bm : Int32} (h : R29 n k l o t dd d r w bh bm) (kp : Int32) : iter (fL_stands_L9 33 40 kp (nI n) bh bm k l o t d r) FU (0, 0, 0) = some (Sum.inr (Sum.inr (sumL l n, cntB o n))) := by
  obtain ⟨⟨hn, h0, hV, hG⟩, h31, h32, hT, hD⟩ := h
  refine iter_for (fun i => (sumL l i, cntB o i, nI i)) n _ _ rfl (by omega) (fun i hi => ?_) ?_
  · obtain ⟨v1, v2, v3⟩ := hV i (by omega)
    obtain ⟨c, v, q, hc, hv, hq, hqv, ek, el, ew, ew'⟩ := RG_at hG (show i < 10 by omega)
    have a0 : fX10_about kp (nI n) bh bm k l o t (nI i) 0 = some (k i) := aboutX hn kp bh bm k l o t hi (w := 0) (by omega)
    have a1 : fX10_about kp (nI n) bh bm k l o t (nI i) 1 = some (l i) := aboutX hn kp bh bm k l o t hi (w := 1) (by omega)
    have a2 : fX10_about kp (nI n) bh bm k l o t (nI i) 2 = some (o i) := aboutX hn kp bh bm k l o t hi (w := 2) (by omega)
    have a3 : fX10_about kp (nI n) bh bm k l o t (nI i) 3 = some (fX5_behindHand (k i) (l i)) := aboutX hn kp bh bm k l o t hi (w := 3) (by omega)
    show fL_stands_L9 33 40 kp (nI n) bh bm k l o t d r (sumL l i, cntB o i, nI i) = some (Sum.inl (sumL l (i + 1), cntB o (i + 1), nI (i + 1)))
    unfold fL_stands_L9
    rw [standsIn hn kp bh bm (k := k) (l := l) (o := o) hT hi rfl]
    simp only [c00, h0]
    rw [gd_t (show inb 0 33 = true by decide), if_neg (by rw [leN (by omega) (by omega)]; omega), a0, bd_s, a1N, gd_t (inbN (by omega) (by omega)), clN (by omega), v1, if_pos rfl, a1, bd_s, a11N, gd_t (inbN (by omega) (by omega)), clN (by omega), v2, if_pos rfl, a2, bd_s, a21N, gd_t (inbN (by omega) (by omega)), clN (by omega), v3, if_pos rfl, a3, bd_s, ew, ew', if_pos rfl, bd_s]
    show fL_stands_X98_134 d (sumL l i, cntB o i, nI i) () = _
    unfold fL_stands_X98_134
    dsimp only
    rw [a11N, a21N, clN (by omega), clN (by omega), v2, v3, nI1]
    show some (Sum.inl (sumL l i + l i, cntB o i + (if 0 ≤ o i then 0 else 1), nI (i + 1))) = some (Sum.inl (sumL l i + l i, cntB o i + (if o i = -1 then 1 else 0), nI (i + 1)))
    by_cases hb : o i = -1
    · rw [if_pos hb, if_neg (by rw [hb]; decide)]
    · obtain ⟨p, hp, ep⟩ := (hG i (by omega)).2.2.resolve_left hb
      rw [if_neg hb, if_pos (by rw [ep]; exact nI_pos' (by omega))]
  · show fL_stands_L9 33 40 kp (nI n) bh bm k l o t d r (sumL l n, cntB o n, nI n) = some (Sum.inr (Sum.inr (Sum.inr (sumL l n, cntB o n))))
    unfold fL_stands_L9
    simp only [c00, h0]
    rw [gd_t (show inb 0 33 = true by decide), if_pos (by rw [leN (by omega) (by omega)]; omega)]
theorem standsTwo (kp sz bh bm : Int32) {dd w : Nat → Int32} (hD : RD dd w) : iter (fL_stands_L178 36 kp sz bh bm dd w) FU (0, 0) = some (Sum.inr (sumL w 36)) := by
  refine iter_for (fun a => (sumL w (6 * a), nI a)) 6 (Sum.inr (sumL w 36)) (0, 0) rfl (by omega) (fun a ha => ?_) ?_
  · have hin : iter (fL_stands_L188 36 kp sz bh bm dd w (sumL w (6 * a), nI a)) FU (sumL w (6 * a), 0) = some (Sum.inr (sumL w (6 * a + 6))) := by
      refine iter_for (fun b => (sumL w (6 * a + b), nI b)) 6 _ _ rfl (by omega) (fun b hb => ?_) ?_
      · show fL_stands_L188 36 kp sz bh bm dd w (sumL w (6 * a), nI a) (sumL w (6 * a + b), nI b) = some (Sum.inl (sumL w (6 * a + b) + w (6 * a + b), nI (b + 1)))
        unfold fL_stands_L188 fL_stands_J225
        dsimp only
        have e : (nI a = nI b) = (a = b) := eqN (by omega) (by omega)
        rw [if_neg (show ¬ (6 : Int32) ≤ nI b by rw [show (6 : Int32) = nI 6 from rfl, leN (by omega) (by omega)]; omega), owesX kp sz bh bm dd ha hb, bd_s, m6N, clN (by omega), nI1]
        by_cases h : a = b
        · rw [if_pos (e.mpr h), if_pos h, if_pos rfl, gd_t (inbN (by omega) (by omega))]
        · rw [if_neg (fun q => h (e.mp q)), if_neg h, gd_t (inbN (by omega) (by omega)), (hD _ (by omega)).1, if_pos rfl, gd_t (inbN (by omega) (by omega))]
      · show fL_stands_L188 36 kp sz bh bm dd w (sumL w (6 * a), nI a) (sumL w (6 * a + 6), nI 6) = _
        unfold fL_stands_L188
        exact if_pos (show (6 : Int32) ≤ nI 6 by decide)
    show fL_stands_L178 36 kp sz bh bm dd w (sumL w (6 * a), nI a) = some (Sum.inl (sumL w (6 * a + 6), nI (a + 1)))
    unfold fL_stands_L178
    dsimp only
    rw [if_neg (show ¬ (6 : Int32) ≤ nI a by rw [show (6 : Int32) = nI 6 from rfl, leN (by omega) (by omega)]; omega), hin, bd_s]
    show some (Sum.inl (sumL w (6 * a + 6), nI a + 1)) = _
    rw [nI1]
  · show fL_stands_L178 36 kp sz bh bm dd w (sumL w 36, nI 6) = _
    unfold fL_stands_L178
    exact if_pos (show (6 : Int32) ≤ nI 6 by decide)
theorem standsN {n : Nat} {k l o t dd d r w : Nat → Int32} {bh bm : Int32} (h : R29 n k l o t dd d r w bh bm) (kp ps : Int32) : fL_stands 33 40 36 kp (nI n) bh bm k l o t dd ps d r w = some 1 := by
  have h1 := standsOne h kp
  obtain ⟨⟨hn, h0, hV, hG⟩, h31, h32, hT, hD⟩ := h
  have c0 : fX10_count kp (nI n) bh bm l o dd ps 0 = some (nI n) := rfl
  have c1 : fX10_count kp (nI n) bh bm l o dd ps 1 = some (sumL l n) := by
    unfold fX10_count
    rw [if_neg (by decide), if_pos rfl, leafX hn]
    rfl
  have c2 : fX10_count kp (nI n) bh bm l o dd ps 2 = some bh := rfl
  have c3 : fX10_count kp (nI n) bh bm l o dd ps 3 = some bm := rfl
  have c4 : fX10_count kp (nI n) bh bm l o dd ps 4 = some (cntB o n) := by
    unfold fX10_count
    rw [if_neg (by decide), if_neg (by decide), if_neg (by decide), if_neg (by decide), if_pos rfl, bankX hn]
    rfl
  have c6 : fX10_count kp (nI n) bh bm l o dd ps 6 = some (sumL w 36) := by
    unfold fX10_count
    rw [if_neg (by decide), if_neg (by decide), if_neg (by decide), if_neg (by decide), if_neg (by decide), if_neg (by decide), if_pos rfl, totalX, bd_s]
    exact congrArg some (sumL_same 36 (fun i hi => ((hD i hi).1).symm))
  unfold fL_stands
  rw [h1, bd_s]
  show fL_stands_X9_172 33 36 kp (nI n) bh bm l o dd ps d w (sumL l n, cntB o n) = some 1
  unfold fL_stands_X9_172
  rw [standsTwo kp (nI n) bh bm hD, bd_s]
  show fL_stands_X178_257 33 kp (nI n) bh bm l o dd ps d (sumL l n, cntB o n) (sumL w 36) = some 1
  unfold fL_stands_X178_257
  simp only [c00, c31, c32]
  rw [c0, bd_s, gd_t (by decide), h0, if_pos rfl, c1, bd_s, if_pos rfl, c2, bd_s, gd_t (by decide), h31, if_pos rfl, c3, bd_s, gd_t (by decide), h32, if_pos rfl, c4, bd_s, if_pos rfl, c6, bd_s, if_pos rfl]
