/-! a hand, payments, the bank, mould -/
theorem iter_4a {S E : Type} {st : S → Option (S ⊕ E)} {s0 s1 s2 s3 : S} {e : E} (n : Nat) (h0 : st s0 = some (Sum.inl s1)) (h1 : st s1 = some (Sum.inl s2)) (h2 : st s2 = some (Sum.inl s3)) (h3 : st s3 = some (Sum.inr e)) : iter st (n + 4) s0 = some e := by
  rw [show n + 4 = (n + 3) + 1 from rfl, iter_succ, h0]
  show iter st (n + 3) s1 = _
  rw [show n + 3 = (n + 2) + 1 from rfl, iter_succ, h1]
  show iter st (n + 2) s2 = _
  rw [show n + 2 = (n + 1) + 1 from rfl, iter_succ, h2]
  show iter st (n + 1) s3 = _
  rw [iter_succ, h3]
  rfl
theorem FU4 : FU = 99996 + 4 := rfl
theorem iter_4 {S E : Type} {st : S → Option (S ⊕ E)} {s0 s1 s2 s3 : S} {e : E} (h0 : st s0 = some (Sum.inl s1)) (h1 : st s1 = some (Sum.inl s2)) (h2 : st s2 = some (Sum.inl s3)) (h3 : st s3 = some (Sum.inr e)) : iter st FU s0 = some e := by
  rw [FU4]
  exact iter_4a _ h0 h1 h2 h3
theorem m4N (i : Nat) : (nI i * 4 : Int32) = nI (4 * i) := by
  rw [show (4 : Int32) = nI 4 from rfl, mulL, Nat.mul_comm]
/-- tears of frond f behind a hand of 'from' -/
def tornT (t : Nat → Int32) (f : Nat) (from_ : Int32) : Nat → Int32 := upd (upd (upd (upd t (4 * f + 3) (t (4 * f + 2))) (4 * f + 2) (t (4 * f + 1))) (4 * f + 1) (t (4 * f))) (4 * f) from_
theorem tearOffN (sz bh bm : Int32) (t : Nat → Int32) {f : Nat} (hf : f < 10) (fr0 : Int32) : fX4_tearOff sz bh bm t (nI f) fr0 = some (tornT t f fr0) := by
  unfold fX4_tearOff
  have step : ∀ (i : Nat) (T : Nat → Int32), 1 ≤ i → i ≤ 3 → fX4_tearOff_L7 (nI f) (nI i, T) = some (Sum.inl (nI (i - 1), upd T (4 * f + i) (T (4 * f + (i - 1))))) := by
    intro i T h1 h3
    unfold fX4_tearOff_L7
    show (if nI i ≤ 0 then _ else _) = _
    rw [if_neg (nI_nle (by omega) (by omega)), m4N, nI_add, show (nI (4 * f + i) - 1) = nI (4 * f + (i - 1)) by rw [show (1 : Int32) = nI 1 from rfl, subN (by omega)]; congr 1; omega, gd_t (inbN (by omega) (by omega)), gd_t (inbN (by omega) (by omega)), clN (by omega), clN (by omega)]
    show some (Sum.inl (nI i + (-1), _)) = _
    rw [show nI i + (-1) = nI (i - 1) by rw [show i = (i - 1) + 1 by omega, pk_m1]; rfl]
  have hend : ∀ T : Nat → Int32, fX4_tearOff_L7 (nI f) (nI 0, T) = some (Sum.inr T) := fun T => by
    unfold fX4_tearOff_L7
    show (if nI 0 ≤ 0 then _ else _) = _
    exact if_pos (by decide)
  rw [show (3 : Int32) = nI 3 from rfl, iter_4 (step 3 t (by omega) (by omega)) (step 2 _ (by omega) (by omega)) (step 1 _ (by omega) (by omega)) (hend _)]
  show fX4_tearOff_X7_38 (nI f) fr0 _ = _
  unfold fX4_tearOff_X7_38
  rw [m4N, gd_t (inbN (by omega) (by omega)), clN (by omega)]
  congr 1
  funext q
  simp only [tornT, upd_eq, if_true]
  repeat' split
  all_goals first | rfl | omega
def handM (rows : Nat → Int32) (f : Nat) (w to : Int32) : Nat → Int32 := upd (upd (upd (upd (upd (upd rows (8 * f + 1) w) (8 * f + 7) (rows (8 * f + 6))) (8 * f + 6) (rows (8 * f + 5))) (8 * f + 5) (rows (8 * f + 4))) (8 * f + 4) (rows (8 * f + 2))) (8 * f + 2) to
theorem handMN (a b c d e f' g i j k m : Int32) (h : Int64) (rows : Nat → Int32) {f : Nat} (hf : f < 10) (to : Int32) : fX11_hand a b c d e f' g i j k m h rows (nI f) to = some (rows (8 * f + 1) - fX11_byHand (rows (8 * f)) (rows (8 * f + 1)), handM rows f (fX11_byHand (rows (8 * f)) (rows (8 * f + 1))) to) := by
  unfold fX11_hand
  rw [m8N1, gd_t (inbN (by omega) (by omega)), clN (by omega), worthM _ _ _ _ _ _ _ _ _ _ _ _ _ hf]
  show (iter (fX11_hand_L32 (nI f)) FU (7, upd rows (8 * f + 1) _)).bind _ = _
  generalize fX11_byHand (rows (8 * f)) (rows (8 * f + 1)) = w
  have step : ∀ (i : Nat) (T : Nat → Int32), 5 ≤ i → i ≤ 7 → fX11_hand_L32 (nI f) (nI i, T) = some (Sum.inl (nI (i - 1), upd T (8 * f + i) (T (8 * f + (i - 1))))) := by
    intro i T h1 h3
    unfold fX11_hand_L32
    show (if nI i ≤ nI 4 then _ else _) = _
    rw [if_neg (by rw [leN (by omega) (by omega)]; omega), m8N, show (nI (8 * f + i) - 1) = nI (8 * f + (i - 1)) by rw [show (1 : Int32) = nI 1 from rfl, subN (by omega)]; congr 1; omega, gd_t (inbN (by omega) (by omega)), gd_t (inbN (by omega) (by omega)), clN (by omega), clN (by omega)]
    show some (Sum.inl (nI i + (-1), _)) = _
    rw [show nI i + (-1) = nI (i - 1) by rw [show i = (i - 1) + 1 by omega, pk_m1]; rfl]
  have hend : ∀ T : Nat → Int32, fX11_hand_L32 (nI f) (nI 4, T) = some (Sum.inr T) := fun T => by
    unfold fX11_hand_L32
    show (if nI 4 ≤ 4 then _ else _) = _
    exact if_pos (by decide)
  rw [show (7 : Int32) = nI 7 from rfl, iter_4 (step 7 _ (by omega) (by omega)) (step 6 _ (by omega) (by omega)) (step 5 _ (by omega) (by omega)) (hend _)]
  show fX11_hand_X32_64 rows (nI f) to _ = _
  unfold fX11_hand_X32_64
  rw [m8N1, m8N2, m8N4, gd_t (inbN (by omega) (by omega)), gd_t (inbN (by omega) (by omega)), clN (by omega), clN (by omega), clN (by omega)]
  congr 2
  · congr 1
    simp only [upd_eq, if_true]
    repeat' split
    all_goals first | rfl | omega
  · funext q
    simp only [handM, upd_eq, if_true]
    repeat' split
    all_goals first | rfl | omega
/-- a hand on both sides -/
theorem RC_hand {k l o t rows : Nat → Int32} (h : RC k l o t rows) {f : Nat} (hf : f < 10) {w : Nat} (hw : w < 10) {to : Int32} (hto : to = -1 ∨ ∃ c : Nat, c < 6 ∧ to = nI c) : RC k (upd l f (nI w)) (upd o f to) (tornT t f (o f)) (handM rows f (nI w) to) := by
  obtain ⟨hrows, htears, hrng⟩ := h
  obtain ⟨f1, f2, f3⟩ := hrows f hf
  have t0 := htears f 0 hf (by omega)
  have t1 := htears f 1 hf (by omega)
  have t2 := htears f 2 hf (by omega)
  refine ⟨fun g hg => ?_, fun g j hg hj => ?_, fun g hg => ?_⟩
  · obtain ⟨g1, g2, g3⟩ := hrows g hg
    simp only [handM, upd_eq]
    refine ⟨?_, ?_, ?_⟩
    · repeat' split
      all_goals first | exact g1 | omega
    · repeat' split
      all_goals first | rfl | exact g2 | omega
    · repeat' split
      all_goals first | rfl | exact g3 | omega
  · have hg0 := htears g j hg hj
    by_cases e : g = f
    · subst e
      simp only [handM, tornT, upd_eq]
      rcases (show j = 0 ∨ j = 1 ∨ j = 2 ∨ j = 3 by omega) with rfl | rfl | rfl | rfl
      · repeat' split
        all_goals first | exact f3 | omega
      · repeat' split
        all_goals first | exact t0 | omega
      · repeat' split
        all_goals first | exact t1 | omega
      · repeat' split
        all_goals first | exact t2 | omega
    · simp only [handM, tornT, upd_eq]
      repeat' split
      all_goals first | exact hg0 | omega
  · obtain ⟨a1, a2, a3⟩ := hrng g hg
    refine ⟨a1, ?_, ?_⟩
    · rw [upd_eq]
      by_cases e : g = f
      · rw [if_pos e]; exact ⟨w, hw, rfl⟩
      · rw [if_neg e]; exact a2
    · rw [upd_eq]
      by_cases e : g = f
      · rw [if_pos e]; exact hto
      · rw [if_neg e]; exact a3
theorem goByHandN (sz bh bm : Int32) (k l o t : Nat → Int32) {f : Nat} (hf : f < 10) (to : Int32) : fX4_goByHand sz bh bm k l o t (nI f) to = some (fX5_behindHand (k f) (l f), bh + (l f - fX5_behindHand (k f) (l f)), upd l f (fX5_behindHand (k f) (l f)), upd o f to, tornT t f (o f)) := by
  unfold fX4_goByHand
  rw [worthX _ _ _ _ _ hf]
  show gd (inb (nI f) 10) _ = _
  rw [gd_t (inbN hf (by omega)), clN (by omega), tearOffN _ _ _ _ hf]
  rfl
/-- a hand on both sides, with what each answers -/
theorem q_hand {k l o t rows : Nat → Int32} (hC : RC k l o t rows) {f : Nat} (hf : f < 10) {to : Int32} (hto : to = -1 ∨ ∃ c : Nat, c < 6 ∧ to = nI c) : ∃ w : Nat, w < 10 ∧ fX5_behindHand (k f) (l f) = nI w ∧ RC k (upd l f (nI w)) (upd o f to) (tornT t f (o f)) (handM rows f (nI w) to) ∧ (∀ sz bh bm : Int32, fX4_goByHand sz bh bm k l o t (nI f) to = some (nI w, bh + (l f - nI w), upd l f (nI w), upd o f to, tornT t f (o f))) ∧ (∀ (a b c d e f' g i j k' m : Int32) (h : Int64), fX11_hand a b c d e f' g i j k' m h rows (nI f) to = some (l f - nI w, handM rows f (nI w) to)) ∧ handM rows f (nI w) to (8 * f + 1) = nI w := by
  obtain ⟨r1, r2, r3⟩ := hC.1 f hf
  obtain ⟨⟨ck, hck, ek⟩, ⟨cl, hcl, el⟩, -⟩ := hC.2.2 f hf
  obtain ⟨w, hw, -, ew⟩ := hand_lt hck hcl
  refine ⟨w, hw, by rw [ek, el, ew], RC_hand hC hf hw hto, fun sz bh bm => ?_, fun a b c d e f' g i j k' m h => ?_, ?_⟩
  · rw [goByHandN _ _ _ _ _ _ _ hf, ek, el, ew]
  · rw [handMN _ _ _ _ _ _ _ _ _ _ _ _ _ hf, r1, r2, ek, el, hand_eq hck hcl, ew]
  · simp only [handM, upd_eq, if_true]
    repeat' split
    all_goals first | rfl | omega
