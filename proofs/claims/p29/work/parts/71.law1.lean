/-! the law's small functions; what class and law hold alike -/
theorem c00 : (0 : Int32).toNatClampNeg = 0 := by decide
theorem c31 : (31 : Int32).toNatClampNeg = 31 := by decide
theorem c32 : (32 : Int32).toNatClampNeg = 32 := by decide
theorem a1N (f : Nat) : (1 + nI f : Int32) = nI (1 + f) := nI_add 1 f
theorem a11N (f : Nat) : (11 + nI f : Int32) = nI (11 + f) := nI_add 11 f
theorem a21N (f : Nat) : (21 + nI f : Int32) = nI (21 + f) := nI_add 21 f
theorem m4L (f : Nat) : (4 * nI f : Int32) = nI (4 * f) := mulL 4 f
theorem m6L (f : Nat) : (6 * nI f : Int32) = nI (6 * f) := mulL 6 f
theorem handL : ∀ c : Fin 5, ∀ v : Fin 10, fL_hand (nI c.val) (nI v.val) = fX5_behindHand (nI c.val) (nI v.val) := by decide +kernel
theorem dampL : ∀ c : Fin 5, ∀ v : Fin 10, fL_damp (nI c.val) (nI v.val) = fX5_behindDamp (nI c.val) (nI v.val) := by decide +kernel
theorem ushrN (x : Int32) : ∃ u : Nat, u < 2 ^ 31 ∧ ((x : Int32).toUInt32 >>> ((1 : Int32).toUInt32 &&& Int32.toUInt32 31)).toInt32 = nI u := by
  have h := x.toUInt32.toNat_lt
  refine ⟨x.toUInt32.toNat / 2, by omega, ?_⟩
  apply Int32.toBitVec_inj.mp
  apply BitVec.eq_of_toNat_eq
  show (x.toUInt32 >>> ((1 : Int32).toUInt32 &&& Int32.toUInt32 31)).toNat = (BitVec.ofNat 32 (x.toUInt32.toNat / 2)).toNat
  rw [UInt32.toNat_shiftRight, show ((1 : Int32).toUInt32 &&& Int32.toUInt32 31).toNat % 32 = 1 from by decide, Nat.shiftRight_eq_div_pow, BitVec.toNat_ofNat, Nat.mod_eq_of_lt (by omega)]
theorem atN (x : Int32) {m : Nat} (h0 : 0 < m) (hm : m < 1000) : ∃ j : Nat, j < m ∧ fL_at x (nI m) = some (nI j) := by
  obtain ⟨u, hu, e⟩ := ushrN x
  refine ⟨u % m, Nat.mod_lt _ h0, ?_⟩
  unfold fL_at
  rw [e, pk_rem hu h0 (by omega)]
  exact gd_t (decide_eq_true (nI_ne0 h0 (by omega)))
theorem cellN {Ls : Nat} (hL : Ls ≤ 260) (xs : Nat → Int32) {i : Nat} (hi : i < 2 ^ 31) : ∃ v : Int32, fL_cell Ls xs (nI i) = some v := by
  unfold fL_cell
  by_cases h : (Int32.ofNat Ls) ≤ nI i
  · exact ⟨_, if_pos h⟩
  · have h' : ¬ nI Ls ≤ nI i := h
    rw [leN (by omega) hi] at h'
    exact ⟨_, (if_neg h).trans (gd_t (inbN (by omega) (by omega)))⟩
theorem afterN {q : Nat} (h : q < 2 ^ 31) : fL_after (lN q) = some (lN (nextS q)) := by
  unfold fL_after
  rw [show (1103515245 : Int64) = lN 1103515245 from rfl, lN_mul, show (12345 : Int64) = lN 12345 from rfl, lN_add, show (2147483648 : Int64) = lN 2147483648 from rfl, pk_lRem (by omega) (by omega) (by omega)]
  unfold nextS
  rw [Nat.mul_comm]
def RV (k l o d : Nat → Int32) : Prop := ∀ f : Nat, f < 10 → d (1 + f) = k f ∧ d (11 + f) = l f ∧ d (21 + f) = o f
/-- fronds alike -/
def RW (n : Nat) (k l o d : Nat → Int32) : Prop := n ≤ 10 ∧ d 0 = nI n ∧ RV k l o d ∧ RG k l o
def R29 (n : Nat) (k l o t dd d r w : Nat → Int32) (bh bm : Int32) : Prop := RW n k l o d ∧ d 31 = bh ∧ d 32 = bm ∧ (∀ i : Nat, i < 40 → r i = t i) ∧ RD dd w
def sumL (l : Nat → Int32) : Nat → Int32
  | 0 => 0
  | n + 1 => sumL l n + l n
theorem sumL_far (l : Nat → Int32) (f : Nat) (v : Int32) : ∀ n : Nat, n ≤ f → sumL (upd l f v) n = sumL l n
  | 0, _ => rfl
  | n + 1, h => by
    show sumL (upd l f v) n + upd l f v n = sumL l n + l n
    rw [sumL_far l f v n (by omega), upd_eq, if_neg (by omega)]
theorem sumL_upd (l : Nat → Int32) (f : Nat) (v : Int32) : ∀ n : Nat, f < n → sumL (upd l f v) n = sumL l n + (v - l f)
  | 0, h => absurd h (Nat.not_lt_zero _)
  | n + 1, h => by
    show sumL (upd l f v) n + upd l f v n = sumL l n + l n + (v - l f)
    by_cases e : f = n
    · subst e
      rw [sumL_far l f v f (Nat.le_refl _), upd_eq, if_pos rfl]
      grind
    · rw [sumL_upd l f v n (by omega), upd_eq, if_neg (by omega)]
      grind
/-- a frond's numbers -/
theorem RG_at {k l o : Nat → Int32} (h : RG k l o) {f : Nat} (hf : f < 10) : ∃ c v w : Nat, c < 5 ∧ v < 10 ∧ w < 10 ∧ w ≤ v ∧ k f = nI c ∧ l f = nI v ∧ fX5_behindHand (k f) (l f) = nI w ∧ fL_hand (k f) (l f) = nI w := by
  obtain ⟨⟨c, hc, ek⟩, ⟨v, hv, el⟩, -⟩ := h f hf
  obtain ⟨w, hw, hwv, ew⟩ := hand_lt hc hv
  refine ⟨c, v, w, hc, hv, hw, hwv, ek, el, by rw [ek, el, ew], ?_⟩
  rw [ek, el]
  exact (handL ⟨c, hc⟩ ⟨v, hv⟩).trans ew
theorem RG_set {k l o : Nat → Int32} (h : RG k l o) {f w : Nat} (hw : w < 10) {to : Int32} (hto : to = -1 ∨ ∃ c : Nat, c < 6 ∧ to = nI c) : RG k (upd l f (nI w)) (upd o f to) := by
  intro g hg
  obtain ⟨a1, a2, a3⟩ := h g hg
  rw [upd_eq, upd_eq]
  by_cases e : g = f
  · rw [if_pos e, if_pos e]; exact ⟨a1, ⟨w, hw, rfl⟩, hto⟩
  · rw [if_neg e, if_neg e]; exact ⟨a1, a2, a3⟩
theorem RG_leaf {k l o : Nat → Int32} (h : RG k l o) {f w : Nat} (hw : w < 10) : RG k (upd l f (nI w)) o := by
  intro g hg
  obtain ⟨a1, a2, a3⟩ := h g hg
  rw [upd_eq]
  by_cases e : g = f
  · rw [if_pos e]; exact ⟨a1, ⟨w, hw, rfl⟩, a3⟩
  · rw [if_neg e]; exact ⟨a1, a2, a3⟩
theorem RG_own {k l o : Nat → Int32} (h : RG k l o) {f : Nat} {to : Int32} (hto : to = -1 ∨ ∃ c : Nat, c < 6 ∧ to = nI c) : RG k l (upd o f to) := by
  intro g hg
  obtain ⟨a1, a2, a3⟩ := h g hg
  rw [upd_eq]
  by_cases e : g = f
  · rw [if_pos e]; exact ⟨a1, a2, hto⟩
  · rw [if_neg e]; exact ⟨a1, a2, a3⟩
/-! a hand, on the law's side -/
theorem goesStep (T : Nat → Int32) {f i : Nat} (hf : f < 10) (h1 : 1 ≤ i) (h3 : i ≤ 3) : fL_goes_L3 40 (nI f) (nI i, T) = some (Sum.inl (nI (i - 1), upd T (4 * f + i) (T (4 * f + (i - 1))))) := by
  unfold fL_goes_L3
  show (if nI i ≤ 0 then _ else _) = _
  rw [if_neg (nI_nle (by omega) (by omega)), m4L, nI_add, show (nI (4 * f + i) - 1) = nI (4 * f + (i - 1)) by rw [show (1 : Int32) = nI 1 from rfl, subN (by omega)]; congr 1; omega, gd_t (inbN (by omega) (by omega)), gd_t (inbN (by omega) (by omega)), clN (by omega), clN (by omega)]
  show some (Sum.inl (nI i + (-1), _)) = _
  rw [show nI i + (-1) = nI (i - 1) by rw [show i = (i - 1) + 1 by omega, pk_m1]; rfl]
def goesD (d : Nat → Int32) (f : Nat) (w to : Int32) : Nat → Int32 := upd (upd (upd d 31 (d 31 + (d (11 + f) - w))) (11 + f) w) (21 + f) to
theorem goesL (d r : Nat → Int32) {f : Nat} (hf : f < 10) (to : Int32) : fL_goes 33 40 d r (nI f) to = some (goesD d f (fL_hand (d (1 + f)) (d (11 + f))) to, tornT r f (d (21 + f))) := by
  unfold fL_goes
  have hend : ∀ T : Nat → Int32, fL_goes_L3 40 (nI f) (nI 0, T) = some (Sum.inr T) := fun T => by
    unfold fL_goes_L3
    show (if nI 0 ≤ 0 then _ else _) = _
    exact if_pos (by decide)
  rw [show (3 : Int32) = nI 3 from rfl, iter_4 (goesStep r hf (i := 3) (by omega) (by omega)) (goesStep _ hf (i := 2) (by omega) (by omega)) (goesStep _ hf (i := 1) (by omega) (by omega)) (hend _), bd_s]
  unfold fL_goes_X3_32
  rw [a21N, a11N, a1N, m4L, gd_t (inbN (by omega) (by omega)), gd_t (inbN (by omega) (by omega)), gd_t (inbN (by omega) (by omega)), gd_t (inbN (by omega) (by omega)), gd_t (by decide), clN (by omega), clN (by omega), clN (by omega), clN (by omega), c31]
  refine congrArg some (Prod.ext rfl ?_)
  funext q
  simp only [tornT, upd_eq, if_true]
  repeat' split
  all_goals first | rfl | omega
theorem RV_goes {k l o d : Nat → Int32} (h : RV k l o d) {f : Nat} (hf : f < 10) (w to : Int32) : RV k (upd l f w) (upd o f to) (goesD d f w to) := by
  intro g hg
  obtain ⟨h1, h2, h3⟩ := h g hg
  simp only [goesD, upd_eq]
  refine ⟨?_, ?_, ?_⟩
  · rw [if_neg (by omega), if_neg (by omega), if_neg (by omega)]; exact h1
  · by_cases e : g = f
    · rw [if_neg (by omega), if_pos (by omega), if_pos e]
    · rw [if_neg (by omega), if_neg (by omega), if_neg (by omega), if_neg e]; exact h2
  · by_cases e : g = f
    · rw [if_pos (by omega), if_pos e]
    · rw [if_neg (by omega), if_neg (by omega), if_neg (by omega), if_neg e]; exact h3
theorem RT_torn {t r : Nat → Int32} (h : ∀ i : Nat, i < 40 → r i = t i) {f : Nat} (hf : f < 10) (x : Int32) : ∀ i : Nat, i < 40 → tornT r f x i = tornT t f x i := by
  intro i hi
  simp only [tornT, upd_eq]
  rw [h (4 * f + 2) (by omega), h (4 * f + 1) (by omega), h (4 * f) (by omega), h i hi]
/-- a hand on both sides -/
theorem RW_goes {n : Nat} {k l o d : Nat → Int32} (h : RW n k l o d) {f : Nat} (hf : f < 10) {to : Int32} (hto : to = -1 ∨ ∃ c : Nat, c < 6 ∧ to = nI c) : ∃ w : Nat, w < 10 ∧ fX5_behindHand (k f) (l f) = nI w ∧ (∀ r : Nat → Int32, fL_goes 33 40 d r (nI f) to = some (goesD d f (nI w) to, tornT r f (o f))) ∧ RW n k (upd l f (nI w)) (upd o f to) (goesD d f (nI w) to) ∧ goesD d f (nI w) to (11 + f) = nI w ∧ goesD d f (nI w) to 31 = d 31 + (l f - nI w) ∧ goesD d f (nI w) to 32 = d 32 ∧ goesD d f (nI w) to 0 = d 0 := by
  obtain ⟨hn, h0, hV, hG⟩ := h
  obtain ⟨c, v, w, hc, hv, hw, hwv, ek, el, ew, ew'⟩ := RG_at hG hf
  obtain ⟨e1, e2, e3⟩ := hV f hf
  have g0 : goesD d f (nI w) to 0 = d 0 := by
    simp only [goesD, upd_eq]
    rw [if_neg (by omega), if_neg (by omega), if_neg (by omega)]
  refine ⟨w, hw, ew, fun r => ?_, ⟨hn, g0.trans h0, RV_goes hV hf _ _, RG_set hG hw hto⟩, ?_, ?_, ?_, g0⟩
  · rw [goesL d r hf, e1, e2, e3, ew']
  · simp only [goesD, upd_eq]
    rw [if_neg (by omega), if_pos trivial]
  · simp only [goesD, upd_eq]
    rw [if_neg (by omega), if_neg (by omega), if_pos trivial, e2]
  · simp only [goesD, upd_eq]
    rw [if_neg (by omega), if_neg (by omega), if_neg (by omega)]
theorem R29_goes {n : Nat} {k l o t dd d r w : Nat → Int32} {bh bm : Int32} (h : R29 n k l o t dd d r w bh bm) {f : Nat} (hf : f < n) {to : Int32} (hto : to = -1 ∨ ∃ c : Nat, c < 6 ∧ to = nI c) : ∃ v : Nat, v < 10 ∧ (∀ sz bh' bm' : Int32, fX4_goByHand sz bh' bm' k l o t (nI f) to = some (nI v, bh' + (l f - nI v), upd l f (nI v), upd o f to, tornT t f (o f))) ∧ ∃ D R : Nat → Int32, fL_goes 33 40 d r (nI f) to = some (D, R) ∧ R29 n k (upd l f (nI v)) (upd o f to) (tornT t f (o f)) dd D R w (bh + (l f - nI v)) bm ∧ D (11 + f) = nI v ∧ sumL (upd l f (nI v)) n + (bh + (l f - nI v)) + bm = sumL l n + bh + bm := by
  obtain ⟨hW, h31, h32, hT, hD⟩ := h
  have hn := hW.1
  have hf10 : f < 10 := by omega
  obtain ⟨v, hv, ew, hg, hW', g1, g2, g3, g4⟩ := RW_goes hW hf10 hto
  refine ⟨v, hv, fun sz bh' bm' => ?_, _, _, hg r, ⟨hW', ?_, ?_, RT_torn hT hf10 _, hD⟩, g1, ?_⟩
  · rw [goByHandN _ _ _ _ _ _ _ hf10, ew]
  · rw [g2, h31]
  · rw [g3, h32]
  · rw [sumL_upd l f _ n hf]
    grind
/-! new fronds, on the law's side -/
def addD (d : Nat → Int32) (n : Nat) (a b c : Int32) : Nat → Int32 := upd (upd (upd (upd d (1 + n) a) (11 + n) b) (21 + n) c) 0 (nI (n + 1))
theorem addL {n : Nat} (hn : n < 10) {d : Nat → Int32} (h0 : d 0 = nI n) (r : Nat → Int32) (a b c : Int32) : fL_add 33 40 d r a b c = some (addD d n a b c, newT r n) := by
  have u1 : (upd d (1 + n) a) 0 = nI n := by rw [upd_eq, if_neg (by omega)]; exact h0
  have u2 : (upd (upd d (1 + n) a) (11 + n) b) 0 = nI n := by rw [upd_eq, if_neg (by omega)]; exact u1
  have u3 : (upd (upd (upd d (1 + n) a) (11 + n) b) (21 + n) c) 0 = nI n := by rw [upd_eq, if_neg (by omega)]; exact u2
  have step : ∀ (i : Nat) (T : Nat → Int32), i < 4 → fL_add_L30 40 d a b c (nI i, T) = some (Sum.inl (nI (i + 1), upd T (4 * n + i) (-1))) := by
    intro i T hi
    unfold fL_add_L30
    simp only [c00, h0, a1N, clN (show 1 + n < 2 ^ 31 by omega), u1, a11N, clN (show 11 + n < 2 ^ 31 by omega), u2, a21N, clN (show 21 + n < 2 ^ 31 by omega), u3, m4L, nI_add, nI1]
    rw [if_neg (show ¬ (4 : Int32) ≤ nI i by rw [show (4 : Int32) = nI 4 from rfl, leN (by omega) (by omega)]; omega), gd_t (inbN (by omega) (by omega)), clN (by omega)]
  have hend : ∀ T : Nat → Int32, fL_add_L30 40 d a b c (nI 4, T) = some (Sum.inr T) := fun T => by
    unfold fL_add_L30
    show (if 4 ≤ nI 4 then _ else _) = _
    exact if_pos (by decide)
  unfold fL_add
  rw [show (0 : Int32) = nI 0 from rfl, iter_5 (step 0 r (by omega)) (step 1 _ (by omega)) (step 2 _ (by omega)) (step 3 _ (by omega)) (hend _), bd_s]
  unfold fL_add_X30_53
  simp only [show (nI 0).toNatClampNeg = 0 from rfl, c00, h0, a1N, clN (show 1 + n < 2 ^ 31 by omega), u1, a11N, clN (show 11 + n < 2 ^ 31 by omega), u2, a21N, clN (show 21 + n < 2 ^ 31 by omega), u3, nI1]
  rw [gd_t (inbN (by omega) (by omega)), gd_t (inbN (by omega) (by omega)), gd_t (inbN (by omega) (by omega)), gd_t (inbN (by omega) (by omega))]
  rfl
theorem RW_add {n : Nat} {k l o d : Nat → Int32} (h : RW n k l o d) (hn : n < 10) {a b c : Int32} (ha : ∃ q : Nat, q < 5 ∧ a = nI q) (hb : ∃ q : Nat, q < 10 ∧ b = nI q) (hc : c = -1 ∨ ∃ q : Nat, q < 6 ∧ c = nI q) : RW (n + 1) (upd k n a) (upd l n b) (upd o n c) (addD d n a b c) := by
  obtain ⟨-, h0, hV, hG⟩ := h
  refine ⟨by omega, ?_, fun g hg => ?_, fun g hg => ?_⟩
  · simp only [addD, upd_eq]
    exact if_pos trivial
  · obtain ⟨h1, h2, h3⟩ := hV g hg
    simp only [addD, upd_eq]
    by_cases e : g = n
    · rw [if_pos e, if_pos e, if_pos e]
      refine ⟨?_, ?_, ?_⟩
      · rw [if_neg (by omega), if_neg (by omega), if_neg (by omega), if_pos (by omega)]
      · rw [if_neg (by omega), if_neg (by omega), if_pos (by omega)]
      · rw [if_neg (by omega), if_pos (by omega)]
    · rw [if_neg e, if_neg e, if_neg e]
      refine ⟨?_, ?_, ?_⟩
      · rw [if_neg (by omega), if_neg (by omega), if_neg (by omega), if_neg (by omega)]; exact h1
      · rw [if_neg (by omega), if_neg (by omega), if_neg (by omega), if_neg (by omega)]; exact h2
      · rw [if_neg (by omega), if_neg (by omega), if_neg (by omega), if_neg (by omega)]; exact h3
  · obtain ⟨a1, a2, a3⟩ := hG g hg
    rw [upd_eq, upd_eq, upd_eq]
    by_cases e : g = n
    · rw [if_pos e, if_pos e, if_pos e]; exact ⟨ha, hb, hc⟩
    · rw [if_neg e, if_neg e, if_neg e]; exact ⟨a1, a2, a3⟩
theorem RT_new {t r : Nat → Int32} (h : ∀ i : Nat, i < 40 → r i = t i) (n : Nat) : ∀ i : Nat, i < 40 → newT r n i = newT t n i := by
  intro i hi
  simp only [newT, upd_eq]
  rw [h i hi]
theorem R29_add {n : Nat} {k l o t dd d r w : Nat → Int32} {bh bm : Int32} (h : R29 n k l o t dd d r w bh bm) (hn : n < 10) {a b c : Int32} (ha : ∃ q : Nat, q < 5 ∧ a = nI q) (hb : ∃ q : Nat, q < 10 ∧ b = nI q) (hc : c = -1 ∨ ∃ q : Nat, q < 6 ∧ c = nI q) : R29 (n + 1) (upd k n a) (upd l n b) (upd o n c) (newT t n) dd (addD d n a b c) (newT r n) w bh bm ∧ sumL (upd l n b) (n + 1) = sumL l n + b := by
  obtain ⟨hW, h31, h32, hT, hD⟩ := h
  refine ⟨⟨RW_add hW hn ha hb hc, ?_, ?_, RT_new hT n, hD⟩, ?_⟩
  · simp only [addD, upd_eq]
    rw [if_neg (by omega), if_neg (by omega), if_neg (by omega), if_neg (by omega)]; exact h31
  · simp only [addD, upd_eq]
    rw [if_neg (by omega), if_neg (by omega), if_neg (by omega), if_neg (by omega)]; exact h32
  · show sumL (upd l n b) n + upd l n b n = _
    rw [sumL_far l n b n (Nat.le_refl _), upd_eq, if_pos rfl]
