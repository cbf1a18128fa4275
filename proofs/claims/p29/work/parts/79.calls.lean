/-! what the law's turns do: the class's answers -/
theorem payNo {n : Nat} (hn : n ≤ 10) {k l o t dd : Nat → Int32} {f p : Nat} (hf : f < n) (hp : p < 6) (kp bh bm : Int32) (h : o f = -1 ∨ o f = nI p) : fX10_pay kp (nI n) bh bm k l o t dd (nI f) (nI p) = some (-103, bh, l, o, t, dd) := by
  unfold fX10_pay
  rw [knows_t hn hf, if_neg (show ¬ (1 : Int32) = 0 by decide), if_neg (person_t hp), bankN _ _ _ _ (show f < 10 by omega), bd_s]
  by_cases hb : o f = -1
  · rw [if_pos hb, if_neg (show ¬ (1 : Int32) = 0 by decide)]
  · rw [if_neg hb, if_pos rfl, gd_t (inbN (show f < 10 by omega) (by omega)), clN (show f < 2 ^ 31 by omega), if_pos (h.resolve_left hb)]
theorem lessenX {d : Nat → Int32} {c p cd w : Nat} (hc : c < 6) (hp : p < 6) (hcd : cd < 100) (hw : w < 10) (e : d (6 * c + p) = nI cd) : fX1_lessen d (nI c) (nI p) (nI w) = some (upd d (6 * c + p) (nI (cd - w))) := by
  unfold fX1_lessen
  rw [sumsN _ hc hp]
  show (fX1_put d (nI c) (nI p) _).bind _ = _
  rw [putN _ hc hp, e]
  show some (upd d (6 * c + p) (if 0 < nI cd - nI w then nI cd - nI w else 0)) = _
  congr 2
  by_cases q : w < cd
  · rw [subN (by omega), if_pos (show (0 : Int32) < nI (cd - w) from nI_lt (a := 0) (b := cd - w) (by omega) (by omega))]
  · by_cases q2 : cd = w
    · subst q2
      rw [subN (Nat.le_refl _), Nat.sub_self]; rfl
    · rw [if_neg, show cd - w = 0 by omega]; rfl
      have := pk_sneg (a := cd) (b := w) (by omega) (by omega)
      rw [Int32.lt_iff_toInt_lt] at this ⊢
      omega
theorem lessL {cd w : Nat} (hcd : cd < 100) (hw : w < 10) : (if nI cd - nI w ≤ 0 then 0 else nI cd - nI w : Int32) = nI (cd - w) := by
  by_cases q : w < cd
  · rw [subN (by omega), if_neg (nI_nle (by omega) (by omega))]
  · rw [if_pos, show cd - w = 0 by omega]; rfl
    rw [Int32.le_iff_toInt_le, pk_sub_toInt (by omega) (by omega)]
    show (_ : Int) ≤ 0
    omega
theorem payYes {n : Nat} (hn : n ≤ 10) {k l o t dd : Nat → Int32} {f c p cd v : Nat} (hf : f < n) (hc : c < 6) (hp : p < 6) (hcp : c ≠ p) (ho : o f = nI c) (hcd : cd < 100) (hd : dd (6 * c + p) = nI cd) (hv : v < 10) (hg : ∀ sz bh' bm' : Int32, fX4_goByHand sz bh' bm' k l o t (nI f) (nI p) = some (nI v, bh' + (l f - nI v), upd l f (nI v), upd o f (nI p), tornT t f (o f))) (kp bh bm : Int32) : fX10_pay kp (nI n) bh bm k l o t dd (nI f) (nI p) = some (nI v, bh + (l f - nI v), upd l f (nI v), upd o f (nI p), tornT t f (o f), upd dd (6 * c + p) (nI (cd - v))) := by
  unfold fX10_pay
  rw [knows_t hn hf, if_neg (show ¬ (1 : Int32) = 0 by decide), if_neg (person_t hp), bankN _ _ _ _ (show f < 10 by omega), bd_s, if_neg (show ¬ o f = -1 by rw [ho, m1N (by omega)]; exact id), if_pos rfl, gd_t (inbN (show f < 10 by omega) (by omega)), clN (show f < 2 ^ 31 by omega), if_neg (show ¬ o f = nI p by rw [ho, eqN (by omega) (by omega)]; exact hcp), hg, bd_s]
  dsimp only
  rw [ho, lessenX hc hp hcd hv hd, bd_s]
theorem snapNo {n : Nat} (hn : n ≤ 10) {k l o t : Nat → Int32} {f v cl : Nat} (hf : f < n) (hv1 : 1 ≤ v) (hv8 : v ≤ 8) (hcl : cl < 10) (el : l f = nI cl) (kp bh bm : Int32) (h : o f = -1 ∨ cl ≤ v) : fX10_snap kp (nI n) bh bm k l o t (nI f) (nI v) = some (-103, nI n, k, l, o, t) := by
  unfold fX10_snap
  rw [knows_t hn hf, if_neg (show ¬ (1 : Int32) = 0 by decide), if_neg (show ¬ fX10_isWithin (nI v) 1 8 = 0 from within_iff.mpr ⟨nI_le (a := 1) hv1 (by omega), nI_le (b := 8) hv8 (by omega)⟩), bankN _ _ _ _ (show f < 10 by omega), bd_s]
  by_cases hb : o f = -1
  · rw [if_pos hb, if_neg (show ¬ (1 : Int32) = 0 by decide)]
  · have := h.resolve_left hb
    rw [if_neg hb, if_pos rfl, gd_t (inbN (show f < 10 by omega) (by omega)), clN (show f < 2 ^ 31 by omega), el, if_neg (by rw [ltN (by omega) (by omega)]; omega)]
theorem snapYes {n : Nat} (hn : n ≤ 10) {k l o t : Nat → Int32} {f v cl : Nat} (hf : f < n) (hv1 : 1 ≤ v) (hv8 : v ≤ 8) (hcl : cl < 10) (el : l f = nI cl) (kp bh bm : Int32) (ho : ¬ o f = -1) (hlt : v < cl) : fX10_snap kp (nI n) bh bm k l o t (nI f) (nI v) = if n < 10 then some (nI n, nI (n + 1), upd k n 0, upd (upd l f (nI (cl - v))) n (nI v), upd o n (o f), newT t n) else some (-104, nI n, k, l, o, t) := by
  unfold fX10_snap
  rw [knows_t hn hf, if_neg (show ¬ (1 : Int32) = 0 by decide), if_neg (show ¬ fX10_isWithin (nI v) 1 8 = 0 from within_iff.mpr ⟨nI_le (a := 1) hv1 (by omega), nI_le (b := 8) hv8 (by omega)⟩), bankN _ _ _ _ (show f < 10 by omega), bd_s, if_neg ho, if_pos rfl, gd_t (inbN (show f < 10 by omega) (by omega)), clN (show f < 2 ^ 31 by omega), el, if_pos (show nI v < nI cl by rw [ltN (by omega) (by omega)]; omega)]
  by_cases h : n < 10
  · rw [if_pos h, if_pos (show nI n < 10 from nI_lt (b := 10) h (by omega)), subN (by omega), addN h, bd_s]
  · rw [if_neg h, if_neg (show ¬ nI n < 10 by rw [show (10 : Int32) = nI 10 from rfl, ltN (by omega) (by omega)]; omega)]
theorem fetchNo {n : Nat} (hn : n ≤ 10) {l o : Nat → Int32} {f p : Nat} (hf : f < n) (hp : p < 6) (kp bh bm : Int32) (h : ¬ o f = -1) : fX10_fetch kp (nI n) bh bm l o (nI f) (nI p) = some (-103, o) := by
  unfold fX10_fetch
  rw [knows_t hn hf, if_neg (show ¬ (1 : Int32) = 0 by decide), if_neg (person_t hp), bankN _ _ _ _ (show f < 10 by omega), bd_s, if_neg h, if_pos rfl]
theorem fetchYes {n : Nat} (hn : n ≤ 10) {l o : Nat → Int32} {f p : Nat} (hf : f < n) (hp : p < 6) (kp bh bm : Int32) (h : o f = -1) : fX10_fetch kp (nI n) bh bm l o (nI f) (nI p) = some (l f, upd o f (nI p)) := by
  unfold fX10_fetch
  rw [knows_t hn hf, if_neg (show ¬ (1 : Int32) = 0 by decide), if_neg (person_t hp), bankN _ _ _ _ (show f < 10 by omega), bd_s, if_pos h, if_neg (show ¬ (1 : Int32) = 0 by decide), gd_t (inbN (show f < 10 by omega) (by omega)), clN (show f < 2 ^ 31 by omega)]
theorem bankNo {n : Nat} (hn : n ≤ 10) {k l o t : Nat → Int32} {f : Nat} (hf : f < n) (kp bh bm : Int32) (h : o f = -1) : fX10_bank kp (nI n) bh bm k l o t (nI f) = some (-103, bh, l, o, t) := by
  unfold fX10_bank
  rw [knows_t hn hf, if_neg (show ¬ (1 : Int32) = 0 by decide), bankN _ _ _ _ (show f < 10 by omega), bd_s, if_pos h, if_neg (show ¬ (1 : Int32) = 0 by decide)]
theorem bankYes {n : Nat} (hn : n ≤ 10) {k l o t : Nat → Int32} {f v : Nat} (hf : f < n) (ho : ¬ o f = -1) (hg : ∀ sz bh' bm' : Int32, fX4_goByHand sz bh' bm' k l o t (nI f) (-1) = some (nI v, bh' + (l f - nI v), upd l f (nI v), upd o f (-1), tornT t f (o f))) (kp bh bm : Int32) : fX10_bank kp (nI n) bh bm k l o t (nI f) = some (nI v, bh + (l f - nI v), upd l f (nI v), upd o f (-1), tornT t f (o f)) := by
  unfold fX10_bank
  rw [knows_t hn hf, if_neg (show ¬ (1 : Int32) = 0 by decide), bankN _ _ _ _ (show f < 10 by omega), bd_s, if_neg ho, if_pos rfl, hg, bd_s]
theorem debtX {d : Nat → Int32} {a b v : Nat} (ha : a < 6) (hb : b < 6) (hab : a ≠ b) (hv : v < 100) (kp sz bh bm : Int32) : fX10_debt kp sz bh bm d (nI a) (nI b) (nI v) = some (d (6 * a + b), upd d (6 * a + b) (nI v)) := by
  unfold fX10_debt fX10_areTwo
  rw [if_neg (person_t ha), if_neg (person_t hb), if_neg (show ¬ nI a = nI b by rw [eqN (by omega) (by omega)]; exact hab), if_neg (show ¬ (1 : Int32) = 0 by decide), if_neg (show ¬ fX10_isWithin (nI v) 0 99 = 0 from within_iff.mpr ⟨nI_le (a := 0) (Nat.zero_le _) (by omega), nI_le (b := 99) (by omega) (by omega)⟩), sumsN _ ha hb, putN _ ha hb]
  rfl
theorem and31i (x : Int32) : ∃ s : Nat, s < 2 ^ 31 ∧ (x &&& 2147483647 : Int32) = nI s := by
  have h : x.toBitVec.toNat % 2 ^ 31 < 2 ^ 31 := Nat.mod_lt _ (by omega)
  refine ⟨x.toBitVec.toNat % 2 ^ 31, h, ?_⟩
  apply Int32.toBitVec_inj.mp
  rw [Int32.toBitVec_and]
  apply BitVec.eq_of_toNat_eq
  rw [BitVec.toNat_and]
  show x.toBitVec.toNat &&& 2147483647 = (BitVec.ofNat 32 (x.toBitVec.toNat % 2 ^ 31)).toNat
  rw [BitVec.toNat_ofNat, Nat.mod_eq_of_lt (a := x.toBitVec.toNat % 2 ^ 31) (by omega)]
  exact Nat.and_two_pow_sub_one_eq_mod _ 31
theorem R29_leaf {n : Nat} {k l o t dd d r w : Nat → Int32} {bh bm : Int32} (h : R29 n k l o t dd d r w bh bm) {f v : Nat} (hf : f < 10) (hv : v < 10) : R29 n k (upd l f (nI v)) o t dd (upd d (11 + f) (nI v)) r w bh bm := by
  obtain ⟨⟨hn, h0, hV, hG⟩, h31, h32, hT, hD⟩ := h
  refine ⟨⟨hn, ?_, fun g hg => ?_, RG_leaf hG hv⟩, ?_, ?_, hT, hD⟩
  · rw [upd_eq, if_neg (by omega)]; exact h0
  · obtain ⟨g1, g2, g3⟩ := hV g hg
    rw [upd_eq, upd_eq, upd_eq, upd_eq, if_neg (show ¬ 1 + g = 11 + f by omega), if_neg (show ¬ 21 + g = 11 + f by omega)]
    refine ⟨g1, ?_, g3⟩
    by_cases e : g = f
    · rw [if_pos (by omega), if_pos e]
    · rw [if_neg (by omega), if_neg e]; exact g2
  · rw [upd_eq, if_neg (by omega)]; exact h31
  · rw [upd_eq, if_neg (by omega)]; exact h32
theorem R29_own {n : Nat} {k l o t dd d r w : Nat → Int32} {bh bm : Int32} (h : R29 n k l o t dd d r w bh bm) {f p : Nat} (hf : f < 10) (hp : p < 6) : R29 n k l (upd o f (nI p)) t dd (upd d (21 + f) (nI p)) r w bh bm := by
  obtain ⟨⟨hn, h0, hV, hG⟩, h31, h32, hT, hD⟩ := h
  refine ⟨⟨hn, ?_, fun g hg => ?_, RG_own hG (Or.inr ⟨p, hp, rfl⟩)⟩, ?_, ?_, hT, hD⟩
  · rw [upd_eq, if_neg (by omega)]; exact h0
  · obtain ⟨g1, g2, g3⟩ := hV g hg
    rw [upd_eq, upd_eq, upd_eq, upd_eq, if_neg (show ¬ 1 + g = 21 + f by omega), if_neg (show ¬ 11 + g = 21 + f by omega)]
    refine ⟨g1, g2, ?_⟩
    by_cases e : g = f
    · rw [if_pos (by omega), if_pos e]
    · rw [if_neg (by omega), if_neg e]; exact g3
  · rw [upd_eq, if_neg (by omega)]; exact h31
  · rw [upd_eq, if_neg (by omega)]; exact h32
