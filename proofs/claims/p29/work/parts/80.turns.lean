/-! the law's turns -/
abbrev U5t := Int32 × Int32 × (Nat → Int32) × (Nat → Int32) × (Nat → Int32) × (Nat → Int32) × Int32 × (Nat → Int32) × (Nat → Int32) × (Nat → Int32)
abbrev LSt := Int32 × Int32 × Int32 × Int32 × Int32 × (Nat → Int32) × (Nat → Int32) × (Nat → Int32) × (Nat → Int32) × (Nat → Int32) × Int32 × Int32 × Int32 × (Nat → Int32) × (Nat → Int32) × (Nat → Int32) × (Nat → Int32) × (Nat → Int32) × Int32 × Int32 × Int32 × Int64 × Int32 × Int32 × (Nat → Int64) × Int64 × (Nat → Int32) × (Nat → Int32) × (Nat → Int32)
def INV (came sz bh bm : Int32) (k l o t dd d r w : Nat → Int32) : Prop := ∃ n : Nat, 1 ≤ n ∧ sz = nI n ∧ R29 n k l o t dd d r w bh bm ∧ came = sumL l n + bh + bm
def GOOD (i : Nat) (s : LSt) : Prop := s.2.1 = nI i ∧ INV s.1 s.2.2.1 s.2.2.2.1 s.2.2.2.2.1 s.2.2.2.2.2.1 s.2.2.2.2.2.2.1 s.2.2.2.2.2.2.2.1 s.2.2.2.2.2.2.2.2.1 s.2.2.2.2.2.2.2.2.2.1 s.2.2.2.2.2.2.2.2.2.2.2.2.2.2.2.2.2.2.2.2.2.2.2.2.2.2.1 s.2.2.2.2.2.2.2.2.2.2.2.2.2.2.2.2.2.2.2.2.2.2.2.2.2.2.2.1 s.2.2.2.2.2.2.2.2.2.2.2.2.2.2.2.2.2.2.2.2.2.2.2.2.2.2.2.2
theorem J819N (u5 : U5t) (z15 : LSt) {i : Nat} (hz : z15.2.1 = nI i) {came sz bh bm : Int32} {k l o t dd d r w : Nat → Int32} (h : INV came sz bh bm k l o t dd d r w) (ts tb tm : Int32) (tk tl to tt td : Nat → Int32) (pp lw lb : Int32) (ca : Int64) (ck ct : Int32) (cb : Nat → Int64) (sd : Int64) : ∃ s' : LSt, fL_law_J819 u5 z15 (came, sz, bh, bm, k, l, o, t, dd, ts, tb, tm, tk, tl, to, tt, td, pp, lw, lb, ca, ck, ct, cb, sd, d, r, w) = some (Sum.inl s') ∧ GOOD (i + 1) s' := by
  obtain ⟨n, hn, rfl, hR, hc⟩ := h
  unfold fL_law_J819
  dsimp only
  rw [standsN hR, bd_s, if_neg (show ¬ (1 : Int32) = 0 by decide), hz, nI1]
  exact ⟨_, rfl, rfl, n, hn, rfl, hR, hc⟩
theorem toNI {n : Nat} {o : Nat → Int32} {k l : Nat → Int32} (hG : RG k l o) {f : Nat} (hf : f < 10) (h : ¬ o f < 0) : ∃ c : Nat, c < 6 ∧ o f = nI c := by
  refine (hG f hf).2.2.resolve_left fun e => h ?_
  rw [e]
  decide
theorem neg_m1 {k l o : Nat → Int32} (hG : RG k l o) {f : Nat} (hf : f < 10) (h : o f < 0) : o f = -1 := by
  rcases (hG f hf).2.2 with e | ⟨c, hc, e⟩
  · exact e
  · rw [e, show (0 : Int32) = nI 0 from rfl, ltN (by omega) (by omega)] at h
    omega
/-- a payment that is none -/
theorem payTurnNo (u5 : U5t) {i n f p : Nat} {bh bm : Int32} {k l o t dd d r w : Nat → Int32} (hn1 : 1 ≤ n) (hR : R29 n k l o t dd d r w bh bm) (hf : f < n) (hp : p < 6) (h : o f = -1 ∨ o f = nI p) (ts tb tm : Int32) (tk tl to tt td : Nat → Int32) (pp lw lb : Int32) (ca : Int64) (ck ct : Int32) (cb : Nat → Int64) (sd : Int64) : ∃ s' : LSt, fL_law_J174 u5 (sumL l n + bh + bm, nI i, nI n, bh, bm, k, l, o, t, dd, ts, tb, tm, tk, tl, to, tt, td, pp, lw, lb, ca, ck, ct, cb, sd, d, r, w) (nI f) (nI p) () = some (Sum.inl s') ∧ GOOD (i + 1) s' := by
  unfold fL_law_J174
  rw [if_pos rfl]
  unfold fL_law_J243
  dsimp only
  rw [payNo hR.1.1 hf hp 0 bh bm h, bd_s, if_pos rfl]
  unfold fL_law_J268
  dsimp only
  rw [if_pos rfl]
  exact J819N u5 _ rfl ⟨n, hn1, rfl, hR, rfl⟩ ..
/-- a payment -/
theorem payTurnYes (u5 : U5t) {i n f c p : Nat} {bh bm : Int32} {k l o t dd d r w : Nat → Int32} (hn1 : 1 ≤ n) (hR : R29 n k l o t dd d r w bh bm) (hf : f < n) (hc : c < 6) (ho : o f = nI c) (hp : p < 6) (h : c ≠ p) (ts tb tm : Int32) (tk tl to tt td : Nat → Int32) (pp lw lb : Int32) (ca : Int64) (ck ct : Int32) (cb : Nat → Int64) (sd : Int64) : ∃ s' : LSt, fL_law_J175 u5 (sumL l n + bh + bm, nI i, nI n, bh, bm, k, l, o, t, dd, ts, tb, tm, tk, tl, to, tt, td, pp, lw, lb, ca, ck, ct, cb, sd, d, r, w) (nI f) (nI p) 1 = some (Sum.inl s') ∧ GOOD (i + 1) s' := by
  have hn := hR.1.1
  obtain ⟨v, hv, hg, D, R, hG, hR', hD, hS⟩ := R29_goes hR hf (to := nI p) (Or.inr ⟨p, hp, rfl⟩)
  obtain ⟨v1, v2, v3⟩ := hR.1.2.2.1 f (by omega)
  obtain ⟨ed, cd, hcd, edv⟩ := hR.2.2.2.2 (6 * c + p) (by omega)
  have hi6 : (6 * (d (21 + f)) + nI p : Int32) = nI (6 * c + p) := by rw [v3, ho, m6N]
  have hval : (if w (6 * c + p) - D (11 + f) ≤ 0 then 0 else w (6 * c + p) - D (11 + f) : Int32) = nI (cd - v) := by rw [hD, ed, edv]; exact lessL hcd hv
  unfold fL_law_J175
  rw [if_neg (show ¬ (1 : Int32) = 0 by decide)]
  dsimp only
  rw [hG, bd_s, a21N, clN (show 21 + f < 2 ^ 31 by omega), hi6, gd_t (inbN (show 6 * c + p < 36 by omega) (by omega)), a11N, gd_t (inbN (show 11 + f < 33 by omega) (by omega)), clN (show 6 * c + p < 2 ^ 31 by omega), clN (show 11 + f < 2 ^ 31 by omega)]
  unfold fL_law_J243a
  dsimp only
  rw [payYes hn hf hc hp h ho hcd edv hv hg 0 bh bm, bd_s, if_neg (show ¬ (1 : Int32) = 0 by decide), a11N, gd_t (inbN (show 11 + f < 33 by omega) (by omega)), clN (show 11 + f < 2 ^ 31 by omega), hval, hD]
  unfold fL_law_J268a
  dsimp only
  rw [if_pos rfl]
  refine J819N u5 _ rfl ⟨n, hn1, rfl, ?_, hS.symm⟩ ..
  obtain ⟨b1, b2, b3, b4, b5⟩ := hR'
  exact ⟨b1, b2, b3, b4, RD_put b5 _ (by omega)⟩
/-- a breaking that is none -/
theorem snapTurnNo (u5 : U5t) {i n f u : Nat} {bh bm : Int32} {k l o t dd d r w : Nat → Int32} (hn1 : 1 ≤ n) (hR : R29 n k l o t dd d r w bh bm) (hf : f < n) (hu : u < 8) (h : o f = -1 ∨ l f ≤ nI (1 + u)) (ts tb tm : Int32) (tk tl to tt td : Nat → Int32) (pp lw lb : Int32) (ca : Int64) (ck ct : Int32) (cb : Nat → Int64) (sd : Int64) : ∃ s' : LSt, fL_law_J322 u5 (sumL l n + bh + bm, nI i, nI n, bh, bm, k, l, o, t, dd, ts, tb, tm, tk, tl, to, tt, td, pp, lw, lb, ca, ck, ct, cb, sd, d, r, w) (nI f) (nI u) () = some (Sum.inl s') ∧ GOOD (i + 1) s' := by
  have hn := hR.1.1
  obtain ⟨-, ⟨cl, hcl, el⟩, -⟩ := hR.1.2.2.2 f (by omega)
  have h' : o f = -1 ∨ cl ≤ 1 + u := by
    rcases h with h | h
    · exact Or.inl h
    · rw [el, leN (by omega) (by omega)] at h
      exact Or.inr h
  unfold fL_law_J322
  dsimp only
  rw [a1N, snapNo hn hf (v := 1 + u) (by omega) (by omega) hcl el 0 bh bm h', bd_s, if_pos rfl]
  unfold fL_law_J359
  dsimp only
  rw [if_pos rfl, if_pos rfl]
  unfold fL_law_J404
  dsimp only
  exact J819N u5 _ rfl ⟨n, hn1, rfl, hR, rfl⟩ ..
/-- a breaking -/
theorem snapTurnYes (u5 : U5t) {i n f u c : Nat} {bh bm : Int32} {k l o t dd d r w : Nat → Int32} (hn1 : 1 ≤ n) (hR : R29 n k l o t dd d r w bh bm) (hf : f < n) (hu : u < 8) (hc : c < 6) (ho : o f = nI c) (h : ¬ l f ≤ nI (1 + u)) (ts tb tm : Int32) (tk tl to tt td : Nat → Int32) (pp lw lb : Int32) (ca : Int64) (ck ct : Int32) (cb : Nat → Int64) (sd : Int64) : ∃ s' : LSt, fL_law_J323 u5 (sumL l n + bh + bm, nI i, nI n, bh, bm, k, l, o, t, dd, ts, tb, tm, tk, tl, to, tt, td, pp, lw, lb, ca, ck, ct, cb, sd, d, r, w) (nI f) (nI u) 1 = some (Sum.inl s') ∧ GOOD (i + 1) s' := by
  have hn := hR.1.1
  have h0 := hR.1.2.1
  obtain ⟨v1, v2, v3⟩ := hR.1.2.2.1 f (by omega)
  obtain ⟨-, ⟨cl, hcl, el⟩, -⟩ := hR.1.2.2.2 f (by omega)
  rw [el, leN (by omega) (by omega)] at h
  have hob : ¬ o f = -1 := by rw [ho, m1N (by omega)]; exact id
  unfold fL_law_J323
  dsimp only
  rw [a1N, snapYes hn hf (v := 1 + u) (by omega) (by omega) hcl el 0 bh bm hob (by omega)]
  by_cases h10 : n < 10
  · rw [if_pos h10, bd_s, if_neg (show ¬ (1 : Int32) = 0 by decide)]
    simp only [c00, h0]
    rw [if_neg (show ¬ nI n = 10 by rw [show (10 : Int32) = nI 10 from rfl, eqN (by omega) (by omega)]; omega)]
    unfold fL_law_J359a
    dsimp only
    rw [if_pos rfl, if_neg (show ¬ (1 : Int32) = 0 by decide)]
    simp only [c00, h0]
    have hleaf := R29_leaf hR (f := f) (v := cl - (1 + u)) (by omega) (by omega)
    have hfo : upd d (11 + f) (nI (cl - (1 + u))) (21 + f) = o f := by rw [upd_eq, if_neg (by omega)]; exact v3
    rw [if_neg (show ¬ (10 : Int32) ≤ nI n by rw [show (10 : Int32) = nI 10 from rfl, leN (by omega) (by omega)]; omega), a11N, gd_t (inbN (show 11 + f < 33 by omega) (by omega)), a1N, a21N, clN (show 11 + f < 2 ^ 31 by omega), clN (show 21 + f < 2 ^ 31 by omega), v2, el, subN (by omega), hfo, addL h10 hleaf.1.2.1, bd_s]
    unfold fL_law_J404a
    dsimp only
    obtain ⟨g1, g2⟩ := R29_add hleaf h10 (a := 0) (b := nI (1 + u)) (c := o f) ⟨0, by omega, rfl⟩ ⟨1 + u, by omega, rfl⟩ (Or.inr ⟨c, hc, ho⟩)
    refine J819N u5 _ rfl ⟨n + 1, by omega, rfl, g1, ?_⟩ ..
    rw [g2, sumL_upd l f _ n hf, el, show nI (cl - (1 + u)) = nI cl - nI (1 + u) from (subN (by omega)).symm]
    grind
  · have e10 : n = 10 := by omega
    rw [if_neg h10, bd_s, if_neg (show ¬ (1 : Int32) = 0 by decide)]
    simp only [c00, h0]
    rw [if_pos (show nI n = 10 by rw [e10]; rfl)]
    unfold fL_law_J359a
    dsimp only
    rw [if_pos rfl, if_neg (show ¬ (1 : Int32) = 0 by decide)]
    simp only [c00, h0]
    rw [if_pos (show (10 : Int32) ≤ nI n by rw [e10]; decide)]
    unfold fL_law_J404a
    dsimp only
    exact J819N u5 _ rfl ⟨n, hn1, rfl, hR, rfl⟩ ..
/-- out of the bank -/
theorem fetchTurn (u5 : U5t) {i n f p : Nat} {bh bm : Int32} {k l o t dd d r w : Nat → Int32} (hn1 : 1 ≤ n) (hR : R29 n k l o t dd d r w bh bm) (hf : f < n) (hp : p < 6) (ho : o f = -1) (ts tb tm : Int32) (tk tl to tt td : Nat → Int32) (pp lw lb : Int32) (ca : Int64) (ck ct : Int32) (cb : Nat → Int64) (sd : Int64) : ∃ s' : LSt, fL_law_J444 u5 (sumL l n + bh + bm, nI i, nI n, bh, bm, k, l, o, t, dd, ts, tb, tm, tk, tl, to, tt, td, pp, lw, lb, ca, ck, ct, cb, sd, d, r, w) (nI f) (nI p) (upd d (21 + f) (nI p)) = some (Sum.inl s') ∧ GOOD (i + 1) s' := by
  have hn := hR.1.1
  obtain ⟨v1, v2, v3⟩ := hR.1.2.2.1 f (by omega)
  have hu : upd d (21 + f) (nI p) (11 + f) = l f := by rw [upd_eq, if_neg (by omega)]; exact v2
  have hneg : (if 0 ≤ d (21 + f) then 0 else 1 : Int32) = 1 := by rw [v3, ho]; decide
  unfold fL_law_J444
  dsimp only
  rw [fetchYes hn hf hp 0 bh bm ho, bd_s, a21N, a11N, clN (show 21 + f < 2 ^ 31 by omega), clN (show 11 + f < 2 ^ 31 by omega), hneg, if_neg (show ¬ (1 : Int32) = 0 by decide), gd_t (inbN (show 11 + f < 33 by omega) (by omega)), hu]
  unfold fL_law_J469
  dsimp only
  rw [if_pos rfl, a21N, clN (show 21 + f < 2 ^ 31 by omega), hneg, if_neg (show ¬ (1 : Int32) = 0 by decide)]
  unfold fL_law_J516
  dsimp only
  exact J819N u5 _ rfl ⟨n, hn1, rfl, R29_own hR (by omega) hp, rfl⟩ ..
/-- into the bank -/
theorem bankTurn (u5 : U5t) {i n f c p : Nat} {bh bm : Int32} {k l o t dd d r w : Nat → Int32} (hn1 : 1 ≤ n) (hR : R29 n k l o t dd d r w bh bm) (hf : f < n) (hp : p < 6) (hc : c < 6) (ho : o f = nI c) (ts tb tm : Int32) (tk tl to tt td : Nat → Int32) (pp lw lb : Int32) (ca : Int64) (ck ct : Int32) (cb : Nat → Int64) (sd : Int64) : ∃ s' : LSt, fL_law_J444 u5 (sumL l n + bh + bm, nI i, nI n, bh, bm, k, l, o, t, dd, ts, tb, tm, tk, tl, to, tt, td, pp, lw, lb, ca, ck, ct, cb, sd, d, r, w) (nI f) (nI p) d = some (Sum.inl s') ∧ GOOD (i + 1) s' := by
  have hn := hR.1.1
  obtain ⟨v1, v2, v3⟩ := hR.1.2.2.1 f (by omega)
  have hob : ¬ o f = -1 := by rw [ho, m1N (by omega)]; exact id
  have hneg : (if 0 ≤ d (21 + f) then 0 else 1 : Int32) = 0 := by rw [v3, ho, if_pos (show (0 : Int32) ≤ nI c from nI_pos' (by omega))]
  obtain ⟨v, hv, hg, D, R, hG, hR', hD, hS⟩ := R29_goes hR hf (to := -1) (Or.inl rfl)
  have hob2 : upd o f (-1) f = -1 := by rw [upd_eq, if_pos rfl]
  unfold fL_law_J444
  dsimp only
  rw [fetchNo hn hf hp 0 bh bm hob, bd_s, a21N, clN (show 21 + f < 2 ^ 31 by omega), hneg, if_pos rfl]
  unfold fL_law_J469
  dsimp only
  rw [if_pos rfl, a21N, clN (show 21 + f < 2 ^ 31 by omega), hneg, if_pos rfl, hG, bd_s, bankYes hn hf hob hg 0 bh bm, bd_s]
  dsimp only
  rw [a11N, gd_t (inbN (show 11 + f < 33 by omega) (by omega)), clN (show 11 + f < 2 ^ 31 by omega), if_pos hD.symm, bankNo hn hf 0 (bh + (l f - nI v)) bm hob2, bd_s]
  dsimp only
  rw [if_pos rfl]
  unfold fL_law_J516
  dsimp only
  exact J819N u5 _ rfl ⟨n, hn1, rfl, hR', hS.symm⟩ ..
/-- a month, and June behind it -/
theorem juneTurn (u5 : U5t) {i n : Nat} {bh bm bm' lost came : Int32} {k l o t dd d r w L D : Nat → Int32} (hn1 : 1 ≤ n) (hR : R29 n k L o t dd D r w bh bm') (hcame : came = sumL L n + bh + bm') (x : Int32) (ts tb tm : Int32) (tk tl to tt td : Nat → Int32) (pp lw lb : Int32) (ca : Int64) (ck ct : Int32) (cb : Nat → Int64) (sd : Int64) : ∃ s' : LSt, fL_law_J564 u5 (came, nI i, nI n, bh, bm, k, l, o, t, dd, ts, tb, tm, tk, tl, to, tt, td, pp, lw, lb, ca, ck, ct, cb, sd, d, r, w) x (lost, bm', L) (lost, D) = some (Sum.inl s') ∧ GOOD (i + 1) s' := by
  obtain ⟨q, hq, eq⟩ := atN (x >>> (12 &&& 31)) (m := 3) (by omega) (by omega)
  have eq' : fL_at (x >>> (12 &&& 31)) 3 = some (nI q) := eq
  unfold fL_law_J564
  rw [if_pos rfl, eq', bd_s]
  have e0 : (nI q = 0) = (q = 0) := eqN (b := 0) (by omega) (by omega)
  by_cases hq0 : q = 0
  · rw [if_pos (e0.mpr hq0)]
    obtain ⟨m, K, L2, O, T, D2, R2, hnm, j1, j2, j3, j4⟩ := R29_june hR 0
    have j1' := j1
    dsimp only
    rw [j1, bd_s, j2, bd_s]
    dsimp only
    rw [if_pos rfl]
    unfold fL_law_J614
    dsimp only
    refine J819N u5 _ rfl ⟨m, by omega, rfl, j3, ?_⟩ ..
    rw [hcame, j4]
    show sumL L n + bh + bm' + 9 * (D2 0 - D 0) = _
    grind
  · rw [if_neg (fun z => hq0 (e0.mp z))]
    unfold fL_law_J614
    dsimp only
    exact J819N u5 _ rfl ⟨n, hn1, rfl, hR, hcame⟩ ..
