/-! rows of people: the model -/
def tnN (fm code k j : Nat) : Int32 := if j < k then nI (atN fm code (k - 1 - j)) else -1
theorem tn_zero (fm code k : Nat) : tnN fm code (k + 1) 0 = nI (atN fm code k) := by
  unfold tnN
  rw [if_pos (by omega)]
  rfl
theorem tn_succ (fm code k j : Nat) : tnN fm code (k + 1) (j + 1) = tnN fm code k j := by
  unfold tnN
  by_cases c : j < k
  · rw [if_pos c, if_pos (by omega), show k + 1 - 1 - (j + 1) = k - 1 - j by omega]
  · rw [if_neg c, if_neg (by omega)]
def adW (fm code : Nat) : Nat → Prop
  | 0 => True
  | k + 1 => adW fm code k ∧ ¬ atN fm code (k + 1) = atN fm code k
def wkP (fm : Nat) (o : Int32) (t : Nat → Int32) (h code : Nat) : Prop := adW fm code h ∧ nI (atN fm code h) = o ∧ tnN fm code h 0 = t 0 ∧ tnN fm code h 1 = t 1 ∧ tnN fm code h 2 = t 2 ∧ tnN fm code h 3 = t 3
noncomputable def ifI (p : Prop) (a b : Int32) : Int32 := @ite Int32 p (Classical.propDecidable p) a b
theorem ifI_pos {p : Prop} {a b : Int32} (h : p) : ifI p a b = a := if_pos h
theorem ifI_neg {p : Prop} {a b : Int32} (h : ¬ p) : ifI p a b = b := if_neg h
theorem walkOne {fm h code : Nat} (hfm : fm < 6) (hh : h ≤ 6) (hcode : code < 6 ^ h) : iter (fX11_walks_L63 (nI h)) FU (nI code, nI fm, -1, -1, -1, -1, 1, 0) = some (nI (atN fm code h), tnN fm code h 0, tnN fm code h 1, tnN fm code h 2, tnN fm code h 3, ifI (adW fm code h) 1 0) := by
  have hc6 : 6 ^ h ≤ 46656 := Nat.pow_le_pow_right (n := 6) (by omega) hh
  obtain ⟨e, h1, h2⟩ := one_for (st := fX11_walks_L63 (nI h)) (fun k z => z = (nI (code / 6 ^ k), nI (atN fm code k), tnN fm code k 0, tnN fm code k 1, tnN fm code k 2, tnN fm code k 3, ifI (adW fm code k) 1 0, nI k)) (fun e => e = (nI (atN fm code h), tnN fm code h 0, tnN fm code h 1, tnN fm code h 2, tnN fm code h 3, ifI (adW fm code h) 1 0)) h (by omega)
    (fun k z hk hI => by
      subst hI
      unfold fX11_walks_L63 fX11_walks_J104 fX11_walks_J105
      dsimp only
      have e1 : (nI h ≤ nI k) = (h ≤ k) := leN (by omega) (by omega)
      have hd : code / 6 ^ k < 2 ^ 31 := by
        have := Nat.div_le_self code (6 ^ k)
        omega
      have ha1 : code / 6 ^ k % 6 = atN fm code (k + 1) := rfl
      have hdd : code / 6 ^ k / 6 = code / 6 ^ (k + 1) := by rw [Nat.div_div_eq_div_mul, ← Nat.pow_succ]
      have e2 : (nI (atN fm code (k + 1)) = nI (atN fm code k)) = (atN fm code (k + 1) = atN fm code k) := eqN (by have := at_lt hfm code (k + 1); omega) (by have := at_lt hfm code k; omega)
      rw [if_neg (fun w => by have := e1.mp w; omega), rem6N hd, div6N hd, ha1, hdd, nI1, tn_zero, tn_succ, tn_succ, tn_succ]
      by_cases c1 : adW fm code k
      · rw [ifI_pos c1, if_neg (show ¬ (1 : Int32) = 0 by decide)]
        by_cases c2 : atN fm code (k + 1) = atN fm code k
        · rw [if_pos (e2.mpr c2), ifI_neg (show ¬ adW fm code (k + 1) from fun w => w.2 c2)]
          exact ⟨_, rfl, rfl⟩
        · rw [if_neg (fun w => c2 (e2.mp w)), ifI_pos (show adW fm code (k + 1) from ⟨c1, c2⟩)]
          exact ⟨_, rfl, rfl⟩
      · rw [ifI_neg c1, if_pos rfl, ifI_neg (show ¬ adW fm code (k + 1) from fun w => c1 w.1)]
        exact ⟨_, rfl, rfl⟩)
    (fun z hI => by
      subst hI
      unfold fX11_walks_L63
      dsimp only
      have e1 : (nI h ≤ nI h) = (h ≤ h) := leN (by omega) (by omega)
      rw [if_pos (e1.mpr (Nat.le_refl h))]
      exact ⟨_, rfl, rfl⟩) (nI code, nI fm, -1, -1, -1, -1, 1, 0) (by
        show _ = (nI (code / 6 ^ 0), nI fm, tnN fm code 0 0, tnN fm code 0 1, tnN fm code 0 2, tnN fm code 0 3, ifI True 1 0, nI 0)
        rw [Nat.pow_zero, Nat.div_one, ifI_pos trivial]
        rfl)
  rw [h1, h2]
theorem walksM {fm h f : Nat} (hfm : fm < 6) (hh : h ≤ 6) (hf : f < 10) (rows : Nat → Int32) {t : Nat → Int32} (ht : ∀ j, j < 4 → rows (8 * f + (4 + j)) = t j) (pm rm td n bh bm rn sn km kb kc : Int32) (h8 : Int64) : fX11_walks pm rm td n bh bm rn sn km kb kc h8 rows (nI f) (nI fm) (nI h) = some (nI (sumN (fun code => ifC (wkP fm (rows (8 * f + 2)) t h code) 1 0) (6 ^ h))) := by
  have hc6 : 6 ^ h ≤ 46656 := Nat.pow_le_pow_right (n := 6) (by omega) hh
  unfold fX11_walks
  obtain ⟨e0, a1, a2⟩ := one_for (st := fX11_walks_L6 (nI h)) (fun k z => z = (nI (6 ^ k), nI k)) (fun e => e = nI (6 ^ h)) h (by omega)
    (fun k z hk hI => by
      subst hI
      unfold fX11_walks_L6
      dsimp only
      have e1 : (nI h ≤ nI k) = (h ≤ k) := leN (by omega) (by omega)
      rw [if_neg (fun w => by have := e1.mp w; omega), show nI (6 ^ k) * 6 = nI (6 ^ (k + 1)) from mulL (6 ^ k) 6, nI1]
      exact ⟨_, rfl, rfl⟩)
    (fun z hI => by
      subst hI
      unfold fX11_walks_L6
      dsimp only
      have e1 : (nI h ≤ nI h) = (h ≤ h) := leN (by omega) (by omega)
      rw [if_pos (e1.mpr (Nat.le_refl h))]
      exact ⟨_, rfl, rfl⟩) (1, 0) rfl
  subst a2
  rw [a1, bd_s]
  unfold fX11_walks_X6_25
  obtain ⟨e, h1, h2⟩ := one_for (st := fX11_walks_L31 rows (nI f) (nI fm) (nI h) (nI (6 ^ h))) (fun code z => z = (nI (sumN (fun code => ifC (wkP fm (rows (8 * f + 2)) t h code) 1 0) code), nI code)) (fun e => e = nI (sumN (fun code => ifC (wkP fm (rows (8 * f + 2)) t h code) 1 0) (6 ^ h))) (6 ^ h) (by omega)
    (fun code z hcode hI => by
      subst hI
      unfold fX11_walks_L31
      dsimp only
      have e1 : (nI (6 ^ h) ≤ nI code) = (6 ^ h ≤ code) := leN (by omega) (by omega)
      rw [if_neg (fun w => by have := e1.mp w; omega), walkOne hfm hh hcode, bd_s]
      unfold fX11_walks_X63_127 fX11_walks_J184 fX11_walks_J185 fX11_walks_J232 fX11_walks_J233 fX11_walks_J232a fX11_walks_J233a
      dsimp only
      have hsum : sumN (fun code => ifC (wkP fm (rows (8 * f + 2)) t h code) 1 0) (code + 1) = sumN (fun code => ifC (wkP fm (rows (8 * f + 2)) t h code) 1 0) code + (ifC (wkP fm (rows (8 * f + 2)) t h code) 1 0) := rfl
      rw [hsum]
      generalize sumN (fun code => ifC (wkP fm (rows (8 * f + 2)) t h code) 1 0) code = A
      have t4 : rows (8 * f + 4) = t 0 := ht 0 (by omega)
      have t5 : rows (8 * f + 5) = t 1 := ht 1 (by omega)
      have t6 : rows (8 * f + 6) = t 2 := ht 2 (by omega)
      have t7 : rows (8 * f + 7) = t 3 := ht 3 (by omega)
      rw [m8N2, m8N4, m8N5, m8N6, m8N7, gd_t (inbN (show 8 * f + 2 < 80 by omega) (by omega)), gd_t (inbN (show 8 * f + 4 < 80 by omega) (by omega)), gd_t (inbN (show 8 * f + 5 < 80 by omega) (by omega)), clN (show 8 * f + 2 < 2 ^ 31 by omega), clN (show 8 * f + 4 < 2 ^ 31 by omega), clN (show 8 * f + 5 < 2 ^ 31 by omega), clN (show 8 * f + 6 < 2 ^ 31 by omega), clN (show 8 * f + 7 < 2 ^ 31 by omega), t4, t5, t6, t7, nI1 code, if_pos (show (0 : Int32) = 0 from rfl), if_neg (show ¬ (1 : Int32) = 0 by decide), gd_t (inbN (show 8 * f + 6 < 80 by omega) (by omega)), gd_t (inbN (show 8 * f + 7 < 80 by omega) (by omega)), nI1 A, Int32.add_zero]
      by_cases c0 : ¬ (adW fm code h)
      · rw [ifI_neg c0, if_pos rfl, ifC_neg (show ¬ wkP fm (rows (8 * f + 2)) t h code from fun w => c0 w.1)]; exact ⟨_, rfl, rfl⟩
      have c0 := Classical.not_not.mp c0
      rw [ifI_pos c0, if_neg (show ¬ (1 : Int32) = 0 by decide)]
      by_cases c1 : ¬ (nI (atN fm code h) = rows (8 * f + 2))
      · rw [if_neg c1, ifC_neg (show ¬ wkP fm (rows (8 * f + 2)) t h code from fun w => c1 w.2.1)]; exact ⟨_, rfl, rfl⟩
      have c1 := Classical.not_not.mp c1
      rw [if_pos c1]
      by_cases c2 : ¬ (tnN fm code h 0 = t 0)
      · rw [if_neg c2, ifC_neg (show ¬ wkP fm (rows (8 * f + 2)) t h code from fun w => c2 w.2.2.1)]; exact ⟨_, rfl, rfl⟩
      have c2 := Classical.not_not.mp c2
      rw [if_pos c2]
      by_cases c3 : ¬ (tnN fm code h 1 = t 1)
      · rw [if_neg c3, ifC_neg (show ¬ wkP fm (rows (8 * f + 2)) t h code from fun w => c3 w.2.2.2.1)]; exact ⟨_, rfl, rfl⟩
      have c3 := Classical.not_not.mp c3
      rw [if_pos c3]
      by_cases c4 : ¬ (tnN fm code h 2 = t 2)
      · rw [if_neg c4, ifC_neg (show ¬ wkP fm (rows (8 * f + 2)) t h code from fun w => c4 w.2.2.2.2.1)]; exact ⟨_, rfl, rfl⟩
      have c4 := Classical.not_not.mp c4
      rw [if_pos c4]
      by_cases c5 : ¬ (tnN fm code h 3 = t 3)
      · rw [if_neg c5, ifC_neg (show ¬ wkP fm (rows (8 * f + 2)) t h code from fun w => c5 w.2.2.2.2.2)]; exact ⟨_, rfl, rfl⟩
      have c5 := Classical.not_not.mp c5
      rw [if_pos c5, ifC_pos (show wkP fm (rows (8 * f + 2)) t h code from ⟨c0, c1, c2, c3, c4, c5⟩)]
      exact ⟨_, rfl, rfl⟩)
    (fun z hI => by
      subst hI
      unfold fX11_walks_L31
      dsimp only
      have e1 : (nI (6 ^ h) ≤ nI (6 ^ h)) = (6 ^ h ≤ 6 ^ h) := leN (by omega) (by omega)
      rw [if_pos (e1.mpr (Nat.le_refl _))]
      exact ⟨_, rfl, rfl⟩) (0, 0) rfl
  rw [h1, h2]
  rfl
theorem good_ad {fm : Nat} {t : Nat → Int32} {h code : Nat} : ∀ k, goodW fm t h code k ↔ adW fm code k ∧ ∀ i, i < k → okT t (h - i) (atN fm code i)
  | 0 => ⟨fun _ => ⟨trivial, fun i hi => by omega⟩, fun _ => trivial⟩
  | k + 1 => by
    have e1 : goodW fm t h code (k + 1) = (goodW fm t h code k ∧ ¬ atN fm code k = atN fm code (k + 1) ∧ okT t (h - k) (atN fm code k)) := rfl
    have e2 : adW fm code (k + 1) = (adW fm code k ∧ ¬ atN fm code (k + 1) = atN fm code k) := rfl
    rw [e1, e2, good_ad k]
    constructor
    · rintro ⟨⟨a1, a2⟩, a3, a4⟩
      refine ⟨⟨a1, fun w => a3 w.symm⟩, fun i hi => ?_⟩
      by_cases c : i = k
      · subst c; exact a4
      · exact a2 i (by omega)
    · rintro ⟨⟨a1, a3⟩, a2⟩
      exact ⟨⟨a1, fun i hi => a2 i (by omega)⟩, fun w => a3 w.symm, a2 k (by omega)⟩
theorem wk_good {fm c : Nat} (hfm : fm < 6) (hc : c < 6) (t : Nat → Int32) (h code : Nat) : wkP fm (nI c) t h code ↔ (goodW fm t h code h ∧ atN fm code h = c) ∧ ∀ j, h ≤ j → j < 4 → t j = -1 := by
  have ec : (nI (atN fm code h) = nI c) = (atN fm code h = c) := eqN (by have := at_lt hfm code h; omega) (by omega)
  unfold wkP
  rw [good_ad h, ec]
  have key : (tnN fm code h 0 = t 0 ∧ tnN fm code h 1 = t 1 ∧ tnN fm code h 2 = t 2 ∧ tnN fm code h 3 = t 3) ↔ ∀ j, j < 4 → tnN fm code h j = t j := by
    constructor
    · rintro ⟨a0, a1, a2, a3⟩ j hj
      have : j = 0 ∨ j = 1 ∨ j = 2 ∨ j = 3 := by omega
      rcases this with rfl | rfl | rfl | rfl <;> assumption
    · intro w
      exact ⟨w 0 (by omega), w 1 (by omega), w 2 (by omega), w 3 (by omega)⟩
  rw [key]
  constructor
  · rintro ⟨a1, a2, a3⟩
    refine ⟨⟨⟨a1, fun i hi hle => ?_⟩, a2⟩, fun j hj hj4 => ?_⟩
    · have := a3 (h - i - 1) (by omega)
      unfold tnN at this
      rw [if_pos (by omega), show h - 1 - (h - i - 1) = i by omega] at this
      exact this.symm
    · have := a3 j hj4
      unfold tnN at this
      rw [if_neg (by omega)] at this
      exact this.symm
  · rintro ⟨⟨⟨a1, a2⟩, a3⟩, a4⟩
    refine ⟨a1, a3, fun j hj => ?_⟩
    unfold tnN
    by_cases k : j < h
    · rw [if_pos k]
      have := a2 (h - 1 - j) (by omega) (by omega)
      rw [show h - (h - 1 - j) - 1 = j by omega] at this
      exact this.symm
    · rw [if_neg k]
      exact (a4 j (by omega) hj).symm
theorem walks_cnt1 {fm c : Nat} (hfm : fm < 6) (hc : c < 6) (t : Nat → Int32) (h : Nat) (k : ∀ j, h ≤ j → j < 4 → t j = -1) : sumN (fun code => ifC (wkP fm (nI c) t h code) 1 0) (6 ^ h) = wayN fm t h h c := by
  rw [← cnt_way hfm t h h c hc]
  refine sumN_congr _ (fun s _ => ?_)
  by_cases g : goodW fm t h s h ∧ atN fm s h = c
  · rw [ifC_pos g, ifC_pos ((wk_good hfm hc t h s).mpr ⟨g, k⟩)]
  · rw [ifC_neg g, ifC_neg (fun w => g ((wk_good hfm hc t h s).mp w).1)]
theorem walks_cnt0 {fm c : Nat} (hfm : fm < 6) (hc : c < 6) (t : Nat → Int32) (h : Nat) (k : ¬ ∀ j, h ≤ j → j < 4 → t j = -1) : sumN (fun code => ifC (wkP fm (nI c) t h code) 1 0) (6 ^ h) = 0 :=
  sumN_zero _ (fun s _ => ifC_neg (fun w => k ((wk_good hfm hc t h s).mp w).2))
