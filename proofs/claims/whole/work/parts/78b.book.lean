/-! book: the page read into fronds -/
def mrowN (rows : Nat → Int32) (n : Nat) (K L : Nat → Int32) (c : Int32) : Nat → Nat → Int32
  | 0 => rows
  | j + 1 => newR (mrowN rows n K L c j) (n + j) (K j) (L j) c
theorem q_readCount {codes : Nat → Int32} {p : Nat} (hp : p ≤ 22) : iter (fX6_frondsOfBook_L41 (nI p) codes) FU (0, 0) = some (nI (prN codes p)) := by
  obtain ⟨e, h1, h2⟩ := one_for (st := fX6_frondsOfBook_L41 (nI p) codes) (fun i z => z = (nI (prN codes i), nI i)) (fun e => e = nI (prN codes p)) p (by omega)
    (fun i z hi hI => by
      subst hI
      unfold fX6_frondsOfBook_L41
      dsimp only
      rw [if_neg (show ¬ nI p ≤ nI i by rw [leN (by omega) (by omega)]; omega), gd_t (inbN (by omega) (by omega)), clN (by omega)]
      refine ⟨_, rfl, Prod.ext ?_ (nI1 i)⟩
      show (if fX6_isDigit (codes i) = 0 then nI (prN codes i) else nI (prN codes i) + 1) = nI (prN codes i + (if dgt codes i = true then 1 else 0))
      by_cases hd : fX6_isDigit (codes i) = 0
      · rw [if_pos hd, if_neg (show ¬ dgt codes i = true from fun q => (of_decide_eq_true q : ¬ fX6_isDigit (codes i) = 0) hd)]
        rfl
      · rw [if_neg hd, if_pos (show dgt codes i = true from decide_eq_true hd), nI1])
    (fun z hI => by
      subst hI
      unfold fX6_frondsOfBook_L41
      dsimp only
      rw [if_pos (show nI p ≤ nI p by rw [leN (by omega) (by omega)]; omega)]
      exact ⟨_, rfl, rfl⟩) (0, 0) rfl
  rw [h1, h2]
theorem digitN {x : Int32} (h : ¬ fX6_isDigit x = 0) : ∃ q : Nat, q < 10 ∧ x - 48 = nI q := by
  have h' : ¬ fX10_isWithin x (nI 48) (nI 57) = 0 := h
  obtain ⟨j, h1, h2, rfl⟩ := withinN (by omega) (by omega) h'
  exact ⟨j - 48, by omega, by rw [show (48 : Int32) = nI 48 from rfl, subN h1]⟩
theorem q_book {k l o t d : Nat → Int32} {sz bh bm : Int32} {rows debts : Nat → Int32} {many mh mm : Int32} (hH : RelH k l o t d sz bh bm rows debts many mh mm) {codes : Nat → Int32} {psz : Int32} {page : Nat → Int32} {pm : Int32} (hP : RelP codes psz page pm) (kp rm td rn sn km kb kc : Int32) (hh : Int64) (K0 L0 : Nat → Int32) (x1 : Int32) : ∃ zx, fX10_book kp sz bh bm k l o t psz codes x1 = some zx ∧ ∃ zm, fX11_book pm rm td many mh mm rn sn km kb kc hh page K0 L0 rows x1 = some zm ∧ zx.1 = zm.1 ∧ RelH zx.2.2.1 zx.2.2.2.1 zx.2.2.2.2.1 zx.2.2.2.2.2.1 d zx.2.1 bh bm zm.2.2.2.2.2.2.2 debts zm.2.2.2.2.1 mh mm ∧ RelP codes zx.2.2.2.2.2.2 page zm.2.1 := by
  obtain ⟨i, K, L, h1, h2, h3, h4, hF, h10, hA⟩ := q_faultOf hP rm td many mh mm rn sn km kb kc hh K0 L0
  have hH0 := hH
  have hP0 := hP
  obtain ⟨n, hn, rfl, rfl, rfl, rfl, hC, hRD⟩ := hH
  obtain ⟨p, hp, rfl, rfl, hq⟩ := hP
  rw [clN (by omega)] at h4
  unfold fX10_book fX11_book
  rw [isPerson_eq]
  by_cases c1 : fX10_isPerson x1 = 0
  · rw [if_pos c1, if_pos c1]; exact ⟨_, rfl, _, rfl, rfl, hH0, hP0⟩
  rw [if_neg c1, if_neg c1, h2, bd_s]
  dsimp only
  unfold fX6_frondsOfBook
  rw [h1]
  have ep0 : (nI p = 0) = (p = 0) := eqN (b := 0) (by omega) (by omega)
  have elt : (nI i < nI p) = (i < p) := ltN (by omega) (by omega)
  by_cases c2 : p = 0
  · rw [if_pos (ep0.mpr c2), bd_s, if_pos rfl, if_neg (fun q => by rw [elt] at q; omega)]
    have e0 : i = 0 := by omega
    subst e0
    rw [if_pos (show tfl codes 0 = 0 from rfl), if_pos (show nI (prN codes 0) = 0 from rfl)]
    exact ⟨_, rfl, _, rfl, rfl, hH0, hP0⟩
  rw [if_neg (fun q => c2 (ep0.mp q)), bd_s]
  by_cases c3 : i < p
  · rw [if_pos (elt.mpr c3), if_pos (elt.mpr c3), bd_s, if_pos rfl]
    exact ⟨_, rfl, _, rfl, rfl, hH0, hP0⟩
  rw [if_neg (fun q => c3 (elt.mp q)), if_neg (fun q => c3 (elt.mp q))]
  have hip : i = p := by omega
  subst hip
  rw [show (nI i - 1) = nI (i - 1) from subN (b := 1) (by omega), gd_t (inbN (show i - 1 < 22 by omega) (by omega)), clN (show i - 1 < 2 ^ 31 by omega)]
  obtain ⟨q, rfl⟩ : ∃ q, i = q + 1 := ⟨i - 1, by omega⟩
  rw [show q + 1 - 1 = q by omega]
  by_cases c4 : fX6_isDigit (codes q) = 0
  · have hd : ¬ dgt codes q = true := fun e => (of_decide_eq_true e : ¬ fX6_isDigit (codes q) = 0) c4
    have hpk : pkN codes (q + 1) = fX5_ofLetter (codes q) := by
      show (if dgt codes q = true then (0 : Int32) else _) = _
      rw [if_neg hd]
    have htf : tfl codes (q + 1) = 1 := by
      unfold tfl
      rw [hpk, if_neg]
      rcases letter_rng (codes q) with h | ⟨w, hq1, hq2, hq3⟩
      · rcases hA q (by omega) with g | g
        · exact absurd g hd
        · exact absurd h g
      · rw [hq3]; exact nI_ne0 hq1 (by omega)
    rw [if_pos c4, bd_s, if_pos rfl, if_neg (show ¬ tfl codes (q + 1) = 0 by rw [htf]; decide)]
    exact ⟨_, rfl, _, rfl, rfl, hH0, hP0⟩
  have hd : dgt codes q = true := decide_eq_true c4
  have hpk : pkN codes (q + 1) = 0 := by
    show (if dgt codes q = true then (0 : Int32) else _) = _
    rw [if_pos hd]
  have htf : tfl codes (q + 1) = 0 := by
    unfold tfl
    rw [if_pos hpk]
  have hpr : 0 < prN codes (q + 1) := by
    show 0 < prN codes q + (if dgt codes q = true then 1 else 0)
    rw [if_pos hd]
    omega
  rw [if_neg c4, q_readCount hp, bd_s]
  unfold fX6_frondsOfBook_X41_70
  generalize hr : prN codes (q + 1) = r at h10 hpr
  rw [bd_s, if_neg (show ¬ nI r = -1 by rw [m1N (by omega)]; exact id), if_pos htf, if_neg (nI_ne0 hpr (by omega)), nI_add, show (10 : Int32) = nI 10 from rfl]
  have e5 : (nI (n + r) ≤ nI 10) = (n + r ≤ 10) := leN (by omega) (by omega)
  by_cases c5 : n + r ≤ 10
  · rw [if_pos (e5.mpr c5), if_pos (e5.mpr c5)]
    obtain ⟨cp, hcp, rfl⟩ := personN c1
    unfold fX6_readInto
    obtain ⟨e1, g1, g2⟩ := one_for (st := fX11_book_L57 (nI (q + 1)) mh mm rn sn km kb kc hh (nI cp) (nI (q + 1), nI r, tfl codes (q + 1), K, L))
      (fun j z => z = (nI j, nI (n + j), mrowN rows n K L (nI cp) j)) (fun e => e = (nI (n + r), mrowN rows n K L (nI cp) r)) r (by omega)
      (fun j z hj hI => by
        subst hI
        unfold fX11_book_L57
        dsimp only
        rw [if_neg (show ¬ nI r ≤ nI j by rw [leN (by omega) (by omega)]; omega), gd_t (inbN (by omega) (by omega)), clN (by omega), beginN (show n + j < 10 by omega) _ _ _ _ _ _ _ _ _ _ 0, bd_s]
        refine ⟨_, rfl, ?_⟩
        show (nI j + 1, nI (n + j + 1), newR (mrowN rows n K L (nI cp) j) (n + j) (K j) (L j) (nI cp)) = _
        rw [nI1]
        rfl)
      (fun z hI => by
        subst hI
        unfold fX11_book_L57
        dsimp only
        rw [if_pos (show nI r ≤ nI r by rw [leN (by omega) (by omega)]; omega)]
        exact ⟨_, rfl, rfl⟩) (0, nI n, rows) rfl
    obtain ⟨e2, g3, g4, g5⟩ := one_for (st := fX6_readInto_L5 (nI (q + 1)) codes mh mm (nI cp))
      (fun j z => z.1 = pkN codes j ∧ z.2.1 = nI j ∧ z.2.2.1 = nI (n + prN codes j) ∧ RC z.2.2.2.1 z.2.2.2.2.1 z.2.2.2.2.2.1 z.2.2.2.2.2.2 (mrowN rows n K L (nI cp) (prN codes j)))
      (fun e => e.1 = nI (n + r) ∧ RC e.2.1 e.2.2.1 e.2.2.2.1 e.2.2.2.2 (mrowN rows n K L (nI cp) r)) (q + 1) (by omega)
      (fun j z hj hI => by
        obtain ⟨kd, ix, s1, k1, l1, o1, t1⟩ := z
        obtain ⟨a1, a2, a3, a4⟩ := hI
        dsimp only at a1 a2 a3 a4
        subst a1; subst a2; subst a3
        have hmono : prN codes (j + 1) ≤ r := by
          have := prN_mono codes (j + 1) (q + 1 - (j + 1))
          rw [show j + 1 + (q + 1 - (j + 1)) = q + 1 by omega, hr] at this
          exact this
        unfold fX6_readInto_L5 fX6_readInto_J60
        dsimp only
        rw [if_neg (show ¬ nI (q + 1) ≤ nI j by rw [leN (by omega) (by omega)]; omega), gd_t (inbN (by omega) (by omega)), clN (by omega)]
        by_cases hdj : dgt codes j = true
        · have c6 : ¬ fX6_isDigit (codes j) = 0 := of_decide_eq_true hdj
          have b1 : prN codes (j + 1) = prN codes j + 1 := by
            show prN codes j + _ = _
            rw [if_pos hdj]
          have b2 : pkN codes (j + 1) = 0 := by
            show (if dgt codes j = true then (0 : Int32) else _) = _
            rw [if_pos hdj]
          obtain ⟨f1, f2⟩ := hF.1 j (by omega) hdj
          rw [if_neg c6, addN (show n + prN codes j < 10 by omega), bd_s]
          refine ⟨_, rfl, b2.symm, nI1 j, ?_, ?_⟩
          · show nI (n + prN codes j + 1) = _
            rw [b1]; rfl
          · show RC (upd k1 (n + prN codes j) (pkN codes j)) (upd l1 (n + prN codes j) (codes j - 48)) (upd o1 (n + prN codes j) (nI cp)) (newT t1 (n + prN codes j)) (mrowN rows n K L (nI cp) (prN codes (j + 1)))
            rw [b1]
            show RC _ _ _ _ (newR (mrowN rows n K L (nI cp) (prN codes j)) (n + prN codes j) (K (prN codes j)) (L (prN codes j)) (nI cp))
            rw [f1, f2]
            refine RC_add a4 (by omega) ?_ (digitN c6) (Or.inr ⟨cp, hcp, rfl⟩)
            cases j with
            | zero => exact ⟨0, by omega, rfl⟩
            | succ j =>
              show ∃ q : Nat, q < 5 ∧ (if dgt codes j = true then (0 : Int32) else fX5_ofLetter (codes j)) = nI q
              by_cases hdj' : dgt codes j = true
              · rw [if_pos hdj']; exact ⟨0, by omega, rfl⟩
              · rw [if_neg hdj']
                rcases letter_rng (codes j) with h | ⟨w, hq1, hq2, hq3⟩
                · rcases hA j (by omega) with g | g
                  · exact absurd g hdj'
                  · exact absurd h g
                · exact ⟨w, hq2, hq3⟩
        · have c6 : fX6_isDigit (codes j) = 0 := by
            cases Classical.em (fX6_isDigit (codes j) = 0) with
            | inl h => exact h
            | inr h => exact absurd (decide_eq_true h) hdj
          have b1 : prN codes (j + 1) = prN codes j := by
            show prN codes j + _ = _
            rw [if_neg hdj]
            rfl
          have b2 : pkN codes (j + 1) = fX5_ofLetter (codes j) := by
            show (if dgt codes j = true then (0 : Int32) else _) = _
            rw [if_neg hdj]
          rw [if_pos c6]
          refine ⟨_, rfl, b2.symm, nI1 j, ?_, ?_⟩
          · rw [b1]
          · rw [b1]; exact a4)
      (fun z hI => by
        obtain ⟨kd, ix, s1, k1, l1, o1, t1⟩ := z
        obtain ⟨a1, a2, a3, a4⟩ := hI
        dsimp only at a1 a2 a3 a4
        subst a1; subst a2; subst a3
        unfold fX6_readInto_L5
        dsimp only
        rw [if_pos (show nI (q + 1) ≤ nI (q + 1) by rw [leN (by omega) (by omega)]; omega)]
        rw [hr] at a4 ⊢
        exact ⟨_, rfl, rfl, a4⟩) (0, 0, nI n, k, l, o, t) ⟨rfl, rfl, rfl, hC⟩
    rw [g1, g3, bd_s, bd_s, g2]
    unfold fX6_readInto_X5_66 fX11_book_X57_89
    rw [bd_s]
    refine ⟨_, rfl, _, rfl, rfl, ⟨n + r, c5, g4, rfl, rfl, rfl, g5, hRD⟩, ⟨0, by omega, rfl, rfl, fun j hj => absurd hj (Nat.not_lt_zero _)⟩⟩
  · rw [if_neg (fun w => c5 (e5.mp w)), if_neg (fun w => c5 (e5.mp w))]
    exact ⟨_, rfl, _, rfl, rfl, hH0, hP0⟩
