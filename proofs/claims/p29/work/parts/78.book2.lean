/-! a book: written, read, laid down -/
theorem writeL {n : Nat} (hn : n ≤ 10) (kp : Int32) {T : Nat → Int32} (hT : ∀ i : Nat, i < n → ∃ x : Nat, 0 < x ∧ x < 127 ∧ T i = nI x) : fL_write 20 kp 0 (fun _ => 0) T (nI n) = some (1, nI n, cpF n T (fun _ => 0)) := by
  unfold fL_write
  have h := iter_for (st := fL_write_L2 20 kp T (nI n)) (fun i => (nI i, nI i, cpF i T (fun _ => 0))) n (Sum.inr (nI n, cpF n T (fun _ => 0))) (0, 0, fun _ => 0) rfl (by omega) (fun i hi => by
    obtain ⟨x, x0, x1, ex⟩ := hT i hi
    show fL_write_L2 20 kp T (nI n) (nI i, nI i, cpF i T (fun _ => 0)) = some (Sum.inl (nI (i + 1), nI (i + 1), cpF (i + 1) T (fun _ => 0)))
    unfold fL_write_L2
    dsimp only
    rw [if_neg (by rw [leN (by omega) (by omega)]; omega), gd_t (inbN (by omega) (by omega)), clN (by omega), ex, lettersOne (by omega) x0 x1, bd_s, nI1]
    dsimp only
    rw [if_pos rfl, ← ex]
    refine congrArg (fun z => some (Sum.inl (nI (i + 1), nI (i + 1), z))) ?_
    funext j
    rw [upd_eq]
    unfold cpF
    by_cases e : j = i
    · rw [if_pos e, if_pos (by omega), e]
    · rw [if_neg e]
      by_cases e2 : j < i
      · rw [if_pos e2, if_pos (by omega)]
      · rw [if_neg e2, if_neg (by omega)]) (by
    show fL_write_L2 20 kp T (nI n) (nI n, nI n, cpF n T (fun _ => 0)) = _
    unfold fL_write_L2
    dsimp only
    rw [if_pos (by rw [leN (by omega) (by omega)]; omega)])
  rw [h]
  rfl
/-- the class's page holds the text -/
def PG (P : Nat → Nat × Nat) (cnt : Nat) (codes : Nat → Int32) : Prop := ∀ i : Nat, i < posN P cnt → codes i = tN P cnt i
theorem faultB {P : Nat → Nat × Nat} (hP : ∀ k : Nat, (P k).1 < 5 ∧ (P k).2 < 10) {cnt : Nat} (hc : cnt ≤ 5) {codes : Nat → Int32} (hg : PG P cnt codes) : fX6_firstFault (nI (posN P cnt)) codes = some (nI (posN P cnt)) := by
  have hpc := pos_le P cnt
  unfold fX6_firstFault
  have h := iter_blocks (st := fX6_firstFault_L6 (nI (posN P cnt)) codes) (fun k => (nI k, 0, nI (posN P k))) cnt (Sum.inr (Sum.inr ())) (0, 0, 0) rfl (by omega) (fun k hk => by
    obtain ⟨p1, p2⟩ := hP k
    have hm := pos_mono P (k + 1) (cnt - (k + 1))
    rw [show k + 1 + (cnt - (k + 1)) = cnt by omega] at hm
    obtain ⟨d1, d2⟩ := dig_all ⟨(P k).2, p2⟩
    dsimp only at d1 d2
    by_cases e : (P k).1 = 0
    · obtain ⟨t1, t2⟩ := tN_zero P hk e
      refine Or.inl ?_
      show fX6_firstFault_L6 (nI (posN P cnt)) codes (nI k, 0, nI (posN P k)) = some (Sum.inl (nI (k + 1), 0, nI (posN P (k + 1))))
      unfold fX6_firstFault_L6 fX6_firstFault_J66
      dsimp only
      rw [if_neg (by rw [leN (by omega) (by omega)]; omega), if_neg (show ¬ nI k = 10 by rw [show (10 : Int32) = nI 10 from rfl, eqN (by omega) (by omega)]; omega), gd_t (inbN (by omega) (by omega)), clN (by omega), hg _ (by omega), t1, if_neg d1, nI1, nI1, t2]
    · obtain ⟨t1, t3, t2⟩ := tN_two P hk e
      obtain ⟨x, x0, x1, ex, l1, l2, l3⟩ := ltr_rng (show 0 < (P k).1 by omega) p1
      refine Or.inr ⟨(nI k, 1, nI (posN P k + 1)), ?_, ?_⟩
      · show fX6_firstFault_L6 (nI (posN P cnt)) codes (nI k, 0, nI (posN P k)) = _
        unfold fX6_firstFault_L6 fX6_firstFault_J66
        dsimp only
        rw [if_neg (by rw [leN (by omega) (by omega)]; omega), if_neg (show ¬ nI k = 10 by rw [show (10 : Int32) = nI 10 from rfl, eqN (by omega) (by omega)]; omega), gd_t (inbN (by omega) (by omega)), clN (by omega), hg _ (by omega), t1, if_pos l1, if_pos rfl, l2, if_neg l3, nI1]
      · show fX6_firstFault_L6 (nI (posN P cnt)) codes (nI k, 1, nI (posN P k + 1)) = some (Sum.inl (nI (k + 1), 0, nI (posN P (k + 1))))
        unfold fX6_firstFault_L6 fX6_firstFault_J66
        dsimp only
        rw [if_neg (by rw [leN (by omega) (by omega)]; omega), if_neg (show ¬ nI k = 10 by rw [show (10 : Int32) = nI 10 from rfl, eqN (by omega) (by omega)]; omega), gd_t (inbN (by omega) (by omega)), clN (by omega), hg _ (by omega), t3, if_neg d1, nI1, nI1, t2]) (by
    show fX6_firstFault_L6 (nI (posN P cnt)) codes (nI cnt, 0, nI (posN P cnt)) = _
    unfold fX6_firstFault_L6
    dsimp only
    rw [if_pos (by rw [leN (by omega) (by omega)]; omega)])
  rw [h]
  rfl
theorem countB {P : Nat → Nat × Nat} (hP : ∀ k : Nat, (P k).1 < 5 ∧ (P k).2 < 10) {cnt : Nat} (hc : cnt ≤ 5) {codes : Nat → Int32} (hg : PG P cnt codes) : iter (fX6_frondsOfBook_L41 (nI (posN P cnt)) codes) FU (0, 0) = some (nI cnt) := by
  have hpc := pos_le P cnt
  exact iter_blocks (st := fX6_frondsOfBook_L41 (nI (posN P cnt)) codes) (fun k => (nI k, nI (posN P k))) cnt (nI cnt) (0, 0) rfl (by omega) (fun k hk => by
    obtain ⟨p1, p2⟩ := hP k
    have hm := pos_mono P (k + 1) (cnt - (k + 1))
    rw [show k + 1 + (cnt - (k + 1)) = cnt by omega] at hm
    obtain ⟨d1, d2⟩ := dig_all ⟨(P k).2, p2⟩
    dsimp only at d1 d2
    by_cases e : (P k).1 = 0
    · obtain ⟨t1, t2⟩ := tN_zero P hk e
      refine Or.inl ?_
      show fX6_frondsOfBook_L41 (nI (posN P cnt)) codes (nI k, nI (posN P k)) = some (Sum.inl (nI (k + 1), nI (posN P (k + 1))))
      unfold fX6_frondsOfBook_L41
      dsimp only
      rw [if_neg (by rw [leN (by omega) (by omega)]; omega), gd_t (inbN (by omega) (by omega)), clN (by omega), hg _ (by omega), t1, if_neg d1, nI1, nI1, t2]
    · obtain ⟨t1, t3, t2⟩ := tN_two P hk e
      obtain ⟨x, x0, x1, ex, l1, l2, l3⟩ := ltr_rng (show 0 < (P k).1 by omega) p1
      refine Or.inr ⟨(nI k, nI (posN P k + 1)), ?_, ?_⟩
      · show fX6_frondsOfBook_L41 (nI (posN P cnt)) codes (nI k, nI (posN P k)) = _
        unfold fX6_frondsOfBook_L41
        dsimp only
        rw [if_neg (by rw [leN (by omega) (by omega)]; omega), gd_t (inbN (by omega) (by omega)), clN (by omega), hg _ (by omega), t1, if_pos l1, nI1]
      · show fX6_frondsOfBook_L41 (nI (posN P cnt)) codes (nI k, nI (posN P k + 1)) = some (Sum.inl (nI (k + 1), nI (posN P (k + 1))))
        unfold fX6_frondsOfBook_L41
        dsimp only
        rw [if_neg (by rw [leN (by omega) (by omega)]; omega), gd_t (inbN (by omega) (by omega)), clN (by omega), hg _ (by omega), t3, if_neg d1, nI1, nI1, t2]) (by
    show fX6_frondsOfBook_L41 (nI (posN P cnt)) codes (nI cnt, nI (posN P cnt)) = _
    unfold fX6_frondsOfBook_L41
    dsimp only
    rw [if_pos (by rw [leN (by omega) (by omega)]; omega)])
theorem lastDig {P : Nat → Nat × Nat} (hP : ∀ k : Nat, (P k).1 < 5 ∧ (P k).2 < 10) {cnt : Nat} (h1 : 1 ≤ cnt) : ¬ fX6_isDigit (tN P cnt (posN P cnt - 1)) = 0 := by
  obtain ⟨k, rfl⟩ : ∃ k, cnt = k + 1 := ⟨cnt - 1, by omega⟩
  obtain ⟨d1, -⟩ := dig_all ⟨(P k).2, (hP k).2⟩
  dsimp only at d1
  by_cases e : (P k).1 = 0
  · obtain ⟨t1, t2⟩ := tN_zero P (Nat.lt_succ_self k) e
    rw [t2, Nat.add_sub_cancel, t1]
    exact d1
  · obtain ⟨t1, t3, t2⟩ := tN_two P (Nat.lt_succ_self k) e
    rw [t2, show posN P k + 2 - 1 = posN P k + 1 by omega, t3]
    exact d1
theorem frondsB {P : Nat → Nat × Nat} (hP : ∀ k : Nat, (P k).1 < 5 ∧ (P k).2 < 10) {cnt : Nat} (h1 : 1 ≤ cnt) (hc : cnt ≤ 5) {codes : Nat → Int32} (hg : PG P cnt codes) : fX6_frondsOfBook (nI (posN P cnt)) codes = some (nI cnt) := by
  have hpc := pos_le P cnt
  have hpg := pos_ge P cnt
  have hl := lastDig hP h1
  have hs : (nI (posN P cnt) - 1) = nI (posN P cnt - 1) := by rw [show (1 : Int32) = nI 1 from rfl, subN (by omega)]
  unfold fX6_frondsOfBook
  rw [if_neg (nI_ne0 (by omega) (by omega)), faultB hP hc hg, bd_s, if_neg (by rw [ltN (by omega) (by omega)]; omega), hs, gd_t (inbN (by omega) (by omega)), clN (by omega), hg _ (by omega), if_neg hl, countB hP hc hg]
  rfl
/-- the fronds laid down one behind another -/
def aK (P : Nat → Nat × Nat) : Nat → Nat → Int32
  | 0 => fun _ => 0
  | k + 1 => upd (aK P k) k (nI (P k).1)
def aL (P : Nat → Nat × Nat) : Nat → Nat → Int32
  | 0 => fun _ => 0
  | k + 1 => upd (aL P k) k (nI (P k).2)
def aO (w : Int32) : Nat → Nat → Int32
  | 0 => fun _ => 0
  | k + 1 => upd (aO w k) k w
def aT : Nat → Nat → Int32
  | 0 => fun _ => 0
  | k + 1 => newT (aT k) k
def aD (P : Nat → Nat × Nat) (w : Int32) : Nat → Nat → Int32
  | 0 => fun _ => 0
  | k + 1 => addD (aD P w k) k (nI (P k).1) (nI (P k).2) w
theorem aR {P : Nat → Nat × Nat} (hP : ∀ k : Nat, (P k).1 < 5 ∧ (P k).2 < 10) {who : Nat} (hw : who < 6) : ∀ k : Nat, k ≤ 10 → R29 k (aK P k) (aL P k) (aO (nI who) k) (aT k) (fun _ => 0) (aD P (nI who) k) (aT k) (fun _ => 0) 0 0
  | 0, _ => ⟨⟨by omega, rfl, fun f hf => ⟨rfl, rfl, rfl⟩, fun f hf => ⟨⟨0, by omega, rfl⟩, ⟨0, by omega, rfl⟩, Or.inr ⟨0, by omega, rfl⟩⟩⟩, rfl, rfl, fun i hi => rfl, fun i hi => ⟨rfl, 0, by omega, rfl⟩⟩
  | k + 1, h => by
    have ih := aR hP hw k (by omega)
    exact (R29_add ih (show k < 10 by omega) ⟨_, (hP k).1, rfl⟩ ⟨_, (hP k).2, rfl⟩ (Or.inr ⟨who, hw, rfl⟩)).1
theorem readB {P : Nat → Nat × Nat} (hP : ∀ k : Nat, (P k).1 < 5 ∧ (P k).2 < 10) {cnt : Nat} (hc : cnt ≤ 5) {codes : Nat → Int32} (hg : PG P cnt codes) (w : Int32) : fX6_readInto (nI (posN P cnt)) codes 0 0 0 (fun _ => 0) (fun _ => 0) (fun _ => 0) (fun _ => 0) w = some (nI cnt, aK P cnt, aL P cnt, aO w cnt, aT cnt) := by
  have hpc := pos_le P cnt
  unfold fX6_readInto
  have h := iter_blocks (st := fX6_readInto_L5 (nI (posN P cnt)) codes 0 0 w) (fun k => ((0 : Int32), nI (posN P k), nI k, aK P k, aL P k, aO w k, aT k)) cnt (nI cnt, aK P cnt, aL P cnt, aO w cnt, aT cnt) (0, 0, 0, fun _ => 0, fun _ => 0, fun _ => 0, fun _ => 0) rfl (by omega) (fun k hk => by
    obtain ⟨p1, p2⟩ := hP k
    have hm := pos_mono P (k + 1) (cnt - (k + 1))
    rw [show k + 1 + (cnt - (k + 1)) = cnt by omega] at hm
    obtain ⟨d1, d2⟩ := dig_all ⟨(P k).2, p2⟩
    dsimp only at d1 d2
    by_cases e : (P k).1 = 0
    · obtain ⟨t1, t2⟩ := tN_zero P hk e
      refine Or.inl ?_
      show fX6_readInto_L5 (nI (posN P cnt)) codes 0 0 w (0, nI (posN P k), nI k, aK P k, aL P k, aO w k, aT k) = some (Sum.inl (0, nI (posN P (k + 1)), nI (k + 1), upd (aK P k) k (nI (P k).1), upd (aL P k) k (nI (P k).2), upd (aO w k) k w, newT (aT k) k))
      unfold fX6_readInto_L5 fX6_readInto_J60
      dsimp only
      rw [if_neg (by rw [leN (by omega) (by omega)]; omega), gd_t (inbN (by omega) (by omega)), clN (by omega), hg _ (by omega), t1, if_neg d1, d2, addN (show k < 10 by omega), bd_s, nI1, t2, e]
      rfl
    · obtain ⟨t1, t3, t2⟩ := tN_two P hk e
      obtain ⟨x, x0, x1, ex, l1, l2, l3⟩ := ltr_rng (show 0 < (P k).1 by omega) p1
      refine Or.inr ⟨(nI (P k).1, nI (posN P k + 1), nI k, aK P k, aL P k, aO w k, aT k), ?_, ?_⟩
      · show fX6_readInto_L5 (nI (posN P cnt)) codes 0 0 w (0, nI (posN P k), nI k, aK P k, aL P k, aO w k, aT k) = _
        unfold fX6_readInto_L5 fX6_readInto_J60
        dsimp only
        rw [if_neg (by rw [leN (by omega) (by omega)]; omega), gd_t (inbN (by omega) (by omega)), clN (by omega), hg _ (by omega), t1, if_pos l1, l2, nI1]
      · show fX6_readInto_L5 (nI (posN P cnt)) codes 0 0 w (nI (P k).1, nI (posN P k + 1), nI k, aK P k, aL P k, aO w k, aT k) = some (Sum.inl (0, nI (posN P (k + 1)), nI (k + 1), upd (aK P k) k (nI (P k).1), upd (aL P k) k (nI (P k).2), upd (aO w k) k w, newT (aT k) k))
        unfold fX6_readInto_L5 fX6_readInto_J60
        dsimp only
        rw [if_neg (by rw [leN (by omega) (by omega)]; omega), gd_t (inbN (by omega) (by omega)), clN (by omega), hg _ (by omega), t3, if_neg d1, d2, addN (show k < 10 by omega), bd_s, nI1, t2]) (by
    show fX6_readInto_L5 (nI (posN P cnt)) codes 0 0 w (0, nI (posN P cnt), nI cnt, aK P cnt, aL P cnt, aO w cnt, aT cnt) = _
    unfold fX6_readInto_L5
    dsimp only
    rw [if_pos (by rw [leN (by omega) (by omega)]; omega)])
  rw [h]
  rfl
theorem bookN (x y : Int32) : ∃ (n : Nat) (k l o t pc d r : Nat → Int32), 1 ≤ n ∧ fL_book 33 40 0 0 0 0 (fun _ => 0) (fun _ => 0) (fun _ => 0) (fun _ => 0) 0 (fun _ => 0) (fun _ => 0) (fun _ => 0) x y 5 = some (1, nI n, k, l, o, t, 0, pc, d, r) ∧ R29 n k l o t (fun _ => 0) d r (fun _ => 0) 0 0 := by
  obtain ⟨cnt, P, h1, h5, hP, ht⟩ := textN x y
  obtain ⟨who, hwho, ew⟩ := atN (x >>> (22 &&& 31)) (m := 6) (by omega) (by omega)
  have hpc := pos_le P cnt
  have hg : PG P cnt (cpF (posN P cnt) (tN P cnt) (fun _ => 0)) := fun i hi => cpF_lt hi
  have hR := aR hP hwho cnt (by omega)
  refine ⟨cnt, aK P cnt, aL P cnt, aO (nI who) cnt, aT cnt, cpF (posN P cnt) (tN P cnt) (fun _ => 0), aD P (nI who) cnt, aT cnt, h1, ?_, hR⟩
  have hc0 : cN (upd (fun _ => 0) 0 (nI cnt)) P cnt 0 = nI cnt := (cN_0 _ P cnt).trans rfl
  have hfl : fX10_fault 0 (nI (posN P cnt)) (cpF (posN P cnt) (tN P cnt) (fun _ => 0)) = some (nI (posN P cnt)) := by
    unfold fX10_fault
    rw [faultB hP h5 hg]
    rfl
  have hbk : fX10_book 0 0 0 0 (fun _ => 0) (fun _ => 0) (fun _ => 0) (fun _ => 0) (nI (posN P cnt)) (cpF (posN P cnt) (tN P cnt) (fun _ => 0)) (nI who) = some (nI cnt, nI cnt, aK P cnt, aL P cnt, aO (nI who) cnt, aT cnt, 0) := by
    unfold fX10_book
    rw [if_neg (person_t hwho), frondsB hP h1 h5 hg, bd_s, if_neg (show ¬ nI cnt = -1 by rw [m1N (by omega)]; exact id), if_pos (show (0 : Int32) + nI cnt ≤ 10 by rw [Int32.zero_add, show (10 : Int32) = nI 10 from rfl, leN (by omega) (by omega)]; omega), readB hP h5 hg, bd_s]
  have hadd : iter (fL_book_L115 33 40 (nI (posN P cnt), cN (upd (fun _ => 0) 0 (nI cnt)) P cnt, tN P cnt) (nI who)) FU (0, fun _ => 0, fun _ => 0) = some (aD P (nI who) cnt, aT cnt) := by
    refine iter_for (fun k => (nI k, aD P (nI who) k, aT k)) cnt _ _ rfl (by omega) (fun k hk => ?_) ?_
    · obtain ⟨c1, c2⟩ := cN_at (upd (fun _ => 0) 0 (nI cnt)) P cnt hk (by omega)
      have hd0 := (aR hP hwho k (by omega)).1.2.1
      show fL_book_L115 33 40 (nI (posN P cnt), cN (upd (fun _ => 0) 0 (nI cnt)) P cnt, tN P cnt) (nI who) (nI k, aD P (nI who) k, aT k) = some (Sum.inl (nI (k + 1), addD (aD P (nI who) k) k (nI (P k).1) (nI (P k).2) (nI who), newT (aT k) k))
      unfold fL_book_L115
      simp only [c00, hc0]
      rw [if_neg (by rw [leN (by omega) (by omega)]; omega), a1N, a11N, gd_t (inbN (by omega) (by omega)), gd_t (inbN (by omega) (by omega)), clN (by omega), clN (by omega), c1, c2, addL (show k < 10 by omega) hd0, bd_s, nI1]
    · show fL_book_L115 33 40 (nI (posN P cnt), cN (upd (fun _ => 0) 0 (nI cnt)) P cnt, tN P cnt) (nI who) (nI cnt, aD P (nI who) cnt, aT cnt) = _
      unfold fL_book_L115
      simp only [c00, hc0]
      rw [if_pos (by rw [leN (by omega) (by omega)]; omega)]
  unfold fL_book
  rw [ht, bd_s, show (6 : Int32) = nI 6 from rfl, ew, bd_s]
  dsimp only
  rw [writeL (by omega) 0 (fun i hi => tN_rng P hP cnt i hi), bd_s]
  dsimp only
  rw [if_neg (show ¬ (1 : Int32) = 0 by decide), hfl, bd_s, if_pos rfl, gd_t (show inb 0 33 = true by decide)]
  simp only [c00, hc0]
  rw [if_pos (show (0 : Int32) + nI cnt ≤ 10 by rw [Int32.zero_add, show (10 : Int32) = nI 10 from rfl, leN (by omega) (by omega)]; omega), hbk, bd_s]
  dsimp only
  rw [if_pos rfl, hadd, bd_s]
  rfl
