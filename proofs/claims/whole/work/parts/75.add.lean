/-! new fronds: breaking, June -/
theorem iter_5a {S E : Type} {st : S → Option (S ⊕ E)} {s0 s1 s2 s3 s4 : S} {e : E} (n : Nat) (h0 : st s0 = some (Sum.inl s1)) (h1 : st s1 = some (Sum.inl s2)) (h2 : st s2 = some (Sum.inl s3)) (h3 : st s3 = some (Sum.inl s4)) (h4 : st s4 = some (Sum.inr e)) : iter st (n + 5) s0 = some e := by
  rw [show n + 5 = (n + 4) + 1 from rfl, iter_succ, h0]
  exact iter_4a n h1 h2 h3 h4
theorem FU5 : FU = 99995 + 5 := rfl
theorem iter_5 {S E : Type} {st : S → Option (S ⊕ E)} {s0 s1 s2 s3 s4 : S} {e : E} (h0 : st s0 = some (Sum.inl s1)) (h1 : st s1 = some (Sum.inl s2)) (h2 : st s2 = some (Sum.inl s3)) (h3 : st s3 = some (Sum.inl s4)) (h4 : st s4 = some (Sum.inr e)) : iter st FU s0 = some e := by
  rw [FU5]
  exact iter_5a _ h0 h1 h2 h3 h4
def newT (t : Nat → Int32) (n : Nat) : Nat → Int32 := upd (upd (upd (upd t (4 * n) (-1)) (4 * n + 1) (-1)) (4 * n + 2) (-1)) (4 * n + 3) (-1)
theorem addN {n : Nat} (hn : n < 10) (bh bm : Int32) (k l o t : Nat → Int32) (a b c : Int32) : fX4_add (nI n) bh bm k l o t a b c = some (nI n, nI (n + 1), upd k n a, upd l n b, upd o n c, newT t n) := by
  unfold fX4_add
  rw [if_pos (show nI n < 10 from nI_lt (b := 10) hn (by omega)), gd_t (inbN hn (by omega))]
  have step : ∀ (i : Nat) (T : Nat → Int32), i < 4 → fX4_add_L44 (nI n) (nI i, T) = some (Sum.inl (nI (i + 1), upd T (4 * n + i) (-1))) := by
    intro i T hi
    unfold fX4_add_L44
    show (if nI 4 ≤ nI i then _ else _) = _
    rw [if_neg (by rw [leN (by omega) (by omega)]; omega), m4N, nI_add, gd_t (inbN (by omega) (by omega)), clN (by omega)]
    show some (Sum.inl (nI i + 1, _)) = _
    rw [nI1]
  have hend : ∀ T : Nat → Int32, fX4_add_L44 (nI n) (nI 4, T) = some (Sum.inr T) := fun T => by
    unfold fX4_add_L44
    show (if 4 ≤ nI 4 then _ else _) = _
    exact if_pos (by decide)
  rw [show (0 : Int32) = nI 0 from rfl, iter_5 (step 0 t (by omega)) (step 1 _ (by omega)) (step 2 _ (by omega)) (step 3 _ (by omega)) (hend _), bd_s]
  unfold fX4_add_X44_69
  rw [clN (by omega), nI1]
  rfl
theorem addFull {n : Nat} (hn : ¬ n < 10) (hn2 : n ≤ 10) (bh bm : Int32) (k l o t : Nat → Int32) (a b c : Int32) : fX4_add (nI n) bh bm k l o t a b c = some (-1, nI n, k, l, o, t) := by
  unfold fX4_add
  rw [if_neg]
  rw [show (10 : Int32) = nI 10 from rfl, ltN (by omega) (by omega)]
  exact hn
def newR (rows : Nat → Int32) (n : Nat) (a b c : Int32) : Nat → Int32 := upd (upd (upd (upd (upd (upd (upd rows (8 * n) a) (8 * n + 1) b) (8 * n + 2) c) (8 * n + 4) (-1)) (8 * n + 5) (-1)) (8 * n + 6) (-1)) (8 * n + 7) (-1)
theorem beginN {n : Nat} (hn : n < 10) (p r td bh bm e f g i j m : Int32) (h : Int64) (rows : Nat → Int32) (a b c : Int32) : fX11_begin p r td (nI n) bh bm e f g i j h rows a b c = some (nI n, nI (n + 1), newR rows n a b c) := by
  unfold fX11_begin
  rw [m8N1, m8N2, m8N0, gd_t (inbN (by omega) (by omega)), gd_t (inbN (by omega) (by omega)), gd_t (inbN (by omega) (by omega)), clN (by omega), clN (by omega), clN (by omega)]
  have step : ∀ (i : Nat) (T : Nat → Int32), i < 8 → fX11_begin_L40 (nI n) (nI i, T) = some (Sum.inl (nI (i + 1), upd T (8 * n + i) (-1))) := by
    intro i T hi
    unfold fX11_begin_L40
    show (if nI 8 ≤ nI i then _ else _) = _
    rw [if_neg (by rw [leN (by omega) (by omega)]; omega), m8N, gd_t (inbN (by omega) (by omega)), clN (by omega)]
    show some (Sum.inl (nI i + 1, _)) = _
    rw [nI1]
  have hend : ∀ T : Nat → Int32, fX11_begin_L40 (nI n) (nI 8, T) = some (Sum.inr T) := fun T => by
    unfold fX11_begin_L40
    show (if 8 ≤ nI 8 then _ else _) = _
    exact if_pos (by decide)
  rw [show (4 : Int32) = nI 4 from rfl, iter_5 (step 4 _ (by omega)) (step 5 _ (by omega)) (step 6 _ (by omega)) (step 7 _ (by omega)) (hend _), bd_s]
  unfold fX11_begin_X40_64
  rw [nI1, nI_pred]
  rfl
theorem RC_add {k l o t rows : Nat → Int32} (h : RC k l o t rows) {n : Nat} (hn : n < 10) {a b c : Int32} (ha : ∃ q : Nat, q < 5 ∧ a = nI q) (hb : ∃ q : Nat, q < 10 ∧ b = nI q) (hc : c = -1 ∨ ∃ q : Nat, q < 6 ∧ c = nI q) : RC (upd k n a) (upd l n b) (upd o n c) (newT t n) (newR rows n a b c) := by
  obtain ⟨hrows, htears, hrng⟩ := h
  refine ⟨fun g hg => ?_, fun g j hg hj => ?_, fun g hg => ?_⟩
  · obtain ⟨g1, g2, g3⟩ := hrows g hg
    simp only [newR, upd_eq]
    refine ⟨?_, ?_, ?_⟩
    · by_cases e : g = n
      · subst e
        repeat' split
        all_goals first | rfl | omega
      · rw [if_neg (by omega), if_neg (by omega), if_neg (by omega), if_neg (by omega), if_neg (by omega), if_neg (by omega), if_neg (by omega), if_neg e]; exact g1
    · by_cases e : g = n
      · subst e
        repeat' split
        all_goals first | rfl | omega
      · rw [if_neg (by omega), if_neg (by omega), if_neg (by omega), if_neg (by omega), if_neg (by omega), if_neg (by omega), if_neg (by omega), if_neg e]; exact g2
    · by_cases e : g = n
      · subst e
        repeat' split
        all_goals first | rfl | omega
      · rw [if_neg (by omega), if_neg (by omega), if_neg (by omega), if_neg (by omega), if_neg (by omega), if_neg (by omega), if_neg (by omega), if_neg e]; exact g3
  · have hg0 := htears g j hg hj
    simp only [newR, newT, upd_eq]
    by_cases e : g = n
    · subst e
      rcases (show j = 0 ∨ j = 1 ∨ j = 2 ∨ j = 3 by omega) with rfl | rfl | rfl | rfl
      · rw [if_neg (by omega), if_neg (by omega), if_neg (by omega), if_pos (by omega), if_neg (by omega), if_neg (by omega), if_neg (by omega), if_pos (by omega)]
      · rw [if_neg (by omega), if_neg (by omega), if_pos (by omega), if_neg (by omega), if_neg (by omega), if_pos (by omega)]
      · rw [if_neg (by omega), if_pos (by omega), if_neg (by omega), if_pos (by omega)]
      · rw [if_pos (by omega), if_pos (by omega)]
    · rw [if_neg (by omega), if_neg (by omega), if_neg (by omega), if_neg (by omega), if_neg (by omega), if_neg (by omega), if_neg (by omega), if_neg (by omega), if_neg (by omega), if_neg (by omega), if_neg (by omega)]
      exact hg0
  · obtain ⟨a1, a2, a3⟩ := hrng g hg
    simp only [upd_eq]
    by_cases e : g = n
    · rw [if_pos e, if_pos e, if_pos e]; exact ⟨ha, hb, hc⟩
    · rw [if_neg e, if_neg e, if_neg e]; exact ⟨a1, a2, a3⟩
theorem q_snap {k l o t d : Nat → Int32} {sz bh bm : Int32} {rows debts : Nat → Int32} {many mh mm : Int32} (hH : RelH k l o t d sz bh bm rows debts many mh mm) (kp pm rm td rn sn km kb kc : Int32) (hh : Int64) (x1 x2 : Int32) : ∃ zx, fX10_snap kp sz bh bm k l o t x1 x2 = some zx ∧ ∃ zm, fX11_snap pm rm td many mh mm rn sn km kb kc hh rows x1 x2 = some zm ∧ zx.1 = zm.1 ∧ RelH zx.2.2.1 zx.2.2.2.1 zx.2.2.2.2.1 zx.2.2.2.2.2 d zx.2.1 bh bm zm.2.2 debts zm.2.1 mh mm := by
  have hH0 := hH
  obtain ⟨n, hn, rfl, rfl, rfl, rfl, hC, hRD⟩ := hH
  unfold fX10_snap fX11_snap
  rw [isFrond_eq hn _ _ _ _ _ _ _ _ _ _ _ _ mh mm]
  by_cases h : fX4_knows (nI n) mh mm x1 = 0
  · rw [if_pos h, if_pos h]
    exact ⟨_, rfl, _, rfl, rfl, hH0⟩
  · rw [if_neg h, if_neg h]
    obtain ⟨f, hf, rfl⟩ := knowsN hn h
    rw [show fX11_in x2.toInt64 1 8 = fX10_isWithin x2 1 8 from in_eq x2 1 8]
    by_cases h2 : fX10_isWithin x2 1 8 = 0
    · rw [if_pos h2, if_pos h2]
      exact ⟨_, rfl, _, rfl, rfl, hH0⟩
    · rw [if_neg h2, if_neg h2]
      obtain ⟨v, hv1, hv8, rfl⟩ := withinN (lo := 1) (hi := 8) (by omega) (by omega) h2
      obtain ⟨r1, r2, r3⟩ := hC.1 f (by omega)
      obtain ⟨-, ⟨cl, hcl, el⟩, hof⟩ := hC.2.2 f (by omega)
      rw [bankN _ _ _ _ (show f < 10 by omega), m8N2, m8N1, gd_t (inbN (show 8 * f + 2 < 80 by omega) (by omega)), clN (show 8 * f + 2 < 2 ^ 31 by omega), bd_s]
      by_cases h3 : o f = -1
      · rw [if_pos h3, if_pos (r3.trans h3)]
        exact ⟨_, if_neg (by decide), _, rfl, rfl, hH0⟩
      · rw [if_neg h3, if_neg (fun q => h3 (r3.symm.trans q)), if_pos rfl, gd_t (inbN (show f < 10 by omega) (by omega)), gd_t (inbN (show 8 * f + 1 < 80 by omega) (by omega)), clN (show f < 2 ^ 31 by omega), clN (show 8 * f + 1 < 2 ^ 31 by omega), r2, el]
        by_cases h4 : nI v < nI cl
        · rw [if_pos h4, if_pos h4]
          rw [ltN (by omega) (by omega)] at h4
          by_cases h5 : n < 10
          · rw [if_pos (show nI n < 10 from nI_lt (b := 10) h5 (by omega)), if_neg (show ¬ nI n = 10 by rw [show (10 : Int32) = nI 10 from rfl, eqN (by omega) (by omega)]; omega), subN (by omega), addN h5, beginN h5 _ _ _ _ _ _ _ _ _ _ 0]
            have hC2 := RC_leaf hC (show f < 10 by omega) (w := cl - v) (by omega)
            have e3 : upd rows (8 * f + 1) (nI (cl - v)) (8 * f + 2) = o f := by rw [upd_eq, if_neg (by omega)]; exact r3
            rw [e3]
            exact ⟨_, rfl, _, rfl, rfl, n + 1, by omega, rfl, rfl, rfl, rfl, RC_add hC2 h5 ⟨0, by omega, rfl⟩ ⟨v, by omega, rfl⟩ hof, hRD⟩
          · rw [if_neg (show ¬ nI n < 10 by rw [show (10 : Int32) = nI 10 from rfl, ltN (by omega) (by omega)]; exact h5), if_pos (show nI n = 10 by rw [show n = 10 by omega]; rfl)]
            exact ⟨_, rfl, _, rfl, rfl, hH0⟩
        · rw [if_neg h4, if_neg h4]
          exact ⟨_, rfl, _, rfl, rfl, hH0⟩
/-! June -/
def grow (l o : Nat → Int32) (p : Nat) : Nat → Bool
  | 0 => false
  | i + 1 => grow l o p i || (decide (o i = nI p) && decide (l i = 9))
theorem bit_or : ∀ B : Fin 64, ∀ c : Fin 6, ∃ B' : Fin 64, (nI B.val ||| (1 <<< (nI c.val &&& 31))) = nI B'.val ∧ ∀ p : Fin 6, B'.val.testBit p.val = (B.val.testBit p.val || decide (p = c)) := by decide +kernel
theorem bit_and : ∀ B : Fin 64, ∀ p : Fin 6, (((nI B.val >>> (nI p.val &&& 31)) &&& 1) = 0) ↔ B.val.testBit p.val = false := by decide +kernel
theorem q_owners {k l o t rows : Nat → Int32} (hC : RC k l o t rows) {n : Nat} (hn : n ≤ 10) (bh bm : Int32) : ∃ B : Nat, B < 64 ∧ fX4_ownersOfWholeFronds (nI n) bh bm l o = some (nI B) ∧ ∀ p : Nat, p < 6 → B.testBit p = grow l o p n := by
  unfold fX4_ownersOfWholeFronds
  obtain ⟨e, h1, B, hB, he, hg⟩ := one_for (st := fX4_ownersOfWholeFronds_L4 (nI n) bh bm l o) (fun i s => ∃ B : Nat, B < 64 ∧ s = (nI B, nI i) ∧ ∀ p : Nat, p < 6 → B.testBit p = grow l o p i) (fun e => ∃ B : Nat, B < 64 ∧ e = nI B ∧ ∀ p : Nat, p < 6 → B.testBit p = grow l o p n) n (by omega) (fun i s hi hI => by
      obtain ⟨B, hB, rfl, hg⟩ := hI
      have hi10 : i < 10 := by omega
      unfold fX4_ownersOfWholeFronds_L4
      dsimp only
      rw [if_neg (by rw [leN (by omega) (by omega)]; omega), gd_t (inbN hi10 (by omega)), clN (by omega), bankN _ _ _ _ hi10]
      by_cases h9 : l i = 9
      · rw [if_pos h9, bd_s]
        by_cases hb : o i = -1
        · rw [if_pos hb, if_neg (by decide)]
          refine ⟨_, rfl, B, hB, by show (nI B, nI i + 1) = _; rw [nI1], fun p hp => ?_⟩
          show _ = (grow l o p i || (decide (o i = nI p) && decide (l i = 9)))
          rw [hg p hp, hb, show decide ((-1 : Int32) = nI p) = false from decide_eq_false (by rw [m1N' (by omega)]; exact id), Bool.false_and, Bool.or_false]
        · rw [if_neg hb, if_pos rfl]
          obtain ⟨c, hc, ec⟩ := (hC.2.2 i hi10).2.2.resolve_left hb
          obtain ⟨B', eB, hb'⟩ := bit_or ⟨B, hB⟩ ⟨c, hc⟩
          refine ⟨_, rfl, B'.val, B'.isLt, ?_, fun p hp => ?_⟩
          · show (nI B ||| (1 <<< (o i &&& 31)), nI i + 1) = _
            rw [ec, nI1]
            exact congrArg (fun z => (z, nI (i + 1))) eB
          · show _ = (grow l o p i || (decide (o i = nI p) && decide (l i = 9)))
            rw [hb' ⟨p, hp⟩, hg p hp, h9, ec, show decide ((9 : Int32) = 9) = true from rfl, Bool.and_true]
            congr 1
            by_cases e : p = c
            · subst e; rw [decide_eq_true rfl, decide_eq_true rfl]
            · rw [decide_eq_false (fun q => e (congrArg Fin.val q)), decide_eq_false (by rw [eqN (by omega) (by omega)]; exact fun q => e q.symm)]
      · rw [if_neg h9]
        refine ⟨_, rfl, B, hB, by show (nI B, nI i + 1) = _; rw [nI1], fun p hp => ?_⟩
        show _ = (grow l o p i || (decide (o i = nI p) && decide (l i = 9)))
        rw [hg p hp, decide_eq_false h9, Bool.and_false, Bool.or_false]) (fun s hI => by
      obtain ⟨B, hB, rfl, hg⟩ := hI
      unfold fX4_ownersOfWholeFronds_L4
      dsimp only
      rw [if_pos (by rw [leN (by omega) (by omega)]; omega)]
      exact ⟨_, rfl, B, hB, rfl, hg⟩) (0, 0) ⟨0, by omega, rfl, fun p hp => by rw [Nat.zero_testBit]; rfl⟩
  subst he
  rw [h1]
  exact ⟨B, hB, rfl, hg⟩
/-- whether a person has a whole frond, on the model's side -/
theorem q_grows {l o rows : Nat → Int32} {n : Nat} (hn : n ≤ 10) (hr : ∀ f : Nat, f < n → rows (8 * f + 2) = o f ∧ rows (8 * f + 1) = l f) {p : Nat} (hp : p < 6) (a : Int32) : iter (fX11_june_L18 (nI n) (nI p, a, rows)) FU (0, 0) = some (if grow l o p n = true then 1 else 0) := by
  obtain ⟨e, h1, he⟩ := one_for (st := fX11_june_L18 (nI n) (nI p, a, rows)) (fun i s => s = (if grow l o p i = true then 1 else 0, nI i)) (fun e => e = if grow l o p n = true then 1 else 0) n (by omega) (fun i s hi hI => by
      subst hI
      obtain ⟨r2, r1⟩ := hr i hi
      unfold fX11_june_L18
      dsimp only
      rw [if_neg (by rw [leN (by omega) (by omega)]; omega), m8N2, m8N1, gd_t (inbN (show 8 * i + 2 < 80 by omega) (by omega)), gd_t (inbN (show 8 * i + 1 < 80 by omega) (by omega)), clN (show 8 * i + 2 < 2 ^ 31 by omega), clN (show 8 * i + 1 < 2 ^ 31 by omega)]
      by_cases hg : grow l o p i = true
      · rw [if_pos hg, if_neg (by decide)]
        refine ⟨_, rfl, ?_⟩
        show (1, nI i + 1) = (if (grow l o p i || (decide (o i = nI p) && decide (l i = 9))) = true then 1 else 0, nI (i + 1))
        rw [hg, Bool.true_or, if_pos rfl, nI1]
      · rw [if_neg hg, if_pos rfl]
        have hg2 : grow l o p i = false := by cases h : grow l o p i <;> simp_all
        by_cases ho : o i = nI p
        · rw [if_pos (r2.trans ho)]
          by_cases h9 : l i = 9
          · rw [if_pos (r1.trans h9)]
            refine ⟨_, rfl, ?_⟩
            show (1, nI i + 1) = (if (grow l o p i || (decide (o i = nI p) && decide (l i = 9))) = true then 1 else 0, nI (i + 1))
            rw [hg2, decide_eq_true ho, decide_eq_true h9, Bool.false_or, Bool.true_and, if_pos rfl, nI1]
          · rw [if_neg (fun q => h9 (r1.symm.trans q))]
            refine ⟨_, rfl, ?_⟩
            show (0, nI i + 1) = (if (grow l o p i || (decide (o i = nI p) && decide (l i = 9))) = true then 1 else 0, nI (i + 1))
            rw [hg2, decide_eq_false h9, Bool.false_or, Bool.and_false, if_neg (by decide), nI1]
        · rw [if_neg (fun q => ho (r2.symm.trans q))]
          refine ⟨_, rfl, ?_⟩
          show (0, nI i + 1) = (if (grow l o p i || (decide (o i = nI p) && decide (l i = 9))) = true then 1 else 0, nI (i + 1))
          rw [hg2, decide_eq_false ho, Bool.false_or, Bool.false_and, if_neg (by decide), nI1]) (fun s hI => by
      subst hI
      unfold fX11_june_L18
      dsimp only
      rw [if_pos (by rw [leN (by omega) (by omega)]; omega)]
      exact ⟨_, rfl, rfl⟩) (0, 0) rfl
  rw [h1, he]
theorem q_june {k l o t d : Nat → Int32} {sz bh bm : Int32} {rows debts : Nat → Int32} {many mh mm : Int32} (hH : RelH k l o t d sz bh bm rows debts many mh mm) (kp pm rm td rn sn km kb kc : Int32) (hh : Int64) : ∃ zx, fX10_june kp sz bh bm k l o t = some zx ∧ ∃ zm, fX11_june pm rm td many mh mm rn sn km kb kc hh rows = some zm ∧ zx.1 = zm.1 ∧ RelH zx.2.2.1 zx.2.2.2.1 zx.2.2.2.2.1 zx.2.2.2.2.2 d zx.2.1 bh bm zm.2.2 debts zm.2.1 mh mm := by
  obtain ⟨n, hn, rfl, rfl, rfl, rfl, hC, hRD⟩ := hH
  unfold fX10_june fX11_june
  obtain ⟨B, hB, hx, hg⟩ := q_owners hC hn mh mm
  rw [hx, bd_s]
  obtain ⟨e1, e2, h1, h2, N, hN, hNn, a1, a2, a3⟩ := two_for (st := fX10_june_L18 mh mm (nI B)) (st' := fX11_june_L7 pm rm td (nI n) mh mm rn sn km kb kc hh)
    (fun i s s' => ∃ N : Nat, N ≤ 10 ∧ n ≤ N ∧ s.1 = nI i ∧ s'.1 = nI i ∧ s.2.1 = nI N ∧ s'.2.1 = nI N ∧ RC s.2.2.1 s.2.2.2.1 s.2.2.2.2.1 s.2.2.2.2.2 s'.2.2 ∧ ∀ f : Nat, f < n → s.2.2.2.1 f = l f ∧ s.2.2.2.2.1 f = o f)
    (fun x y => ∃ N : Nat, N ≤ 10 ∧ n ≤ N ∧ x.1 = nI N ∧ y.1 = nI N ∧ RC x.2.1 x.2.2.1 x.2.2.2.1 x.2.2.2.2 y.2) 6 (by omega) (fun i s s' hi hI => by
      obtain ⟨N, hN, hNn, b1, b2, b3, b4, hC, hlo⟩ := hI
      obtain ⟨i1, sz, k1, l1, o1, t1⟩ := s
      obtain ⟨i2, mn, R⟩ := s'
      dsimp only at b1 b2 b3 b4 hC hlo
      subst b1; subst b2; subst b3; subst b4
      have hgr : grow l1 o1 i n = grow l o i n := by
        have : ∀ m : Nat, m ≤ n → grow l1 o1 i m = grow l o i m := by
          intro m
          induction m with
          | zero => exact fun _ => rfl
          | succ m ih =>
            intro hm
            show (grow l1 o1 i m || (decide (o1 m = nI i) && decide (l1 m = 9))) = (grow l o i m || (decide (o m = nI i) && decide (l m = 9)))
            rw [ih (by omega), (hlo m (by omega)).1, (hlo m (by omega)).2]
        exact this n (Nat.le_refl n)
      have hm := q_grows (l := l1) (o := o1) (rows := R) hn (fun f hf => ⟨(hC.1 f (by omega)).2.2, (hC.1 f (by omega)).2.1⟩) hi (nI N)
      unfold fX10_june_L18 fX11_june_L7
      dsimp only
      rw [if_neg (show ¬ (6 : Int32) ≤ nI i by rw [show (6 : Int32) = nI 6 from rfl, leN (by omega) (by omega)]; omega), if_neg (show ¬ (6 : Int32) ≤ nI i by rw [show (6 : Int32) = nI 6 from rfl, leN (by omega) (by omega)]; omega), hm, bd_s]
      unfold fX11_june_X18_73
      dsimp only
      have hbit := bit_and ⟨B, hB⟩ ⟨i, hi⟩
      by_cases hg0 : grow l o i n = true
      · rw [if_neg (fun q => by have h0 := hbit.mp q; rw [hg i hi, hg0] at h0; cases h0), if_pos (hgr.trans hg0), if_neg (by decide)]
        by_cases h10 : N < 10
        · rw [addN h10, bd_s, if_neg (show ¬ (10 : Int32) ≤ nI N by rw [show (10 : Int32) = nI 10 from rfl, leN (by omega) (by omega)]; omega), beginN h10 _ _ _ _ _ _ _ _ _ _ 0, bd_s]
          refine ⟨_, _, rfl, rfl, N + 1, by omega, by omega, nI1 i, nI1 i, rfl, rfl, RC_add hC h10 ⟨0, by omega, rfl⟩ ⟨9, by omega, rfl⟩ (Or.inr ⟨i, hi, rfl⟩), fun f hf => ?_⟩
          show upd l1 N 9 f = l f ∧ upd o1 N (nI i) f = o f
          rw [upd_eq, upd_eq, if_neg (by omega), if_neg (by omega)]
          exact hlo f hf
        · rw [addFull h10 hN, bd_s, if_pos (show (10 : Int32) ≤ nI N by rw [show (10 : Int32) = nI 10 from rfl, leN (by omega) (by omega)]; omega)]
          exact ⟨_, _, rfl, rfl, N, hN, hNn, nI1 i, nI1 i, rfl, rfl, hC, hlo⟩
      · rw [if_pos (hbit.mpr (by rw [hg i hi]; cases h : grow l o i n <;> simp_all)), if_neg (fun q => hg0 (hgr.symm.trans q)), if_pos rfl]
        exact ⟨_, _, rfl, rfl, N, hN, hNn, nI1 i, nI1 i, rfl, rfl, hC, hlo⟩) (fun s s' hI => by
      obtain ⟨N, hN, hNn, b1, b2, b3, b4, hC, hlo⟩ := hI
      obtain ⟨i1, sz, k1, l1, o1, t1⟩ := s
      obtain ⟨i2, mn, R⟩ := s'
      dsimp only at b1 b2 b3 b4 hC hlo
      subst b1; subst b2; subst b3; subst b4
      unfold fX10_june_L18 fX11_june_L7
      dsimp only
      rw [if_pos (by decide), if_pos (by decide)]
      exact ⟨_, _, rfl, rfl, N, hN, hNn, rfl, rfl, hC⟩) (0, nI n, k, l, o, t) (0, nI n, rows) ⟨n, hn, Nat.le_refl n, rfl, rfl, rfl, rfl, hC, fun f _ => ⟨rfl, rfl⟩⟩
  rw [h1, h2, bd_s, bd_s]
  refine ⟨_, rfl, _, rfl, ?_, N, hN, a1, a2, rfl, rfl, a3, hRD⟩
  show e1.1 - nI n = e2.1 - nI n
  rw [a1, a2]
