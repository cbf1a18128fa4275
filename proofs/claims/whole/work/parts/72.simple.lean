/-! the short calls -/
theorem sumsN (d : Nat → Int32) {i j : Nat} (hi : i < 6) (hj : j < 6) : fX1_sum d (nI i) (nI j) = some (d (6 * i + j)) := by
  unfold fX1_sum
  have e : nI i * 6 + nI j = nI (6 * i + j) := by
    rw [show (6 : Int32) = nI 6 from rfl, mulL, nI_add, Nat.mul_comm]
  rw [e, gd_t (inbN (by omega) (by omega)), clN (by omega)]
theorem putN (d : Nat → Int32) {i j : Nat} (hi : i < 6) (hj : j < 6) (v : Int32) : fX1_put d (nI i) (nI j) v = some (upd d (6 * i + j) v) := by
  unfold fX1_put
  have e : nI i * 6 + nI j = nI (6 * i + j) := by
    rw [show (6 : Int32) = nI 6 from rfl, mulL, nI_add, Nat.mul_comm]
  rw [e, gd_t (inbN (by omega) (by omega)), clN (by omega)]
theorem m6N (i j : Nat) : (6 * nI i + nI j : Int32) = nI (6 * i + j) := by
  rw [show (6 : Int32) = nI 6 from rfl, mulL, nI_add]
theorem m8N (i j : Nat) : (8 * nI i + nI j : Int32) = nI (8 * i + j) := by
  rw [show (8 : Int32) = nI 8 from rfl, mulL, nI_add]
theorem m8N0 (i : Nat) : (8 * nI i : Int32) = nI (8 * i) := by
  rw [show (8 : Int32) = nI 8 from rfl, mulL]
theorem m8N1 (i : Nat) : (8 * nI i + 1 : Int32) = nI (8 * i + 1) := m8N i 1
theorem m8N2 (i : Nat) : (8 * nI i + 2 : Int32) = nI (8 * i + 2) := m8N i 2
theorem m8N4 (i : Nat) : (8 * nI i + 4 : Int32) = nI (8 * i + 4) := m8N i 4
theorem m8N5 (i : Nat) : (8 * nI i + 5 : Int32) = nI (8 * i + 5) := m8N i 5
theorem m8N6 (i : Nat) : (8 * nI i + 6 : Int32) = nI (8 * i + 6) := m8N i 6
theorem m8N7 (i : Nat) : (8 * nI i + 7 : Int32) = nI (8 * i + 7) := m8N i 7
theorem upd_eq (f : Nat → Int32) (k : Nat) (x : Int32) (j : Nat) : upd f k x j = if j = k then x else f j := rfl
theorem RD_put {d debts : Nat → Int32} (h : RD d debts) (i : Nat) {v : Nat} (hv : v < 100) : RD (upd d i (nI v)) (upd debts i (nI v)) := by
  intro q hq
  rw [upd_eq, upd_eq]
  by_cases e : q = i
  · rw [if_pos e, if_pos e]; exact ⟨rfl, v, hv, rfl⟩
  · rw [if_neg e, if_neg e]; exact h q hq
theorem q_owes {k l o t d : Nat → Int32} {sz bh bm : Int32} {rows debts : Nat → Int32} {many mh mm : Int32} (hH : RelH k l o t d sz bh bm rows debts many mh mm) (kp pm rm td rn sn km kb kc : Int32) (hh : Int64) (x1 x2 : Int32) : ∃ zx, fX10_owes kp sz bh bm d x1 x2 = some zx ∧ ∃ zm, fX11_owes pm rm td many mh mm rn sn km kb kc hh debts x1 x2 = some zm ∧ zx = zm := by
  obtain ⟨n, hn, rfl, rfl, rfl, rfl, ⟨hrows, htears, hrng⟩, hRD⟩ := hH
  unfold fX10_owes fX11_owes
  rw [areTwo_eq]
  by_cases h : fX10_areTwo x1 x2 = 0
  · rw [if_pos h, if_pos h]
    exact ⟨_, rfl, _, rfl, rfl⟩
  · rw [if_neg h, if_neg h]
    obtain ⟨i, j, hi, hj, hij, rfl, rfl⟩ := areTwoN h
    rw [sumsN _ hi hj, m6N, gd_t (inbN (by omega) (by omega)), clN (by omega)]
    exact ⟨_, rfl, _, rfl, (hRD _ (by omega)).1.symm⟩
theorem q_debt {k l o t d : Nat → Int32} {sz bh bm : Int32} {rows debts : Nat → Int32} {many mh mm : Int32} (hH : RelH k l o t d sz bh bm rows debts many mh mm) (kp pm rm td rn sn km kb kc : Int32) (hh : Int64) (x1 x2 x3 : Int32) : ∃ zx, fX10_debt kp sz bh bm d x1 x2 x3 = some zx ∧ ∃ zm, fX11_debt pm rm td many mh mm rn sn km kb kc hh debts x1 x2 x3 = some zm ∧ zx.1 = zm.1 ∧ RelH k l o t zx.2 sz bh bm rows zm.2 many mh mm := by
  have hH0 := hH
  obtain ⟨n, hn, rfl, rfl, rfl, rfl, ⟨hrows, htears, hrng⟩, hRD⟩ := hH
  unfold fX10_debt fX11_debt
  rw [areTwo_eq]
  by_cases h : fX10_areTwo x1 x2 = 0
  · rw [if_pos h, if_pos h]
    exact ⟨_, rfl, _, rfl, rfl, hH0⟩
  · rw [if_neg h, if_neg h]
    obtain ⟨i, j, hi, hj, hij, rfl, rfl⟩ := areTwoN h
    rw [show fX11_in x3.toInt64 0 99 = fX10_isWithin x3 0 99 from in_eq x3 0 99]
    by_cases h2 : fX10_isWithin x3 0 99 = 0
    · rw [if_pos h2, if_pos h2]
      exact ⟨_, rfl, _, rfl, rfl, hH0⟩
    · rw [if_neg h2, if_neg h2, sumsN _ hi hj, m6N, gd_t (inbN (by omega) (by omega)), clN (by omega)]
      obtain ⟨v, -, hv, rfl⟩ := withinN (lo := 0) (hi := 99) (by omega) (by omega) h2
      show ∃ zx, (fX1_put d (nI i) (nI j) (nI v)).bind _ = some zx ∧ _
      rw [putN _ hi hj]
      refine ⟨_, rfl, _, rfl, (hRD _ (by omega)).1.symm, n, hn, rfl, rfl, rfl, rfl, ⟨hrows, htears, hrng⟩, RD_put hRD _ (by omega)⟩
/-- what a hand and mould leave: both sides alike, for a kind 0 to 4 and leaflets 0 to 9 -/
theorem hand_all : ∀ c : Fin 5, ∀ v : Fin 10, fX11_byHand (nI c.val) (nI v.val) = fX5_behindHand (nI c.val) (nI v.val) ∧ ∃ w : Fin 10, fX5_behindHand (nI c.val) (nI v.val) = nI w.val ∧ w.val ≤ v.val := by decide +kernel
theorem mould_all : ∀ c : Fin 5, ∀ v : Fin 10, fX11_byMould (nI c.val) (nI v.val) = fX5_behindDamp (nI c.val) (nI v.val) ∧ ∃ w : Fin 10, fX5_behindDamp (nI c.val) (nI v.val) = nI w.val ∧ w.val ≤ v.val := by decide +kernel
theorem hand_eq {c v : Nat} (hc : c < 5) (hv : v < 10) : fX11_byHand (nI c) (nI v) = fX5_behindHand (nI c) (nI v) := (hand_all ⟨c, hc⟩ ⟨v, hv⟩).1
theorem hand_lt {c v : Nat} (hc : c < 5) (hv : v < 10) : ∃ w : Nat, w < 10 ∧ w ≤ v ∧ fX5_behindHand (nI c) (nI v) = nI w := by
  obtain ⟨w, h1, h2⟩ := (hand_all ⟨c, hc⟩ ⟨v, hv⟩).2
  exact ⟨w.val, w.isLt, h2, h1⟩
theorem mould_eq {c v : Nat} (hc : c < 5) (hv : v < 10) : fX11_byMould (nI c) (nI v) = fX5_behindDamp (nI c) (nI v) := (mould_all ⟨c, hc⟩ ⟨v, hv⟩).1
theorem mould_lt {c v : Nat} (hc : c < 5) (hv : v < 10) : ∃ w : Nat, w < 10 ∧ w ≤ v ∧ fX5_behindDamp (nI c) (nI v) = nI w := by
  obtain ⟨w, h1, h2⟩ := (mould_all ⟨c, hc⟩ ⟨v, hv⟩).2
  exact ⟨w.val, w.isLt, h2, h1⟩
theorem bankN (sz bh bm : Int32) (o : Nat → Int32) {f : Nat} (hf : f < 10) : fX4_isAtBank sz bh bm o (nI f) = some (if o f = -1 then 1 else 0) := by
  unfold fX4_isAtBank
  rw [gd_t (inbN hf (by omega)), clN (by omega)]
  by_cases h : o f = -1
  · rw [if_pos h, if_pos h]
  · rw [if_neg h, if_neg h]
theorem worthX (sz bh bm : Int32) (k l : Nat → Int32) {f : Nat} (hf : f < 10) : fX4_worthBehindHand sz bh bm k l (nI f) = some (fX5_behindHand (k f) (l f)) := by
  unfold fX4_worthBehindHand
  rw [gd_t (inbN hf (by omega)), clN (by omega)]
theorem worthM (a b c d e f g i j k m : Int32) (h : Int64) (rows : Nat → Int32) {q : Nat} (hq : q < 10) : fX11_worth a b c d e f g i j k m h rows (nI q) = some (fX11_byHand (rows (8 * q)) (rows (8 * q + 1))) := by
  unfold fX11_worth
  rw [m8N1, m8N0, gd_t (inbN (by omega) (by omega)), gd_t (inbN (by omega) (by omega)), clN (by omega), clN (by omega)]
theorem q_as {k l o t d : Nat → Int32} {sz bh bm : Int32} {rows debts : Nat → Int32} {many mh mm : Int32} (hH : RelH k l o t d sz bh bm rows debts many mh mm) (kp pm rm td rn sn km kb kc : Int32) (hh : Int64) (x1 x2 : Int32) : ∃ zx, fX10_as kp sz bh bm k x1 x2 = some zx ∧ ∃ zm, fX11_as pm rm td many mh mm rn sn km kb kc hh rows x1 x2 = some zm ∧ zx = zm := by
  obtain ⟨n, hn, rfl, rfl, rfl, rfl, ⟨hrows, htears, hrng⟩, hRD⟩ := hH
  unfold fX10_as fX11_as
  rw [isFrond_eq hn _ _ _ _ _ _ _ _ _ _ _ _ mh mm]
  by_cases h : fX4_knows (nI n) mh mm x1 = 0
  · rw [if_pos h, if_pos h]
    exact ⟨_, rfl, _, rfl, rfl⟩
  · rw [if_neg h, if_neg h]
    obtain ⟨f, hf, rfl⟩ := knowsN hn h
    rw [show fX11_in x2.toInt64 0 4 = fX10_isWithin x2 0 4 from in_eq x2 0 4]
    by_cases h2 : fX10_isWithin x2 0 4 = 0
    · rw [if_pos h2, if_pos h2]
      exact ⟨_, rfl, _, rfl, rfl⟩
    · rw [if_neg h2, if_neg h2, gd_t (inbN (by omega) (by omega)), m8N0, gd_t (inbN (by omega) (by omega)), clN (by omega), clN (by omega), (hrows f (by omega)).1]
      unfold fX5_isAlso
      exact same_ite
theorem q_tell {k l o t : Nat → Int32} {rows : Nat → Int32} {n : Nat} (hC : RC k l o t rows) (hn : n ≤ 10) (bh bm : Int32) (sz kp pm rm td mn mb mc rn sn km kb kc : Int32) (hh : Int64) {f w : Nat} (hf : f < n) (hw : w < 8) : ∃ z, fX4_tellOf sz bh bm k l o t (nI f) (nI w) = some z ∧ fX11_tell pm rm td mn mb mc rn sn km kb kc hh rows (nI f) (nI w) = some z := by
  obtain ⟨hrows, htears, hrng⟩ := hC
  have hf10 : f < 10 := by omega
  obtain ⟨r1, r2, r3⟩ := hrows f hf10
  obtain ⟨⟨ck, hck, ek⟩, ⟨cl, hcl, el⟩, -⟩ := hrng f hf10
  have hin : ¬ fX11_in (nI w).toInt64 0 7 = 0 := by
    rw [show fX11_in (nI w).toInt64 0 7 = fX10_isWithin (nI w) 0 7 from in_eq (nI w) 0 7]
    exact within_iff.mpr ⟨nI_le (a := 0) (Nat.zero_le _) (by omega), nI_le (b := 7) (by omega) (by omega)⟩
  have hx : fX4_tellOf sz bh bm k l o t (nI f) (nI w) = some (if w = 0 then k f else if w = 1 then l f else if w = 2 then o f else if w = 3 then fX5_behindHand (k f) (l f) else t (4 * f + (w - 4))) := by
    unfold fX4_tellOf
    rw [show (0 : Int32) = nI 0 from rfl, show (1 : Int32) = nI 1 from rfl, show (2 : Int32) = nI 2 from rfl, show (3 : Int32) = nI 3 from rfl]
    simp only [eqN (a := w) (b := 0) (by omega) (by omega), eqN (a := w) (b := 1) (by omega) (by omega), eqN (a := w) (b := 2) (by omega) (by omega), eqN (a := w) (b := 3) (by omega) (by omega), gd_t (inbN hf10 (by omega)), clN (show f < 2 ^ 31 by omega), worthX _ _ _ _ _ hf10]
    split
    · rfl
    · split
      · rfl
      · split
        · rfl
        · split
          · rfl
          · unfold fX4_tear
            rw [show (nI w - 4) = nI w - nI 4 from rfl, subN (by omega), show (nI f * 4) = nI (4 * f) by rw [show (4 : Int32) = nI 4 from rfl, mulL, Nat.mul_comm], nI_add, gd_t (inbN (by omega) (by omega)), clN (by omega)]
            rfl
  have hm : fX11_tell pm rm td mn mb mc rn sn km kb kc hh rows (nI f) (nI w) = some (if w = 0 then k f else if w = 1 then l f else if w = 2 then o f else if w = 3 then fX5_behindHand (k f) (l f) else t (4 * f + (w - 4))) := by
    unfold fX11_tell
    rw [if_neg hin, show (3 : Int32) = nI 3 from rfl, worthM _ _ _ _ _ _ _ _ _ _ _ _ _ hf10]
    rw [m8N, gd_t (inbN (by omega) (by omega)), clN (by omega)]
    by_cases h3 : w = 3
    · subst h3
      rw [if_pos rfl, r1, r2, ek, el, hand_eq hck hcl]
      rfl
    · rw [if_neg (by rw [eqN (by omega) (by omega)]; exact h3)]
      congr 1
      by_cases h0 : w = 0
      · subst h0; rw [if_pos rfl]; exact r1
      · rw [if_neg h0]
        by_cases h1' : w = 1
        · subst h1'; rw [if_pos rfl]; exact r2
        · rw [if_neg h1']
          by_cases h2' : w = 2
          · subst h2'; rw [if_pos rfl]; exact r3
          · rw [if_neg h2', if_neg h3, ← htears f (w - 4) hf10 (by omega), show 8 * f + (4 + (w - 4)) = 8 * f + w by omega]
  exact ⟨_, hx, hm⟩
theorem q_about {k l o t d : Nat → Int32} {sz bh bm : Int32} {rows debts : Nat → Int32} {many mh mm : Int32} (hH : RelH k l o t d sz bh bm rows debts many mh mm) (kp pm rm td rn sn km kb kc : Int32) (hh : Int64) (x1 x2 : Int32) : ∃ zx, fX10_about kp sz bh bm k l o t x1 x2 = some zx ∧ ∃ zm, fX11_about pm rm td many mh mm rn sn km kb kc hh rows x1 x2 = some zm ∧ zx = zm := by
  have hH0 := hH
  obtain ⟨n, hn, rfl, rfl, rfl, rfl, ⟨hrows, htears, hrng⟩, hRD⟩ := hH
  unfold fX10_about fX11_about
  rw [isFrond_eq hn _ _ _ _ _ _ _ _ _ _ _ _ mh mm]
  by_cases h : fX4_knows (nI n) mh mm x1 = 0
  · rw [if_pos h, if_pos h]
    exact ⟨_, rfl, _, rfl, rfl⟩
  · rw [if_neg h, if_neg h]
    obtain ⟨f, hf, rfl⟩ := knowsN hn h
    by_cases h2 : fX10_isWithin x2 0 7 = 0
    · rw [if_pos h2]
      unfold fX11_tell
      rw [show fX11_in x2.toInt64 0 7 = fX10_isWithin x2 0 7 from in_eq x2 0 7, if_pos h2, if_neg]
      · exact ⟨_, rfl, _, rfl, rfl⟩
      · intro e
        subst e
        exact absurd h2 (by decide)
    · rw [if_neg h2]
      obtain ⟨w, -, hw, rfl⟩ := withinN (lo := 0) (hi := 7) (by omega) (by omega) h2
      obtain ⟨z, e1, e2⟩ := q_tell ⟨hrows, htears, hrng⟩ hn mh mm (nI n) kp pm rm td (nI n) mh mm rn sn km kb kc hh hf (show w < 8 by omega)
      rw [e1, e2]
      exact ⟨_, rfl, _, rfl, rfl⟩
theorem q_fetch {k l o t d : Nat → Int32} {sz bh bm : Int32} {rows debts : Nat → Int32} {many mh mm : Int32} (hH : RelH k l o t d sz bh bm rows debts many mh mm) (kp pm rm td rn sn km kb kc : Int32) (hh : Int64) (x1 x2 : Int32) : ∃ zx, fX10_fetch kp sz bh bm l o x1 x2 = some zx ∧ ∃ zm, fX11_fetch pm rm td many mh mm rn sn km kb kc hh rows x1 x2 = some zm ∧ zx.1 = zm.1 ∧ RelH k l zx.2 t d sz bh bm zm.2 debts many mh mm := by
  have hH0 := hH
  obtain ⟨n, hn, rfl, rfl, rfl, rfl, ⟨hrows, htears, hrng⟩, hRD⟩ := hH
  unfold fX10_fetch fX11_fetch
  rw [isFrond_eq hn _ _ _ _ _ _ _ _ _ _ _ _ mh mm, isPerson_eq]
  by_cases h : fX4_knows (nI n) mh mm x1 = 0
  · rw [if_pos h, if_pos h]
    exact ⟨_, rfl, _, rfl, rfl, hH0⟩
  · rw [if_neg h, if_neg h]
    obtain ⟨f, hf, rfl⟩ := knowsN hn h
    by_cases h2 : fX10_isPerson x2 = 0
    · rw [if_pos h2, if_pos h2]
      exact ⟨_, rfl, _, rfl, rfl, hH0⟩
    · rw [if_neg h2, if_neg h2, bankN _ _ _ _ (by omega), m8N2, m8N1, gd_t (inbN (by omega) (by omega)), gd_t (inbN (by omega) (by omega)), gd_t (inbN (by omega) (by omega)), clN (by omega), clN (by omega), clN (by omega), (hrows f (by omega)).2.2]
      obtain ⟨p, hp, rfl⟩ := personN h2
      by_cases h3 : o f = -1
      · rw [if_pos h3, if_pos h3]
        simp only [bd_s]
        refine ⟨_, if_neg (by decide), _, rfl, ?_, n, hn, rfl, rfl, rfl, rfl, ⟨fun g hg => ?_, fun g j hg hj => ?_, fun g hg => ?_⟩, hRD⟩
        · show l f = upd rows (8 * f + 2) (nI p) (8 * f + 1)
          rw [upd_eq, if_neg (by omega)]
          exact (hrows f (by omega)).2.1.symm
        · obtain ⟨r1, r2, r3⟩ := hrows g hg
          show upd rows (8 * f + 2) (nI p) (8 * g) = _ ∧ upd rows (8 * f + 2) (nI p) (8 * g + 1) = _ ∧ upd rows (8 * f + 2) (nI p) (8 * g + 2) = upd o f (nI p) g
          rw [upd_eq, upd_eq, upd_eq, upd_eq, if_neg (by omega), if_neg (by omega)]
          refine ⟨r1, r2, ?_⟩
          by_cases e : g = f
          · rw [if_pos (by omega), if_pos e]
          · rw [if_neg (by omega), if_neg e]; exact r3
        · show upd rows (8 * f + 2) (nI p) (8 * g + (4 + j)) = _
          rw [upd_eq, if_neg (by omega)]
          exact htears g j hg hj
        · obtain ⟨a1, a2, a3⟩ := hrng g hg
          refine ⟨a1, a2, ?_⟩
          show upd o f (nI p) g = -1 ∨ ∃ c : Nat, c < 6 ∧ upd o f (nI p) g = nI c
          rw [upd_eq]
          by_cases e : g = f
          · rw [if_pos e]; exact Or.inr ⟨p, hp, rfl⟩
          · rw [if_neg e]; exact a3
      · rw [if_neg h3, if_neg h3]
        simp only [bd_s]
        exact ⟨_, if_pos trivial, _, rfl, rfl, hH0⟩
