/-! ring and clear: what is told, what is taken off -/
def nxN (q : Nat → Nat) (L i : Nat) : Nat := 6 * q i + q ((i + 1) % L)
theorem behindN {L : Nat} {q : Nat → Nat} {Q : Nat → Int32} (hL : L ≤ 6) (hQ : ∀ i, i < L → Q i = nI (q i)) {i : Nat} (hi : i < L) : fX8_behind (nI L) Q (nI i) = some (nI (q ((i + 1) % L))) := by
  unfold fX8_behind
  rw [nI1, show (0 : Int32).toNatClampNeg = 0 from by decide]
  by_cases c : L ≤ i + 1
  · rw [if_pos (show nI L ≤ nI (i + 1) by rw [leN (by omega) (by omega)]; exact c), hQ 0 (by omega), show (i + 1) % L = 0 by rw [show i + 1 = L by omega, Nat.mod_self]]
  · rw [if_neg (show ¬ nI L ≤ nI (i + 1) by rw [leN (by omega) (by omega)]; exact c), gd_t (inbN (show i + 1 < 6 by omega) (by omega)), clN (by omega), hQ (i + 1) (by omega), Nat.mod_eq_of_lt (show i + 1 < L by omega)]
theorem least_two {d debts : Nat → Int32} (hD : RD d debts) {L : Nat} {q : Nat → Nat} {Q R : Nat → Int32} (hL : L = 0 ∨ isR d L q) (hQ : ∀ i, i < L → Q i = nI (q i)) (hR : ∀ i, i < L → R i = nI (q i)) (pm rm td n bh bm sn km kb kc : Int32) (hh : Int64) : ∃ z, fX8_leastSum (nI L) Q d = some z ∧ fX11_ringLeast pm rm td n bh bm (nI L) sn km kb kc hh debts R = some z ∧ (L = 0 ∨ ∃ c, c < 100 ∧ z = nI c ∧ ∀ j, j < L → ∃ v, v < 100 ∧ d (nxN q L j) = nI v ∧ c ≤ v) := by
  have hL6 : L ≤ 6 := by
    rcases hL with h | h
    · omega
    · exact h.2.1
  have hq : ∀ i, i < L → q i < 6 := fun i hi => by
    rcases hL with h | h
    · omega
    · exact (h.2.2.1.1 i hi).1
  unfold fX8_leastSum fX11_ringLeast
  obtain ⟨e, e', h1, h2, h3⟩ := two_for (st := fX8_leastSum_L4 (nI L) Q d) (st' := fX11_ringLeast_L5 (nI L) debts R)
    (fun i z z' => z.2 = nI i ∧ z'.2 = nI i ∧ ((i = 0 ∧ z.1 = -1 ∧ z'.1 = 100) ∨ (0 < i ∧ ∃ c, c < 100 ∧ z.1 = nI c ∧ z'.1 = nI c ∧ ∀ j, j < i → ∃ v, v < 100 ∧ d (nxN q L j) = nI v ∧ c ≤ v)))
    (fun e e' => (L = 0 ∧ e = -1 ∧ e' = 100) ∨ (0 < L ∧ ∃ c, c < 100 ∧ e = nI c ∧ e' = nI c ∧ ∀ j, j < L → ∃ v, v < 100 ∧ d (nxN q L j) = nI v ∧ c ≤ v)) L (by omega)
    (fun i z z' hi hI => by
      obtain ⟨a, x⟩ := z
      obtain ⟨b, y⟩ := z'
      obtain ⟨w1, w2, w3⟩ := hI
      dsimp only at w1 w2 w3
      subst w1; subst w2
      have hx : ¬ nI L ≤ nI i := by rw [leN (by omega) (by omega)]; omega
      have hnx : (i + 1) % L < L := Nat.mod_lt _ (by omega)
      have hqi := hq i hi
      have hqn := hq _ hnx
      obtain ⟨hd1, v, hv, hd2⟩ := hD (nxN q L i) (by unfold nxN; omega)
      unfold fX8_leastSum_L4 fX11_ringLeast_L5
      dsimp only
      rw [if_neg hx, if_neg hx, gd_t (inbN (show i < 6 by omega) (by omega)), gd_t (inbN (show i < 6 by omega) (by omega)), behindN hL6 hQ hi, bd_s, clN (show i < 2 ^ 31 by omega), hQ i hi, hR i hi, sumsN d hqi hqn, bd_s, nI1, pk_rem (show i + 1 < 2 ^ 31 by omega) (show 0 < L by omega) (show L < 2 ^ 31 by omega), gd_t (show nzi (nI L) = true from decide_eq_true (nI_ne0 (by omega) (by omega))), gd_t (inbN (show (i + 1) % L < 6 by omega) (by omega)), clN (show (i + 1) % L < 2 ^ 31 by omega), hR _ hnx, m6N, gd_t (inbN (show 6 * q i + q ((i + 1) % L) < 36 by omega) (by omega)), clN (show 6 * q i + q ((i + 1) % L) < 2 ^ 31 by omega)]
      have hd1 : debts (6 * q i + q ((i + 1) % L)) = d (6 * q i + q ((i + 1) % L)) := hd1
      have hd2 : d (6 * q i + q ((i + 1) % L)) = nI v := hd2
      rw [hd1, hd2]
      have hself : ∃ v', v' < 100 ∧ d (nxN q L i) = nI v' ∧ v' = v := ⟨v, hv, hd2, rfl⟩
      rcases w3 with ⟨hi0, rfl, rfl⟩ | ⟨hi0, c, hc, rfl, rfl, hmin⟩
      · rw [if_pos rfl, if_neg (show ¬ (100 : Int32) ≤ nI v by rw [show (100 : Int32) = nI 100 from rfl, leN (by omega) (by omega)]; omega)]
        refine ⟨_, _, rfl, rfl, rfl, rfl, Or.inr ⟨by omega, v, hv, rfl, rfl, fun j hj => ?_⟩⟩
        have e : j = i := by omega
        subst e
        exact ⟨v, hv, hd2, Nat.le_refl _⟩
      · rw [if_neg (show ¬ nI c = -1 by rw [m1N (by omega)]; exact id)]
        have e1 : (nI c ≤ nI v) = (c ≤ v) := leN (by omega) (by omega)
        by_cases c1 : c ≤ v
        · rw [if_pos (e1.mpr c1)]
          refine ⟨_, _, rfl, rfl, rfl, rfl, Or.inr ⟨by omega, c, hc, rfl, rfl, fun j hj => ?_⟩⟩
          by_cases e : j = i
          · subst e; exact ⟨v, hv, hd2, c1⟩
          · exact hmin j (by omega)
        · rw [if_neg (fun w => c1 (e1.mp w))]
          refine ⟨_, _, rfl, rfl, rfl, rfl, Or.inr ⟨by omega, v, hv, rfl, rfl, fun j hj => ?_⟩⟩
          by_cases e : j = i
          · subst e; exact ⟨v, hv, hd2, Nat.le_refl _⟩
          · obtain ⟨v', g1, g2, g3⟩ := hmin j (by omega)
            exact ⟨v', g1, g2, by omega⟩)
    (fun z z' hI => by
      obtain ⟨a, x⟩ := z
      obtain ⟨b, y⟩ := z'
      obtain ⟨w1, w2, w3⟩ := hI
      dsimp only at w1 w2 w3
      subst w1; subst w2
      have hx : nI L ≤ nI L := by rw [leN (by omega) (by omega)]; omega
      unfold fX8_leastSum_L4 fX11_ringLeast_L5
      dsimp only
      rw [if_pos hx, if_pos hx]
      exact ⟨_, _, rfl, rfl, w3⟩) (-1, 0) (100, 0) ⟨rfl, rfl, Or.inl ⟨rfl, rfl, rfl⟩⟩
  rw [h1, h2, bd_s, bd_s]
  unfold fX8_leastSum_X4_49 fX11_ringLeast_X5_59
  rcases h3 with ⟨h, rfl, rfl⟩ | ⟨h, c, hc, rfl, rfl, hm⟩
  · rw [if_pos (show nI L = 0 by rw [h]; rfl)]
    exact ⟨_, rfl, rfl, Or.inl h⟩
  · rw [if_neg (nI_ne0 h (by omega))]
    exact ⟨_, rfl, rfl, Or.inr ⟨c, hc, rfl, hm⟩⟩
theorem q_ring {k l o t d : Nat → Int32} {sz bh bm : Int32} {rows debts : Nat → Int32} {many mh mm : Int32} (hH : RelH k l o t d sz bh bm rows debts many mh mm) (kp rl : Int32) (rp rg : Nat → Int32) (p r td rn sn km kb kc : Int32) (hh : Int64) (mr ml : Nat → Int32) (x1 : Int32) : ∃ zx, fX10_ring kp sz bh bm d rl rp rg x1 = some zx ∧ ∃ zm, fX11_ring p r td many mh mm rn sn km kb kc hh debts mr ml x1 = some zm ∧ zx.1 = zm.1 := by
  obtain ⟨n, hn, rfl, rfl, rfl, rfl, hC, hD⟩ := hH
  unfold fX10_ring fX11_ring
  rw [show fX11_in x1.toInt64 0 1 = fX10_isWithin x1 0 1 from in_eq x1 0 1, show fX11_in x1.toInt64 10 15 = fX10_isWithin x1 10 15 from in_eq x1 10 15]
  have hgo : ∀ w : Nat, (w ≤ 1 ∨ (10 ≤ w ∧ w ≤ 15)) → ∃ zx, fX10_ring_J23 d rl rp rg (nI w) () = some zx ∧ ∃ zm, fX11_ring_J24 p r td (nI n) mh mm rn sn km kb kc hh debts mr ml (nI w) () = some zm ∧ zx.1 = zm.1 := by
    intro w hw
    have hE : ∀ m p, isR debts m p ↔ isR d m p := by
      have h1 : ∀ (a b : Nat → Int32), (∀ i, i < 36 → a i = b i) → ∀ m p, isR a m p → isR b m p := by
        intro a b hab m p hr
        obtain ⟨a1, a2, ⟨a3, a4, a5⟩, a6⟩ := hr
        have he : ∀ x y, x < 6 → y < 6 → edN a x y = edN b x y := fun x y hx hy => by unfold edN; rw [hab _ (by omega)]
        refine ⟨a1, a2, ⟨a3, a4, fun i hi => ?_⟩, ?_⟩
        · rw [← he _ _ (a3 i (by omega)).1 (a3 (i + 1) hi).1]; exact a5 i hi
        · rw [← he _ _ (a3 (m - 1) (by omega)).1 (a3 0 (by omega)).1]; exact a6
      exact fun m p => ⟨h1 debts d (fun i hi => (hD i hi).1) m p, h1 d debts (fun i hi => (hD i hi).1.symm) m p⟩
    unfold fX10_ring_J23 fX11_ring_J24 fX11_tellRing
    obtain ⟨L, q, P, Q, s1, s2, s3, s4⟩ := searchX d rl rp rg
    obtain ⟨L', q', R, T, s1', s2', s3', s4'⟩ := layM debts p r td (nI n) mh mm rn sn km kb kc hh mr ml
    obtain ⟨e1, e2⟩ := ring_same s2 s4 (s2'.imp id (hE _ _).mp) (fun m p hp => s4' m p ((hE m p).mpr hp))
    subst e1
    have s3' : ∀ i, i < L → R i = nI (q i) := fun i hi => by rw [s3' i hi, e2 i hi]
    have hL6 : L ≤ 6 := by
      rcases s2 with h | h
      · omega
      · exact h.2.1
    obtain ⟨z, z1, z2, -⟩ := least_two hD s2 s3 s3' p r td (nI n) mh mm sn km kb kc hh
    rw [s1, s1', bd_s, bd_s]
    unfold fX8_tell
    dsimp only
    rw [z1, z2, bd_s, bd_s]
    have c0 : (nI w = 0) = (w = 0) := eqN (b := 0) (by omega) (by omega)
    have c1 : (nI w = 1) = (w = 1) := eqN (b := 1) (by omega) (by omega)
    have c2 : (2 ≤ nI w) = (2 ≤ w) := leN (a := 2) (by omega) (by omega)
    by_cases d2 : 2 ≤ w
    · rw [if_pos (c2.mpr d2), if_neg (fun e => by rw [c0] at e; omega), if_neg (fun e => by rw [c1] at e; omega), show (nI w - 10) = nI (w - 10) from subN (b := 10) (by omega), if_neg (show ¬ nI (w - 10) < 0 by rw [show (0 : Int32) = nI 0 from rfl, ltN (by omega) (by omega)]; omega)]
      have c3 : (nI L ≤ nI (w - 10)) = (L ≤ w - 10) := leN (by omega) (by omega)
      by_cases d3 : L ≤ w - 10
      · rw [if_pos (c3.mpr d3), if_pos (c3.mpr d3), bd_s, bd_s]
        exact ⟨_, rfl, _, rfl, rfl⟩
      · rw [if_neg (fun e => d3 (c3.mp e)), if_neg (fun e => d3 (c3.mp e)), gd_t (inbN (by omega) (by omega)), gd_t (inbN (by omega) (by omega)), clN (by omega), s3 _ (by omega), s3' _ (by omega), bd_s, bd_s]
        exact ⟨_, rfl, _, rfl, rfl⟩
    · rw [if_neg (fun e => d2 (c2.mp e))]
      by_cases d0 : w = 0
      · rw [if_pos (c0.mpr d0), if_pos (c0.mpr d0), bd_s, bd_s]
        exact ⟨_, rfl, _, rfl, rfl⟩
      · rw [if_neg (fun e => d0 (c0.mp e)), if_neg (fun e => d0 (c0.mp e)), if_pos (c1.mpr (by omega)), bd_s, bd_s]
        exact ⟨_, rfl, _, rfl, rfl⟩
  by_cases h1 : fX10_isWithin x1 0 1 = 0
  · rw [if_pos h1, if_pos h1]
    by_cases h2 : fX10_isWithin x1 10 15 = 0
    · rw [if_pos h2, if_pos h2]; exact ⟨_, rfl, _, rfl, rfl⟩
    · rw [if_neg h2, if_neg h2]
      obtain ⟨w, w1, w2, rfl⟩ := withinN (lo := 10) (hi := 15) (by omega) (by omega) h2
      exact hgo w (Or.inr ⟨w1, w2⟩)
  · rw [if_neg h1, if_neg h1]
    obtain ⟨w, w1, w2, rfl⟩ := withinN (lo := 0) (hi := 1) (by omega) (by omega) h1
    exact hgo w (Or.inl w2)
theorem isR_rd {d debts : Nat → Int32} (hD : RD d debts) (m : Nat) (p : Nat → Nat) : isR debts m p ↔ isR d m p := by
  have h1 : ∀ (a b : Nat → Int32), (∀ i, i < 36 → a i = b i) → isR a m p → isR b m p := by
    intro a b hab hr
    obtain ⟨a1, a2, ⟨a3, a4, a5⟩, a6⟩ := hr
    have he : ∀ x y, x < 6 → y < 6 → edN a x y = edN b x y := fun x y hx hy => by unfold edN; rw [hab _ (by omega)]
    refine ⟨a1, a2, ⟨a3, a4, fun i hi => ?_⟩, ?_⟩
    · rw [← he _ _ (a3 i (by omega)).1 (a3 (i + 1) hi).1]; exact a5 i hi
    · rw [← he _ _ (a3 (m - 1) (by omega)).1 (a3 0 (by omega)).1]; exact a6
  exact ⟨h1 debts d (fun i hi => (hD i hi).1), h1 d debts (fun i hi => (hD i hi).1.symm)⟩
theorem q_clear {k l o t d : Nat → Int32} {sz bh bm : Int32} {rows debts : Nat → Int32} {many mh mm : Int32} (hH : RelH k l o t d sz bh bm rows debts many mh mm) (kp rl : Int32) (rp rg : Nat → Int32) (p r td rn sn km kb kc : Int32) (hh : Int64) (mr ml : Nat → Int32) : ∃ zx, fX10_clear kp sz bh bm d rl rp rg = some zx ∧ ∃ zm, fX11_clear p r td many mh mm rn sn km kb kc hh debts mr ml = some zm ∧ zx.1 = zm.1 ∧ RelH k l o t zx.2.1 sz bh bm rows zm.2.2.1 many mh mm := by
  have hH0 := hH
  obtain ⟨n, hn, rfl, rfl, rfl, rfl, hC, hD⟩ := hH
  unfold fX10_clear fX11_clear
  obtain ⟨L, q, P, Q, s1, s2, s3, s4⟩ := searchX d rl rp rg
  obtain ⟨L', q', R, T, s1', s2', s3', s4'⟩ := layM debts p r td (nI n) mh mm rn sn km kb kc hh mr ml
  obtain ⟨e1, e2⟩ := ring_same s2 s4 (s2'.imp id (isR_rd hD _ _).mp) (fun m p hp => s4' m p ((isR_rd hD m p).mpr hp))
  subst e1
  have s3' : ∀ i, i < L → R i = nI (q i) := fun i hi => by rw [s3' i hi, e2 i hi]
  have hL6 : L ≤ 6 := by
    rcases s2 with h | h
    · omega
    · exact h.2.1
  obtain ⟨z, z1, z2, z3⟩ := least_two hD s2 s3 s3' p r td (nI n) mh mm sn km kb kc hh
  rw [s1, s1', bd_s, bd_s]
  unfold fX8_isFound
  dsimp only
  by_cases h0 : L = 0
  · subst h0
    rw [if_pos (show nI 0 ≤ 0 by decide), if_pos rfl, if_pos (show nI 0 = 0 from rfl)]
    exact ⟨_, rfl, _, rfl, rfl, hH0⟩
  rw [if_neg (nI_nle (by omega) (by omega)), if_neg (show ¬ (1 : Int32) = 0 by decide), if_neg (nI_ne0 (by omega) (by omega))]
  have hr : isR d L q := s2.resolve_left h0
  obtain ⟨c, hc, rfl, hmin⟩ := z3.resolve_left h0
  have hq : ∀ i, i < L → q i < 6 := fun i hi => (hr.2.2.1.1 i hi).1
  unfold fX8_takeOff
  rw [z1, z2, bd_s, bd_s]
  obtain ⟨e, e', h1, h2, h3⟩ := two_for (st := fX8_takeOff_L8 (nI L) Q (nI c)) (st' := fX11_clear_L21 (nI L, R, T) (nI c))
    (fun i z z' => z.1 = nI i ∧ z'.1 = nI i ∧ RD z.2 z'.2 ∧ ∀ j, i ≤ j → j < L → z.2 (nxN q L j) = d (nxN q L j))
    (fun e e' => RD e e') L (by omega)
    (fun i z z' hi hI => by
      obtain ⟨x, D⟩ := z
      obtain ⟨y, D'⟩ := z'
      obtain ⟨w1, w2, w3, w4⟩ := hI
      dsimp only at w1 w2 w3 w4
      subst w1; subst w2
      have hx : ¬ nI L ≤ nI i := by rw [leN (by omega) (by omega)]; omega
      have hnx : (i + 1) % L < L := Nat.mod_lt _ (by omega)
      have hqi := hq i hi
      have hqn := hq _ hnx
      obtain ⟨v, hv, hv2, hcv⟩ := hmin i hi
      have hDi : D (6 * q i + q ((i + 1) % L)) = nI v := (w4 i (Nat.le_refl _) hi).trans hv2
      have hDi' : D' (6 * q i + q ((i + 1) % L)) = nI v := (w3 _ (by omega)).1.trans hDi
      unfold fX8_takeOff_L8 fX11_clear_L21 fX1_lessen
      dsimp only
      rw [if_neg hx, if_neg hx, gd_t (inbN (show i < 6 by omega) (by omega)), gd_t (inbN (show i < 6 by omega) (by omega)), behindN hL6 s3 hi, bd_s, clN (show i < 2 ^ 31 by omega), s3 i hi, s3' i hi, sumsN D hqi hqn, bd_s, hDi, nI1, subN hcv, pk_rem (show i + 1 < 2 ^ 31 by omega) (show 0 < L by omega) (show L < 2 ^ 31 by omega), gd_t (show nzi (nI L) = true from decide_eq_true (nI_ne0 (by omega) (by omega))), gd_t (inbN (show (i + 1) % L < 6 by omega) (by omega)), clN (show (i + 1) % L < 2 ^ 31 by omega), s3' _ hnx, m6N, gd_t (inbN (show 6 * q i + q ((i + 1) % L) < 36 by omega) (by omega)), clN (show 6 * q i + q ((i + 1) % L) < 2 ^ 31 by omega), hDi', subN hcv]
      have hval : (if 0 < nI (v - c) then nI (v - c) else 0) = nI (v - c) := by
        by_cases g : 0 < nI (v - c)
        · rw [if_pos g]
        · rw [if_neg g]
          have : ¬ 0 < v - c := fun w => g (show nI 0 < nI (v - c) by rw [ltN (by omega) (by omega)]; exact w)
          rw [show v - c = 0 by omega]
          rfl
      rw [hval, putN D hqi hqn, bd_s, bd_s]
      refine ⟨_, _, rfl, rfl, rfl, rfl, RD_put w3 _ (by omega), fun j hj hjL => ?_⟩
      show upd D (6 * q i + q ((i + 1) % L)) (nI (v - c)) (nxN q L j) = _
      have hqj := hq j hjL
      have hqjn := hq ((j + 1) % L) (Nat.mod_lt _ (by omega))
      have hne : nxN q L j ≠ 6 * q i + q ((i + 1) % L) := by
        have := hr.2.2.1.2.1 i j (by omega) hjL
        unfold nxN
        omega
      rw [upd_eq, if_neg hne]
      exact w4 j (by omega) hjL)
    (fun z z' hI => by
      obtain ⟨x, D⟩ := z
      obtain ⟨y, D'⟩ := z'
      obtain ⟨w1, w2, w3, w4⟩ := hI
      dsimp only at w1 w2 w3 w4
      subst w1; subst w2
      have hx : nI L ≤ nI L := by rw [leN (by omega) (by omega)]; omega
      unfold fX8_takeOff_L8 fX11_clear_L21
      dsimp only
      rw [if_pos hx, if_pos hx]
      exact ⟨_, _, rfl, rfl, w3⟩) (0, d) (0, debts) ⟨rfl, rfl, hD, fun j _ _ => rfl⟩
  rw [h1, h2, bd_s, bd_s]
  unfold fX8_takeOff_X8_38 fX11_clear_X21_67
  rw [bd_s]
  exact ⟨_, rfl, _, rfl, rfl, n, hn, rfl, rfl, rfl, rfl, hC, h3⟩
