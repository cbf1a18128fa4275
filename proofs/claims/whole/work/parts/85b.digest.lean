/-! the digest: the ring, the fewest, the purses -/
theorem inT {w lo hi : Nat} (h1 : lo ≤ w) (h2 : w ≤ hi) (hh : hi < 2 ^ 31) : ¬ fX10_isWithin (nI w) (nI lo) (nI hi) = 0 := within_iff.mpr ⟨by
    rw [leN (by omega) (by omega)]; exact h1, by
    rw [leN (by omega) (by omega)]; exact h2⟩
theorem inF {w lo hi : Nat} (h : w < lo ∨ hi < w) (hl : lo < 2 ^ 31) (hw : w < 2 ^ 31) (hh : hi < 2 ^ 31) : fX10_isWithin (nI w) (nI lo) (nI hi) = 0 := by
  rcases within01 (nI w) (nI lo) (nI hi) with e | e
  · exact e
  · exfalso
    have h0 : ¬ fX10_isWithin (nI w) (nI lo) (nI hi) = 0 := by rw [e]; decide
    obtain ⟨a, b⟩ := within_iff.mp h0
    rw [leN (by omega) (by omega)] at a b
    omega
theorem g_told {k l o t d : Nat → Int32} {sz bh bm : Int32} {rows debts : Nat → Int32} {many mh mm : Int32} (hH : RelH k l o t d sz bh bm rows debts many mh mm) (rl : Int32) (rp rg : Nat → Int32) : ∃ (u5 : Int32 × (Nat → Int32) × (Nat → Int32)) (V : Nat → Int32), fX8_search rl rp rg d = some u5 ∧ ∀ w : Nat, (w ≤ 1 ∨ (10 ≤ w ∧ w ≤ 15)) → fX8_tell u5.1 u5.2.2 d (nI w) = some (V w) ∧ ∀ (p r td rn sn km kb kc : Int32) (hh : Int64) (mr ml : Nat → Int32), ∃ u : Int32 × Int32 × (Nat → Int32) × (Nat → Int32), fX11_tellRing p r td many mh mm rn sn km kb kc hh debts mr ml (nI w) = some u ∧ u.1 = V w := by
  obtain ⟨L, q, P, Q, s1, -⟩ := searchX d rl rp rg
  refine ⟨(nI L, P, Q), fun w => (fX8_tell (nI L) Q d (nI w)).getD 0, s1, fun w hw => ?_⟩
  have key : ∀ (p r td rn sn km kb kc : Int32) (hh : Int64) (mr ml : Nat → Int32), ∃ (v : Int32) (u : Int32 × Int32 × (Nat → Int32) × (Nat → Int32)), fX8_tell (nI L) Q d (nI w) = some v ∧ fX11_tellRing p r td many mh mm rn sn km kb kc hh debts mr ml (nI w) = some u ∧ u.1 = v := by
    intro p r td rn sn km kb kc hh mr ml
    obtain ⟨zx, h1, zm, h2, h3⟩ := q_ring hH 0 rl rp rg p r td rn sn km kb kc hh mr ml (nI w)
    have g1 : fX10_ring_J23 d rl rp rg (nI w) () = some zx := by
      unfold fX10_ring at h1
      rcases hw with hw | ⟨ha, hb⟩
      · rw [if_neg (show ¬ fX10_isWithin (nI w) 0 1 = 0 from inT (lo := 0) (hi := 1) (by omega) hw (by omega))] at h1; exact h1
      · rw [if_pos (show fX10_isWithin (nI w) 0 1 = 0 from inF (lo := 0) (hi := 1) (Or.inr (by omega)) (by omega) (by omega) (by omega)), if_neg (show ¬ fX10_isWithin (nI w) 10 15 = 0 from inT (lo := 10) (hi := 15) ha hb (by omega))] at h1; exact h1
    have g2 : fX11_ring_J24 p r td many mh mm rn sn km kb kc hh debts mr ml (nI w) () = some zm := by
      unfold fX11_ring at h2
      rw [show fX11_in (nI w).toInt64 0 1 = fX10_isWithin (nI w) 0 1 from in_eq (nI w) 0 1, show fX11_in (nI w).toInt64 10 15 = fX10_isWithin (nI w) 10 15 from in_eq (nI w) 10 15] at h2
      rcases hw with hw | ⟨ha, hb⟩
      · rw [if_neg (show ¬ fX10_isWithin (nI w) 0 1 = 0 from inT (lo := 0) (hi := 1) (by omega) hw (by omega))] at h2; exact h2
      · rw [if_pos (show fX10_isWithin (nI w) 0 1 = 0 from inF (lo := 0) (hi := 1) (Or.inr (by omega)) (by omega) (by omega) (by omega)), if_neg (show ¬ fX10_isWithin (nI w) 10 15 = 0 from inT (lo := 10) (hi := 15) ha hb (by omega))] at h2; exact h2
    unfold fX10_ring_J23 at g1
    rw [s1, bd_s] at g1
    obtain ⟨v, a1, a2⟩ := bd_of g1
    unfold fX11_ring_J24 at g2
    obtain ⟨u, b1, b2⟩ := bd_of g2
    obtain rfl := Option.some.inj a2
    obtain rfl := Option.some.inj b2
    exact ⟨v, u, a1, b1, h3.symm⟩
  obtain ⟨v, u, a1, a2, a3⟩ := key 0 0 0 0 0 0 0 0 0 (fun _ => 0) (fun _ => 0)
  have hv : (fX8_tell (nI L) Q d (nI w)).getD 0 = v := by rw [a1]; rfl
  refine ⟨by show fX8_tell (nI L) Q d (nI w) = some ((fX8_tell (nI L) Q d (nI w)).getD 0); rw [hv]; exact a1, fun p r td rn sn km kb kc hh mr ml => ?_⟩
  obtain ⟨v2, u2, b1, b2, b3⟩ := key p r td rn sn km kb kc hh mr ml
  rw [a1] at b1
  obtain rfl := Option.some.inj b1
  exact ⟨u2, b2, b3.trans hv.symm⟩
def rhN (V : Nat → Int32) (h0 : Int64) : Nat → Int64
  | 0 => h0
  | w + 1 => if w < 2 ∨ 9 < w then 31 * rhN V h0 w + (V w).toInt64 else rhN V h0 w
theorem rh_ten (V : Nat → Int32) (h0 : Int64) : rhN V h0 10 = 31 * (31 * h0 + (V 0).toInt64) + (V 1).toInt64 := rfl
theorem g_ringM {many mh mm : Int32} {debts V : Nat → Int32} (hV : ∀ w : Nat, (w ≤ 1 ∨ (10 ≤ w ∧ w ≤ 15)) → ∀ (p r td rn sn km kb kc : Int32) (hh : Int64) (mr ml : Nat → Int32), ∃ u : Int32 × Int32 × (Nat → Int32) × (Nat → Int32), fX11_tellRing p r td many mh mm rn sn km kb kc hh debts mr ml (nI w) = some u ∧ u.1 = V w) (p r td sn km kb kc : Int32) (h0 : Int64) (rn : Int32) (mr ml : Nat → Int32) : ∃ (a : Int32) (R T : Nat → Int32), iter (fX11_digest_L66 p r td many mh mm sn km kb kc debts) FU (0, rn, h0, mr, ml) = some (a, rhN V h0 16, R, T) := by
  obtain ⟨e, h1, h2⟩ := one_for (st := fX11_digest_L66 p r td many mh mm sn km kb kc debts) (fun w z => z.1 = nI w ∧ z.2.2.1 = rhN V h0 w) (fun e => e.2.1 = rhN V h0 16) 16 (by omega)
    (fun w z hw hI => by
      obtain ⟨x, a, y, R, T⟩ := z
      obtain ⟨w1, w2⟩ := hI
      dsimp only at w1 w2
      subst w1 w2
      have hs : rhN V h0 (w + 1) = if w < 2 ∨ 9 < w then 31 * rhN V h0 w + (V w).toInt64 else rhN V h0 w := rfl
      have hJ : (w ≤ 1 ∨ (10 ≤ w ∧ w ≤ 15)) → ∃ t, fX11_digest_J83 p r td many mh mm sn km kb kc debts (nI w, a, rhN V h0 w, R, T) () = some (Sum.inl t) ∧ t.1 = nI (w + 1) ∧ t.2.2.1 = rhN V h0 (w + 1) := by
        intro hc
        unfold fX11_digest_J83
        dsimp only
        obtain ⟨u, u1, u2⟩ := hV w hc p r td a sn km kb kc (rhN V h0 w) R T
        rw [u1, bd_s, sayN, bd_s, nI1, u2, hs, if_pos (by omega)]
        exact ⟨_, rfl, rfl, rfl⟩
      unfold fX11_digest_L66
      dsimp only
      have e2 : (nI w < 2) = (w < 2) := ltN (b := 2) (by omega) (by omega)
      have e9 : (nI w ≤ 9) = (w ≤ 9) := leN (b := 9) (by omega) (by omega)
      rw [if_neg (show ¬ (16 : Int32) ≤ nI w by rw [show (16 : Int32) = nI 16 from rfl, leN (by omega) (by omega)]; omega)]
      by_cases c2 : w < 2
      · rw [if_pos (e2.mpr c2)]
        exact hJ (Or.inl (by omega))
      · rw [if_neg (fun q => c2 (e2.mp q))]
        by_cases c9 : w ≤ 9
        · rw [if_pos (e9.mpr c9), hs, if_neg (by omega)]
          unfold fX11_digest_J93
          dsimp only
          rw [nI1]
          exact ⟨_, rfl, rfl, rfl⟩
        · rw [if_neg (fun q => c9 (e9.mp q))]
          exact hJ (Or.inr ⟨by omega, by omega⟩))
    (fun z hI => by
      obtain ⟨x, a, y, R, T⟩ := z
      obtain ⟨w1, w2⟩ := hI
      dsimp only at w1 w2
      subst w1 w2
      unfold fX11_digest_L66
      dsimp only
      rw [if_pos (by decide)]
      exact ⟨_, rfl, rfl⟩) (0, rn, h0, mr, ml) ⟨rfl, rfl⟩
  obtain ⟨a, y, R, T⟩ := e
  dsimp only at h2
  subst h2
  exact ⟨a, R, T, h1⟩
theorem g_ringX {d V : Nat → Int32} {u5 : Int32 × (Nat → Int32) × (Nat → Int32)} (hV : ∀ w : Nat, (w ≤ 1 ∨ (10 ≤ w ∧ w ≤ 15)) → fX8_tell u5.1 u5.2.2 d (nI w) = some (V w)) (h0 : Int64) : iter (fX10_withDebts_L126 d u5) FU (rhN V h0 10, 0) = some (rhN V h0 16) := by
  obtain ⟨e, h1, h2⟩ := one_for (st := fX10_withDebts_L126 d u5) (fun j z => z = (rhN V h0 (10 + j), nI j)) (fun e => e = rhN V h0 16) 6 (by omega)
    (fun j z hj hI => by
      subst hI
      unfold fX10_withDebts_L126
      dsimp only
      have hs : rhN V h0 (10 + (j + 1)) = if 10 + j < 2 ∨ 9 < 10 + j then 31 * rhN V h0 (10 + j) + (V (10 + j)).toInt64 else rhN V h0 (10 + j) := rfl
      rw [if_neg (show ¬ (6 : Int32) ≤ nI j by rw [show (6 : Int32) = nI 6 from rfl, leN (by omega) (by omega)]; omega), show (10 : Int32) + nI j = nI (10 + j) from nI_add 10 j, hV (10 + j) (by omega), bd_s, nI1, hs, if_pos (by omega)]
      exact ⟨_, rfl, rfl⟩)
    (fun z hI => by
      subst hI
      unfold fX10_withDebts_L126
      dsimp only
      rw [if_pos (by decide)]
      exact ⟨_, rfl, rfl⟩) (rhN V h0 10, 0) rfl
  rw [h1, h2]
theorem g_purse {k l o t d : Nat → Int32} {sz bh bm : Int32} {rows debts : Nat → Int32} {many mh mm : Int32} (hH : RelH k l o t d sz bh bm rows debts many mh mm) (pp lw lb : Int32) {p : Nat} (hp : p < 6) : ∃ (u : Int32 × Int32 × Int32) , fX7_search pp lw lb sz bh bm k l o (nI p) 7 = some u ∧ (∀ (pm r td rn sn km kb kc : Int32) (hh : Int64), fX11_leastOf pm r td many mh mm rn sn km kb kc hh rows (nI p) 7 0 = some (fX7_worth u.1 u.2.1 u.2.2)) ∧ ∀ (pm r td rn sn km kb kc : Int32) (hh : Int64), fX11_leastOf pm r td many mh mm rn sn km kb kc hh rows (nI p) 7 1 = some (fX7_bits u.1 u.2.1 u.2.2) := by
  have key : ∀ w : Nat, w ≤ 1 → ∃ u, fX7_search pp lw lb sz bh bm k l o (nI p) 7 = some u ∧ ∀ (pm r td rn sn km kb kc : Int32) (hh : Int64), fX11_leastOf pm r td many mh mm rn sn km kb kc hh rows (nI p) 7 (nI w) = some (if nI w = 0 then fX7_worth u.1 u.2.1 u.2.2 else fX7_bits u.1 u.2.1 u.2.2) := by
    intro w hw
    have h99 : ¬ fX10_isWithin 7 1 99 = 0 := inT (w := 7) (lo := 1) (hi := 99) (by omega) (by omega) (by omega)
    have hw1 : ¬ fX10_isWithin (nI w) 0 1 = 0 := inT (lo := 0) (hi := 1) (by omega) hw (by omega)
    have both : ∀ (pm r td rn sn km kb kc : Int32) (hh : Int64), ∃ u, fX7_search pp lw lb sz bh bm k l o (nI p) 7 = some u ∧ fX11_leastOf pm r td many mh mm rn sn km kb kc hh rows (nI p) 7 (nI w) = some (if nI w = 0 then fX7_worth u.1 u.2.1 u.2.2 else fX7_bits u.1 u.2.1 u.2.2) := by
      intro pm r td rn sn km kb kc hh
      obtain ⟨zx, h1, zm, h2, h3⟩ := q_least hH 0 pp lw lb pm r td rn sn km kb kc hh (nI p) 7 (nI w)
      unfold fX10_least at h1
      rw [if_neg (personT hp), if_neg h99, if_neg hw1] at h1
      obtain ⟨u, a1, a2⟩ := bd_of h1
      unfold fX11_least at h2
      rw [isPerson_eq, show fX11_in (7 : Int32).toInt64 1 99 = fX10_isWithin 7 1 99 from in_eq 7 1 99, show fX11_in (nI w).toInt64 0 1 = fX10_isWithin (nI w) 0 1 from in_eq (nI w) 0 1, if_neg (personT hp), if_neg h99, if_neg hw1] at h2
      obtain ⟨v, b1, b2⟩ := bd_of h2
      obtain rfl := Option.some.inj b2
      refine ⟨u, a1, ?_⟩
      rw [b1, ← h3]
      by_cases c : nI w = 0
      · rw [if_pos c] at a2
        obtain rfl := Option.some.inj a2
        rw [if_pos c]
      · rw [if_neg c] at a2
        obtain rfl := Option.some.inj a2
        rw [if_neg c]
    obtain ⟨u, u1, -⟩ := both 0 0 0 0 0 0 0 0 0
    refine ⟨u, u1, fun pm r td rn sn km kb kc hh => ?_⟩
    obtain ⟨u', u1', u2'⟩ := both pm r td rn sn km kb kc hh
    rw [u1] at u1'
    obtain rfl := Option.some.inj u1'
    exact u2'
  obtain ⟨u, a1, a2⟩ := key 0 (by omega)
  obtain ⟨u', b1, b2⟩ := key 1 (by omega)
  rw [a1] at b1
  obtain rfl := Option.some.inj b1
  refine ⟨u, a1, fun pm r td rn sn km kb kc hh => ?_, fun pm r td rn sn km kb kc hh => ?_⟩
  · have := a2 pm r td rn sn km kb kc hh
    rw [if_pos (show nI 0 = 0 from rfl)] at this
    exact this
  · have := b2 pm r td rn sn km kb kc hh
    rw [if_neg (show ¬ nI 1 = 0 by decide)] at this
    exact this
theorem g_purses {k l o t d : Nat → Int32} {sz bh bm : Int32} {rows debts : Nat → Int32} {many mh mm : Int32} (hH : RelH k l o t d sz bh bm rows debts many mh mm) (kp pp lw lb pm r td sn km kb kc : Int32) (h0 : Int64) (a11 : Int32 × Int64 × (Nat → Int32) × (Nat → Int32)) : ∃ u : Int64 × Int32 × Int32 × Int32, fX10_withPurses kp sz bh bm k l o pp lw lb h0 = some u ∧ iter (fX11_digest_L110 pm r td many mh mm sn km kb kc rows a11) FU (0, h0) = some u.1 := by
  unfold fX10_withPurses
  obtain ⟨e, e', a1, a2, a3⟩ := two_for (st := fX10_withPurses_L5 sz bh bm k l o) (st' := fX11_digest_L110 pm r td many mh mm sn km kb kc rows a11)
    (fun p z z' => z.1 = z'.2 ∧ z.2.1 = nI p ∧ z'.1 = nI p) (fun e e' => e.1 = e') 6 (by omega)
    (fun p z z' hp hI => by
      obtain ⟨x, y, b1, b2, b3⟩ := z
      obtain ⟨x', y'⟩ := z'
      obtain ⟨w1, w2, w3⟩ := hI
      dsimp only at w1 w2 w3
      subst w1 w2 w3
      obtain ⟨u, u1, u2, u3⟩ := g_purse hH b1 b2 b3 hp
      unfold fX10_withPurses_L5 fX11_digest_L110
      dsimp only
      rw [if_neg (show ¬ (6 : Int32) ≤ nI p by rw [show (6 : Int32) = nI 6 from rfl, leN (by omega) (by omega)]; omega), if_neg (show ¬ (6 : Int32) ≤ nI p by rw [show (6 : Int32) = nI 6 from rfl, leN (by omega) (by omega)]; omega), u1, u2, bd_s, bd_s, sayN, bd_s, u3, bd_s, sayN, bd_s, nI1]
      exact ⟨_, _, rfl, rfl, rfl, rfl, rfl⟩)
    (fun z z' hI => by
      obtain ⟨x, y, b1, b2, b3⟩ := z
      obtain ⟨x', y'⟩ := z'
      obtain ⟨w1, w2, w3⟩ := hI
      dsimp only at w1 w2 w3
      subst w1 w2 w3
      unfold fX10_withPurses_L5 fX11_digest_L110
      dsimp only
      rw [if_pos (by decide), if_pos (by decide)]
      exact ⟨_, _, rfl, rfl, rfl⟩) (h0, 0, pp, lw, lb) (0, h0) ⟨rfl, rfl, rfl⟩
  subst a3
  rw [a1, a2, bd_s]
  exact ⟨_, rfl, rfl⟩
