/-! the digest, whole -/
theorem g_page {codes : Nat → Int32} {size : Int32} {page : Nat → Int32} {pmn : Int32} (hP : RelP codes size page pmn) (r td many mh mm sn km kb kc : Int32) (a11 : Int32 × Int64 × (Nat → Int32) × (Nat → Int32)) (h0 : Int64) : ∃ h1, iter (fX10_digest_L22 size codes) FU (h0, 0) = some h1 ∧ iter (fX11_digest_L150 pmn r td many mh mm sn km kb kc page a11) FU (0, h0) = some h1 := by
  obtain ⟨p, hp, rfl, rfl, hpc⟩ := hP
  obtain ⟨e, e', a1, a2, a3⟩ := two_for (st := fX10_digest_L22 (nI p) codes) (st' := fX11_digest_L150 (nI p) r td many mh mm sn km kb kc page a11)
    (fun i z z' => z.1 = z'.2 ∧ z.2 = nI i ∧ z'.1 = nI i) (fun e e' => e = e') p (by omega)
    (fun i z z' hi hI => by
      obtain ⟨x, y⟩ := z
      obtain ⟨x', y'⟩ := z'
      obtain ⟨w1, w2, w3⟩ := hI
      dsimp only at w1 w2 w3
      subst w1 w2 w3
      unfold fX10_digest_L22 fX11_digest_L150
      dsimp only
      have e : (nI p ≤ nI i) = (p ≤ i) := leN (by omega) (by omega)
      rw [if_neg (fun w => by have := e.mp w; omega), if_neg (fun w => by have := e.mp w; omega), gd_t (inbN (show i < 22 by omega) (by omega)), gd_t (inbN (show i < 22 by omega) (by omega)), clN (show i < 2 ^ 31 by omega), (hpc i hi).1, sayN, bd_s, nI1]
      exact ⟨_, _, rfl, rfl, rfl, rfl, rfl⟩)
    (fun z z' hI => by
      obtain ⟨x, y⟩ := z
      obtain ⟨x', y'⟩ := z'
      obtain ⟨w1, w2, w3⟩ := hI
      dsimp only at w1 w2 w3
      subst w1 w2 w3
      unfold fX10_digest_L22 fX11_digest_L150
      dsimp only
      have e : (nI p ≤ nI p) = (p ≤ p) := leN (by omega) (by omega)
      rw [if_pos (e.mpr (Nat.le_refl p)), if_pos (e.mpr (Nat.le_refl p))]
      exact ⟨_, _, rfl, rfl, rfl⟩) (h0, 0) (0, h0) ⟨rfl, rfl, rfl⟩
  subst a3
  exact ⟨e, a1, a2⟩
theorem g_counts {k l o t d : Nat → Int32} {sz bh bm : Int32} {rows debts : Nat → Int32} {many mh mm psz pmn : Int32} (hH : RelH k l o t d sz bh bm rows debts many mh mm) (hp : psz = pmn) (kp r td sn km kb kc : Int32) (a11 : Int32 × Int64 × (Nat → Int32) × (Nat → Int32)) (h0 : Int64) : ∃ h1, iter (fX10_digest_L58 kp sz bh bm l o d psz) FU (h0, 0) = some h1 ∧ iter (fX11_digest_L177 pmn r td many mh mm sn km kb kc rows debts a11) FU (0, h0) = some h1 := by
  obtain ⟨e, e', a1, a2, a3⟩ := two_for (st := fX10_digest_L58 kp sz bh bm l o d psz) (st' := fX11_digest_L177 pmn r td many mh mm sn km kb kc rows debts a11)
    (fun i z z' => z.1 = z'.2 ∧ z.2 = nI i ∧ z'.1 = nI i) (fun e e' => e = e') 7 (by omega)
    (fun i z z' hi hI => by
      obtain ⟨x, y⟩ := z
      obtain ⟨x', y'⟩ := z'
      obtain ⟨w1, w2, w3⟩ := hI
      dsimp only at w1 w2 w3
      subst w1 w2 w3
      obtain ⟨z, b1, b2⟩ := q_countOf hH hp kp r td a11.1 sn km kb kc x (nI i)
      unfold fX10_digest_L58 fX11_digest_L177
      dsimp only
      rw [if_neg (show ¬ (6 : Int32) < nI i by rw [show (6 : Int32) = nI 6 from rfl, ltN (by omega) (by omega)]; omega), if_neg (show ¬ (7 : Int32) ≤ nI i by rw [show (7 : Int32) = nI 7 from rfl, leN (by omega) (by omega)]; omega), b1, b2, bd_s, bd_s, sayN, bd_s, nI1]
      exact ⟨_, _, rfl, rfl, rfl, rfl, rfl⟩)
    (fun z z' hI => by
      obtain ⟨x, y⟩ := z
      obtain ⟨x', y'⟩ := z'
      obtain ⟨w1, w2, w3⟩ := hI
      dsimp only at w1 w2 w3
      subst w1 w2 w3
      unfold fX10_digest_L58 fX11_digest_L177
      dsimp only
      rw [if_pos (by decide), if_pos (by decide)]
      exact ⟨_, _, rfl, rfl, rfl⟩) (h0, 0) (0, h0) ⟨rfl, rfl, rfl⟩
  subst a3
  exact ⟨e, a1, a2⟩
theorem q_digest {k l o t d : Nat → Int32} {sz bh bm : Int32} {rows debts : Nat → Int32} {many mh mm : Int32} (hH : RelH k l o t d sz bh bm rows debts many mh mm) {codes : Nat → Int32} {psz : Int32} {page : Nat → Int32} {pmn : Int32} (hP : RelP codes psz page pmn) (kp pp lw lb rl : Int32) (rp rg gb ge : Nat → Int32) (hgb : gb 0 = 0) (hge : ge 0 = 0) (ca : Int64) (ck ct : Int32) (cb : Nat → Int64) (r td rn sn km kb kc : Int32) (hh : Int64) (mr ml mg : Nat → Int32) (li lt : Nat → Int64) : ∃ zx, fX10_digest kp sz bh bm k l o t d psz codes pp lw lb rl rp rg gb ge ca ck ct cb = some zx ∧ ∃ zm, fX11_digest pmn r td many mh mm rn sn km kb kc hh page rows debts mr ml mg li lt = some zm ∧ zx.1 = zm.1 ∧ zx.2.2.2.2.2.2.2.1 0 = 0 ∧ zx.2.2.2.2.2.2.2.2.1 0 = 0 := by
  have hps : psz = pmn := by
    obtain ⟨p, -, h1, h2, -⟩ := hP
    rw [h1, h2]
  have hH0 := hH
  obtain ⟨n, hn, rfl, rfl, rfl, rfl, hC, hD⟩ := hH0
  obtain ⟨u1, L, T, a1, a2⟩ := g_fronds hC hn mh mm kp pmn r td mh mm rn sn km kb kc ca ck ct cb li lt
  unfold fX10_digest fX11_digest
  rw [a1, a2, bd_s, bd_s]
  -- debts
  obtain ⟨u5, V, s1, s2⟩ := g_told hH rl rp rg
  obtain ⟨v, gb', ge', mg', f1, f2, f3, f4⟩ := most_same hD gb ge hgb hge pmn r td (nI n) mh mm 0 sn km kb kc 0 mg
  have f4' := fun (rn : Int32) (hh : Int64) => most_same hD gb ge hgb hge pmn r td (nI n) mh mm rn sn km kb kc hh mg
  unfold fX10_withDebts
  rw [g_debtsX, bd_s]
  unfold fX10_withDebts_X5_63
  rw [s1, bd_s, show (0 : Int32) = nI 0 from rfl, show (1 : Int32) = nI 1 from rfl, (s2 0 (Or.inl (by omega))).1, bd_s, (s2 1 (Or.inl (by omega))).1, bd_s, ← rh_ten V, show (nI 0 : Int32) = 0 from rfl, g_ringX (fun w hw => (s2 w hw).1), bd_s]
  unfold fX10_withDebts_X126_166 fX10_fewest
  rw [f1, bd_s, bd_s, bd_s]
  dsimp only
  unfold fX11_digest_X9_28
  dsimp only
  rw [g_debtsM hD, bd_s]
  unfold fX11_digest_X30_64
  obtain ⟨a, R, T2, r1⟩ := g_ringM (fun w hw => (s2 w hw).2) pmn r td sn km kb kc (dhN d u1.1 36) rn mr ml
  rw [r1, bd_s]
  unfold fX11_digest_X66_99
  dsimp only
  obtain ⟨v2, gb2, ge2, mg2, k1, k2, k3, k4⟩ := f4' a (rhN V (dhN d u1.1 36) 16)
  rw [f1] at k1
  injection k1 with k1
  injection k1 with k5 k6
  subst k5
  rw [k4, bd_s, sayN, bd_s]
  dsimp only
  obtain ⟨w, w1, w2⟩ := g_purses hH kp pp lw lb pmn r td sn km kb kc (31 * rhN V (dhN d u1.1 36) 16 + (6 - v).toInt64) (a, rhN V (dhN d u1.1 36) 16, R, T2)
  rw [w1, w2, bd_s, bd_s]
  unfold fX11_digest_X110_148
  obtain ⟨h1, x1, x2⟩ := g_page hP r td (nI n) mh mm sn km kb kc (a, rhN V (dhN d u1.1 36) 16, R, T2) w.1
  rw [x1, x2, bd_s, bd_s]
  unfold fX10_digest_X22_56 fX11_digest_X150_175
  obtain ⟨h2, y1, y2⟩ := g_counts hH hps kp r td sn km kb kc (a, rhN V (dhN d u1.1 36) 16, R, T2) h1
  rw [y1, y2, bd_s, bd_s]
  unfold fX10_digest_X58_83 fX11_digest_X177_199
  exact ⟨_, rfl, _, rfl, rfl, f2, f3⟩
