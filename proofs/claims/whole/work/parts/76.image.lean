/-! images, months by a seed -/
def cpF (n : Nat) (f g : Nat → Int32) : Nat → Int32 := fun j => if j < n then f j else g j
theorem cpF_lt {n : Nat} {f g : Nat → Int32} {j : Nat} (h : j < n) : cpF n f g j = f j := if_pos h
theorem copyN {n : Nat} (hn : n < 10000) (f g : Nat → Int32) : fX11_copy n n f g = some (cpF n f g) := by
  unfold fX11_copy
  obtain ⟨e, h1, he⟩ := one_for (st := fX11_copy_L2 n n f) (fun i s => s = (nI i, cpF i f g)) (fun e => e = cpF n f g) n (by omega) (fun i s hi hI => by
      subst hI
      unfold fX11_copy_L2
      dsimp only
      rw [if_neg (show ¬ Int32.ofNat n ≤ nI i by rw [show Int32.ofNat n = nI n from rfl, leN (by omega) (by omega)]; omega), gd_t (inbN hi (by omega)), gd_t (inbN hi (by omega)), clN (by omega)]
      refine ⟨_, rfl, ?_⟩
      show (nI i + 1, upd (cpF i f g) i (f i)) = _
      rw [nI1]
      congr 1
      funext j
      rw [upd_eq]
      unfold cpF
      by_cases e : j = i
      · rw [if_pos e, if_pos (by omega), e]
      · rw [if_neg e]
        by_cases e2 : j < i
        · rw [if_pos e2, if_pos (by omega)]
        · rw [if_neg e2, if_neg (by omega)]) (fun s hI => by
      subst hI
      unfold fX11_copy_L2
      dsimp only
      rw [if_pos (show Int32.ofNat n ≤ nI n by rw [show Int32.ofNat n = nI n from rfl, leN (by omega) (by omega)]; omega)]
      exact ⟨_, rfl, rfl⟩) (0, g) (by
      show (0, g) = (nI 0, cpF 0 f g)
      congr 1)
  rw [h1, he]
  rfl
theorem cpyN {n : Nat} {k : Int32} (hk : k.toNatClampNeg = n) (f g : Nat → Int32) : va_cpy f g (0 : Int32).toNatClampNeg (0 : Int32).toNatClampNeg k.toNatClampNeg = cpF n f g := by
  rw [hk, show (0 : Int32).toNatClampNeg = 0 from by decide]
  funext j
  unfold va_cpy cpF
  by_cases e : j < n
  · rw [if_pos e, if_pos (by omega), Nat.sub_zero, Nat.zero_add]
  · rw [if_neg e, if_neg (by omega)]
theorem copyFromN (s1 b1 m1 : Int32) (k l o t d : Nat → Int32) (s2 b2 m2 : Int32) (k2 l2 o2 t2 d2 : Nat → Int32) : fX4_copyFrom s1 b1 m1 k l o t d s2 b2 m2 k2 l2 o2 t2 d2 = some (s2, b2, m2, cpF 10 k2 k, cpF 10 l2 l, cpF 10 o2 o, cpF 40 t2 t, cpF 36 d2 d) := by
  unfold fX4_copyFrom fX1_copyFrom
  rw [bd_s, cpyN (n := 10) (by decide), cpyN (n := 10) (by decide), cpyN (n := 10) (by decide), cpyN (n := 40) (by decide), cpyN (n := 36) (by decide)]
theorem RC_cp {k l o t rows : Nat → Int32} (h : RC k l o t rows) (k2 l2 o2 t2 r2 : Nat → Int32) : RC (cpF 10 k k2) (cpF 10 l l2) (cpF 10 o o2) (cpF 40 t t2) (cpF 80 rows r2) := by
  obtain ⟨h1, h2, h3⟩ := h
  refine ⟨fun f hf => ?_, fun f j hf hj => ?_, fun f hf => ?_⟩
  · rw [cpF_lt (show 8 * f < 80 by omega), cpF_lt (show 8 * f + 1 < 80 by omega), cpF_lt (show 8 * f + 2 < 80 by omega), cpF_lt hf, cpF_lt hf, cpF_lt hf]; exact h1 f hf
  · rw [cpF_lt (show 8 * f + (4 + j) < 80 by omega), cpF_lt (show 4 * f + j < 40 by omega)]; exact h2 f j hf hj
  · rw [cpF_lt hf, cpF_lt hf, cpF_lt hf]; exact h3 f hf
theorem RC_rows {k l o t rows rows' : Nat → Int32} (h : RC k l o t rows) (he : ∀ j : Nat, j < 80 → rows' j = rows j) : RC k l o t rows' := by
  obtain ⟨h1, h2, h3⟩ := h
  refine ⟨fun f hf => ?_, fun f j hf hj => ?_, h3⟩
  · rw [he _ (by omega), he _ (by omega), he _ (by omega)]; exact h1 f hf
  · rw [he _ (by omega)]; exact h2 f j hf hj
theorem RD_cp {d debts : Nat → Int32} (h : RD d debts) (d2 e2 : Nat → Int32) : RD (cpF 36 d d2) (cpF 36 debts e2) := by
  intro i hi
  rw [cpF_lt hi, cpF_lt hi]
  exact h i hi
theorem q_image {k l o t d : Nat → Int32} {sz bh bm : Int32} {rows debts : Nat → Int32} {many mh mm : Int32} (hH : RelH k l o t d sz bh bm rows debts many mh mm) (kp pm rm td rn sn km kb kc : Int32) (hh : Int64) (kk kl ko kt kd kr ke : Nat → Int32) (k1 k2 k3 : Int32) : ∃ zx, fX10_image kp sz bh bm k l o t d k1 k2 k3 kk kl ko kt kd = some zx ∧ ∃ zm, fX11_image pm rm td many mh mm rn sn km kb kc hh rows debts kr ke = some zm ∧ zx.1 = zm.1 ∧ zx.2.1 = 1 ∧ RelH zx.2.2.2.2.2.1 zx.2.2.2.2.2.2.1 zx.2.2.2.2.2.2.2.1 zx.2.2.2.2.2.2.2.2.1 zx.2.2.2.2.2.2.2.2.2 zx.2.2.1 zx.2.2.2.1 zx.2.2.2.2.1 zm.2.2.2.2.1 zm.2.2.2.2.2 zm.2.1 zm.2.2.1 zm.2.2.2.1 := by
  obtain ⟨n, hn, rfl, rfl, rfl, rfl, hC, hRD⟩ := hH
  unfold fX10_image fX11_image
  rw [copyFromN, copyN (by omega), bd_s, bd_s, copyN (by omega), bd_s]
  exact ⟨_, rfl, _, rfl, rfl, rfl, n, hn, rfl, rfl, rfl, rfl, RC_cp hC _ _ _ _ _, RD_cp hRD _ _⟩
theorem q_restore {kk kl ko kt kd : Nat → Int32} {ks kbh kbm : Int32} {kr ke : Nat → Int32} {km kb kc : Int32} {kp : Int32} (hK : (kp = 0 ∧ km = -1) ∨ (¬ kp = 0 ∧ RelH kk kl ko kt kd ks kbh kbm kr ke km kb kc)) {k l o t d : Nat → Int32} {sz bh bm : Int32} {rows debts : Nat → Int32} {many mh mm : Int32} (hH : RelH k l o t d sz bh bm rows debts many mh mm) (pm rm td rn sn : Int32) (hh : Int64) : ∃ zx, fX10_restore kp sz bh bm k l o t d ks kbh kbm kk kl ko kt kd = some zx ∧ ∃ zm, fX11_restore pm rm td many mh mm rn sn km kb kc hh rows debts kr ke = some zm ∧ zx.1 = zm.1 ∧ RelH zx.2.2.2.2.1 zx.2.2.2.2.2.1 zx.2.2.2.2.2.2.1 zx.2.2.2.2.2.2.2.1 zx.2.2.2.2.2.2.2.2 zx.2.1 zx.2.2.1 zx.2.2.2.1 zm.2.2.2.2.1 zm.2.2.2.2.2 zm.2.1 zm.2.2.1 zm.2.2.2.1 := by
  unfold fX10_restore fX11_restore
  rcases hK with ⟨h1, h2⟩ | ⟨h1, h2⟩
  · rw [if_pos h1, if_pos h2]
    exact ⟨_, rfl, _, rfl, rfl, hH⟩
  · obtain ⟨n, hn, rfl, rfl, rfl, rfl, hC, hRD⟩ := h2
    rw [if_neg h1, if_neg (by rw [m1N (by omega)]; exact id), copyFromN, copyN (by omega), bd_s, bd_s, copyN (by omega), bd_s]
    exact ⟨_, rfl, _, rfl, rfl, n, hn, rfl, rfl, rfl, rfl, RC_cp hC _ _ _ _ _, RD_cp hRD _ _⟩
/-! the draws -/
def nextS (s : Nat) : Nat := (1103515245 * s + 12345) % 2147483648
theorem nextS_lt (s : Nat) : nextS s < 2 ^ 31 := Nat.mod_lt _ (by omega)
theorem and31 (n : Nat) (h : n < 2 ^ 63) : lN n &&& 2147483647 = lN (n % 2147483648) := by
  apply Int64.toBitVec_inj.mp
  rw [Int64.toBitVec_and]
  apply BitVec.eq_of_toNat_eq
  rw [BitVec.toNat_and]
  show (BitVec.ofNat 64 n).toNat &&& 2147483647 = (BitVec.ofNat 64 (n % 2147483648)).toNat
  rw [BitVec.toNat_ofNat, BitVec.toNat_ofNat, Nat.mod_eq_of_lt (by omega), Nat.mod_eq_of_lt (by omega)]
  exact Nat.and_two_pow_sub_one_eq_mod n 31
theorem seedN (s : Nat) (h : s < 2 ^ 31) : ((1103515245 * lN s + 12345 : Int64) &&& 2147483647) = lN (nextS s) := by
  have e : (1103515245 * lN s + 12345 : Int64) = lN (1103515245 * s + 12345) := by
    rw [show (1103515245 : Int64) = lN 1103515245 from rfl, show (12345 : Int64) = lN 12345 from rfl, lN_mul, lN_add]
  rw [e, and31 _ (by omega)]
  rfl
theorem shr16 (n : Nat) (h : n < 2 ^ 31) : (lN n >>> ((16 : Int32).toInt64 &&& 63)) = lN (n / 65536) := by
  apply Int64.toInt_inj.mp
  rw [pk_lT (by omega)]
  show ((lN n).toBitVec.sshiftRight ((((16 : Int32).toInt64 &&& 63) : Int64).toBitVec.smod 64).toNat).toInt = _
  rw [show ((((16 : Int32).toInt64 &&& 63) : Int64).toBitVec.smod 64).toNat = 16 from by decide, BitVec.toInt_sshiftRight]
  show (lN n).toInt >>> 16 = _
  rw [pk_lT (by omega), Int.shiftRight_eq_div_pow]
  omega
theorem nextX {s : Nat} (h : s < 2 ^ 31) {w : Nat} (h0 : 0 < w) (hw : w < 100) : fX2_next (lN s) (nI w) = some (nI (nextS s / 65536 % w), lN (nextS s)) := by
  unfold fX2_next
  rw [if_neg (nI_nle h0 (by omega)), seedN s h, shr16 _ (nextS_lt s), nI_l (by omega), pk_lRem (by have := nextS_lt s; omega) h0 (by omega), lN_i]
  exact gd_t (decide_eq_true (by rw [show (0 : Int64) = lN 0 from rfl, pk_lEQ (by omega) (by omega)]; omega))
theorem drawM {s : Nat} (h : s < 2 ^ 31) {w : Nat} (h0 : 0 < w) (hw : w < 100) (a b c d e f g i j k : Int32) (hh : Int64) : fX11_draw a b c d e f g (nI s) i j k hh (nI w) = some (nI (nextS s / 65536 % w), nI (nextS s)) := by
  unfold fX11_draw
  rw [nI_l h, seedN s h, lN_i, show (65536 : Int32) = nI 65536 from rfl, pk_div (nextS_lt s) (by omega) (by omega), pk_rem (by have := nextS_lt s; omega) h0 (by omega)]
  exact gd_t (decide_eq_true (nI_ne0 h0 (by omega)))
theorem knows_t {n f : Nat} (hn : n ≤ 10) (hf : f < n) (bh bm : Int32) : fX4_knows (nI n) bh bm (nI f) = 1 := by
  have h0 : ¬ nI f < 0 := by
    rw [show (0 : Int32) = nI 0 from rfl, ltN (by omega) (by omega)]
    omega
  unfold fX4_knows
  rw [if_neg h0, if_neg (by rw [leN (by omega) (by omega)]; omega)]
theorem J89N (x2 bm u : Int32) (su : Int64) (L : Nat → Int32) (a7 : Int64 × Int32 × (Nat → Int32) × (Nat → Int32) × (Nat → Int32)) : fX2_passMonth_J89 x2 (u, su) (bm, L) a7 = some (if x2 ≤ u then 0 else 1, a7.1, a7.2.1, bm, a7.2.2.1, a7.2.2.2.1, a7.2.2.2.2) := by
  unfold fX2_passMonth_J89
  dsimp only
  by_cases h : x2 ≤ u
  · rw [if_pos h, if_pos rfl]
  · rw [if_neg h, if_neg (by decide)]
theorem monthJ {k L o t R : Nat → Int32} (hC : RC k L o t R) {n : Nat} (hn : n ≤ 10) {s : Nat} (hs : s < 2 ^ 31) (bh p r td e f' g km kb kc : Int32) (hh : Int64) : ∃ (s' : Nat) (bh' : Int32) (L' o' t' R' : Nat → Int32), s' < 2 ^ 31 ∧ RC k L' o' t' R' ∧ (∀ (x2 u bm : Int32), fX2_passMonth_J25 (nI n) bh k o t x2 (u, lN s) (bm, L) = some (if x2 ≤ u then 0 else 1, lN s', bh', bm, L', o', t')) ∧ (∀ (z7 : Int32 × Int32 × Int32 × (Nat → Int32)) (u dmp : Int32), fX11_months_J91 p r td (nI n) e f' g km kb kc hh z7 (u, nI s) (dmp, R) = some (Sum.inl (dmp, z7.2.1 + 1, nI s', R'))) := by
  by_cases hn0 : n = 0
  · subst hn0
    refine ⟨s, bh, L, o, t, R, hs, hC, fun x2 u bm => ?_, fun z7 u dmp => ?_⟩
    · unfold fX2_passMonth_J25
      rw [if_pos (by decide), J89N]
    · unfold fX11_months_J91 fX11_months_J175
      rw [if_pos (by decide)]
  · have h1 := nextS_lt s
    have h2 := nextS_lt (nextS s)
    generalize hf : nextS s / 65536 % n = f
    generalize hq : nextS (nextS s) / 65536 % 6 = q
    have hfn : f < n := by rw [← hf]; exact Nat.mod_lt _ (by omega)
    have hq6 : q < 6 := by rw [← hq]; exact Nat.mod_lt _ (by omega)
    have hf10 : f < 10 := by omega
    obtain ⟨r1, r2, r3⟩ := hC.1 f hf10
    have hX : ∀ (x2 u bm : Int32), fX2_passMonth_J25 (nI n) bh k o t x2 (u, lN s) (bm, L) = if o f = -1 then some (if x2 ≤ u then 0 else 1, lN (nextS (nextS s)), bh, bm, L, o, t) else if o f = nI q then some (if x2 ≤ u then 0 else 1, lN (nextS (nextS s)), bh, bm, L, o, t) else ((fX4_goByHand (nI n) bh bm k L o t (nI f) (nI q)).bind (fun u21 => some (if x2 ≤ u then 0 else 1, lN (nextS (nextS s)), u21.2.1, bm, u21.2.2.1, u21.2.2.2.1, u21.2.2.2.2))) := by
      intro x2 u bm
      unfold fX2_passMonth_J25
      dsimp only
      rw [if_neg (nI_nle (by omega) (by omega)), nextX hs (w := n) (by omega) (by omega), hf, bd_s]
      dsimp only
      rw [show (6 : Int32) = nI 6 from rfl, nextX h1 (w := 6) (by omega) (by omega), hq, bd_s, knows_t hn hfn, if_neg (by decide), bankN _ _ _ _ hf10, bd_s]
      dsimp only
      by_cases hb : o f = -1
      · rw [if_pos hb, if_pos hb, if_neg (by decide), J89N]
      · rw [if_neg hb, if_neg hb, if_pos rfl, gd_t (inbN hf10 (by omega)), clN (by omega)]
        by_cases hc : o f = nI q
        · rw [if_pos hc, if_pos hc, J89N]
        · rw [if_neg hc, if_neg hc]
          congr 1
          funext u21
          rw [J89N]
    have hM : ∀ (z7 : Int32 × Int32 × Int32 × (Nat → Int32)) (u dmp : Int32), fX11_months_J91 p r td (nI n) e f' g km kb kc hh z7 (u, nI s) (dmp, R) = if o f = -1 then some (Sum.inl (dmp, z7.2.1 + 1, nI (nextS (nextS s)), R)) else if o f = nI q then some (Sum.inl (dmp, z7.2.1 + 1, nI (nextS (nextS s)), R)) else ((fX11_hand p r td (nI n) e f' g (nI (nextS (nextS s))) km kb kc hh R (nI f) (nI q)).bind (fun u43 => some (Sum.inl (dmp, z7.2.1 + 1, nI (nextS (nextS s)), u43.2)))) := by
      intro z7 u dmp
      unfold fX11_months_J91
      dsimp only
      rw [if_neg (nI_nle (by omega) (by omega)), drawM hs (w := n) (by omega) (by omega), hf, bd_s]
      dsimp only
      rw [show (6 : Int32) = nI 6 from rfl, drawM h1 (w := 6) (by omega) (by omega), hq, bd_s]
      dsimp only
      rw [m8N2, gd_t (inbN (by omega) (by omega)), clN (by omega)]
      simp only [r3]
      unfold fX11_months_J153 fX11_months_J154 fX11_months_J173 fX11_months_J173a fX11_months_J175
      dsimp only
      rw [if_pos (show (0 : Int32) = 0 from rfl), if_neg (show ¬ (1 : Int32) = 0 by decide)]
    by_cases hb : o f = -1
    · refine ⟨nextS (nextS s), bh, L, o, t, R, h2, hC, fun x2 u bm => ?_, fun z7 u dmp => ?_⟩
      · rw [hX, if_pos hb]
      · rw [hM, if_pos hb]
    · by_cases hc : o f = nI q
      · refine ⟨nextS (nextS s), bh, L, o, t, R, h2, hC, fun x2 u bm => ?_, fun z7 u dmp => ?_⟩
        · rw [hX, if_neg hb, if_pos hc]
        · rw [hM, if_neg hb, if_pos hc]
      · obtain ⟨w, hw, ew, hC', e1, e2, -⟩ := q_hand hC hf10 (to := nI q) (Or.inr ⟨q, hq6, rfl⟩)
        refine ⟨nextS (nextS s), bh + (L f - nI w), _, _, _, _, h2, hC', fun x2 u bm => ?_, fun z7 u dmp => ?_⟩
        · rw [hX, if_neg hb, if_neg hc, e1, bd_s]
        · rw [hM, if_neg hb, if_neg hc, e2, bd_s]
theorem monthX {k L o t R : Nat → Int32} (hC : RC k L o t R) {n : Nat} (hn : n ≤ 10) {s : Nat} (hs : s < 2 ^ 31) (x2 bh bm p r td e f' g km kb kc : Int32) (hh : Int64) (x1 damp idx : Int32) (hx : ¬ x1 ≤ idx) : ∃ (r1 : Int32) (s' : Nat) (bh' bm' : Int32) (L' o' t' R' : Nat → Int32), fX2_passMonth (lN s) (nI n) bh bm k L o t x2 = some (r1, lN s', bh', bm', L', o', t') ∧ s' < 2 ^ 31 ∧ RC k L' o' t' R' ∧ fX11_months_L66 p r td (nI n) e f' g km kb kc hh x1 x2 (damp, idx, nI s, R) = some (Sum.inl (damp + r1, idx + 1, nI s', R')) := by
  unfold fX2_passMonth fX11_months_L66
  dsimp only
  rw [if_neg hx, show (10 : Int32) = nI 10 from rfl, nextX hs (w := 10) (by omega) (by omega), drawM hs (w := 10) (by omega) (by omega), bd_s, bd_s]
  dsimp only
  by_cases h : x2 ≤ nI (nextS s / 65536 % 10)
  · obtain ⟨s', bh', L', o', t', R', h1, h2, h3, h4⟩ := monthJ hC hn (nextS_lt s) bh p r td e f' g km kb kc hh
    rw [if_pos h, if_pos h, if_pos rfl, h3, h4, if_pos h]
    exact ⟨_, s', _, _, _, _, _, R', rfl, h1, h2, by rw [Int32.add_zero]⟩
  · obtain ⟨lost, L1, R1, e1, e2, hC1⟩ := q_mould hC hn bh bm p r td e f' g (nI (nextS s)) km kb kc hh
    obtain ⟨s', bh', L', o', t', R', h1, h2, h3, h4⟩ := monthJ hC1 hn (nextS_lt s) bh p r td e f' g km kb kc hh
    rw [if_neg h, if_neg h, if_neg (by decide), e1, e2, bd_s, bd_s]
    dsimp only
    rw [h3, h4, if_neg h]
    exact ⟨_, s', _, _, _, _, _, R', rfl, h1, h2, rfl⟩
