/-! rows of people: the class; went -/
theorem tearX (sz bh bm : Int32) (t : Nat → Int32) {f j : Nat} (hf : f < 10) (hj : j < 4) : fX4_tear sz bh bm t (nI f) (nI j) = some (t (4 * f + j)) := by
  unfold fX4_tear
  rw [m4N, nI_add, gd_t (inbN (show 4 * f + j < 40 by omega) (by omega)), clN (show 4 * f + j < 2 ^ 31 by omega)]
theorem keepX (R : Nat → Int32) (g : Int32) : ∃ R', fX9_keepOnly R g = some R' ∧ ∀ p, p < 6 → R' p = if nI p = g then R p else 0 := by
  unfold fX9_keepOnly
  obtain ⟨e, h1, h2⟩ := one_for (st := fX9_keepOnly_L2 g) (fun j z => z.1 = nI j ∧ (∀ p, p < j → z.2 p = if nI p = g then R p else 0) ∧ ∀ p, j ≤ p → z.2 p = R p) (fun e => ∀ p, p < 6 → e p = if nI p = g then R p else 0) 6 (by omega)
    (fun j z hj hI => by
      obtain ⟨x, b⟩ := z
      obtain ⟨w1, w2, w3⟩ := hI
      dsimp only at w1 w2 w3
      subst w1
      unfold fX9_keepOnly_L2 fX9_keepOnly_J20
      dsimp only
      rw [if_neg (show ¬ (6 : Int32) ≤ nI j by rw [show (6 : Int32) = nI 6 from rfl, leN (by omega) (by omega)]; omega), gd_t (inbN (show j < 6 by omega) (by omega)), clN (show j < 2 ^ 31 by omega), nI1]
      by_cases c : nI j = g
      · rw [if_pos c]
        refine ⟨_, rfl, rfl, fun p hp => ?_, fun p hp => w3 p (by omega)⟩
        show b p = _
        by_cases e : p = j
        · subst e; rw [if_pos c, w3 p (Nat.le_refl p)]
        · exact w2 p (by omega)
      · rw [if_neg c]
        refine ⟨_, rfl, rfl, fun p hp => ?_, fun p hp => ?_⟩
        · show upd b j 0 p = _
          rw [upd_eq]
          by_cases e : p = j
          · subst e; rw [if_pos rfl, if_neg c]
          · rw [if_neg e]; exact w2 p (by omega)
        · show upd b j 0 p = _
          rw [upd_eq, if_neg (by omega)]
          exact w3 p (by omega))
    (fun z hI => by
      obtain ⟨x, b⟩ := z
      obtain ⟨w1, w2, w3⟩ := hI
      dsimp only at w1 w2 w3
      subst w1
      unfold fX9_keepOnly_L2
      dsimp only
      rw [if_pos (by decide)]
      exact ⟨_, rfl, w2⟩) (0, R) ⟨rfl, fun p hp => by omega, fun p _ => rfl⟩
  rw [h1, bd_s]
  exact ⟨e, rfl, h2⟩
theorem sumN_mem (a : Nat → Nat) {p : Nat} : ∀ n : Nat, p < n → a p ≤ sumN a n
  | 0, h => by omega
  | n + 1, h => by
    show a p ≤ sumN a n + a n
    by_cases c : p = n
    · subst c; omega
    · have := sumN_mem a n (show p < n by omega)
      omega
theorem passOnX {R : Nat → Int32} {a : Nat → Nat} (hR : ∀ p, p < 6 → R p = nI (a p)) : ∃ R', fX9_passOn R = some R' ∧ ∀ p, p < 6 → R' p = nI (sumN a 6 - a p) := by
  unfold fX9_passOn
  obtain ⟨e, h1, h2⟩ := one_for (st := fX9_passOn_L13 R) (fun j z => z = (nI (sumN a j), nI j)) (fun e => e = nI (sumN a 6)) 6 (by omega)
    (fun j z hj hI => by
      subst hI
      unfold fX9_passOn_L13
      dsimp only
      rw [if_neg (show ¬ (6 : Int32) ≤ nI j by rw [show (6 : Int32) = nI 6 from rfl, leN (by omega) (by omega)]; omega), gd_t (inbN (show j < 6 by omega) (by omega)), clN (show j < 2 ^ 31 by omega), nI1, hR j hj, nI_add]
      exact ⟨_, rfl, rfl⟩)
    (fun z hI => by
      subst hI
      unfold fX9_passOn_L13
      dsimp only
      rw [if_pos (by decide)]
      exact ⟨_, rfl, rfl⟩) (0, 0) rfl
  subst h2
  rw [h1, bd_s]
  unfold fX9_passOn_X13_36
  obtain ⟨e, h3, h4⟩ := one_for (st := fX9_passOn_L38 (nI (sumN a 6))) (fun j z => z.1 = nI j ∧ (∀ p, p < j → z.2 p = nI (sumN a 6 - a p)) ∧ ∀ p, j ≤ p → z.2 p = R p) (fun e => ∀ p, p < 6 → e p = nI (sumN a 6 - a p)) 6 (by omega)
    (fun j z hj hI => by
      obtain ⟨x, b⟩ := z
      obtain ⟨w1, w2, w3⟩ := hI
      dsimp only at w1 w2 w3
      subst w1
      unfold fX9_passOn_L38
      dsimp only
      rw [if_neg (show ¬ (6 : Int32) ≤ nI j by rw [show (6 : Int32) = nI 6 from rfl, leN (by omega) (by omega)]; omega), gd_t (inbN (show j < 6 by omega) (by omega)), clN (show j < 2 ^ 31 by omega), nI1, w3 j (Nat.le_refl j), hR j hj, subN (sumN_mem a 6 hj)]
      refine ⟨_, rfl, rfl, fun p hp => ?_, fun p hp => ?_⟩
      · show upd b j _ p = _
        rw [upd_eq]
        by_cases e : p = j
        · subst e; rw [if_pos rfl]
        · rw [if_neg e]; exact w2 p (by omega)
      · show upd b j _ p = _
        rw [upd_eq, if_neg (by omega)]
        exact w3 p (by omega))
    (fun z hI => by
      obtain ⟨x, b⟩ := z
      obtain ⟨w1, w2, w3⟩ := hI
      dsimp only at w1 w2 w3
      subst w1
      unfold fX9_passOn_L38
      dsimp only
      rw [if_pos (by decide)]
      exact ⟨_, rfl, w2⟩) (0, R) ⟨rfl, fun p hp => by omega, fun p _ => rfl⟩
  rw [h3, bd_s]
  exact ⟨e, rfl, h4⟩
theorem personT {c : Nat} (hc : c < 6) : ¬ fX10_isPerson (nI c) = 0 := by
  have e : ¬ fX10_isWithin (nI c) 0 5 = 0 := within_iff.mpr ⟨by
    rw [show (0 : Int32) = nI 0 from rfl, leN (by omega) (by omega)]; omega, by
    rw [show (5 : Int32) = nI 5 from rfl, leN (by omega) (by omega)]; omega⟩
  exact e
theorem throughX {fm h f c : Nat} (hfm : fm < 6) (hh : h ≤ 6) (hf : f < 10) (hc : c < 6) {o tt : Nat → Int32} (ho : o f = nI c) (R0 : Nat → Int32) (sz bh bm : Int32) : ∃ zx, fX9_throughPeople R0 sz bh bm o tt (nI f) (nI fm) (nI h) = some zx ∧ zx.1 = nI (sumN (fun code => ifC (wkP fm (nI c) (fun j => tt (4 * f + j)) h code) 1 0) (6 ^ h)) := by
  unfold fX9_throughPeople
  obtain ⟨e, h1, h2⟩ := iter_inv (st := fX9_throughPeople_L4 sz bh bm tt (nI f)) (fun z => ∃ i, i ≤ 6 ∧ h ≤ i ∧ z = nI i ∧ ∀ j, h ≤ j → j < i → j < 4 → tt (4 * f + j) = -1) (fun z => 10 - z.toNatClampNeg) (fun e => (e = Sum.inr () ∧ ∀ j, h ≤ j → j < 4 → tt (4 * f + j) = -1) ∨ (e = Sum.inl () ∧ ¬ ∀ j, h ≤ j → j < 4 → tt (4 * f + j) = -1))
    (fun z hI => by
      obtain ⟨i, hi, c3, rfl, w⟩ := hI
      unfold fX9_throughPeople_L4
      have e1 : ((4 : Int32) ≤ nI i) = (4 ≤ i) := leN (a := 4) (by omega) (by omega)
      by_cases c1 : 4 ≤ i
      · rw [if_pos (e1.mpr c1)]
        exact Or.inr ⟨_, rfl, Or.inl ⟨rfl, fun j hj hj4 => w j hj (by omega) hj4⟩⟩
      · rw [if_neg (fun k => c1 (e1.mp k)), tearX sz bh bm tt hf (by omega), bd_s]
        by_cases c2 : tt (4 * f + i) = -1
        · rw [if_pos c2]
          refine Or.inl ⟨_, rfl, ⟨i + 1, by omega, by omega, nI1 i, fun j hj hj2 hj4 => ?_⟩, ?_⟩
          · by_cases e : j = i
            · subst e; exact c2
            · exact w j hj (by omega) hj4
          · rw [nI1, clN (by omega), clN (by omega)]; omega
        · rw [if_neg c2]
          exact Or.inr ⟨_, rfl, Or.inr ⟨rfl, fun k => c2 (k i c3 (by omega))⟩⟩)
    FU (nI h) ⟨h, hh, Nat.le_refl h, rfl, fun j hj hj2 _ => by omega⟩ (by show 10 - _ < 100000; omega)
  rw [h1, bd_s]
  rcases h2 with ⟨rfl, k⟩ | ⟨rfl, k⟩
  · rw [walks_cnt1 hfm hc _ h k]
    show ∃ zx, fX9_throughPeople_X4_29 R0 sz bh bm o tt (nI f) (nI fm) (nI h) () = some zx ∧ _
    unfold fX9_throughPeople_X4_29
    obtain ⟨R1, a1, a2⟩ := one_for (st := fX9_throughPeople_L32 (nI fm)) (fun j z => z.1 = nI j ∧ ∀ p, p < j → z.2 p = nI (if p = fm then 1 else 0)) (fun e => ∀ p, p < 6 → e p = nI (wayN fm (fun j => tt (4 * f + j)) h 0 p)) 6 (by omega)
      (fun j z hj hI => by
        obtain ⟨x, b⟩ := z
        obtain ⟨w1, w2⟩ := hI
        dsimp only at w1 w2
        subst w1
        unfold fX9_throughPeople_L32
        dsimp only
        rw [if_neg (show ¬ (6 : Int32) ≤ nI j by rw [show (6 : Int32) = nI 6 from rfl, leN (by omega) (by omega)]; omega), gd_t (inbN (show j < 6 by omega) (by omega)), clN (show j < 2 ^ 31 by omega), nI1]
        refine ⟨_, rfl, rfl, fun p hp => ?_⟩
        show upd b j _ p = _
        rw [upd_eq]
        have ef : (nI j = nI fm) = (j = fm) := eqN (by omega) (by omega)
        by_cases e : p = j
        · subst e
          rw [if_pos rfl]
          by_cases c2 : p = fm
          · rw [if_pos (ef.mpr c2), if_pos c2]; rfl
          · rw [if_neg (fun w => c2 (ef.mp w)), if_neg c2]; rfl
        · rw [if_neg e]; exact w2 p (by omega))
      (fun z hI => by
        obtain ⟨x, b⟩ := z
        obtain ⟨w1, w2⟩ := hI
        dsimp only at w1 w2
        subst w1
        unfold fX9_throughPeople_L32
        dsimp only
        rw [if_pos (by decide)]
        exact ⟨_, rfl, w2⟩) (0, R0) ⟨rfl, fun p hp => by omega⟩
    rw [a1, bd_s]
    unfold fX9_throughPeople_X32_63
    obtain ⟨R2, b1, b2⟩ := one_for (st := fX9_throughPeople_L67 sz bh bm tt (nI f)) (fun i z => z.1 = nI (h - i) ∧ ∀ p, p < 6 → z.2 p = nI (wayN fm (fun j => tt (4 * f + j)) h i p)) (fun e => ∀ p, p < 6 → e p = nI (wayN fm (fun j => tt (4 * f + j)) h h p)) h (by omega)
      (fun i z hi hI => by
        obtain ⟨x, b⟩ := z
        obtain ⟨w1, w2⟩ := hI
        dsimp only at w1 w2
        subst w1
        unfold fX9_throughPeople_L67 fX9_throughPeople_J91
        dsimp only
        have e4 : ((4 : Int32) < nI (h - i)) = (4 < h - i) := ltN (a := 4) (by omega) (by omega)
        have em : (nI (h - i) + (-1) : Int32) = nI (h - (i + 1)) := by
          rw [show h - i = (h - (i + 1)) + 1 by omega, pk_m1]
        rw [if_neg (nI_nle (show 0 < h - i by omega) (by omega)), em]
        by_cases c4 : 4 < h - i
        · rw [if_pos (e4.mpr c4)]
          obtain ⟨R', c1, c2⟩ := passOnX w2
          rw [c1, bd_s]
          refine ⟨_, rfl, rfl, fun p hp => ?_⟩
          have hk : ∀ q, q < 6 → kepN (fun j => tt (4 * f + j)) (h - i) (wayN fm (fun j => tt (4 * f + j)) h i) q = wayN fm (fun j => tt (4 * f + j)) h i q := fun q _ => ifC_pos (fun w => by omega)
          show R' p = nI (sumN (kepN (fun j => tt (4 * f + j)) (h - i) (wayN fm (fun j => tt (4 * f + j)) h i)) 6 - kepN (fun j => tt (4 * f + j)) (h - i) (wayN fm (fun j => tt (4 * f + j)) h i) p)
          rw [sumN_congr 6 hk, hk p hp]
          exact c2 p hp
        · rw [if_neg (fun w => c4 (e4.mp w)), show (nI (h - i) - 1 : Int32) = nI (h - i - 1) from by rw [show (1 : Int32) = nI 1 from rfl, subN (by omega)], tearX sz bh bm tt hf (by omega), bd_s]
          obtain ⟨R', c1, c2⟩ := keepX b (tt (4 * f + (h - i - 1)))
          rw [c1, bd_s]
          have hk : ∀ q, q < 6 → R' q = nI (kepN (fun j => tt (4 * f + j)) (h - i) (wayN fm (fun j => tt (4 * f + j)) h i) q) := fun q hq => by
            rw [c2 q hq, w2 q hq]
            unfold kepN
            by_cases c5 : nI q = tt (4 * f + (h - i - 1))
            · rw [if_pos c5, ifC_pos (show okT (fun j => tt (4 * f + j)) (h - i) q from fun _ => c5.symm)]
            · rw [if_neg c5, ifC_neg (show ¬ okT (fun j => tt (4 * f + j)) (h - i) q from fun w => c5 (w (by omega)).symm)]
              rfl
          obtain ⟨R3, d1, d2⟩ := passOnX hk
          rw [d1, bd_s]
          exact ⟨_, rfl, rfl, d2⟩)
      (fun z hI => by
        obtain ⟨x, b⟩ := z
        obtain ⟨w1, w2⟩ := hI
        dsimp only at w1 w2
        subst w1
        unfold fX9_throughPeople_L67
        dsimp only
        rw [Nat.sub_self, if_pos (show nI 0 ≤ 0 by decide)]
        exact ⟨_, rfl, w2⟩) (nI h, R1) ⟨rfl, a2⟩
    rw [b1, bd_s]
    unfold fX9_throughPeople_X67_101
    rw [gd_t (inbN (show f < 10 by omega) (by omega)), clN (show f < 2 ^ 31 by omega), ho, if_neg (personT hc), gd_t (inbN (show c < 6 by omega) (by omega)), clN (show c < 2 ^ 31 by omega)]
    exact ⟨_, rfl, b2 c hc⟩
  · rw [walks_cnt0 hfm hc _ h k]
    exact ⟨_, rfl, rfl⟩
theorem q_went {k l o t d : Nat → Int32} {sz bh bm : Int32} {rows debts : Nat → Int32} {many mh mm : Int32} (hH : RelH k l o t d sz bh bm rows debts many mh mm) (kp : Int32) (wr : Nat → Int32) (pm rm td rn sn km kb kc : Int32) (hh : Int64) (x1 x2 x3 x4 : Int32) : ∃ zx, fX10_went kp sz bh bm k l o t wr x1 x2 x3 x4 = some zx ∧ ∃ zm, fX11_went pm rm td many mh mm rn sn km kb kc hh rows x1 x2 x3 x4 = some zm ∧ zx.1 = zm := by
  obtain ⟨n, hn, rfl, rfl, rfl, rfl, hC, hD⟩ := hH
  unfold fX10_went fX11_went
  rw [isFrond_eq hn (bh := mh) (bm := mm), isPerson_eq, show fX11_in x3.toInt64 0 6 = fX10_isWithin x3 0 6 from in_eq x3 0 6, show fX11_in x4.toInt64 0 4 = fX10_isWithin x4 0 4 from in_eq x4 0 4]
  by_cases h1 : fX4_knows (nI n) mh mm x1 = 0
  · rw [if_pos h1, if_pos h1]; exact ⟨_, rfl, _, rfl, rfl⟩
  rw [if_neg h1, if_neg h1]
  by_cases h2 : fX10_isPerson x2 = 0
  · rw [if_pos h2, if_pos h2]; exact ⟨_, rfl, _, rfl, rfl⟩
  rw [if_neg h2, if_neg h2]
  by_cases h3 : fX10_isWithin x3 0 6 = 0
  · rw [if_pos h3, if_pos h3]; exact ⟨_, rfl, _, rfl, rfl⟩
  rw [if_neg h3, if_neg h3]
  by_cases h4 : fX10_isWithin x4 0 4 = 0
  · rw [if_pos h4, if_pos h4]; exact ⟨_, rfl, _, rfl, rfl⟩
  rw [if_neg h4, if_neg h4]
  obtain ⟨f, hf, rfl⟩ := knowsN hn h1
  obtain ⟨fm, hfm, rfl⟩ := personN h2
  obtain ⟨h, -, hh6, rfl⟩ := withinN (lo := 0) (hi := 6) (by omega) (by omega) h3
  obtain ⟨m, -, hm4, rfl⟩ := withinN (lo := 0) (hi := 4) (by omega) (by omega) h4
  have hf10 : f < 10 := by omega
  obtain ⟨⟨c, hc, hkc⟩, ⟨v0, hv, hlv⟩, howner⟩ := hC.2.2 f hf10
  obtain ⟨r1, r2, r3⟩ := hC.1 f hf10
  rw [bankN (nI n) mh mm o hf10, bd_s, m8N2, gd_t (inbN (show 8 * f + 2 < 80 by omega) (by omega)), clN (show 8 * f + 2 < 2 ^ 31 by omega), r3]
  rcases howner with ho | ⟨p, hp, ho⟩
  · rw [if_pos ho, if_neg (show ¬ (1 : Int32) = 0 by decide), if_pos ho]
    exact ⟨_, rfl, _, rfl, rfl⟩
  have hne : ¬ o f = -1 := by rw [ho, m1N (by omega)]; exact id
  rw [if_neg hne, if_pos (show (0 : Int32) = 0 from rfl), if_neg hne, gd_t (inbN (show f < 10 by omega) (by omega)), clN (show f < 2 ^ 31 by omega), hkc, hlv, ordersX4 hc hv hh6 hm4, bd_s, ordersM hc hv hf10 hh6 hm4 (r1.trans hkc) (r2.trans hlv), bd_s, walksM hfm hh6 hf10 rows (t := fun j => t (4 * f + j)) (fun j hj => hC.2.1 f j hf10 hj), bd_s, r3, ho]
  obtain ⟨zx, b1, b2⟩ := throughX (tt := t) hfm hh6 hf10 hp ho wr (nI n) mh mm
  by_cases c0 : nI (ordN c (h + m) h v0 9) = 0
  · rw [if_pos c0, c0, Int32.zero_mul]
    exact ⟨_, rfl, _, rfl, rfl⟩
  · rw [if_neg c0, b1, bd_s]
    refine ⟨_, rfl, _, rfl, ?_⟩
    show _ * zx.1 = _
    rw [b2]
