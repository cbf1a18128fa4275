/-! in how many orders: the model -/
theorem ordersM {c l f h m : Nat} (hc : c < 5) (hl : l < 10) (hf : f < 10) (hh : h ≤ 6) (hm : m ≤ 4) {rows : Nat → Int32} (hk : rows (8 * f) = nI c) (hlv : rows (8 * f + 1) = nI l) (pm rm td n bh bm rn sn km kb kc : Int32) (h8 : Int64) : fX11_orders pm rm td n bh bm rn sn km kb kc h8 rows (nI f) (nI h) (nI m) = some (nI (ordN c (h + m) h l 9)) := by
  unfold fX11_orders
  rw [m8N0, gd_t (inbN (show 8 * f < 80 by omega) (by omega))]
  have h2n : 2 ^ (h + m) ≤ 1024 := Nat.pow_le_pow_right (n := 2) (by omega) (show h + m ≤ 10 by omega)
  have hsh : (1 <<< (nI (h + m) &&& 31) : Int32) = nI (2 ^ (h + m)) := pow2N ⟨h + m, by omega⟩
  obtain ⟨e, h1, h2⟩ := one_for (st := fX11_orders_L22 rows (nI f) (nI h) (nI m)) (fun S z => z = (nI (sumN (fun S => okN (pathN c S 9 (h + m)) h l) S), nI S)) (fun e => e = nI (ordN c (h + m) h l 9)) (2 ^ (h + m)) (by omega)
    (fun S z hS hI => by
      subst hI
      unfold fX11_orders_L22
      dsimp only
      have e1 : (nI (2 ^ (h + m)) ≤ nI S) = (2 ^ (h + m) ≤ S) := leN (by omega) (by omega)
      rw [show nI h + nI m = nI (h + m) from nI_add h m, hsh, if_neg (fun w => by have := e1.mp w; omega)]
      obtain ⟨p, a1, a2⟩ := one_for (st := fX11_orders_L41 rows (nI f) (nI h) (nI m) (nI (sumN (fun S => okN (pathN c S 9 (h + m)) h l) S), nI S)) (fun k z => z = (nI (pathN c S 9 k).1, nI (pathN c S 9 k).2, nI k)) (fun e => e = (nI (pathN c S 9 (h + m)).1, nI (pathN c S 9 (h + m)).2)) (h + m) (by omega)
        (fun k z hk2 hI => by
          subst hI
          obtain ⟨p1, p2⟩ := path_le hc S (show 9 < 10 by omega) k
          unfold fX11_orders_L41
          dsimp only
          have e2 : (nI (h + m) ≤ nI k) = (h + m ≤ k) := leN (by omega) (by omega)
          rw [show nI h + nI m = nI (h + m) from nI_add h m, if_neg (fun w => by have := e2.mp w; omega), m8N0, clN (show 8 * f < 2 ^ 31 by omega), hk, bitN ⟨S, by omega⟩ ⟨k, by omega⟩, mould_eq hc (show (pathN c S 9 k).1 < 10 by omega), hand_eq hc (show (pathN c S 9 k).1 < 10 by omega), (mv_eq hc (show (pathN c S 9 k).1 < 10 by omega)).1, (hv_eq hc (show (pathN c S 9 k).1 < 10 by omega)).1, nI1]
          dsimp only
          refine ⟨_, rfl, ?_⟩
          show _ = (nI (if S.testBit k = true then (hvN c (pathN c S 9 k).1, (pathN c S 9 k).2 + 1) else (mvN c (pathN c S 9 k).1, (pathN c S 9 k).2)).1, nI (if S.testBit k = true then (hvN c (pathN c S 9 k).1, (pathN c S 9 k).2 + 1) else (mvN c (pathN c S 9 k).1, (pathN c S 9 k).2)).2, nI (k + 1))
          by_cases b : S.testBit k = true
          · rw [if_pos b, if_pos b, if_pos rfl, if_neg (show ¬ (1 : Int32) = 0 by decide), if_neg (show ¬ (1 : Int32) = 0 by decide), nI1]
          · rw [if_neg b, if_neg b, if_neg (show ¬ (0 : Int32) = 1 by decide), if_pos rfl, if_pos rfl]
            congr 2
            exact Int32.add_zero _)
        (fun z hI => by
          subst hI
          unfold fX11_orders_L41
          dsimp only
          have e2 : (nI (h + m) ≤ nI (h + m)) = (h + m ≤ h + m) := leN (by omega) (by omega)
          rw [show nI h + nI m = nI (h + m) from nI_add h m, if_pos (e2.mpr (Nat.le_refl _))]
          exact ⟨_, rfl, rfl⟩) (9, 0, 0) rfl
      subst a2
      obtain ⟨p1, p2⟩ := path_le hc S (show 9 < 10 by omega) (h + m)
      rw [a1, bd_s]
      unfold fX11_orders_X41_111 fX11_orders_J140 fX11_orders_J139
      dsimp only
      have e3 : (nI (pathN c S 9 (h + m)).2 = nI h) = ((pathN c S 9 (h + m)).2 = h) := eqN (by omega) (by omega)
      have e4 : (nI (pathN c S 9 (h + m)).1 = nI l) = ((pathN c S 9 (h + m)).1 = l) := eqN (by omega) (by omega)
      rw [m8N1, gd_t (inbN (show 8 * f + 1 < 80 by omega) (by omega)), clN (show 8 * f + 1 < 2 ^ 31 by omega), hlv, nI1 S]
      refine ⟨_, ?_, rfl⟩
      have hsum : sumN (fun S => okN (pathN c S 9 (h + m)) h l) (S + 1) = sumN (fun S => okN (pathN c S 9 (h + m)) h l) S + okN (pathN c S 9 (h + m)) h l := rfl
      rw [hsum]
      unfold okN
      by_cases b1 : (pathN c S 9 (h + m)).2 = h
      · rw [if_pos (e3.mpr b1), if_pos b1]
        by_cases b2 : (pathN c S 9 (h + m)).1 = l
        · rw [if_pos (e4.mpr b2), if_pos b2, nI1]
        · rw [if_neg (fun w => b2 (e4.mp w)), if_neg b2, Int32.add_zero]; rfl
      · rw [if_neg (fun w => b1 (e3.mp w)), if_neg b1, Int32.add_zero]; rfl)
    (fun z hI => by
      subst hI
      unfold fX11_orders_L22
      dsimp only
      have e1 : (nI (2 ^ (h + m)) ≤ nI (2 ^ (h + m))) = (2 ^ (h + m) ≤ 2 ^ (h + m)) := leN (by omega) (by omega)
      rw [show nI h + nI m = nI (h + m) from nI_add h m, hsh, if_pos (e1.mpr (Nat.le_refl _))]
      exact ⟨_, rfl, rfl⟩) (0, 0) rfl
  rw [h1, h2]
  rfl
