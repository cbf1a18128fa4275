/-! in how many orders: sums over sets, and the class's recursion -/
def sumN (f : Nat → Nat) : Nat → Nat
  | 0 => 0
  | n + 1 => sumN f n + f n
theorem sumN_add (f : Nat → Nat) (a : Nat) : ∀ b : Nat, sumN f (a + b) = sumN f a + sumN (fun s => f (a + s)) b
  | 0 => rfl
  | b + 1 => by
    show sumN f (a + b) + f (a + b) = sumN f a + (sumN (fun s => f (a + s)) b + f (a + b))
    rw [sumN_add f a b, Nat.add_assoc]
theorem sumN_two (f : Nat → Nat) : ∀ n : Nat, sumN f (2 * n) = sumN (fun s => f (2 * s)) n + sumN (fun s => f (2 * s + 1)) n
  | 0 => rfl
  | n + 1 => by
    show sumN f (2 * n) + f (2 * n) + f (2 * n + 1) = (sumN (fun s => f (2 * s)) n + f (2 * n)) + (sumN (fun s => f (2 * s + 1)) n + f (2 * n + 1))
    rw [sumN_two f n]
    omega
theorem sumN_congr {f g : Nat → Nat} : ∀ n : Nat, (∀ s, s < n → f s = g s) → sumN f n = sumN g n
  | 0, _ => rfl
  | n + 1, h => by
    show sumN f n + f n = sumN g n + g n
    rw [sumN_congr n (fun s hs => h s (by omega)), h n (by omega)]
theorem sumN_zero {f : Nat → Nat} : ∀ n : Nat, (∀ s, s < n → f s = 0) → sumN f n = 0
  | 0, _ => rfl
  | n + 1, h => by
    show sumN f n + f n = 0
    rw [sumN_zero n (fun s hs => h s (by omega)), h n (by omega)]
theorem sumN_le {f : Nat → Nat} : ∀ n : Nat, (∀ s, s < n → f s ≤ 1) → sumN f n ≤ n
  | 0, _ => Nat.le_refl 0
  | n + 1, h => by
    show sumN f n + f n ≤ n + 1
    have h1 := sumN_le n (fun s hs => h s (by omega))
    have h2 := h n (by omega)
    omega
/-- leaflets and hands behind k steps, a hand where the set has the bit -/
def pathN (c S v : Nat) : Nat → Nat × Nat
  | 0 => (v, 0)
  | k + 1 => if S.testBit k = true then (hvN c (pathN c S v k).1, (pathN c S v k).2 + 1) else (mvN c (pathN c S v k).1, (pathN c S v k).2)
theorem hv_le {c v : Nat} (hc : c < 5) (hv : v < 10) : hvN c v ≤ v := by
  obtain ⟨w, h1, h2, h3⟩ := hand_lt hc hv
  unfold hvN
  rw [h3, clN (by omega)]
  exact h2
theorem path_le {c : Nat} (hc : c < 5) (S : Nat) {v : Nat} (hv : v < 10) : ∀ k : Nat, (pathN c S v k).1 ≤ v ∧ (pathN c S v k).2 ≤ k
  | 0 => ⟨Nat.le_refl v, Nat.le_refl 0⟩
  | k + 1 => by
    obtain ⟨h1, h2⟩ := path_le hc S hv k
    show (if S.testBit k = true then (hvN c (pathN c S v k).1, (pathN c S v k).2 + 1) else (mvN c (pathN c S v k).1, (pathN c S v k).2)).1 ≤ v ∧ (if S.testBit k = true then (hvN c (pathN c S v k).1, (pathN c S v k).2 + 1) else (mvN c (pathN c S v k).1, (pathN c S v k).2)).2 ≤ k + 1
    by_cases b : S.testBit k = true
    · rw [if_pos b]
      have := hv_le hc (show (pathN c S v k).1 < 10 by omega)
      exact ⟨by show hvN c _ ≤ v; omega, by show _ + 1 ≤ k + 1; omega⟩
    · rw [if_neg b]
      have := (mv_eq hc (show (pathN c S v k).1 < 10 by omega)).2
      exact ⟨by show mvN c _ ≤ v; omega, by show (pathN c S v k).2 ≤ k + 1; omega⟩
theorem path_even (c S v : Nat) : ∀ k : Nat, pathN c (2 * S) v (k + 1) = pathN c S (mvN c v) k
  | 0 => by
    show (if (2 * S).testBit 0 = true then _ else _) = _
    rw [if_neg (by rw [Nat.testBit_zero]; simp)]
    rfl
  | k + 1 => by
    have e : (2 * S).testBit (k + 1) = S.testBit k := by rw [Nat.testBit_succ, Nat.mul_div_cancel_left S (by omega)]
    rw [pathN, path_even c S v k, e]
    rfl
theorem path_odd (c S v : Nat) : ∀ k : Nat, pathN c (2 * S + 1) v (k + 1) = ((pathN c S (hvN c v) k).1, (pathN c S (hvN c v) k).2 + 1)
  | 0 => by
    show (if (2 * S + 1).testBit 0 = true then _ else _) = _
    rw [if_pos (by rw [Nat.testBit_zero]; simp)]
    rfl
  | k + 1 => by
    have e : (2 * S + 1).testBit (k + 1) = S.testBit k := by
      rw [Nat.testBit_succ]
      congr 1
      omega
    rw [pathN, path_odd c S v k, e]
    show _ = ((if S.testBit k = true then (hvN c (pathN c S (hvN c v) k).1, (pathN c S (hvN c v) k).2 + 1) else (mvN c (pathN c S (hvN c v) k).1, (pathN c S (hvN c v) k).2)).1, (if S.testBit k = true then (hvN c (pathN c S (hvN c v) k).1, (pathN c S (hvN c v) k).2 + 1) else (mvN c (pathN c S (hvN c v) k).1, (pathN c S (hvN c v) k).2)).2 + 1)
    by_cases b : S.testBit k = true
    · rw [if_pos b, if_pos b]
    · rw [if_neg b, if_neg b]
def okN (p : Nat × Nat) (h l : Nat) : Nat := if p.2 = h then (if p.1 = l then 1 else 0) else 0
def ordN (c n h l v : Nat) : Nat := sumN (fun S => okN (pathN c S v n) h l) (2 ^ n)
theorem ok_le (p : Nat × Nat) (h l : Nat) : okN p h l ≤ 1 := by
  unfold okN
  by_cases a : p.2 = h
  · rw [if_pos a]
    by_cases b : p.1 = l
    · rw [if_pos b]; omega
    · rw [if_neg b]; omega
  · rw [if_neg a]; omega
theorem ord_le (c n h l v : Nat) : ordN c n h l v ≤ 2 ^ n := sumN_le _ (fun S _ => ok_le _ h l)
theorem ord_low {c : Nat} (hc : c < 5) (n h : Nat) {l v : Nat} (hv : v < 10) (hl : v < l) : ordN c n h l v = 0 := sumN_zero _ (fun S _ => by
  have := (path_le hc S hv n).1
  unfold okN
  by_cases a : (pathN c S v n).2 = h
  · rw [if_pos a, if_neg (by omega)]
  · rw [if_neg a])
theorem ord_many {c : Nat} (hc : c < 5) {n h : Nat} (l : Nat) {v : Nat} (hv : v < 10) (hn : n < h) : ordN c n h l v = 0 := sumN_zero _ (fun S _ => by
  have := (path_le hc S hv n).2
  unfold okN
  rw [if_neg (by omega)])
theorem ord_succ (c n h l v : Nat) : ordN c (n + 1) (h + 1) l v = ordN c n h l (hvN c v) + ordN c n (h + 1) l (mvN c v) := by
  unfold ordN
  rw [Nat.pow_succ, Nat.mul_comm, sumN_two, Nat.add_comm]
  congr 1
  · refine sumN_congr _ (fun S _ => ?_)
    rw [path_odd]
    unfold okN
    dsimp only
    by_cases a : (pathN c S (hvN c v) n).2 = h
    · rw [if_pos (by omega), if_pos a]
    · rw [if_neg (by omega), if_neg a]
  · refine sumN_congr _ (fun S _ => ?_)
    rw [path_even]
theorem ord_none (c n l v : Nat) : ordN c (n + 1) 0 l v = ordN c n 0 l (mvN c v) := by
  unfold ordN
  rw [Nat.pow_succ, Nat.mul_comm, sumN_two, sumN_zero (f := fun s => okN (pathN c (2 * s + 1) v (n + 1)) 0 l) _ (fun S _ => by
    rw [path_odd]
    unfold okN
    rw [if_neg (by show ¬ _ + 1 = 0; omega)]), Nat.add_zero]
  refine sumN_congr _ (fun S _ => ?_)
  rw [path_even]
theorem ordersX {c l : Nat} (hc : c < 5) (hl : l < 10) : ∀ (D v h m : Nat), v < 10 → h ≤ 6 → m ≤ 4 → h + m < D → fX9_ordersFrom D (nI c) (nI v) (nI h) (nI m) (nI l) = some (nI (ordN c (h + m) h l v))
  | 0, v, h, m, _, _, _, hD => absurd hD (Nat.not_lt_zero _)
  | D + 1, v, h, m, hv, hh, hm, hD => by
    have l0 : ∀ a : Nat, a < 2 ^ 31 → ¬ nI a < 0 := fun a ha => by
      rw [nI_lt0, nI_toInt ha]
      omega
    show fX9_ordersFrom_b (fX9_ordersFrom D) (nI c) (nI v) (nI h) (nI m) (nI l) = _
    unfold fX9_ordersFrom_b
    have e1 : ((6 : Int32) < nI h) = (6 < h) := ltN (a := 6) (by omega) (by omega)
    have e2 : ((4 : Int32) < nI m) = (4 < m) := ltN (a := 4) (by omega) (by omega)
    have e3 : (nI l ≤ nI v) = (l ≤ v) := leN (by omega) (by omega)
    have e4 : (nI h = 0) = (h = 0) := eqN (b := 0) (by omega) (by omega)
    have e5 : (nI m = 0) = (m = 0) := eqN (b := 0) (by omega) (by omega)
    have e6 : (nI v = nI l) = (v = l) := eqN (by omega) (by omega)
    rw [if_neg (l0 h (by omega)), if_neg (fun w => by have := e1.mp w; omega), if_neg (l0 m (by omega)), if_neg (fun w => by have := e2.mp w; omega)]
    by_cases c1 : ¬ l ≤ v
    · rw [if_neg (fun w => c1 (e3.mp w)), ord_low hc _ _ hv (by omega)]
      rfl
    have c1 : l ≤ v := Nat.le_of_not_lt (fun w => c1 (by omega))
    rw [if_pos (e3.mpr c1)]
    obtain ⟨m1, m2⟩ := mv_eq hc hv
    have h1 := (hv_eq hc hv).1
    have h2 := hv_le hc hv
    have neg1 : 0 < D → ∀ (a b x y : Int32), fX9_ordersFrom D x y (-1) a b = some 0 ∧ (∀ a', a' ≤ 6 → fX9_ordersFrom D x y (nI a') (-1) b = some 0) := by
      intro hD0 a b x y
      cases D with
      | zero => omega
      | succ D =>
        refine ⟨?_, fun a' ha' => ?_⟩
        · show fX9_ordersFrom_b _ x y (-1) a b = _
          unfold fX9_ordersFrom_b
          rw [if_pos (by decide)]
        · show fX9_ordersFrom_b _ x y (nI a') (-1) b = _
          unfold fX9_ordersFrom_b
          have e1 : ((6 : Int32) < nI a') = (6 < a') := ltN (a := 6) (by omega) (by omega)
          rw [if_neg (l0 a' (by omega)), if_neg (fun w => by have := e1.mp w; omega), if_pos (by decide)]
    have hJ : ¬ (h = 0 ∧ m = 0) → fX9_ordersFrom_J47 (fX9_ordersFrom D) (nI c) (nI v) (nI h) (nI m) (nI l) () = some (nI (ordN c (h + m) h l v)) := by
      intro hne
      unfold fX9_ordersFrom_J47
      rw [h1, m1]
      cases h with
      | zero =>
        cases m with
        | zero => exact absurd ⟨rfl, rfl⟩ hne
        | succ m =>
          rw [show (nI 0 - 1 : Int32) = -1 from by decide, (neg1 (by omega) _ _ _ _).1, bd_s, show (nI (m + 1) - 1 : Int32) = nI m from by rw [show (1 : Int32) = nI 1 from rfl, subN (by omega)]; rfl, ordersX hc hl D (mvN c v) 0 m (by omega) (by omega) (by omega) (by omega), bd_s, Nat.zero_add, Nat.zero_add, ord_none]
          congr 1
          exact Int32.zero_add _
      | succ h =>
        cases m with
        | zero =>
          rw [show (nI (h + 1) - 1 : Int32) = nI h from by rw [show (1 : Int32) = nI 1 from rfl, subN (by omega)]; rfl, ordersX hc hl D (hvN c v) h 0 (by omega) (by omega) (by omega) (by omega), bd_s, show (nI 0 - 1 : Int32) = -1 from by decide, (neg1 (by omega) 0 _ _ _).2 (h + 1) hh, bd_s, Nat.add_zero, Nat.add_zero, ord_succ, ord_many hc l (show mvN c v < 10 by omega) (show h < h + 1 by omega)]
          congr 1
          exact Int32.add_zero _
        | succ m =>
          rw [show (nI (h + 1) - 1 : Int32) = nI h from by rw [show (1 : Int32) = nI 1 from rfl, subN (by omega)]; rfl, ordersX hc hl D (hvN c v) h (m + 1) (by omega) (by omega) (by omega) (by omega), bd_s, show (nI (m + 1) - 1 : Int32) = nI m from by rw [show (1 : Int32) = nI 1 from rfl, subN (by omega)]; rfl, ordersX hc hl D (mvN c v) (h + 1) m (by omega) (by omega) (by omega) (by omega), bd_s, show h + 1 + (m + 1) = (h + (m + 1)) + 1 by omega, ord_succ, show h + 1 + m = h + (m + 1) by omega]
          congr 1
          exact nI_add _ _
    by_cases c2 : h = 0
    · rw [if_pos (e4.mpr c2)]
      by_cases c3 : m = 0
      · rw [if_pos (e5.mpr c3)]
        subst c2 c3
        show _ = some (nI (0 + okN (v, 0) 0 l))
        unfold okN
        dsimp only
        rw [if_pos rfl]
        by_cases c4 : v = l
        · rw [if_pos (e6.mpr c4), if_pos c4]; rfl
        · rw [if_neg (fun w => c4 (e6.mp w)), if_neg c4]; rfl
      · rw [if_neg (fun w => c3 (e5.mp w))]
        exact hJ (fun w => c3 w.2)
    · rw [if_neg (fun w => c2 (e4.mp w))]
      exact hJ (fun w => c2 w.1)
theorem ordersX4 {c l h m : Nat} (hc : c < 5) (hl : l < 10) (hh : h ≤ 6) (hm : m ≤ 4) : fX9_orders (nI c) (nI h) (nI m) (nI l) = some (nI (ordN c (h + m) h l 9)) := by
  have hr := ordersX hc hl 13 9 h m (by omega) hh hm (by omega)
  show (fX9_ordersFrom 13 (nI c) 9 (nI h) (nI m) (nI l)).bind (fun u => some u) = _
  rw [show (9 : Int32) = nI 9 from rfl, hr]
  rfl
