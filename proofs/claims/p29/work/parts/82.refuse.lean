/-! refusals, and the end of the law -/
theorem unk {n : Nat} (hn : n ≤ 10) (bh bm : Int32) : fX4_knows (nI n) bh bm (nI n) = 0 := by
  unfold fX4_knows
  by_cases h : nI n < 0
  · rw [if_pos h]
  · rw [if_neg h, if_pos (show nI n ≤ nI n by rw [leN (by omega) (by omega)]; omega)]
theorem kn0 {n : Nat} (hn1 : 1 ≤ n) (hn : n ≤ 10) (bh bm : Int32) : fX4_knows (nI n) bh bm 0 = 1 := knows_t hn (f := 0) (by omega) bh bm
theorem chk {α : Type} {x : Option α} {v : α} {c : α → Prop} {dc : ∀ a : α, Decidable (c a)} {kk : α → Option Int32} (h : x = some v) (hc : c v) (hk : kk v = some 1) : (x.bind fun u => @ite (Option Int32) (c u) (dc u) (kk u) (some 0)) = some 1 := by
  rw [h, bd_s, if_pos hc]
  exact hk
variable {n : Nat} {kp bh bm : Int32} {k l o t dd : Nat → Int32}
theorem rf_about1 (hn : n ≤ 10) (x : Int32) : fX10_about kp (nI n) bh bm k l o t (nI n) x = some (-101) := by
  unfold fX10_about
  rw [unk hn, if_pos rfl]
theorem rf_about2 (hn1 : 1 ≤ n) (hn : n ≤ 10) : fX10_about kp (nI n) bh bm k l o t 0 8 = some (-102) := by
  unfold fX10_about
  rw [kn0 hn1 hn, if_neg (show ¬ (1 : Int32) = 0 by decide), if_pos (show fX10_isWithin 8 0 7 = 0 by decide)]
theorem rf_as1 (hn : n ≤ 10) (x : Int32) : fX10_as kp (nI n) bh bm k (nI n) x = some (-101) := by
  unfold fX10_as
  rw [unk hn, if_pos rfl]
theorem rf_as2 (hn1 : 1 ≤ n) (hn : n ≤ 10) : fX10_as kp (nI n) bh bm k 0 5 = some (-102) := by
  unfold fX10_as
  rw [kn0 hn1 hn, if_neg (show ¬ (1 : Int32) = 0 by decide), if_pos (show fX10_isWithin 5 0 4 = 0 by decide)]
theorem rf_snap1 (hn : n ≤ 10) (x : Int32) : fX10_snap kp (nI n) bh bm k l o t (nI n) x = some (-101, nI n, k, l, o, t) := by
  unfold fX10_snap
  rw [unk hn, if_pos rfl]
theorem rf_snap2 (hn1 : 1 ≤ n) (hn : n ≤ 10) : fX10_snap kp (nI n) bh bm k l o t 0 0 = some (-102, nI n, k, l, o, t) := by
  unfold fX10_snap
  rw [kn0 hn1 hn, if_neg (show ¬ (1 : Int32) = 0 by decide), if_pos (show fX10_isWithin 0 1 8 = 0 by decide)]
theorem rf_snap3 (hn1 : 1 ≤ n) (hn : n ≤ 10) : fX10_snap kp (nI n) bh bm k l o t 0 9 = some (-102, nI n, k, l, o, t) := by
  unfold fX10_snap
  rw [kn0 hn1 hn, if_neg (show ¬ (1 : Int32) = 0 by decide), if_pos (show fX10_isWithin 9 1 8 = 0 by decide)]
theorem rf_pay1 (hn : n ≤ 10) (x : Int32) : fX10_pay kp (nI n) bh bm k l o t dd (nI n) x = some (-101, bh, l, o, t, dd) := by
  unfold fX10_pay
  rw [unk hn, if_pos rfl]
theorem rf_pay2 (hn1 : 1 ≤ n) (hn : n ≤ 10) : fX10_pay kp (nI n) bh bm k l o t dd 0 6 = some (-101, bh, l, o, t, dd) := by
  unfold fX10_pay
  rw [kn0 hn1 hn, if_neg (show ¬ (1 : Int32) = 0 by decide), if_pos (show fX10_isPerson 6 = 0 by decide)]
theorem rf_debt1 (sz : Int32) : fX10_debt kp sz bh bm dd 0 0 1 = some (-101, dd) := by
  unfold fX10_debt
  rw [if_pos (show fX10_areTwo 0 0 = 0 by decide)]
theorem rf_debt2 (sz : Int32) : fX10_debt kp sz bh bm dd 0 6 1 = some (-101, dd) := by
  unfold fX10_debt
  rw [if_pos (show fX10_areTwo 0 6 = 0 by decide)]
theorem rf_debt3 (sz : Int32) : fX10_debt kp sz bh bm dd 0 1 100 = some (-102, dd) := by
  unfold fX10_debt
  rw [if_neg (show ¬ fX10_areTwo 0 1 = 0 by decide), if_pos (show fX10_isWithin 100 0 99 = 0 by decide)]
theorem rf_debt4 (sz : Int32) : fX10_debt kp sz bh bm dd 0 1 (-1) = some (-102, dd) := by
  unfold fX10_debt
  rw [if_neg (show ¬ fX10_areTwo 0 1 = 0 by decide), if_pos (show fX10_isWithin (-1) 0 99 = 0 by decide)]
theorem rf_owes (sz : Int32) : fX10_owes kp sz bh bm dd 6 0 = some (-101) := by
  unfold fX10_owes
  rw [if_pos (show fX10_areTwo 6 0 = 0 by decide)]
theorem rf_bank (hn : n ≤ 10) : fX10_bank kp (nI n) bh bm k l o t (nI n) = some (-101, bh, l, o, t) := by
  unfold fX10_bank
  rw [unk hn, if_pos rfl]
theorem rf_fetch1 (hn : n ≤ 10) (x : Int32) : fX10_fetch kp (nI n) bh bm l o (nI n) x = some (-101, o) := by
  unfold fX10_fetch
  rw [unk hn, if_pos rfl]
theorem rf_fetch2 (hn1 : 1 ≤ n) (hn : n ≤ 10) : fX10_fetch kp (nI n) bh bm l o 0 (-1) = some (-101, o) := by
  unfold fX10_fetch
  rw [kn0 hn1 hn, if_neg (show ¬ (1 : Int32) = 0 by decide), if_pos (show fX10_isPerson (-1) = 0 by decide)]
variable {pp lw lb ts tb tm ck ct : Int32} {ca ds : Int64} {cb : Nat → Int64} {tk tl to tt td : Nat → Int32}
theorem rf_least1 (sz x y : Int32) : fX10_least kp sz bh bm k l o pp lw lb 6 x y = some (-101, pp, lw, lb) := by
  unfold fX10_least
  rw [if_pos (show fX10_isPerson 6 = 0 by decide)]
theorem rf_least2 (sz y : Int32) : fX10_least kp sz bh bm k l o pp lw lb 0 0 y = some (-102, pp, lw, lb) := by
  unfold fX10_least
  rw [if_neg (show ¬ fX10_isPerson 0 = 0 by decide), if_pos (show fX10_isWithin 0 1 99 = 0 by decide)]
theorem rf_least3 (sz y : Int32) : fX10_least kp sz bh bm k l o pp lw lb 0 100 y = some (-102, pp, lw, lb) := by
  unfold fX10_least
  rw [if_neg (show ¬ fX10_isPerson 0 = 0 by decide), if_pos (show fX10_isWithin 100 1 99 = 0 by decide)]
theorem rf_least4 (sz : Int32) : fX10_least kp sz bh bm k l o pp lw lb 0 1 2 = some (-102, pp, lw, lb) := by
  unfold fX10_least
  rw [if_neg (show ¬ fX10_isPerson 0 = 0 by decide), if_neg (show ¬ fX10_isWithin 1 1 99 = 0 by decide), if_pos (show fX10_isWithin 2 0 1 = 0 by decide)]
theorem rf_held1 (hn : n ≤ 10) (x y z : Int32) : fX10_held kp (nI n) bh bm k l o ca ck ct cb (nI n) x y z = some (-101, ca, ck, ct, cb) := by
  unfold fX10_held
  rw [unk hn, if_pos rfl]
theorem rf_held2 (hn1 : 1 ≤ n) (hn : n ≤ 10) (y z : Int32) : fX10_held kp (nI n) bh bm k l o ca ck ct cb 0 10 y z = some (-102, ca, ck, ct, cb) := by
  unfold fX10_held
  rw [kn0 hn1 hn, if_neg (show ¬ (1 : Int32) = 0 by decide), if_pos (show fX10_isWithin 10 0 9 = 0 by decide)]
theorem rf_held3 (hn1 : 1 ≤ n) (hn : n ≤ 10) (z : Int32) : fX10_held kp (nI n) bh bm k l o ca ck ct cb 0 0 11 z = some (-102, ca, ck, ct, cb) := by
  unfold fX10_held
  rw [kn0 hn1 hn, if_neg (show ¬ (1 : Int32) = 0 by decide), if_neg (show ¬ fX10_isWithin 0 0 9 = 0 by decide), if_pos (show fX10_isWithin 11 0 10 = 0 by decide)]
theorem rf_held4 (hn1 : 1 ≤ n) (hn : n ≤ 10) : fX10_held kp (nI n) bh bm k l o ca ck ct cb 0 0 0 2 = some (-102, ca, ck, ct, cb) := by
  unfold fX10_held
  rw [kn0 hn1 hn, if_neg (show ¬ (1 : Int32) = 0 by decide), if_neg (show ¬ fX10_isWithin 0 0 9 = 0 by decide), if_neg (show ¬ fX10_isWithin 0 0 10 = 0 by decide), if_pos (show fX10_isWithin 2 0 1 = 0 by decide)]
theorem rf_when1 (hn : n ≤ 10) (x y : Int32) : fX10_when kp (nI n) bh bm k l o ca ck ct cb (nI n) x y = some (-101, ca, ck, ct, cb) := by
  unfold fX10_when
  rw [unk hn, if_pos rfl]
theorem rf_when2 (hn1 : 1 ≤ n) (hn : n ≤ 10) (y : Int32) : fX10_when kp (nI n) bh bm k l o ca ck ct cb 0 10 y = some (-102, ca, ck, ct, cb) := by
  unfold fX10_when
  rw [kn0 hn1 hn, if_neg (show ¬ (1 : Int32) = 0 by decide), if_pos (show fX10_isWithin 10 0 9 = 0 by decide)]
theorem rf_when3 (hn1 : 1 ≤ n) (hn : n ≤ 10) : fX10_when kp (nI n) bh bm k l o ca ck ct cb 0 0 (-1) = some (-102, ca, ck, ct, cb) := by
  unfold fX10_when
  rw [kn0 hn1 hn, if_neg (show ¬ (1 : Int32) = 0 by decide), if_neg (show ¬ fX10_isWithin 0 0 9 = 0 by decide), if_pos (show fX10_isWithin (-1) 0 10 = 0 by decide)]
theorem rf_months1 (sz x y z : Int32) : fX10_months kp sz bh bm k l o t dd ts tb tm tk tl to tt td ds 0 x y z = some (-102, ts, tb, tm, tk, tl, to, tt, td, ds) := by
  unfold fX10_months
  rw [if_pos (show fX10_isWithin 0 1 60 = 0 by decide)]
theorem rf_months2 (sz y z : Int32) : fX10_months kp sz bh bm k l o t dd ts tb tm tk tl to tt td ds 1 11 y z = some (-102, ts, tb, tm, tk, tl, to, tt, td, ds) := by
  unfold fX10_months
  rw [if_neg (show ¬ fX10_isWithin 1 1 60 = 0 by decide), if_pos (show fX10_isWithin 11 0 10 = 0 by decide)]
theorem rf_months3 (sz z : Int32) : fX10_months kp sz bh bm k l o t dd ts tb tm tk tl to tt td ds 1 0 (-1) z = some (-102, ts, tb, tm, tk, tl, to, tt, td, ds) := by
  unfold fX10_months
  rw [if_neg (show ¬ fX10_isWithin 1 1 60 = 0 by decide), if_neg (show ¬ fX10_isWithin 0 0 10 = 0 by decide), if_pos (show (-1 : Int32) < 0 by decide)]
theorem rf_months4 (sz : Int32) : fX10_months kp sz bh bm k l o t dd ts tb tm tk tl to tt td ds 1 0 0 3 = some (-102, ts, tb, tm, tk, tl, to, tt, td, ds) := by
  unfold fX10_months
  rw [if_neg (show ¬ fX10_isWithin 1 1 60 = 0 by decide), if_neg (show ¬ fX10_isWithin 0 0 10 = 0 by decide), if_neg (show ¬ (0 : Int32) < 0 by decide), if_pos (show fX10_isWithin 3 0 2 = 0 by decide)]
theorem rf_book1 (sz ps : Int32) (pc : Nat → Int32) : fX10_book kp sz bh bm k l o t ps pc 6 = some (-101, sz, k, l, o, t, ps) := by
  unfold fX10_book
  rw [if_pos (show fX10_isPerson 6 = 0 by decide)]
theorem rf_book2 (sz : Int32) (pc : Nat → Int32) : fX10_book kp sz bh bm k l o t 0 pc 0 = some (-103, sz, k, l, o, t, 0) := by
  unfold fX10_book fX6_frondsOfBook
  rw [if_neg (show ¬ fX10_isPerson 0 = 0 by decide), if_pos rfl, bd_s, if_pos rfl]
