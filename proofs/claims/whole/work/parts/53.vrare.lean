-- needs: 16.num 17.small 18.bits 20.spec 21.kinds 22.rep 23.bag 24.bag2 25.get 30.day 31.have 32.day2 33.day3 50.vsmall 51.vsmall2
/-- the least number among few, the first that has it: (best, its few) -/
def rareA (S : VS) : Nat → Option Nat × Nat → Option Nat × Nat
  | 0, b => b
  | n + 1, b => let c := 40 - (n + 1); let m := howKnow S c; rareA S n (if 0 < m ∧ m < b.2 then (some c, m) else b)
theorem sumN_le {f : Nat → Nat} (hf : ∀ i, f i ≤ 1) : ∀ n, sumN f n ≤ n
  | 0 => Nat.le_refl 0
  | n + 1 => by
    have a := sumN_le hf n
    have b := hf n
    rw [sumN_s]
    omega
theorem howKnow_le {S : VS} {c : Nat} : howKnow S c ≤ vn S := sumN_le (fun i => by split <;> omega) _
set_option maxHeartbeats 8000000 in
theorem v_rarest {d : Nat} {Q : PQ} {h : HP} {v : Nat} {S : VS} (q : RV h v S) (g : Good S) : Ev (d + 5) 228 [.ref v] h Q = Q (some (.int (oN (rareA S 40 (none, 7)).1))) h := by
  have k := q.k
  unfold VK at k
  have gn := g.n
  have loop : ∀ (n j : Nat) (b : Option Nat × Nat) (x : Slot), j + n = 40 → b.2 ≤ 7 → WP (d + 4) 228 Q (8, [.val (.ref v), .val (.int (oN b.1)), .val (.int (nI b.2)), .val (.int (nI j)), x], [], h, 0, 0) = Q (some (.int (oN (rareA S n b).1))) h := by
    intro n
    induction n with
    | zero =>
      intro j b x hj hb
      obtain rfl : j = 40 := by omega
      rw [s228_8]
      simp only [s228_0, s228_2, s228_3, s228_5, s228_6, s228_7, s228_9, s228_11, s228_14, s228_15, s228_16, s228_19, s228_21, s228_23, s228_26, s228_28, s228_29, s228_32, s228_34, s228_35, s228_36, s228_37, s228_40, s228_43, s228_44, oB_some, cl2_i, cl2_r, cl2_l, cl2_u, cl2_s, wd_0, wd_i, wd_r, wd_l, wd_f, ct_i, ct_r, ct_n, ct_f, rf_s, rf_n, tl_s, tl_n, true_and, and_true, eq_self, and_self, Nat.reduceAdd, Nat.reduceLeDiff, Nat.zero_le, Nat.reduceEqDiff, or_true, true_or, false_or, or_false, if_true, if_false, gI_0, gI_1, gI_2, gI_3, gI_4, gI_5, gI_6, gI_7, gI_8, gI_9, gI_10, gI_11, gI_12, gI_13, gI_14, gI_15, gL_0, gL_1, gL_2, gL_3, gL_4, gL_5, gL_6, gL_7, gL_8, gL_9, gL_10, gL_11, gL_12, gL_13, gL_14, gL_15, gA_0, gA_1, gA_2, gA_3, gA_4, gA_5, gA_6, gA_7, gA_8, gA_9, gA_10, gA_11, gA_12, gA_13, gA_14, gA_15, p1_0, p1_1, p1_2, p1_3, p1_4, p1_5, p1_6, p1_7, p1_8, p1_9, p1_10, p1_11, p1_12, p1_13, p1_14, p1_15, p2_0, p2_1, p2_2, p2_3, p2_4, p2_5, p2_6, p2_7, p2_8, p2_9, p2_10, p2_11, p2_12, p2_13, p2_14, p2_15, b01_ok, b_ft, b_tf, b01_e0, b01_e1, lgc_0, not_true_eq_false, not_false_eq_true]
      rw [if_pos (by decide)]
      rfl
    | succ n ih =>
      intro j b x hj hb
      rw [s228_8]
      have z : ¬ (40 : Int32) ≤ nI j := nI_ge (b := 40) (by omega) (by decide)
      have hk := @howKnow_le S j
      have ej : 40 - (n + 1) = j := by omega
      have e : rareA S (n + 1) b = rareA S n (if 0 < howKnow S j ∧ howKnow S j < b.2 then (some j, howKnow S j) else b) := by
        rw [rareA, ej]
      have l0 : (nI (howKnow S j) ≤ 0) = (howKnow S j ≤ 0) := leP (b := 0) (by omega) (by decide)
      rw [e]
      simp only [s228_0, s228_2, s228_3, s228_5, s228_6, s228_7, s228_9, s228_11, s228_14, s228_15, s228_16, s228_19, s228_21, s228_23, s228_26, s228_28, s228_29, s228_32, s228_34, s228_35, s228_36, s228_37, s228_40, s228_43, s228_44, oB_some, cl2_i, cl2_r, cl2_l, cl2_u, cl2_s, wd_0, wd_i, wd_r, wd_l, wd_f, ct_i, ct_r, ct_n, ct_f, rf_s, rf_n, tl_s, tl_n, true_and, and_true, eq_self, and_self, Nat.reduceAdd, Nat.reduceLeDiff, Nat.zero_le, Nat.reduceEqDiff, or_true, true_or, false_or, or_false, if_true, if_false, gI_0, gI_1, gI_2, gI_3, gI_4, gI_5, gI_6, gI_7, gI_8, gI_9, gI_10, gI_11, gI_12, gI_13, gI_14, gI_15, gL_0, gL_1, gL_2, gL_3, gL_4, gL_5, gL_6, gL_7, gL_8, gL_9, gL_10, gL_11, gL_12, gL_13, gL_14, gL_15, gA_0, gA_1, gA_2, gA_3, gA_4, gA_5, gA_6, gA_7, gA_8, gA_9, gA_10, gA_11, gA_12, gA_13, gA_14, gA_15, p1_0, p1_1, p1_2, p1_3, p1_4, p1_5, p1_6, p1_7, p1_8, p1_9, p1_10, p1_11, p1_12, p1_13, p1_14, p1_15, p2_0, p2_1, p2_2, p2_3, p2_4, p2_5, p2_6, p2_7, p2_8, p2_9, p2_10, p2_11, p2_12, p2_13, p2_14, p2_15, b01_ok, b_ft, b_tf, b01_e0, b01_e1, lgc_0, not_true_eq_false, not_false_eq_true, k, z, v_howManyKnow q g (show j < 64 by omega), l0, leP (show b.2 < 2 ^ 31 by omega) (show howKnow S j < 2 ^ 31 by omega), nI_1]
      by_cases h0 : howKnow S j ≤ 0
      · rw [if_pos h0, if_neg (by omega)]
        exact ih (j + 1) b _ (by omega) hb
      · rw [if_neg h0]
        by_cases h1 : b.2 ≤ howKnow S j
        · rw [if_pos h1, if_neg (by omega)]
          exact ih (j + 1) b _ (by omega) hb
        · rw [if_neg h1, if_pos (by omega)]
          exact ih (j + 1) (some j, howKnow S j) _ (by omega) (show howKnow S j ≤ 7 by omega)
  simp only [e228, s228_0, s228_2, s228_3, s228_5, s228_6, s228_7, s228_9, s228_11, s228_14, s228_15, s228_16, s228_19, s228_21, s228_23, s228_26, s228_28, s228_29, s228_32, s228_34, s228_35, s228_36, s228_37, s228_40, s228_43, s228_44, oB_some, cl2_i, cl2_r, cl2_l, cl2_u, cl2_s, wd_0, wd_i, wd_r, wd_l, wd_f, ct_i, ct_r, ct_n, ct_f, rf_s, rf_n, tl_s, tl_n, true_and, and_true, eq_self, and_self, Nat.reduceAdd, Nat.reduceLeDiff, Nat.zero_le, Nat.reduceEqDiff, or_true, true_or, false_or, or_false, if_true, if_false, gI_0, gI_1, gI_2, gI_3, gI_4, gI_5, gI_6, gI_7, gI_8, gI_9, gI_10, gI_11, gI_12, gI_13, gI_14, gI_15, gL_0, gL_1, gL_2, gL_3, gL_4, gL_5, gL_6, gL_7, gL_8, gL_9, gL_10, gL_11, gL_12, gL_13, gL_14, gL_15, gA_0, gA_1, gA_2, gA_3, gA_4, gA_5, gA_6, gA_7, gA_8, gA_9, gA_10, gA_11, gA_12, gA_13, gA_14, gA_15, p1_0, p1_1, p1_2, p1_3, p1_4, p1_5, p1_6, p1_7, p1_8, p1_9, p1_10, p1_11, p1_12, p1_13, p1_14, p1_15, p2_0, p2_1, p2_2, p2_3, p2_4, p2_5, p2_6, p2_7, p2_8, p2_9, p2_10, p2_11, p2_12, p2_13, p2_14, p2_15, b01_ok, b_ft, b_tf, b01_e0, b01_e1, lgc_0, not_true_eq_false, not_false_eq_true]
  exact loop 40 0 (none, 7) _ (by omega) (Nat.le_refl _)
