-- friends' rings, both sides
def rchN (S : VS) : Nat → Nat → Nat → Nat
  | 0, _, s => s
  | m + 1, a, s => if vr S a < vn S then rchN S m (vr S a) (s ||| 2 ^ vr S a) else s
theorem rchN_s (S : VS) (m a s : Nat) : rchN S (m + 1) a s = if vr S a < vn S then rchN S m (vr S a) (s ||| 2 ^ vr S a) else s := rfl
set_option maxHeartbeats 4000000 in
theorem v_reachedFrom {d : Nat} {Q : PQ} {h : HP} {v p : Nat} {S : VS} (q : RV h v S) (g : Good S) (hp : p < vn S) : Ev (d + 2) 219 [.ref v, .int (nI p)] h Q = Q (some (.int (nI (rchN S 6 p (2 ^ p))))) h := by
  have k := q.k
  unfold VK at k
  have gn := g.n
  have loop : ∀ (m i a s : Nat), i + m = 6 → a < vn S → WP (d + 1) 219 Q (9, [.val (.ref v), .val (.int (nI p)), .val (.int (nI s)), .val (.int (nI a)), .val (.int (nI i))], [], h, 0, 0) = Q (some (.int (nI (rchN S m a s)))) h := by
    intro m
    induction m with
    | zero =>
      intro i a s hi ha
      obtain rfl : i = 6 := by omega
      rw [s219_9]
      simp only [s219_0, s219_1, s219_2, s219_3, s219_4, s219_5, s219_6, s219_7, s219_11, s219_13, s219_16, s219_17, s219_18, s219_21, s219_22, s219_23, s219_26, s219_29, s219_30, s219_33, s219_34, s219_35, s219_36, s219_37, s219_38, s219_39, s219_40, s219_41, s219_42, s219_45, s219_48, s219_49, oB_some, cl2_i, cl2_r, cl2_l, cl2_u, cl2_s, wd_0, wd_i, wd_r, wd_l, wd_f, ct_i, ct_r, ct_n, ct_f, rf_s, rf_n, tl_s, tl_n, true_and, and_true, eq_self, and_self, Nat.reduceAdd, Nat.reduceLeDiff, Nat.zero_le, Nat.reduceEqDiff, or_true, true_or, false_or, or_false, if_true, if_false, gI_0, gI_1, gI_2, gI_3, gI_4, gI_5, gI_6, gI_7, gI_8, gI_9, gI_10, gI_11, gI_12, gI_13, gI_14, gI_15, gL_0, gL_1, gL_2, gL_3, gL_4, gL_5, gL_6, gL_7, gL_8, gL_9, gL_10, gL_11, gL_12, gL_13, gL_14, gL_15, gA_0, gA_1, gA_2, gA_3, gA_4, gA_5, gA_6, gA_7, gA_8, gA_9, gA_10, gA_11, gA_12, gA_13, gA_14, gA_15, p1_0, p1_1, p1_2, p1_3, p1_4, p1_5, p1_6, p1_7, p1_8, p1_9, p1_10, p1_11, p1_12, p1_13, p1_14, p1_15, p2_0, p2_1, p2_2, p2_3, p2_4, p2_5, p2_6, p2_7, p2_8, p2_9, p2_10, p2_11, p2_12, p2_13, p2_14, p2_15, b01_ok, b_ft, b_tf, b01_e0, b01_e1, lgc_0, not_true_eq_false, not_false_eq_true]
      rw [if_pos (by decide)]
      rfl
    | succ m ih =>
      intro i a s hi ha
      have z : ¬ (6 : Int32) ≤ nI i := nI_ge (b := 6) (by omega) (by decide)
      have a6 : a < 6 := by omega
      have a31 : a < 2 ^ 31 := by omega
      have gr := (g.at ha).2.2.1
      rw [s219_9, rchN_s]
      simp only [s219_0, s219_1, s219_2, s219_3, s219_4, s219_5, s219_6, s219_7, s219_11, s219_13, s219_16, s219_17, s219_18, s219_21, s219_22, s219_23, s219_26, s219_29, s219_30, s219_33, s219_34, s219_35, s219_36, s219_37, s219_38, s219_39, s219_40, s219_41, s219_42, s219_45, s219_48, s219_49, oB_some, cl2_i, cl2_r, cl2_l, cl2_u, cl2_s, wd_0, wd_i, wd_r, wd_l, wd_f, ct_i, ct_r, ct_n, ct_f, rf_s, rf_n, tl_s, tl_n, true_and, and_true, eq_self, and_self, Nat.reduceAdd, Nat.reduceLeDiff, Nat.zero_le, Nat.reduceEqDiff, or_true, true_or, false_or, or_false, if_true, if_false, gI_0, gI_1, gI_2, gI_3, gI_4, gI_5, gI_6, gI_7, gI_8, gI_9, gI_10, gI_11, gI_12, gI_13, gI_14, gI_15, gL_0, gL_1, gL_2, gL_3, gL_4, gL_5, gL_6, gL_7, gL_8, gL_9, gL_10, gL_11, gL_12, gL_13, gL_14, gL_15, gA_0, gA_1, gA_2, gA_3, gA_4, gA_5, gA_6, gA_7, gA_8, gA_9, gA_10, gA_11, gA_12, gA_13, gA_14, gA_15, p1_0, p1_1, p1_2, p1_3, p1_4, p1_5, p1_6, p1_7, p1_8, p1_9, p1_10, p1_11, p1_12, p1_13, p1_14, p1_15, p2_0, p2_1, p2_2, p2_3, p2_4, p2_5, p2_6, p2_7, p2_8, p2_9, p2_10, p2_11, p2_12, p2_13, p2_14, p2_15, b01_ok, b_ft, b_tf, b01_e0, b01_e1, lgc_0, not_true_eq_false, not_false_eq_true, k, z, (q.at ha).2.2.1, ix_nI a31, nI_pos' a31, a6, v_hasPerson q g (show vr S a < 2 ^ 31 by omega), shl1 (vr S a) (by omega), nI_or, nI_1]
      by_cases e : vr S a < vn S
      · rw [if_neg (by rw [decide_eq_true e]; decide), if_pos e]
        exact ih (i + 1) (vr S a) _ (by omega) e
      · rw [if_pos (decide_eq_false e), if_neg e]
  simp only [e219, s219_0, s219_1, s219_2, s219_3, s219_4, s219_5, s219_6, s219_7, s219_11, s219_13, s219_16, s219_17, s219_18, s219_21, s219_22, s219_23, s219_26, s219_29, s219_30, s219_33, s219_34, s219_35, s219_36, s219_37, s219_38, s219_39, s219_40, s219_41, s219_42, s219_45, s219_48, s219_49, oB_some, cl2_i, cl2_r, cl2_l, cl2_u, cl2_s, wd_0, wd_i, wd_r, wd_l, wd_f, ct_i, ct_r, ct_n, ct_f, rf_s, rf_n, tl_s, tl_n, true_and, and_true, eq_self, and_self, Nat.reduceAdd, Nat.reduceLeDiff, Nat.zero_le, Nat.reduceEqDiff, or_true, true_or, false_or, or_false, if_true, if_false, gI_0, gI_1, gI_2, gI_3, gI_4, gI_5, gI_6, gI_7, gI_8, gI_9, gI_10, gI_11, gI_12, gI_13, gI_14, gI_15, gL_0, gL_1, gL_2, gL_3, gL_4, gL_5, gL_6, gL_7, gL_8, gL_9, gL_10, gL_11, gL_12, gL_13, gL_14, gL_15, gA_0, gA_1, gA_2, gA_3, gA_4, gA_5, gA_6, gA_7, gA_8, gA_9, gA_10, gA_11, gA_12, gA_13, gA_14, gA_15, p1_0, p1_1, p1_2, p1_3, p1_4, p1_5, p1_6, p1_7, p1_8, p1_9, p1_10, p1_11, p1_12, p1_13, p1_14, p1_15, p2_0, p2_1, p2_2, p2_3, p2_4, p2_5, p2_6, p2_7, p2_8, p2_9, p2_10, p2_11, p2_12, p2_13, p2_14, p2_15, b01_ok, b_ft, b_tf, b01_e0, b01_e1, lgc_0, not_true_eq_false, not_false_eq_true, shl1 p (by omega)]
  exact loop 6 0 p _ (by omega) hp
theorem rchN_lt {S : VS} (g : Good S) : ∀ {m a s : Nat}, a < vn S → s < 64 → rchN S m a s < 64
  | 0, a, s, _, hs => hs
  | m + 1, a, s, ha, hs => by
    have gr := (g.at ha).2.2.1
    rw [rchN_s]
    split
    · rename_i e
      exact rchN_lt g e (Nat.or_lt_two_pow (n := 6) hs (Nat.pow_lt_pow_right (by decide) gr))
    · exact hs
def rngA (S : VS) : Nat → Nat → Option Nat
  | 0, a => some a
  | m + 1, a => if other S a = true then rngA S m (vr S a) else none
theorem rngA_s (S : VS) (m a : Nat) : rngA S (m + 1) a = if other S a = true then rngA S m (vr S a) else none := rfl
theorem other_lt {S : VS} {a : Nat} (h : other S a = true) : vr S a < vn S ∧ ¬ vr S a = a := by
  unfold other at h
  simpa using h
def ringV (S : VS) (p : Nat) : Option Nat := (rngA S 6 p).map (fun a => pc (rchN S 6 a (2 ^ a)))
set_option maxHeartbeats 4000000 in
theorem v_ringFrom {d : Nat} {Q : PQ} {h : HP} {v p : Nat} {S : VS} (q : RV h v S) (g : Good S) (hp : p < vn S) : Ev (d + 3) 220 [.ref v, .int (nI p)] h Q = Q (some (.int (oN (ringV S p)))) h := by
  have k := q.k
  unfold VK at k
  have gn := g.n
  have loop : ∀ (m i a : Nat), i + m = 6 → a < vn S → WP (d + 2) 220 Q (4, [.val (.ref v), .val (.int (nI p)), .val (.int (nI a)), .val (.int (nI i))], [], h, 0, 0) = Q (some (.int (oN ((rngA S m a).map (fun a => pc (rchN S 6 a (2 ^ a))))))) h := by
    intro m
    induction m with
    | zero =>
      intro i a hi ha
      obtain rfl : i = 6 := by omega
      have lt : rchN S 6 a (2 ^ a) < 64 := rchN_lt g ha (Nat.pow_lt_pow_right (n := 6) (by decide) (by omega))
      rw [s220_4]
      simp only [s220_0, s220_1, s220_2, s220_3, s220_5, s220_7, s220_10, s220_11, s220_12, s220_15, s220_18, s220_20, s220_21, s220_22, s220_25, s220_26, s220_27, s220_28, s220_31, s220_34, s220_35, s220_36, s220_39, s220_42, oB_some, cl2_i, cl2_r, cl2_l, cl2_u, cl2_s, wd_0, wd_i, wd_r, wd_l, wd_f, ct_i, ct_r, ct_n, ct_f, rf_s, rf_n, tl_s, tl_n, true_and, and_true, eq_self, and_self, Nat.reduceAdd, Nat.reduceLeDiff, Nat.zero_le, Nat.reduceEqDiff, or_true, true_or, false_or, or_false, if_true, if_false, gI_0, gI_1, gI_2, gI_3, gI_4, gI_5, gI_6, gI_7, gI_8, gI_9, gI_10, gI_11, gI_12, gI_13, gI_14, gI_15, gL_0, gL_1, gL_2, gL_3, gL_4, gL_5, gL_6, gL_7, gL_8, gL_9, gL_10, gL_11, gL_12, gL_13, gL_14, gL_15, gA_0, gA_1, gA_2, gA_3, gA_4, gA_5, gA_6, gA_7, gA_8, gA_9, gA_10, gA_11, gA_12, gA_13, gA_14, gA_15, p1_0, p1_1, p1_2, p1_3, p1_4, p1_5, p1_6, p1_7, p1_8, p1_9, p1_10, p1_11, p1_12, p1_13, p1_14, p1_15, p2_0, p2_1, p2_2, p2_3, p2_4, p2_5, p2_6, p2_7, p2_8, p2_9, p2_10, p2_11, p2_12, p2_13, p2_14, p2_15, b01_ok, b_ft, b_tf, b01_e0, b01_e1, lgc_0, not_true_eq_false, not_false_eq_true, k, v_reachedFrom q g ha, v_bitCountI lt]
      rw [if_pos (by decide)]
      rfl
    | succ m ih =>
      intro i a hi ha
      have z : ¬ (6 : Int32) ≤ nI i := nI_ge (b := 6) (by omega) (by decide)
      have a6 : a < 6 := by omega
      have a31 : a < 2 ^ 31 := by omega
      have gr := (g.at ha).2.2.1
      have eo : (decide (vr S a < vn S) && !decide (vr S a = a)) = other S a := rfl
      rw [s220_4, rngA_s]
      simp only [s220_0, s220_1, s220_2, s220_3, s220_5, s220_7, s220_10, s220_11, s220_12, s220_15, s220_18, s220_20, s220_21, s220_22, s220_25, s220_26, s220_27, s220_28, s220_31, s220_34, s220_35, s220_36, s220_39, s220_42, oB_some, cl2_i, cl2_r, cl2_l, cl2_u, cl2_s, wd_0, wd_i, wd_r, wd_l, wd_f, ct_i, ct_r, ct_n, ct_f, rf_s, rf_n, tl_s, tl_n, true_and, and_true, eq_self, and_self, Nat.reduceAdd, Nat.reduceLeDiff, Nat.zero_le, Nat.reduceEqDiff, or_true, true_or, false_or, or_false, if_true, if_false, gI_0, gI_1, gI_2, gI_3, gI_4, gI_5, gI_6, gI_7, gI_8, gI_9, gI_10, gI_11, gI_12, gI_13, gI_14, gI_15, gL_0, gL_1, gL_2, gL_3, gL_4, gL_5, gL_6, gL_7, gL_8, gL_9, gL_10, gL_11, gL_12, gL_13, gL_14, gL_15, gA_0, gA_1, gA_2, gA_3, gA_4, gA_5, gA_6, gA_7, gA_8, gA_9, gA_10, gA_11, gA_12, gA_13, gA_14, gA_15, p1_0, p1_1, p1_2, p1_3, p1_4, p1_5, p1_6, p1_7, p1_8, p1_9, p1_10, p1_11, p1_12, p1_13, p1_14, p1_15, p2_0, p2_1, p2_2, p2_3, p2_4, p2_5, p2_6, p2_7, p2_8, p2_9, p2_10, p2_11, p2_12, p2_13, p2_14, p2_15, b01_ok, b_ft, b_tf, b01_e0, b01_e1, lgc_0, not_true_eq_false, not_false_eq_true, k, z, v_hasOther q g ha, eo, (q.at ha).2.2.1, ix_nI a31, nI_pos' a31, a6, nI_1]
      by_cases e : other S a = true
      · rw [if_pos (by rw [e]; decide), if_pos e]
        exact ih (i + 1) (vr S a) (by omega) (other_lt e).1
      · rw [if_neg (by simpa using e), if_neg e]
        rfl
  simp only [e220, s220_0, s220_1, s220_2, s220_3, s220_5, s220_7, s220_10, s220_11, s220_12, s220_15, s220_18, s220_20, s220_21, s220_22, s220_25, s220_26, s220_27, s220_28, s220_31, s220_34, s220_35, s220_36, s220_39, s220_42, oB_some, cl2_i, cl2_r, cl2_l, cl2_u, cl2_s, wd_0, wd_i, wd_r, wd_l, wd_f, ct_i, ct_r, ct_n, ct_f, rf_s, rf_n, tl_s, tl_n, true_and, and_true, eq_self, and_self, Nat.reduceAdd, Nat.reduceLeDiff, Nat.zero_le, Nat.reduceEqDiff, or_true, true_or, false_or, or_false, if_true, if_false, gI_0, gI_1, gI_2, gI_3, gI_4, gI_5, gI_6, gI_7, gI_8, gI_9, gI_10, gI_11, gI_12, gI_13, gI_14, gI_15, gL_0, gL_1, gL_2, gL_3, gL_4, gL_5, gL_6, gL_7, gL_8, gL_9, gL_10, gL_11, gL_12, gL_13, gL_14, gL_15, gA_0, gA_1, gA_2, gA_3, gA_4, gA_5, gA_6, gA_7, gA_8, gA_9, gA_10, gA_11, gA_12, gA_13, gA_14, gA_15, p1_0, p1_1, p1_2, p1_3, p1_4, p1_5, p1_6, p1_7, p1_8, p1_9, p1_10, p1_11, p1_12, p1_13, p1_14, p1_15, p2_0, p2_1, p2_2, p2_3, p2_4, p2_5, p2_6, p2_7, p2_8, p2_9, p2_10, p2_11, p2_12, p2_13, p2_14, p2_15, b01_ok, b_ft, b_tf, b01_e0, b01_e1, lgc_0, not_true_eq_false, not_false_eq_true]
  exact loop 6 0 p (by omega) hp
-- the other side's
def rchM (S : VS) : Nat → Nat → Nat → Nat
  | 0, _, s => s
  | m + 1, a, s => if other S a = true then rchM S m (vr S a) (s ||| 2 ^ vr S a) else s
theorem rchM_s (S : VS) (m a s : Nat) : rchM S (m + 1) a s = if other S a = true then rchM S m (vr S a) (s ||| 2 ^ vr S a) else s := rfl
theorem or_has {s a : Nat} (h : s.testBit a = true) : s ||| 2 ^ a = s := by
  apply Nat.eq_of_testBit_eq
  intro i
  rw [Nat.testBit_or, Nat.testBit_two_pow]
  by_cases e : a = i
  · subst e; simp [h]
  · simp [e]
theorem or_set {s a : Nat} : (s ||| 2 ^ a).testBit a = true := by
  rw [Nat.testBit_or, Nat.testBit_two_pow_self, Bool.or_true]
theorem rch_eq {S : VS} : ∀ {m a s : Nat}, s.testBit a = true → rchN S m a s = rchM S m a s
  | 0, a, s, _ => rfl
  | m + 1, a, s, h => by
    rw [rchN_s, rchM_s]
    by_cases e : vr S a < vn S
    · rw [if_pos e, rch_eq or_set]
      by_cases e2 : vr S a = a
      · have eo : other S a = false := by unfold other; rw [decide_eq_true e2]; simp
        rw [eo, e2, or_has h]
        rw [if_neg (by decide)]
        cases m with
        | zero => rfl
        | succ m => rw [rchM_s, eo, if_neg (by decide)]
      · have eo : other S a = true := by unfold other; rw [decide_eq_true e, decide_eq_false e2]; rfl
        rw [if_pos eo]
    · have eo : other S a = false := by unfold other; rw [decide_eq_false e]; rfl
      rw [if_neg e, eo, if_neg (by decide)]
set_option maxHeartbeats 4000000 in
theorem m_reachOf {d : Nat} {Q : PQ} {h : HP} {m p : Nat} {S : VS} (q : RM h m S) (g : Good S) (hp : p < vn S) : Ev (d + 4) 222 [.ref m, .int (nI p)] h Q = Q (some (.int (nI (rchN S 6 p (2 ^ p))))) h := by
  have k := q.k
  unfold MK at k
  have gn := g.n
  rw [rch_eq (S := S) (m := 6) (a := p) (s := 2 ^ p) Nat.testBit_two_pow_self]
  have loop : ∀ (n i a s : Nat), i + n = 6 → a < vn S → WP (d + 3) 222 Q (9, [.val (.ref m), .val (.int (nI p)), .val (.int (nI s)), .val (.int (nI a)), .val (.int (nI i))], [], h, 0, 0) = Q (some (.int (nI (rchM S n a s)))) h := by
    intro n
    induction n with
    | zero =>
      intro i a s hi ha
      obtain rfl : i = 6 := by omega
      rw [s222_9]
      simp only [s222_0, s222_1, s222_2, s222_3, s222_4, s222_5, s222_6, s222_7, s222_11, s222_13, s222_16, s222_17, s222_18, s222_21, s222_24, s222_25, s222_28, s222_29, s222_30, s222_31, s222_32, s222_33, s222_34, s222_35, s222_36, s222_37, s222_40, s222_43, s222_44, oB_some, cl2_i, cl2_r, cl2_l, cl2_u, cl2_s, wd_0, wd_i, wd_r, wd_l, wd_f, ct_i, ct_r, ct_n, ct_f, rf_s, rf_n, tl_s, tl_n, true_and, and_true, eq_self, and_self, Nat.reduceAdd, Nat.reduceLeDiff, Nat.zero_le, Nat.reduceEqDiff, or_true, true_or, false_or, or_false, if_true, if_false, gI_0, gI_1, gI_2, gI_3, gI_4, gI_5, gI_6, gI_7, gI_8, gI_9, gI_10, gI_11, gI_12, gI_13, gI_14, gI_15, gL_0, gL_1, gL_2, gL_3, gL_4, gL_5, gL_6, gL_7, gL_8, gL_9, gL_10, gL_11, gL_12, gL_13, gL_14, gL_15, gA_0, gA_1, gA_2, gA_3, gA_4, gA_5, gA_6, gA_7, gA_8, gA_9, gA_10, gA_11, gA_12, gA_13, gA_14, gA_15, p1_0, p1_1, p1_2, p1_3, p1_4, p1_5, p1_6, p1_7, p1_8, p1_9, p1_10, p1_11, p1_12, p1_13, p1_14, p1_15, p2_0, p2_1, p2_2, p2_3, p2_4, p2_5, p2_6, p2_7, p2_8, p2_9, p2_10, p2_11, p2_12, p2_13, p2_14, p2_15, b01_ok, b_ft, b_tf, b01_e0, b01_e1, lgc_0, not_true_eq_false, not_false_eq_true]
      rw [if_pos (by decide)]
      rfl
    | succ n ih =>
      intro i a s hi ha
      have z : ¬ (6 : Int32) ≤ nI i := nI_ge (b := 6) (by omega) (by decide)
      have a6 : a < 6 := by omega
      have a31 : a < 2 ^ 31 := by omega
      have gr := (g.at ha).2.2.1
      rw [s222_9, rchM_s]
      simp only [s222_0, s222_1, s222_2, s222_3, s222_4, s222_5, s222_6, s222_7, s222_11, s222_13, s222_16, s222_17, s222_18, s222_21, s222_24, s222_25, s222_28, s222_29, s222_30, s222_31, s222_32, s222_33, s222_34, s222_35, s222_36, s222_37, s222_40, s222_43, s222_44, oB_some, cl2_i, cl2_r, cl2_l, cl2_u, cl2_s, wd_0, wd_i, wd_r, wd_l, wd_f, ct_i, ct_r, ct_n, ct_f, rf_s, rf_n, tl_s, tl_n, true_and, and_true, eq_self, and_self, Nat.reduceAdd, Nat.reduceLeDiff, Nat.zero_le, Nat.reduceEqDiff, or_true, true_or, false_or, or_false, if_true, if_false, gI_0, gI_1, gI_2, gI_3, gI_4, gI_5, gI_6, gI_7, gI_8, gI_9, gI_10, gI_11, gI_12, gI_13, gI_14, gI_15, gL_0, gL_1, gL_2, gL_3, gL_4, gL_5, gL_6, gL_7, gL_8, gL_9, gL_10, gL_11, gL_12, gL_13, gL_14, gL_15, gA_0, gA_1, gA_2, gA_3, gA_4, gA_5, gA_6, gA_7, gA_8, gA_9, gA_10, gA_11, gA_12, gA_13, gA_14, gA_15, p1_0, p1_1, p1_2, p1_3, p1_4, p1_5, p1_6, p1_7, p1_8, p1_9, p1_10, p1_11, p1_12, p1_13, p1_14, p1_15, p2_0, p2_1, p2_2, p2_3, p2_4, p2_5, p2_6, p2_7, p2_8, p2_9, p2_10, p2_11, p2_12, p2_13, p2_14, p2_15, b01_ok, b_ft, b_tf, b01_e0, b01_e1, lgc_0, not_true_eq_false, not_false_eq_true, k, z, m_goesFurther q g a6 gr (q.at ha).2.2.1, (q.at ha).2.2.1, ix_nI a31, nI_pos' a31, a6, shl1 (vr S a) (by omega), nI_or, nI_1]
      by_cases e : other S a = true
      · rw [if_neg (by rw [e]; decide), if_pos e]
        exact ih (i + 1) (vr S a) _ (by omega) (other_lt e).1
      · rw [if_pos (by simpa using e), if_neg e]
  simp only [e222, s222_0, s222_1, s222_2, s222_3, s222_4, s222_5, s222_6, s222_7, s222_11, s222_13, s222_16, s222_17, s222_18, s222_21, s222_24, s222_25, s222_28, s222_29, s222_30, s222_31, s222_32, s222_33, s222_34, s222_35, s222_36, s222_37, s222_40, s222_43, s222_44, oB_some, cl2_i, cl2_r, cl2_l, cl2_u, cl2_s, wd_0, wd_i, wd_r, wd_l, wd_f, ct_i, ct_r, ct_n, ct_f, rf_s, rf_n, tl_s, tl_n, true_and, and_true, eq_self, and_self, Nat.reduceAdd, Nat.reduceLeDiff, Nat.zero_le, Nat.reduceEqDiff, or_true, true_or, false_or, or_false, if_true, if_false, gI_0, gI_1, gI_2, gI_3, gI_4, gI_5, gI_6, gI_7, gI_8, gI_9, gI_10, gI_11, gI_12, gI_13, gI_14, gI_15, gL_0, gL_1, gL_2, gL_3, gL_4, gL_5, gL_6, gL_7, gL_8, gL_9, gL_10, gL_11, gL_12, gL_13, gL_14, gL_15, gA_0, gA_1, gA_2, gA_3, gA_4, gA_5, gA_6, gA_7, gA_8, gA_9, gA_10, gA_11, gA_12, gA_13, gA_14, gA_15, p1_0, p1_1, p1_2, p1_3, p1_4, p1_5, p1_6, p1_7, p1_8, p1_9, p1_10, p1_11, p1_12, p1_13, p1_14, p1_15, p2_0, p2_1, p2_2, p2_3, p2_4, p2_5, p2_6, p2_7, p2_8, p2_9, p2_10, p2_11, p2_12, p2_13, p2_14, p2_15, b01_ok, b_ft, b_tf, b01_e0, b01_e1, lgc_0, not_true_eq_false, not_false_eq_true, shl1 p (by omega)]
  exact loop 6 0 p _ (by omega) hp
-- how long the ring is
def orb (S : VS) (p : Nat) : Nat → Nat
  | 0 => p
  | n + 1 => vr S (orb S p n)
theorem orb_s (S : VS) (p n : Nat) : orb S p (n + 1) = vr S (orb S p n) := rfl
def seen (o : Nat → Nat) : Nat → Nat
  | 0 => 2 ^ o 0
  | n + 1 => seen o n ||| 2 ^ o (n + 1)
theorem seen_t {o : Nat → Nat} {x : Nat} : ∀ n, (seen o n).testBit x = true ↔ ∃ i, i ≤ n ∧ o i = x
  | 0 => by
    show (2 ^ o 0).testBit x = true ↔ _
    rw [Nat.testBit_two_pow]
    simp
  | n + 1 => by
    show (seen o n ||| 2 ^ o (n + 1)).testBit x = true ↔ _
    rw [Nat.testBit_or, Bool.or_eq_true, seen_t n, Nat.testBit_two_pow, decide_eq_true_eq]
    constructor
    · rintro (⟨i, hi, e⟩ | e)
      · exact ⟨i, by omega, e⟩
      · exact ⟨n + 1, Nat.le_refl _, e⟩
    · rintro ⟨i, hi, e⟩
      by_cases h : i = n + 1
      · exact Or.inr (by rw [← h]; exact e)
      · exact Or.inl ⟨i, by omega, e⟩
theorem seen_lt {o : Nat → Nat} (ho : ∀ k, o k < 6) : ∀ n, seen o n < 64
  | 0 => Nat.pow_lt_pow_right (n := 6) (by decide) (ho 0)
  | n + 1 => Nat.or_lt_two_pow (n := 6) (seen_lt ho n) (Nat.pow_lt_pow_right (by decide) (ho _))
theorem pc_more : ∀ s, s < 64 → ∀ a, a < 6 → s.testBit a = false → pc (s ||| 2 ^ a) = pc s + 1 := by decide +kernel
theorem pc_6 : ∀ s, s < 64 → pc s ≤ 6 := by decide +kernel
theorem pc_one : ∀ a, a < 6 → pc (2 ^ a) = 1 := by decide +kernel
theorem seen_pc {o : Nat → Nat} (ho : ∀ k, o k < 6) : ∀ n, (∀ i j, i < j → j ≤ n → ¬ o i = o j) → pc (seen o n) = n + 1
  | 0, _ => pc_one _ (ho 0)
  | n + 1, h => by
    have ih := seen_pc ho n (fun i j h1 h2 => h i j h1 (by omega))
    have nt : (seen o n).testBit (o (n + 1)) = false := by
      cases e : (seen o n).testBit (o (n + 1)) with
      | false => rfl
      | true =>
        obtain ⟨i, hi, ei⟩ := (seen_t n).mp e
        exact absurd ei (h i (n + 1) (by omega) (Nat.le_refl _))
    show pc (seen o n ||| 2 ^ o (n + 1)) = _
    rw [pc_more _ (seen_lt ho n) _ (ho _) nt, ih]
theorem pigeon {o : Nat → Nat} (ho : ∀ k, o k < 6) : ∃ i j, i < j ∧ j ≤ 6 ∧ o i = o j := by
  apply Classical.byContradiction
  intro h
  have a := seen_pc ho 6 (fun i j h1 h2 e => h ⟨i, j, h1, h2, e⟩)
  have b := pc_6 _ (seen_lt ho 6)
  omega
theorem orb_add {S : VS} {p a : Nat} : ∀ b, orb S (orb S p a) b = orb S p (a + b)
  | 0 => rfl
  | b + 1 => by rw [orb_s, orb_add b]; rfl
theorem rngA_orb {S : VS} : ∀ {m p a : Nat}, rngA S m p = some a → a = orb S p m ∧ ∀ k, k < m → other S (orb S p k) = true
  | 0, p, a, h => ⟨(Option.some.inj h).symm, fun k hk => by omega⟩
  | m + 1, p, a, h => by
    rw [rngA_s] at h
    by_cases e : other S p = true
    · rw [if_pos e] at h
      obtain ⟨h1, h2⟩ := rngA_orb h
      have e1 : ∀ k, orb S (vr S p) k = orb S p (k + 1) := fun k => by
        have := orb_add (S := S) (p := p) (a := 1) k
        rw [Nat.add_comm] at this
        exact this
      refine ⟨by rw [h1, e1], fun k hk => ?_⟩
      cases k with
      | zero => exact e
      | succ k => rw [← e1]; exact h2 k (by omega)
    · rw [if_neg e] at h
      cases h
theorem orb_per {S : VS} {p i c : Nat} (h : orb S p i = orb S p (i + c)) : ∀ t, orb S p (i + t) = orb S p (i + t + c)
  | 0 => h
  | t + 1 => by
    have := orb_per h t
    show vr S (orb S p (i + t)) = _
    rw [this, show i + (t + 1) + c = (i + t + c) + 1 by omega]
    rfl
theorem least_of {P : Nat → Prop} : ∀ n, P n → ∃ k, k ≤ n ∧ P k ∧ ∀ j, j < k → ¬ P j
  | 0, h => ⟨0, Nat.le_refl _, h, fun j hj => by omega⟩
  | n + 1, h => by
    by_cases e : ∃ m, m ≤ n ∧ P m
    · obtain ⟨m, hm, pm⟩ := e
      obtain ⟨k, h1, h2, h3⟩ := least_of m pm
      exact ⟨k, by omega, h2, h3⟩
    · exact ⟨n + 1, Nat.le_refl _, h, fun j hj pj => e ⟨j, by omega, pj⟩⟩
/-- from a on it goes round: c steps, no fewer -/
theorem ring_ex {S : VS} {p a : Nat} (g : Good S) (hp : p < vn S) (h : rngA S 6 p = some a) :
    (∀ k, other S (orb S a k) = true ∧ orb S a k < vn S) ∧ ∃ c, c < 6 ∧ orb S a (c + 1) = a ∧ ∀ j, j < c → ¬ orb S a (j + 1) = a := by
  have gn := g.n
  obtain ⟨rfl, h2⟩ := rngA_orb h
  have lt5 : ∀ k, k ≤ 6 → orb S p k < vn S := fun k hk => by
    cases k with
    | zero => exact hp
    | succ k => exact (other_lt (h2 k (by omega))).1
  obtain ⟨i, j, hij, hj, e⟩ := pigeon (o := fun k => orb S p (min k 6)) (fun k => by have := lt5 (min k 6) (Nat.min_le_right _ _); omega)
  rw [Nat.min_eq_left (show i ≤ 6 by omega), Nat.min_eq_left hj] at e
  have per : ∀ t, orb S p (i + t) = orb S p (i + t + (j - i)) := orb_per (by rw [e]; congr 1; omega)
  have all : ∀ k, other S (orb S p k) = true := fun k => by
    induction k using Nat.strongRecOn with
    | ind k ih =>
      by_cases hk : k < 6
      · exact h2 k hk
      · have := per (k - (j - i) - i)
        rw [show i + (k - (j - i) - i) + (j - i) = k by omega, show i + (k - (j - i) - i) = k - (j - i) by omega] at this
        rw [← this]
        exact ih _ (by omega)
  have alt : ∀ k, orb S p k < vn S := fun k => by
    cases k with
    | zero => exact hp
    | succ k => exact (other_lt (all k)).1
  refine ⟨fun k => ?_, ?_⟩
  · rw [orb_add]
    exact ⟨all _, alt _⟩
  · have e6 := per (6 - i)
    rw [show i + (6 - i) = 6 by omega] at e6
    obtain ⟨c, h3, h4, h5⟩ := least_of (P := fun c => orb S (orb S p 6) (c + 1) = orb S p 6) (j - i - 1) (by
      show orb S (orb S p 6) (j - i - 1 + 1) = orb S p 6
      rw [orb_add, show 6 + (j - i - 1 + 1) = 6 + (j - i) by omega, ← e6])
    exact ⟨c, by omega, h4, h5⟩
theorem rch_seen {S : VS} {a : Nat} (h : ∀ k, orb S a k < vn S) : ∀ (m i : Nat), rchN S m (orb S a i) (seen (orb S a) i) = seen (orb S a) (i + m)
  | 0, i => rfl
  | m + 1, i => by
    rw [rchN_s, if_pos (show vr S (orb S a i) < vn S from h (i + 1))]
    have := rch_seen h m (i + 1)
    rw [show i + 1 + m = i + (m + 1) by omega] at this
    exact this
theorem ring_len {S : VS} {a c : Nat} (g : Good S) (h : ∀ k, orb S a k < vn S) (hc : c < 6) (h1 : orb S a (c + 1) = a) (h2 : ∀ j, j < c → ¬ orb S a (j + 1) = a) : pc (rchN S 6 a (2 ^ a)) = c + 1 := by
  have gn := g.n
  have h6 : ∀ k, orb S a k < 6 := fun k => by have := h k; omega
  have e1 := rch_seen h 6 0
  rw [Nat.zero_add] at e1
  have e1' : rchN S 6 a (2 ^ a) = seen (orb S a) 6 := e1
  rw [e1']
  have per : ∀ t, orb S a (0 + t) = orb S a (0 + t + (c + 1)) := orb_per (by rw [Nat.zero_add, h1]; rfl)
  have dis : ∀ i j, i < j → j ≤ c → ¬ orb S a i = orb S a j := fun i j hij hj e => by
    have e2 : orb S a (j + (c + 1 - j)) = orb S a (i + (c + 1 - j)) := by
      rw [← orb_add, ← orb_add, e]
    rw [show j + (c + 1 - j) = c + 1 by omega, h1] at e2
    exact h2 (i + (c - j)) (by omega) (by rw [show i + (c - j) + 1 = i + (c + 1 - j) by omega]; exact e2.symm)
  have same : ∀ n, seen (orb S a) (c + n) = seen (orb S a) c := fun n => by
    induction n with
    | zero => rfl
    | succ n ih =>
      show seen (orb S a) (c + n) ||| 2 ^ orb S a (c + n + 1) = _
      rw [ih]
      apply or_has
      rw [seen_t]
      refine ⟨(n % (c + 1)), by have := Nat.mod_lt n (show 0 < c + 1 by omega); omega, ?_⟩
      have : ∀ q r, orb S a (r + (c + 1) * q) = orb S a r := fun q r => by
        induction q with
        | zero => rfl
        | succ q ihq =>
          have := per (r + (c + 1) * q)
          rw [Nat.zero_add] at this
          rw [← ihq, this, Nat.mul_succ]
          congr 1
          omega
      have hd := Nat.mod_add_div n (c + 1)
      have h0 := per n
      rw [Nat.zero_add] at h0
      rw [show c + n + 1 = n + (c + 1) by omega, ← h0]
      have := this (n / (c + 1)) (n % (c + 1))
      rw [hd] at this
      exact this.symm
  have := same (6 - c)
  rw [show c + (6 - c) = 6 by omega] at this
  rw [this]
  exact seen_pc h6 c dis
set_option maxHeartbeats 4000000 in
theorem m_ringOf {d : Nat} {Q : PQ} {h : HP} {m p : Nat} {S : VS} (q : RM h m S) (g : Good S) (hp : p < vn S) : Ev (d + 4) 224 [.ref m, .int (nI p)] h Q = Q (some (.int (oN (ringV S p)))) h := by
  have k := q.k
  unfold MK at k
  have gn := g.n
  have walk : ∀ (a c : Nat) (x : Slot), (∀ k, orb S a k < vn S) → c < 6 → orb S a (c + 1) = a → (∀ j, j < c → ¬ orb S a (j + 1) = a) → WP (d + 3) 224 Q (34, [.val (.ref m), .val (.int (nI p)), .val (.int (nI a)), .val (.int (nI 6)), x], [], h, 0, 0) = Q (some (.int (nI (c + 1)))) h := by
    intro a c x ho hc h1 h2
    have inner : ∀ (r t : Nat), t + r = c → WP (d + 3) 224 Q (44, [.val (.ref m), .val (.int (nI p)), .val (.int (nI a)), .val (.int (nI (t + 1))), .val (.int (nI (orb S a (t + 1))))], [], h, 0, 0) = Q (some (.int (nI (c + 1)))) h := by
      intro r
      induction r with
      | zero =>
        intro t ht
        obtain rfl : t = c := by omega
        rw [s224_44, h1]
        simp only [s224_46, s224_47, s224_50, s224_53, s224_54, s224_57, s224_59, s224_60, s224_62, s224_65, s224_66, oB_some, cl2_i, cl2_r, cl2_l, cl2_u, cl2_s, wd_0, wd_i, wd_r, wd_l, wd_f, ct_i, ct_r, ct_n, ct_f, rf_s, rf_n, tl_s, tl_n, true_and, and_true, eq_self, and_self, Nat.reduceAdd, Nat.reduceLeDiff, Nat.zero_le, Nat.reduceEqDiff, or_true, true_or, false_or, or_false, if_true, if_false, gI_0, gI_1, gI_2, gI_3, gI_4, gI_5, gI_6, gI_7, gI_8, gI_9, gI_10, gI_11, gI_12, gI_13, gI_14, gI_15, gL_0, gL_1, gL_2, gL_3, gL_4, gL_5, gL_6, gL_7, gL_8, gL_9, gL_10, gL_11, gL_12, gL_13, gL_14, gL_15, gA_0, gA_1, gA_2, gA_3, gA_4, gA_5, gA_6, gA_7, gA_8, gA_9, gA_10, gA_11, gA_12, gA_13, gA_14, gA_15, p1_0, p1_1, p1_2, p1_3, p1_4, p1_5, p1_6, p1_7, p1_8, p1_9, p1_10, p1_11, p1_12, p1_13, p1_14, p1_15, p2_0, p2_1, p2_2, p2_3, p2_4, p2_5, p2_6, p2_7, p2_8, p2_9, p2_10, p2_11, p2_12, p2_13, p2_14, p2_15, b01_ok, b_ft, b_tf, b01_e0, b01_e1, lgc_0, not_true_eq_false, not_false_eq_true]
      | succ r ih =>
        intro t ht
        have o1 := ho (t + 1)
        have a0 : a < vn S := ho 0
        have o6 : orb S a (t + 1) < 6 := by omega
        have o31 : orb S a (t + 1) < 2 ^ 31 := by omega
        have e := h2 t (by omega)
        rw [s224_44]
        simp only [s224_46, s224_47, s224_50, s224_53, s224_54, s224_57, s224_59, s224_60, s224_62, s224_65, s224_66, oB_some, cl2_i, cl2_r, cl2_l, cl2_u, cl2_s, wd_0, wd_i, wd_r, wd_l, wd_f, ct_i, ct_r, ct_n, ct_f, rf_s, rf_n, tl_s, tl_n, true_and, and_true, eq_self, and_self, Nat.reduceAdd, Nat.reduceLeDiff, Nat.zero_le, Nat.reduceEqDiff, or_true, true_or, false_or, or_false, if_true, if_false, gI_0, gI_1, gI_2, gI_3, gI_4, gI_5, gI_6, gI_7, gI_8, gI_9, gI_10, gI_11, gI_12, gI_13, gI_14, gI_15, gL_0, gL_1, gL_2, gL_3, gL_4, gL_5, gL_6, gL_7, gL_8, gL_9, gL_10, gL_11, gL_12, gL_13, gL_14, gL_15, gA_0, gA_1, gA_2, gA_3, gA_4, gA_5, gA_6, gA_7, gA_8, gA_9, gA_10, gA_11, gA_12, gA_13, gA_14, gA_15, p1_0, p1_1, p1_2, p1_3, p1_4, p1_5, p1_6, p1_7, p1_8, p1_9, p1_10, p1_11, p1_12, p1_13, p1_14, p1_15, p2_0, p2_1, p2_2, p2_3, p2_4, p2_5, p2_6, p2_7, p2_8, p2_9, p2_10, p2_11, p2_12, p2_13, p2_14, p2_15, b01_ok, b_ft, b_tf, b01_e0, b01_e1, lgc_0, not_true_eq_false, not_false_eq_true, k, eqP o31 (show a < 2 ^ 31 by omega), e, (q.at o1).2.2.1, ix_nI o31, nI_pos' o31, o6, nI_1]
        exact ih (t + 1) (by omega)
    have a0 : a < vn S := ho 0
    have a6 : a < 6 := by omega
    have a31 : a < 2 ^ 31 := by omega
    simp only [s224_34, s224_35, s224_36, s224_37, s224_40, s224_41, s224_42, oB_some, cl2_i, cl2_r, cl2_l, cl2_u, cl2_s, wd_0, wd_i, wd_r, wd_l, wd_f, ct_i, ct_r, ct_n, ct_f, rf_s, rf_n, tl_s, tl_n, true_and, and_true, eq_self, and_self, Nat.reduceAdd, Nat.reduceLeDiff, Nat.zero_le, Nat.reduceEqDiff, or_true, true_or, false_or, or_false, if_true, if_false, gI_0, gI_1, gI_2, gI_3, gI_4, gI_5, gI_6, gI_7, gI_8, gI_9, gI_10, gI_11, gI_12, gI_13, gI_14, gI_15, gL_0, gL_1, gL_2, gL_3, gL_4, gL_5, gL_6, gL_7, gL_8, gL_9, gL_10, gL_11, gL_12, gL_13, gL_14, gL_15, gA_0, gA_1, gA_2, gA_3, gA_4, gA_5, gA_6, gA_7, gA_8, gA_9, gA_10, gA_11, gA_12, gA_13, gA_14, gA_15, p1_0, p1_1, p1_2, p1_3, p1_4, p1_5, p1_6, p1_7, p1_8, p1_9, p1_10, p1_11, p1_12, p1_13, p1_14, p1_15, p2_0, p2_1, p2_2, p2_3, p2_4, p2_5, p2_6, p2_7, p2_8, p2_9, p2_10, p2_11, p2_12, p2_13, p2_14, p2_15, b01_ok, b_ft, b_tf, b01_e0, b01_e1, lgc_0, not_true_eq_false, not_false_eq_true, k, (q.at a0).2.2.1, ix_nI a31, nI_pos' a31, a6]
    exact inner c 0 (by omega)
  have loop : ∀ (n i a : Nat) (x : Slot), i + n = 6 → a < vn S → (∀ b, rngA S n a = some b → (∀ k, orb S b k < vn S) ∧ ∃ c, c < 6 ∧ orb S b (c + 1) = b ∧ ∀ j, j < c → ¬ orb S b (j + 1) = b) →
      WP (d + 3) 224 Q (4, [.val (.ref m), .val (.int (nI p)), .val (.int (nI a)), .val (.int (nI i)), x], [], h, 0, 0) = Q (some (.int (oN ((rngA S n a).map (fun a => pc (rchN S 6 a (2 ^ a))))))) h := by
    intro n
    induction n with
    | zero =>
      intro i a x hi ha hb
      obtain rfl : i = 6 := by omega
      obtain ⟨ho, c, hc, h1, h2⟩ := hb a rfl
      have e : oN ((rngA S 0 a).map (fun a => pc (rchN S 6 a (2 ^ a)))) = nI (c + 1) := by
        show oN (some (pc (rchN S 6 a (2 ^ a)))) = _
        rw [ring_len g ho hc h1 h2]
        rfl
      rw [e, ← walk a c x ho hc h1 h2, s224_4]
      simp only [s224_5, s224_7, oB_some, cl2_i, cl2_r, cl2_l, cl2_u, cl2_s, wd_0, wd_i, wd_r, wd_l, wd_f, ct_i, ct_r, ct_n, ct_f, rf_s, rf_n, tl_s, tl_n, true_and, and_true, eq_self, and_self, Nat.reduceAdd, Nat.reduceLeDiff, Nat.zero_le, Nat.reduceEqDiff, or_true, true_or, false_or, or_false, if_true, if_false, gI_0, gI_1, gI_2, gI_3, gI_4, gI_5, gI_6, gI_7, gI_8, gI_9, gI_10, gI_11, gI_12, gI_13, gI_14, gI_15, gL_0, gL_1, gL_2, gL_3, gL_4, gL_5, gL_6, gL_7, gL_8, gL_9, gL_10, gL_11, gL_12, gL_13, gL_14, gL_15, gA_0, gA_1, gA_2, gA_3, gA_4, gA_5, gA_6, gA_7, gA_8, gA_9, gA_10, gA_11, gA_12, gA_13, gA_14, gA_15, p1_0, p1_1, p1_2, p1_3, p1_4, p1_5, p1_6, p1_7, p1_8, p1_9, p1_10, p1_11, p1_12, p1_13, p1_14, p1_15, p2_0, p2_1, p2_2, p2_3, p2_4, p2_5, p2_6, p2_7, p2_8, p2_9, p2_10, p2_11, p2_12, p2_13, p2_14, p2_15, b01_ok, b_ft, b_tf, b01_e0, b01_e1, lgc_0, not_true_eq_false, not_false_eq_true]
      rw [if_pos (by decide)]
    | succ n ih =>
      intro i a x hi ha hb
      have z : ¬ (6 : Int32) ≤ nI i := nI_ge (b := 6) (by omega) (by decide)
      have a6 : a < 6 := by omega
      have a31 : a < 2 ^ 31 := by omega
      have gr := (g.at ha).2.2.1
      rw [rngA_s] at hb ⊢
      rw [s224_4]
      simp only [s224_5, s224_7, s224_10, s224_11, s224_12, s224_15, s224_18, s224_20, s224_21, s224_22, s224_25, s224_26, s224_27, s224_28, s224_31, oB_some, cl2_i, cl2_r, cl2_l, cl2_u, cl2_s, wd_0, wd_i, wd_r, wd_l, wd_f, ct_i, ct_r, ct_n, ct_f, rf_s, rf_n, tl_s, tl_n, true_and, and_true, eq_self, and_self, Nat.reduceAdd, Nat.reduceLeDiff, Nat.zero_le, Nat.reduceEqDiff, or_true, true_or, false_or, or_false, if_true, if_false, gI_0, gI_1, gI_2, gI_3, gI_4, gI_5, gI_6, gI_7, gI_8, gI_9, gI_10, gI_11, gI_12, gI_13, gI_14, gI_15, gL_0, gL_1, gL_2, gL_3, gL_4, gL_5, gL_6, gL_7, gL_8, gL_9, gL_10, gL_11, gL_12, gL_13, gL_14, gL_15, gA_0, gA_1, gA_2, gA_3, gA_4, gA_5, gA_6, gA_7, gA_8, gA_9, gA_10, gA_11, gA_12, gA_13, gA_14, gA_15, p1_0, p1_1, p1_2, p1_3, p1_4, p1_5, p1_6, p1_7, p1_8, p1_9, p1_10, p1_11, p1_12, p1_13, p1_14, p1_15, p2_0, p2_1, p2_2, p2_3, p2_4, p2_5, p2_6, p2_7, p2_8, p2_9, p2_10, p2_11, p2_12, p2_13, p2_14, p2_15, b01_ok, b_ft, b_tf, b01_e0, b01_e1, lgc_0, not_true_eq_false, not_false_eq_true, k, z, m_goesFurther q g a6 gr (q.at ha).2.2.1, (q.at ha).2.2.1, ix_nI a31, nI_pos' a31, a6, nI_1]
      by_cases e : other S a = true
      · rw [if_pos (by rw [e]; decide), if_pos e]
        rw [if_pos e] at hb
        exact ih (i + 1) (vr S a) _ (by omega) (other_lt e).1 hb
      · rw [if_neg (by simpa using e), if_neg e]
        rfl
  simp only [e224, s224_0, s224_1, s224_2, s224_3, oB_some, cl2_i, cl2_r, cl2_l, cl2_u, cl2_s, wd_0, wd_i, wd_r, wd_l, wd_f, ct_i, ct_r, ct_n, ct_f, rf_s, rf_n, tl_s, tl_n, true_and, and_true, eq_self, and_self, Nat.reduceAdd, Nat.reduceLeDiff, Nat.zero_le, Nat.reduceEqDiff, or_true, true_or, false_or, or_false, if_true, if_false, gI_0, gI_1, gI_2, gI_3, gI_4, gI_5, gI_6, gI_7, gI_8, gI_9, gI_10, gI_11, gI_12, gI_13, gI_14, gI_15, gL_0, gL_1, gL_2, gL_3, gL_4, gL_5, gL_6, gL_7, gL_8, gL_9, gL_10, gL_11, gL_12, gL_13, gL_14, gL_15, gA_0, gA_1, gA_2, gA_3, gA_4, gA_5, gA_6, gA_7, gA_8, gA_9, gA_10, gA_11, gA_12, gA_13, gA_14, gA_15, p1_0, p1_1, p1_2, p1_3, p1_4, p1_5, p1_6, p1_7, p1_8, p1_9, p1_10, p1_11, p1_12, p1_13, p1_14, p1_15, p2_0, p2_1, p2_2, p2_3, p2_4, p2_5, p2_6, p2_7, p2_8, p2_9, p2_10, p2_11, p2_12, p2_13, p2_14, p2_15, b01_ok, b_ft, b_tf, b01_e0, b01_e1, lgc_0, not_true_eq_false, not_false_eq_true]
  refine loop 6 0 p _ (by omega) hp fun b hb => ?_
  have r := ring_ex g hp hb
  exact ⟨fun k => (r.1 k).2, r.2⟩
