-- the one side's bag: what is left
set_option maxHeartbeats 4000000 in
theorem v_lettersFrom {d : Nat} {Q : PQ} {h : HP} {v p : Nat} {S : VS} (q : RV h v S) (g : Good S) (hp : p < 2 ^ 31) : Ev (d + 1) 242 [.ref (v + 6), .int (nI p)] h Q = Q (some (.int (nI (letF S p (vb S).length)))) h := by
  have k := q.k
  unfold VK at k
  have gl := g.l
  have loop : ∀ (n i : Nat), i + n = (vb S).length → WP d 242 Q (4, [.val (.ref (v + 6)), .val (.int (nI p)), .val (.int (nI (letF S p i))), .val (.int (nI i))], [], h, 0, 0) = Q (some (.int (nI (letF S p (vb S).length)))) h := by
    intro n
    induction n with
    | zero =>
      intro i hi
      obtain rfl : i = (vb S).length := by omega
      rw [s242_4]
      simp only [s242_0, s242_1, s242_2, s242_3, s242_5, s242_6, s242_9, s242_12, s242_13, s242_16, s242_17, s242_18, s242_19, s242_22, s242_25, s242_28, s242_31, s242_32, oB_some, cl2_i, cl2_r, cl2_l, cl2_u, cl2_s, wd_0, wd_i, wd_r, wd_l, wd_f, ct_i, ct_r, ct_n, ct_f, rf_s, rf_n, tl_s, tl_n, true_and, and_true, eq_self, and_self, Nat.reduceAdd, Nat.reduceLeDiff, Nat.zero_le, Nat.reduceEqDiff, or_true, true_or, false_or, or_false, if_true, if_false, gI_0, gI_1, gI_2, gI_3, gI_4, gI_5, gI_6, gI_7, gI_8, gI_9, gI_10, gI_11, gI_12, gI_13, gI_14, gI_15, gL_0, gL_1, gL_2, gL_3, gL_4, gL_5, gL_6, gL_7, gL_8, gL_9, gL_10, gL_11, gL_12, gL_13, gL_14, gL_15, gA_0, gA_1, gA_2, gA_3, gA_4, gA_5, gA_6, gA_7, gA_8, gA_9, gA_10, gA_11, gA_12, gA_13, gA_14, gA_15, p1_0, p1_1, p1_2, p1_3, p1_4, p1_5, p1_6, p1_7, p1_8, p1_9, p1_10, p1_11, p1_12, p1_13, p1_14, p1_15, p2_0, p2_1, p2_2, p2_3, p2_4, p2_5, p2_6, p2_7, p2_8, p2_9, p2_10, p2_11, p2_12, p2_13, p2_14, p2_15, b01_ok, b_ft, b_tf, b01_e0, b01_e1, lgc_0, not_true_eq_false, not_false_eq_true, k, q.m, Int32.le_refl]
    | succ n ih =>
      intro i hi
      have il : i < (vb S).length := by omega
      have hj : (vb S)[i]? = some ((vb S)[i]) := List.getElem?_eq_getElem il
      have gf := (g.b (List.mem_of_getElem? hj)).1
      have gn := g.n
      have p24 : i < 24 := by omega
      have p31 : i < 2 ^ 31 := by omega
      have z : ¬ nI (vb S).length ≤ nI i := nI_ge (by omega) (by omega)
      have i1 := ih (i + 1) (by omega)
      have es : letF S p (i + 1) = letF S p i + (if lF (vb S)[i] = p then 1 else 0) := by
        unfold letF
        rw [sumN_s, hj]
      rw [es] at i1
      rw [s242_4]
      simp only [s242_0, s242_1, s242_2, s242_3, s242_5, s242_6, s242_9, s242_12, s242_13, s242_16, s242_17, s242_18, s242_19, s242_22, s242_25, s242_28, s242_31, s242_32, oB_some, cl2_i, cl2_r, cl2_l, cl2_u, cl2_s, wd_0, wd_i, wd_r, wd_l, wd_f, ct_i, ct_r, ct_n, ct_f, rf_s, rf_n, tl_s, tl_n, true_and, and_true, eq_self, and_self, Nat.reduceAdd, Nat.reduceLeDiff, Nat.zero_le, Nat.reduceEqDiff, or_true, true_or, false_or, or_false, if_true, if_false, gI_0, gI_1, gI_2, gI_3, gI_4, gI_5, gI_6, gI_7, gI_8, gI_9, gI_10, gI_11, gI_12, gI_13, gI_14, gI_15, gL_0, gL_1, gL_2, gL_3, gL_4, gL_5, gL_6, gL_7, gL_8, gL_9, gL_10, gL_11, gL_12, gL_13, gL_14, gL_15, gA_0, gA_1, gA_2, gA_3, gA_4, gA_5, gA_6, gA_7, gA_8, gA_9, gA_10, gA_11, gA_12, gA_13, gA_14, gA_15, p1_0, p1_1, p1_2, p1_3, p1_4, p1_5, p1_6, p1_7, p1_8, p1_9, p1_10, p1_11, p1_12, p1_13, p1_14, p1_15, p2_0, p2_1, p2_2, p2_3, p2_4, p2_5, p2_6, p2_7, p2_8, p2_9, p2_10, p2_11, p2_12, p2_13, p2_14, p2_15, b01_ok, b_ft, b_tf, b01_e0, b01_e1, lgc_0, not_true_eq_false, not_false_eq_true, k, q.m, z, (q.lt hj).1, ix_nI p31, nI_pos' p31, p24, nI_1, eqP (show lF (vb S)[i] < 2 ^ 31 by omega) hp]
      by_cases e : lF (vb S)[i] = p
      · rw [if_neg (not_not_intro e)]
        rw [if_pos e] at i1
        exact i1
      · rw [if_pos e]
        rw [if_neg e, Nat.add_zero] at i1
        exact i1
  simp only [e242, s242_0, s242_1, s242_2, s242_3, s242_5, s242_6, s242_9, s242_12, s242_13, s242_16, s242_17, s242_18, s242_19, s242_22, s242_25, s242_28, s242_31, s242_32, oB_some, cl2_i, cl2_r, cl2_l, cl2_u, cl2_s, wd_0, wd_i, wd_r, wd_l, wd_f, ct_i, ct_r, ct_n, ct_f, rf_s, rf_n, tl_s, tl_n, true_and, and_true, eq_self, and_self, Nat.reduceAdd, Nat.reduceLeDiff, Nat.zero_le, Nat.reduceEqDiff, or_true, true_or, false_or, or_false, if_true, if_false, gI_0, gI_1, gI_2, gI_3, gI_4, gI_5, gI_6, gI_7, gI_8, gI_9, gI_10, gI_11, gI_12, gI_13, gI_14, gI_15, gL_0, gL_1, gL_2, gL_3, gL_4, gL_5, gL_6, gL_7, gL_8, gL_9, gL_10, gL_11, gL_12, gL_13, gL_14, gL_15, gA_0, gA_1, gA_2, gA_3, gA_4, gA_5, gA_6, gA_7, gA_8, gA_9, gA_10, gA_11, gA_12, gA_13, gA_14, gA_15, p1_0, p1_1, p1_2, p1_3, p1_4, p1_5, p1_6, p1_7, p1_8, p1_9, p1_10, p1_11, p1_12, p1_13, p1_14, p1_15, p2_0, p2_1, p2_2, p2_3, p2_4, p2_5, p2_6, p2_7, p2_8, p2_9, p2_10, p2_11, p2_12, p2_13, p2_14, p2_15, b01_ok, b_ft, b_tf, b01_e0, b01_e1, lgc_0, not_true_eq_false, not_false_eq_true]
  exact loop (vb S).length 0 (by omega)
theorem letF_le {S : VS} {p n : Nat} : letF S p n ≤ n := sumN_le (fun j => by
  split
  · split <;> omega
  · omega) n
/-- the best of few, the first that has it -/
def betA (f tag : Nat → Nat) : Nat → Nat → Option Nat × Nat → Option Nat × Nat
  | 0, _, b => b
  | m + 1, j, b => betA f tag m (j + 1) (if b.2 < f j then (some (tag j), f j) else b)
theorem betA_s (f tag : Nat → Nat) (m j : Nat) (b : Option Nat × Nat) : betA f tag (m + 1) j b = betA f tag m (j + 1) (if b.2 < f j then (some (tag j), f j) else b) := rfl
def busyN (S : VS) : Option Nat := (betA (fun p => letF S p (vb S).length) (fun p => p) 6 0 (none, 0)).1
set_option maxHeartbeats 4000000 in
theorem v_busiest {d : Nat} {Q : PQ} {h : HP} {v : Nat} {S : VS} (q : RV h v S) (g : Good S) : Ev (d + 2) 241 [.ref (v + 6)] h Q = Q (some (.int (oN (busyN S)))) h := by
  have k := q.k
  unfold VK at k
  have gl := g.l
  have loop : ∀ (n i : Nat) (b : Option Nat × Nat) (x : Slot), i + n = 6 → b.2 ≤ 24 → WP (d + 1) 241 Q (7, [.val (.ref (v + 6)), .val (.int (oN b.1)), .val (.int (nI b.2)), .val (.int (nI i)), x], [], h, 0, 0) = Q (some (.int (oN (betA (fun p => letF S p (vb S).length) (fun p => p) n i b).1))) h := by
    intro n
    induction n with
    | zero =>
      intro i b x hi hb
      obtain rfl : i = 6 := by omega
      rw [s241_7]
      simp only [s241_0, s241_2, s241_3, s241_4, s241_5, s241_6, s241_8, s241_10, s241_13, s241_14, s241_15, s241_18, s241_20, s241_22, s241_23, s241_26, s241_28, s241_29, s241_30, s241_31, s241_34, s241_37, s241_38, oB_some, cl2_i, cl2_r, cl2_l, cl2_u, cl2_s, wd_0, wd_i, wd_r, wd_l, wd_f, ct_i, ct_r, ct_n, ct_f, rf_s, rf_n, tl_s, tl_n, true_and, and_true, eq_self, and_self, Nat.reduceAdd, Nat.reduceLeDiff, Nat.zero_le, Nat.reduceEqDiff, or_true, true_or, false_or, or_false, if_true, if_false, gI_0, gI_1, gI_2, gI_3, gI_4, gI_5, gI_6, gI_7, gI_8, gI_9, gI_10, gI_11, gI_12, gI_13, gI_14, gI_15, gL_0, gL_1, gL_2, gL_3, gL_4, gL_5, gL_6, gL_7, gL_8, gL_9, gL_10, gL_11, gL_12, gL_13, gL_14, gL_15, gA_0, gA_1, gA_2, gA_3, gA_4, gA_5, gA_6, gA_7, gA_8, gA_9, gA_10, gA_11, gA_12, gA_13, gA_14, gA_15, p1_0, p1_1, p1_2, p1_3, p1_4, p1_5, p1_6, p1_7, p1_8, p1_9, p1_10, p1_11, p1_12, p1_13, p1_14, p1_15, p2_0, p2_1, p2_2, p2_3, p2_4, p2_5, p2_6, p2_7, p2_8, p2_9, p2_10, p2_11, p2_12, p2_13, p2_14, p2_15, b01_ok, b_ft, b_tf, b01_e0, b01_e1, lgc_0, not_true_eq_false, not_false_eq_true]
      rw [if_pos (by decide)]
      rfl
    | succ n ih =>
      intro i b x hi hb
      have z : ¬ (6 : Int32) ≤ nI i := nI_ge (b := 6) (by omega) (by decide)
      have lf := @letF_le S i (vb S).length
      rw [s241_7, betA_s]
      simp only [s241_0, s241_2, s241_3, s241_4, s241_5, s241_6, s241_8, s241_10, s241_13, s241_14, s241_15, s241_18, s241_20, s241_22, s241_23, s241_26, s241_28, s241_29, s241_30, s241_31, s241_34, s241_37, s241_38, oB_some, cl2_i, cl2_r, cl2_l, cl2_u, cl2_s, wd_0, wd_i, wd_r, wd_l, wd_f, ct_i, ct_r, ct_n, ct_f, rf_s, rf_n, tl_s, tl_n, true_and, and_true, eq_self, and_self, Nat.reduceAdd, Nat.reduceLeDiff, Nat.zero_le, Nat.reduceEqDiff, or_true, true_or, false_or, or_false, if_true, if_false, gI_0, gI_1, gI_2, gI_3, gI_4, gI_5, gI_6, gI_7, gI_8, gI_9, gI_10, gI_11, gI_12, gI_13, gI_14, gI_15, gL_0, gL_1, gL_2, gL_3, gL_4, gL_5, gL_6, gL_7, gL_8, gL_9, gL_10, gL_11, gL_12, gL_13, gL_14, gL_15, gA_0, gA_1, gA_2, gA_3, gA_4, gA_5, gA_6, gA_7, gA_8, gA_9, gA_10, gA_11, gA_12, gA_13, gA_14, gA_15, p1_0, p1_1, p1_2, p1_3, p1_4, p1_5, p1_6, p1_7, p1_8, p1_9, p1_10, p1_11, p1_12, p1_13, p1_14, p1_15, p2_0, p2_1, p2_2, p2_3, p2_4, p2_5, p2_6, p2_7, p2_8, p2_9, p2_10, p2_11, p2_12, p2_13, p2_14, p2_15, b01_ok, b_ft, b_tf, b01_e0, b01_e1, lgc_0, not_true_eq_false, not_false_eq_true, k, z, v_lettersFrom q g (show i < 2 ^ 31 by omega), leP (show letF S i (vb S).length < 2 ^ 31 by omega) (show b.2 < 2 ^ 31 by omega), nI_1]
      by_cases e : letF S i (vb S).length ≤ b.2
      · rw [if_pos e, if_neg (by omega)]
        exact ih (i + 1) b _ (by omega) hb
      · rw [if_neg e, if_pos (by omega)]
        exact ih (i + 1) (some i, letF S i (vb S).length) _ (by omega) (show letF S i (vb S).length ≤ 24 by omega)
  simp only [e241, s241_0, s241_2, s241_3, s241_4, s241_5, s241_6, s241_8, s241_10, s241_13, s241_14, s241_15, s241_18, s241_20, s241_22, s241_23, s241_26, s241_28, s241_29, s241_30, s241_31, s241_34, s241_37, s241_38, oB_some, cl2_i, cl2_r, cl2_l, cl2_u, cl2_s, wd_0, wd_i, wd_r, wd_l, wd_f, ct_i, ct_r, ct_n, ct_f, rf_s, rf_n, tl_s, tl_n, true_and, and_true, eq_self, and_self, Nat.reduceAdd, Nat.reduceLeDiff, Nat.zero_le, Nat.reduceEqDiff, or_true, true_or, false_or, or_false, if_true, if_false, gI_0, gI_1, gI_2, gI_3, gI_4, gI_5, gI_6, gI_7, gI_8, gI_9, gI_10, gI_11, gI_12, gI_13, gI_14, gI_15, gL_0, gL_1, gL_2, gL_3, gL_4, gL_5, gL_6, gL_7, gL_8, gL_9, gL_10, gL_11, gL_12, gL_13, gL_14, gL_15, gA_0, gA_1, gA_2, gA_3, gA_4, gA_5, gA_6, gA_7, gA_8, gA_9, gA_10, gA_11, gA_12, gA_13, gA_14, gA_15, p1_0, p1_1, p1_2, p1_3, p1_4, p1_5, p1_6, p1_7, p1_8, p1_9, p1_10, p1_11, p1_12, p1_13, p1_14, p1_15, p2_0, p2_1, p2_2, p2_3, p2_4, p2_5, p2_6, p2_7, p2_8, p2_9, p2_10, p2_11, p2_12, p2_13, p2_14, p2_15, b01_ok, b_ft, b_tf, b01_e0, b01_e1, lgc_0, not_true_eq_false, not_false_eq_true]
  exact loop 6 0 (none, 0) _ (by omega) (by decide)
def notOf (p : Nat) (b : List Ltr) : List Ltr := b.filter (fun l => !decide (lF l = p))
theorem notOf_len {p : Nat} {b : List Ltr} : (notOf p b).length ≤ b.length := List.length_filter_le _ _
theorem take_s {b : List Ltr} {i : Nat} (h : i < b.length) : b.take (i + 1) = b.take i ++ [b[i]] := (List.take_append_getElem h).symm
set_option maxHeartbeats 4000000 in
theorem v_dropFrom {d : Nat} {Q : PQ} {h : HP} {v p ink : Nat} {dm sh : Bool} {S : VS} (q : RV h v S) (g : Good S) (fv : FV h v ink dm sh) (hp : p < 2 ^ 31)
    (kk : ∀ h', Fm v 12 h h' → RV h' v (wB S (notOf p (vb S))) → FV h' v ink dm sh → Q (some (.int (nI ((vb S).length - (notOf p (vb S)).length)))) h') : Ev (d + 2) 137 [.ref (v + 6), .int (nI p)] h Q := by
  have gl := g.l
  have gn := g.n
  have bk := q.k.bag
  have loop : ∀ (n i : Nat) (h1 : HP), i + n = (vb S).length → Fm (v + 7) 5 h h1 → RL5 (lt5 h1 (v + 6)) (notOf p ((vb S).take i)) → (∀ j, i ≤ j → lt5 h1 (v + 6) j = lt5 h (v + 6) j) →
      WP (d + 1) 137 Q (4, [.val (.ref (v + 6)), .val (.int (nI p)), .val (.int (nI (notOf p ((vb S).take i)).length)), .val (.int (nI i))], [], h1, 0, 0) := by
    intro n
    induction n with
    | zero =>
      intro i h1 hi m1 r1 e1
      obtain rfl : i = (vb S).length := by omega
      have bk1 := bk.kept m1.2.1 m1.2.2.1 m1.2.2.2.1
      unfold BK at bk1
      have n1 : hI h1 (v + 6) 0 = nI (vb S).length := by rw [(m1.1 (v + 6) (by omega)).1]; exact q.m
      rw [s137_4]
      rw [List.take_length] at r1 ⊢
      have sb : nI (vb S).length - nI (notOf p (vb S)).length = nI ((vb S).length - (notOf p (vb S)).length) := pk_sub notOf_len
      simp only [s137_0, s137_1, s137_2, s137_3, s137_5, s137_6, s137_9, s137_12, s137_13, s137_16, s137_17, s137_18, s137_19, s137_22, s137_23, s137_24, s137_25, s137_26, s137_29, s137_32, s137_35, s137_38, s137_39, s137_42, s137_43, s137_44, s137_45, s137_46, s137_47, s137_50, s137_51, oB_some, cl2_i, cl2_r, cl2_l, cl2_u, cl2_s, wd_0, wd_i, wd_r, wd_l, wd_f, ct_i, ct_r, ct_n, ct_f, rf_s, rf_n, tl_s, tl_n, true_and, and_true, eq_self, and_self, Nat.reduceAdd, Nat.reduceLeDiff, Nat.zero_le, Nat.reduceEqDiff, or_true, true_or, false_or, or_false, if_true, if_false, gI_0, gI_1, gI_2, gI_3, gI_4, gI_5, gI_6, gI_7, gI_8, gI_9, gI_10, gI_11, gI_12, gI_13, gI_14, gI_15, gL_0, gL_1, gL_2, gL_3, gL_4, gL_5, gL_6, gL_7, gL_8, gL_9, gL_10, gL_11, gL_12, gL_13, gL_14, gL_15, gA_0, gA_1, gA_2, gA_3, gA_4, gA_5, gA_6, gA_7, gA_8, gA_9, gA_10, gA_11, gA_12, gA_13, gA_14, gA_15, p1_0, p1_1, p1_2, p1_3, p1_4, p1_5, p1_6, p1_7, p1_8, p1_9, p1_10, p1_11, p1_12, p1_13, p1_14, p1_15, p2_0, p2_1, p2_2, p2_3, p2_4, p2_5, p2_6, p2_7, p2_8, p2_9, p2_10, p2_11, p2_12, p2_13, p2_14, p2_15, b01_ok, b_ft, b_tf, b01_e0, b01_e1, lgc_0, not_true_eq_false, not_false_eq_true, z_hkd_sI, z_hln_sI, z_hL_sI, z_hR_sI, z_hnx_sI, z_hkd_sL, z_hln_sL, z_hI_sL, z_hR_sL, z_hnx_sL, z_hkd_sR, z_hln_sR, z_hI_sR, z_hL_sR, z_hnx_sR, z_hkd_cI, z_hln_cI, z_hL_cI, z_hR_cI, z_hnx_cI, z_hkd_cLg, z_hln_cLg, z_hI_cLg, z_hR_cLg, z_hnx_cLg, bk1, n1, Int32.le_refl, sb]
      have m2 : Fm (v + 6) 6 h (sI h1 (v + 6) 0 (nI (notOf p (vb S)).length)) := (m1.wide (by omega) (by omega)).sI (Nat.le_refl _) (by omega)
      refine kk _ (m2.wide (by omega) (by omega)) (RV_b q m2 (by rw [hI_sI_eq, up_at]) ?_) (fv.kept m2 (by omega))
      rw [lt5_sI (by omega)]
      exact r1
    | succ n ih =>
      intro i h1 hi m1 r1 e1
      have il : i < (vb S).length := by omega
      have hj : (vb S)[i]? = some ((vb S)[i]) := List.getElem?_eq_getElem il
      have gf := (g.b (List.mem_of_getElem? hj)).1
      have p24 : i < 24 := by omega
      have p31 : i < 2 ^ 31 := by omega
      have bk1 := bk.kept m1.2.1 m1.2.2.1 m1.2.2.2.1
      have bk1' := bk1
      unfold BK at bk1'
      have n1 : hI h1 (v + 6) 0 = nI (vb S).length := by rw [(m1.1 (v + 6) (by omega)).1]; exact q.m
      have z : ¬ nI (vb S).length ≤ nI i := nI_ge (by omega) (by omega)
      have ei : lt5 h1 (v + 6) i = enc (vb S)[i] := by rw [e1 i (Nat.le_refl _)]; exact q.b i _ hj
      have f1 : hI h1 (v + 6 + 1) i = nI (lF (vb S)[i]) := by
        unfold lt5 enc at ei
        injection ei
      have tl : (notOf p ((vb S).take i)).length ≤ i := by
        have := @notOf_len p ((vb S).take i)
        rw [List.length_take] at this
        omega
      have ts : notOf p ((vb S).take (i + 1)) = if lF (vb S)[i] = p then notOf p ((vb S).take i) else notOf p ((vb S).take i) ++ [(vb S)[i]] := by
        unfold notOf
        rw [take_s il, List.filter_append]
        by_cases e : lF (vb S)[i] = p
        · simp [e]
        · simp [e]
      rw [s137_4]
      simp only [s137_0, s137_1, s137_2, s137_3, s137_5, s137_6, s137_9, s137_12, s137_13, s137_16, s137_17, s137_18, s137_19, s137_22, s137_23, s137_24, s137_25, s137_26, s137_29, s137_32, s137_35, s137_38, s137_39, s137_42, s137_43, s137_44, s137_45, s137_46, s137_47, s137_50, s137_51, oB_some, cl2_i, cl2_r, cl2_l, cl2_u, cl2_s, wd_0, wd_i, wd_r, wd_l, wd_f, ct_i, ct_r, ct_n, ct_f, rf_s, rf_n, tl_s, tl_n, true_and, and_true, eq_self, and_self, Nat.reduceAdd, Nat.reduceLeDiff, Nat.zero_le, Nat.reduceEqDiff, or_true, true_or, false_or, or_false, if_true, if_false, gI_0, gI_1, gI_2, gI_3, gI_4, gI_5, gI_6, gI_7, gI_8, gI_9, gI_10, gI_11, gI_12, gI_13, gI_14, gI_15, gL_0, gL_1, gL_2, gL_3, gL_4, gL_5, gL_6, gL_7, gL_8, gL_9, gL_10, gL_11, gL_12, gL_13, gL_14, gL_15, gA_0, gA_1, gA_2, gA_3, gA_4, gA_5, gA_6, gA_7, gA_8, gA_9, gA_10, gA_11, gA_12, gA_13, gA_14, gA_15, p1_0, p1_1, p1_2, p1_3, p1_4, p1_5, p1_6, p1_7, p1_8, p1_9, p1_10, p1_11, p1_12, p1_13, p1_14, p1_15, p2_0, p2_1, p2_2, p2_3, p2_4, p2_5, p2_6, p2_7, p2_8, p2_9, p2_10, p2_11, p2_12, p2_13, p2_14, p2_15, b01_ok, b_ft, b_tf, b01_e0, b01_e1, lgc_0, not_true_eq_false, not_false_eq_true, bk1', n1, z, f1, ix_nI p31, nI_pos' p31, p24, eqP (show lF (vb S)[i] < 2 ^ 31 by omega) hp, v_put bk1 bk1 (show (notOf p ((vb S).take i)).length < 24 by omega) p24, nI_1]
      by_cases e : lF (vb S)[i] = p
      · rw [if_pos e]
        rw [if_pos e] at ts
        have := ih (i + 1) h1 (by omega) m1 (by rw [ts]; exact r1) (fun j hj => e1 j (by omega))
        rw [ts] at this
        exact this
      · rw [if_neg e]
        rw [if_neg e] at ts
        have m2 : Fm (v + 7) 5 h (putB h1 (v + 6) (notOf p ((vb S).take i)).length (v + 6) i) := m1.tr (putB_fm (by omega) (by omega))
        have l2 := putB_lt (h := h1) (g := v + 6) (g2 := v + 6) (p := (notOf p ((vb S).take i)).length) (q := i) (Or.inl rfl)
        have := ih (i + 1) _ (by omega) m2 (by
          rw [ts, l2]
          refine r1.push (fun j hj => up_ne (by omega)) ?_
          rw [up_at]
          exact ei) (fun j hj => by rw [l2, up_ne (by omega)]; exact e1 j (by omega))
        rw [ts, List.length_append] at this
        exact this
  simp only [e137, s137_0, s137_1, s137_2, s137_3, s137_5, s137_6, s137_9, s137_12, s137_13, s137_16, s137_17, s137_18, s137_19, s137_22, s137_23, s137_24, s137_25, s137_26, s137_29, s137_32, s137_35, s137_38, s137_39, s137_42, s137_43, s137_44, s137_45, s137_46, s137_47, s137_50, s137_51, oB_some, cl2_i, cl2_r, cl2_l, cl2_u, cl2_s, wd_0, wd_i, wd_r, wd_l, wd_f, ct_i, ct_r, ct_n, ct_f, rf_s, rf_n, tl_s, tl_n, true_and, and_true, eq_self, and_self, Nat.reduceAdd, Nat.reduceLeDiff, Nat.zero_le, Nat.reduceEqDiff, or_true, true_or, false_or, or_false, if_true, if_false, gI_0, gI_1, gI_2, gI_3, gI_4, gI_5, gI_6, gI_7, gI_8, gI_9, gI_10, gI_11, gI_12, gI_13, gI_14, gI_15, gL_0, gL_1, gL_2, gL_3, gL_4, gL_5, gL_6, gL_7, gL_8, gL_9, gL_10, gL_11, gL_12, gL_13, gL_14, gL_15, gA_0, gA_1, gA_2, gA_3, gA_4, gA_5, gA_6, gA_7, gA_8, gA_9, gA_10, gA_11, gA_12, gA_13, gA_14, gA_15, p1_0, p1_1, p1_2, p1_3, p1_4, p1_5, p1_6, p1_7, p1_8, p1_9, p1_10, p1_11, p1_12, p1_13, p1_14, p1_15, p2_0, p2_1, p2_2, p2_3, p2_4, p2_5, p2_6, p2_7, p2_8, p2_9, p2_10, p2_11, p2_12, p2_13, p2_14, p2_15, b01_ok, b_ft, b_tf, b01_e0, b01_e1, lgc_0, not_true_eq_false, not_false_eq_true]
  exact loop (vb S).length 0 h (by omega) Fm.rf (by rw [List.take_zero]; exact RL5.nil) (fun _ _ => rfl)
def ofL (l : Ltr) (w : Nat) : Int32 := if w = 0 then nI (lF l) else if w = 1 then nI (lT l) else if w = 2 then nI (lD l) else if w = 3 then nI (lP l) else if w = 4 then nI (nb (lC l)) else if w = 5 then oN (lst (lC l) 0) else oN (grt (lC l))
set_option maxHeartbeats 4000000 in
theorem v_ofLetter {d : Nat} {Q : PQ} {h : HP} {v j w : Nat} {S : VS} {l : Ltr} (q : RV h v S) (g : Good S) (hj : (vb S)[j]? = some l) (hw : w < 7) : Ev (d + 2) 122 [.ref (v + 6), .int (nI j), .int (nI w)] h Q = Q (some (.int (ofL l w))) h := by
  have K := q.k
  unfold VK at K
  have gl := g.l
  obtain ⟨a1, a2, a3, a4, a5⟩ := q.lt hj
  obtain ⟨l1, l2, l3, l4, l5, l6⟩ := g.b (List.mem_of_getElem? hj)
  have j24 : j < 24 := by have := (List.getElem?_eq_some_iff.mp hj).1; omega
  have j31 : j < 2 ^ 31 := by omega
  have lf : ∀ (Q2 : PQ), Ev (d + 1) 118 [.long (lC l), .int 0] h Q2 = Q2 (some (.int (oN (lst (lC l) 0)))) h := fun Q2 => v_leastFrom (f := 0) (by decide)
  rcases (show w = 0 ∨ w = 1 ∨ w = 2 ∨ w = 3 ∨ w = 4 ∨ w = 5 ∨ w = 6 by omega) with rfl | rfl | rfl | rfl | rfl | rfl | rfl
  all_goals simp only [e122, s122_0, s122_1, s122_40, s122_41, s122_44, s122_45, s122_46, s122_47, s122_48, s122_51, s122_52, s122_53, s122_54, s122_55, s122_58, s122_59, s122_60, s122_61, s122_62, s122_65, s122_66, s122_67, s122_68, s122_69, s122_72, s122_73, s122_74, s122_77, s122_78, s122_79, s122_82, s122_83, s122_84, s122_85, s122_88, s122_89, s122_90, s122_93, s122_94, s122_95, s122_98, oB_some, cl2_i, cl2_r, cl2_l, cl2_u, cl2_s, wd_0, wd_i, wd_r, wd_l, wd_f, ct_i, ct_r, ct_n, ct_f, rf_s, rf_n, tl_s, tl_n, true_and, and_true, eq_self, and_self, Nat.reduceAdd, Nat.reduceLeDiff, Nat.zero_le, Nat.reduceEqDiff, or_true, true_or, false_or, or_false, if_true, if_false, gI_0, gI_1, gI_2, gI_3, gI_4, gI_5, gI_6, gI_7, gI_8, gI_9, gI_10, gI_11, gI_12, gI_13, gI_14, gI_15, gL_0, gL_1, gL_2, gL_3, gL_4, gL_5, gL_6, gL_7, gL_8, gL_9, gL_10, gL_11, gL_12, gL_13, gL_14, gL_15, gA_0, gA_1, gA_2, gA_3, gA_4, gA_5, gA_6, gA_7, gA_8, gA_9, gA_10, gA_11, gA_12, gA_13, gA_14, gA_15, p1_0, p1_1, p1_2, p1_3, p1_4, p1_5, p1_6, p1_7, p1_8, p1_9, p1_10, p1_11, p1_12, p1_13, p1_14, p1_15, p2_0, p2_1, p2_2, p2_3, p2_4, p2_5, p2_6, p2_7, p2_8, p2_9, p2_10, p2_11, p2_12, p2_13, p2_14, p2_15, b01_ok, b_ft, b_tf, b01_e0, b01_e1, lgc_0, not_true_eq_false, not_false_eq_true, K, a1, a2, a3, a4, a5, ix_nI j31, nI_pos' j31, j24, v_bitCount l6, lf, v_greatest]
  all_goals rfl
