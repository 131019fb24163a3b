-- what one statement does: a common account, and the one side
def dg (tp : Nat → Nat) (i : Nat) : Nat := tp i - 48
def dd (tp : Nat → Nat) (i : Nat) : Nat := 10 * dg tp i + dg tp (i + 1)
def tl1 (tp : Nat → Nat) (S : VS) (i : Nat) : Option VS :=
  if tp i = 112 then (if 7 < dg tp (i + 1) ∨ vn S = 6 then none else some (come S (dg tp (i + 1)) (dg tp (i + 2))))
  else if tp i = 102 then (if vn S ≤ dg tp (i + 1) ∨ 5 < dg tp (i + 2) then none else some (wR S (dg tp (i + 1)) (dg tp (i + 2))))
  else if tp i = 107 then (if vn S ≤ dg tp (i + 1) ∨ 39 < dd tp (i + 2) then none else some (wW S (dg tp (i + 1)) (vw S (dg tp (i + 1)) ||| bL (dd tp (i + 2)))))
  else if tp i = 115 then (if 39 < dd tp (i + 1) then none else some (wS S (vs S ||| bL (dd tp (i + 1)))))
  else if tp i = 120 then (if 39 < dd tp (i + 1) then none else some (wO S (vo S ^^^ bL (dd tp (i + 1)))))
  else if tp i = 114 then (if 18 < dd tp (i + 1) then none else some (wU S (dd tp (i + 1))))
  else (if 1 ≤ dd tp (i + 1) ∧ dd tp (i + 1) ≤ 60 ∧ vy S + dd tp (i + 1) ≤ 999 then some (dayN 0 false false (dd tp (i + 1)) S) else none)
theorem isDg_b {c : Nat} (hd : isDg c = true) : 48 ≤ c ∧ c ≤ 57 := by
  unfold isDg at hd
  simp only [Bool.not_eq_true', Bool.or_eq_false_iff, decide_eq_false_iff_not] at hd
  omega
theorem dg_le {tp : Nat → Nat} {i : Nat} (hd : isDg (tp i) = true) : dg tp i ≤ 9 := by
  have := isDg_b hd
  unfold dg
  omega
theorem mulTen : ∀ a, a ≤ 9 → (10 : Int32) * nI a = nI (10 * a) := fun a ha => by
  obtain rfl | rfl | rfl | rfl | rfl | rfl | rfl | rfl | rfl | rfl : a = 0 ∨ a = 1 ∨ a = 2 ∨ a = 3 ∨ a = 4 ∨ a = 5 ∨ a = 6 ∨ a = 7 ∨ a = 8 ∨ a = 9 := by omega
  all_goals decide
theorem v_digit {d i tl : Nat} {tp : Nat → Nat} {Q : PQ} {h : HP} {x : Nat} (K : XK h x) (T : XT h x tp tl) (hi : i < tl) (hd : isDg (tp i) = true) : Ev (d + 1) 27 [.ref (x + 3), .int (nI i)] h Q = Q (some (.int (nI (dg tp i)))) h := by
  unfold XK at K
  obtain ⟨t1, t2, t3⟩ := T
  have i31 : i < 2 ^ 31 := by omega
  have i96 : i < 96 := by omega
  obtain ⟨ti, tb⟩ := t3 i hi
  have b := isDg_b hd
  have e : nI (tp i) - 48 = nI (dg tp i) := pk_sub (b := 48) (by omega)
  have a0 : ((96 : Int32) ≤ nI i) = False := eq_false (nI_ge (b := 96) i96 (by decide))
  simp only [e27, s27_0, s27_1, s27_3, s27_6, s27_7, s27_10, s27_11, s27_12, s27_14, s27_15, s27_18, s27_19, oB_some, cl2_i, cl2_r, cl2_l, cl2_u, cl2_s, wd_0, wd_i, wd_r, wd_l, wd_f, ct_i, ct_r, ct_n, ct_f, rf_s, rf_n, tl_s, tl_n, true_and, and_true, eq_self, and_self, Nat.reduceAdd, Nat.reduceLeDiff, Nat.zero_le, Nat.reduceEqDiff, or_true, true_or, false_or, or_false, if_true, if_false, gI_0, gI_1, gI_2, gI_3, gI_4, gI_5, gI_6, gI_7, gI_8, gI_9, gI_10, gI_11, gI_12, gI_13, gI_14, gI_15, gL_0, gL_1, gL_2, gL_3, gL_4, gL_5, gL_6, gL_7, gL_8, gL_9, gL_10, gL_11, gL_12, gL_13, gL_14, gL_15, gA_0, gA_1, gA_2, gA_3, gA_4, gA_5, gA_6, gA_7, gA_8, gA_9, gA_10, gA_11, gA_12, gA_13, gA_14, gA_15, p1_0, p1_1, p1_2, p1_3, p1_4, p1_5, p1_6, p1_7, p1_8, p1_9, p1_10, p1_11, p1_12, p1_13, p1_14, p1_15, p2_0, p2_1, p2_2, p2_3, p2_4, p2_5, p2_6, p2_7, p2_8, p2_9, p2_10, p2_11, p2_12, p2_13, p2_14, p2_15, K, a0, ix_nI i31, nI_pos' i31, i96, ti, e]
theorem v_twoDigits {d i tl : Nat} {tp : Nat → Nat} {Q : PQ} {h : HP} {x : Nat} (K : XK h x) (T : XT h x tp tl) (hi : i + 1 < tl) (hd : isDg (tp i) = true) (hd2 : isDg (tp (i + 1)) = true) : Ev (d + 2) 28 [.ref (x + 3), .int (nI i)] h Q = Q (some (.int (nI (dd tp i)))) h := by
  have K0 := K
  unfold XK at K0
  simp only [e28, s28_0, s28_2, s28_3, s28_4, s28_7, s28_8, s28_9, s28_10, s28_11, s28_12, s28_15, s28_16, oB_some, cl2_i, cl2_r, cl2_l, cl2_u, cl2_s, wd_0, wd_i, wd_r, wd_l, wd_f, ct_i, ct_r, ct_n, ct_f, rf_s, rf_n, tl_s, tl_n, true_and, and_true, eq_self, and_self, Nat.reduceAdd, Nat.reduceLeDiff, Nat.zero_le, Nat.reduceEqDiff, or_true, true_or, false_or, or_false, if_true, if_false, gI_0, gI_1, gI_2, gI_3, gI_4, gI_5, gI_6, gI_7, gI_8, gI_9, gI_10, gI_11, gI_12, gI_13, gI_14, gI_15, gL_0, gL_1, gL_2, gL_3, gL_4, gL_5, gL_6, gL_7, gL_8, gL_9, gL_10, gL_11, gL_12, gL_13, gL_14, gL_15, gA_0, gA_1, gA_2, gA_3, gA_4, gA_5, gA_6, gA_7, gA_8, gA_9, gA_10, gA_11, gA_12, gA_13, gA_14, gA_15, p1_0, p1_1, p1_2, p1_3, p1_4, p1_5, p1_6, p1_7, p1_8, p1_9, p1_10, p1_11, p1_12, p1_13, p1_14, p1_15, p2_0, p2_1, p2_2, p2_3, p2_4, p2_5, p2_6, p2_7, p2_8, p2_9, p2_10, p2_11, p2_12, p2_13, p2_14, p2_15, K0, v_digit K T (show i < tl by omega) hd, v_digit K T hi hd2, nI_1, mulTen _ (dg_le hd), nI_add]
  rfl
theorem tsw_112 {d : Nat} {Q : PQ} {al : List Slot} {st : List Value} {h : HP} {c s : Nat} : WP d 26 Q (23, al, .int 112 :: st, h, c, s) = WP d 26 Q (112, al, st, h, c, s) := s26_23.trans rfl
theorem tsw_102 {d : Nat} {Q : PQ} {al : List Slot} {st : List Value} {h : HP} {c s : Nat} : WP d 26 Q (23, al, .int 102 :: st, h, c, s) = WP d 26 Q (125, al, st, h, c, s) := s26_23.trans rfl
theorem tsw_107 {d : Nat} {Q : PQ} {al : List Slot} {st : List Value} {h : HP} {c s : Nat} : WP d 26 Q (23, al, .int 107 :: st, h, c, s) = WP d 26 Q (138, al, st, h, c, s) := s26_23.trans rfl
theorem tsw_115 {d : Nat} {Q : PQ} {al : List Slot} {st : List Value} {h : HP} {c s : Nat} : WP d 26 Q (23, al, .int 115 :: st, h, c, s) = WP d 26 Q (167, al, st, h, c, s) := s26_23.trans rfl
theorem tsw_120 {d : Nat} {Q : PQ} {al : List Slot} {st : List Value} {h : HP} {c s : Nat} : WP d 26 Q (23, al, .int 120 :: st, h, c, s) = WP d 26 Q (175, al, st, h, c, s) := s26_23.trans rfl
theorem tsw_114 {d : Nat} {Q : PQ} {al : List Slot} {st : List Value} {h : HP} {c s : Nat} : WP d 26 Q (23, al, .int 114 :: st, h, c, s) = WP d 26 Q (182, al, st, h, c, s) := s26_23.trans rfl
theorem tsw_100 {d : Nat} {Q : PQ} {al : List Slot} {st : List Value} {h : HP} {c s : Nat} : WP d 26 Q (23, al, .int 100 :: st, h, c, s) = WP d 26 Q (189, al, st, h, c, s) := s26_23.trans rfl
theorem lb7 {c : Nat} (h : ¬ lbN c = 0) : c = 112 ∨ c = 102 ∨ c = 107 ∨ c = 115 ∨ c = 120 ∨ c = 114 ∨ c = 100 := by
  unfold lbN at h
  split at h
  · omega
  · split at h <;> omega
set_option maxHeartbeats 8000000 in
theorem v_tell {d i tl v : Nat} {tp : Nat → Nat} {Q : PQ} {h : HP} {x : Nat} {S : VS} (K : XK h x) (T : XT h x tp tl) (hi : i + 3 < tl) (hl : ¬ lbN (tp i) = 0) (d1 : isDg (tp (i + 1)) = true) (d2 : isDg (tp (i + 2)) = true) (d3 : tp i = 107 → isDg (tp (i + 3)) = true)
    (q : RV h v S) (gS : GV S) (f : FV h v 0 false false)
    (k0 : tl1 tp S i = none → Q (some (.int 0)) h)
    (k : ∀ S', tl1 tp S i = some S' → ∀ h', Fm v 12 h h' → RV h' v S' → FV h' v 0 false false → Q (some (.int 1)) h') : Ev (d + 6) 26 [.ref (x + 3), .ref v, .int (nI i)] h Q := by
  have K0 := K
  unfold XK at K0
  have V := q.k
  unfold VK at V
  have g := gS.1
  have hy := gS.2
  have gn := g.n
  have i31 : i < 2 ^ 31 := by have := T.2.1; omega
  have i96 : i < 96 := by have := T.2.1; omega
  obtain ⟨ti, tb⟩ := T.2.2 i (by omega)
  have a1 := dg_le d1
  have a2 := dg_le d2
  have s1 : nI i + 1 = nI (i + 1) := nI_add i 1
  have s2 : nI i + 2 = nI (i + 2) := nI_add i 2
  have w1 : dd tp (i + 1) ≤ 99 := by unfold dd; rw [show i + 1 + 1 = i + 2 from rfl]; omega
  have r1 : (nI (dd tp (i + 1)) ≤ 39) = (dd tp (i + 1) ≤ 39) := propext (nI_leI (b := 39) (by omega) (by decide))
  have r2 : (nI (dd tp (i + 1)) ≤ 18) = (dd tp (i + 1) ≤ 18) := propext (nI_leI (b := 18) (by omega) (by decide))
  have r3 : (nI (dg tp (i + 2)) ≤ 5) = (dg tp (i + 2) ≤ 5) := propext (nI_leI (b := 5) (by omega) (by decide))
  have r4 : (decide (dg tp (i + 1) < vn S) = false) = (vn S ≤ dg tp (i + 1)) := propext (decide_eq_false_iff_not.trans Nat.not_lt)
  have r5 : (nI (dg tp (i + 1)) < 0) = False := eq_false (fun z => Nat.not_lt_zero _ ((nI_ltI (b := 0) (by omega) (by decide)).mp z))
  have r6 : ((7 : Int32) < nI (dg tp (i + 1))) = (7 < dg tp (i + 1)) := ltP (a := 7) (by decide) (by omega)
  have r7 : (nI (vn S) < 6) = (vn S < 6) := ltP (b := 6) (by omega) (by decide)
  have digs := fun {d : Nat} {Q : PQ} => v_digit (d := d) (Q := Q) K T (show i + 1 < tl by omega) d1
  have digs2 := fun {d : Nat} {Q : PQ} => v_digit (d := d) (Q := Q) K T (show i + 2 < tl by omega) d2
  have two := fun {d : Nat} {Q : PQ} => v_twoDigits (d := d) (Q := Q) K T (i := i + 1) (show i + 1 + 1 < tl by omega) d1 d2
  have hps := fun {d : Nat} {Q : PQ} => v_hasPerson (d := d) (Q := Q) q g (show dg tp (i + 1) < 2 ^ 31 by omega)
  unfold tl1 at k0 k
  rcases lb7 hl with e | e | e | e | e | e | e
  · rw [e] at ti
    have ti' : hI h (x + 4) i = 112 := ti
    simp only [e, if_true] at k0 k
    simp only [e26, s26_0, s26_1, s26_2, s26_3, s26_4, s26_7, s26_8, s26_9, s26_10, s26_11, s26_12, s26_15, s26_17, s26_18, s26_21, s26_22, s26_112, s26_113, s26_114, s26_115, s26_116, s26_117, s26_118, s26_121, s26_124, tsw_112, oB_some, cl2_i, cl2_r, cl2_l, cl2_u, cl2_s, wd_0, wd_i, wd_r, wd_l, wd_f, ct_i, ct_r, ct_n, ct_f, rf_s, rf_n, tl_s, tl_n, true_and, and_true, eq_self, and_self, Nat.reduceAdd, Nat.reduceLeDiff, Nat.zero_le, Nat.reduceEqDiff, or_true, true_or, false_or, or_false, if_true, if_false, gI_0, gI_1, gI_2, gI_3, gI_4, gI_5, gI_6, gI_7, gI_8, gI_9, gI_10, gI_11, gI_12, gI_13, gI_14, gI_15, gL_0, gL_1, gL_2, gL_3, gL_4, gL_5, gL_6, gL_7, gL_8, gL_9, gL_10, gL_11, gL_12, gL_13, gL_14, gL_15, gA_0, gA_1, gA_2, gA_3, gA_4, gA_5, gA_6, gA_7, gA_8, gA_9, gA_10, gA_11, gA_12, gA_13, gA_14, gA_15, p1_0, p1_1, p1_2, p1_3, p1_4, p1_5, p1_6, p1_7, p1_8, p1_9, p1_10, p1_11, p1_12, p1_13, p1_14, p1_15, p2_0, p2_1, p2_2, p2_3, p2_4, p2_5, p2_6, p2_7, p2_8, p2_9, p2_10, p2_11, p2_12, p2_13, p2_14, p2_15, K0, s1, s2, digs, digs2, two, ix_nI i31, nI_pos' i31, i96, ti', e29, s29_0, s29_1, s29_4, s29_7, s29_8, s29_11, s29_13, s29_16, s29_17, b01_ok, b_ft, b_tf, b01_e0, b01_e1, lgc_0, not_true_eq_false, not_false_eq_true, v_isOne, r5, r6, V, q.n, r7, decide_false, Bool.false_or]
    by_cases h7 : 7 < dg tp (i + 1)
    · simp only [h7, decide_true, Bool.not_true, b01_f, not_true_eq_false, if_false, if_true]
      exact k0 (by simp [h7])
    · by_cases h6 : vn S = 6
      · have h6' : ¬ vn S < 6 := by omega
        simp only [h7, h6', Bool.true_eq_false, decide_false, Bool.not_false, b01_t, not_false_eq_true, if_false, if_true, s29_0, s29_1, s29_4, s29_7, s29_8, s29_11, s29_13, s29_16, s29_17, oB_some, cl2_i, cl2_r, cl2_l, cl2_u, cl2_s, wd_0, wd_i, wd_r, wd_l, wd_f, ct_i, ct_r, ct_n, ct_f, rf_s, rf_n, tl_s, tl_n, true_and, and_true, eq_self, and_self, Nat.reduceAdd, Nat.reduceLeDiff, Nat.zero_le, Nat.reduceEqDiff, or_true, true_or, false_or, or_false, if_true, if_false, gI_0, gI_1, gI_2, gI_3, gI_4, gI_5, gI_6, gI_7, gI_8, gI_9, gI_10, gI_11, gI_12, gI_13, gI_14, gI_15, gL_0, gL_1, gL_2, gL_3, gL_4, gL_5, gL_6, gL_7, gL_8, gL_9, gL_10, gL_11, gL_12, gL_13, gL_14, gL_15, gA_0, gA_1, gA_2, gA_3, gA_4, gA_5, gA_6, gA_7, gA_8, gA_9, gA_10, gA_11, gA_12, gA_13, gA_14, gA_15, p1_0, p1_1, p1_2, p1_3, p1_4, p1_5, p1_6, p1_7, p1_8, p1_9, p1_10, p1_11, p1_12, p1_13, p1_14, p1_15, p2_0, p2_1, p2_2, p2_3, p2_4, p2_5, p2_6, p2_7, p2_8, p2_9, p2_10, p2_11, p2_12, p2_13, p2_14, p2_15]
        exact k0 (by simp [h6])
      · have h6' : vn S < 6 := by omega
        simp only [h7, h6', Bool.true_eq_false, decide_false, Bool.not_false, b01_t, not_false_eq_true, if_false, if_true, s29_0, s29_1, s29_4, s29_7, s29_8, s29_11, s29_13, s29_16, s29_17, s29_18, s29_19, s29_20, s29_21, oB_some, cl2_i, cl2_r, cl2_l, cl2_u, cl2_s, wd_0, wd_i, wd_r, wd_l, wd_f, ct_i, ct_r, ct_n, ct_f, rf_s, rf_n, tl_s, tl_n, true_and, and_true, eq_self, and_self, Nat.reduceAdd, Nat.reduceLeDiff, Nat.zero_le, Nat.reduceEqDiff, or_true, true_or, false_or, or_false, if_true, if_false, gI_0, gI_1, gI_2, gI_3, gI_4, gI_5, gI_6, gI_7, gI_8, gI_9, gI_10, gI_11, gI_12, gI_13, gI_14, gI_15, gL_0, gL_1, gL_2, gL_3, gL_4, gL_5, gL_6, gL_7, gL_8, gL_9, gL_10, gL_11, gL_12, gL_13, gL_14, gL_15, gA_0, gA_1, gA_2, gA_3, gA_4, gA_5, gA_6, gA_7, gA_8, gA_9, gA_10, gA_11, gA_12, gA_13, gA_14, gA_15, p1_0, p1_1, p1_2, p1_3, p1_4, p1_5, p1_6, p1_7, p1_8, p1_9, p1_10, p1_11, p1_12, p1_13, p1_14, p1_15, p2_0, p2_1, p2_2, p2_3, p2_4, p2_5, p2_6, p2_7, p2_8, p2_9, p2_10, p2_11, p2_12, p2_13, p2_14, p2_15, V]
        refine v_letCome q g f (by omega) fun h2 m2 q2 f2 => ?_
        simp only [s29_24, s29_25, s29_26, s26_124, oB_some, cl2_i, cl2_r, cl2_l, cl2_u, cl2_s, wd_0, wd_i, wd_r, wd_l, wd_f, ct_i, ct_r, ct_n, ct_f, rf_s, rf_n, tl_s, tl_n, true_and, and_true, eq_self, and_self, Nat.reduceAdd, Nat.reduceLeDiff, Nat.zero_le, Nat.reduceEqDiff, or_true, true_or, false_or, or_false, if_true, if_false, gI_0, gI_1, gI_2, gI_3, gI_4, gI_5, gI_6, gI_7, gI_8, gI_9, gI_10, gI_11, gI_12, gI_13, gI_14, gI_15, gL_0, gL_1, gL_2, gL_3, gL_4, gL_5, gL_6, gL_7, gL_8, gL_9, gL_10, gL_11, gL_12, gL_13, gL_14, gL_15, gA_0, gA_1, gA_2, gA_3, gA_4, gA_5, gA_6, gA_7, gA_8, gA_9, gA_10, gA_11, gA_12, gA_13, gA_14, gA_15, p1_0, p1_1, p1_2, p1_3, p1_4, p1_5, p1_6, p1_7, p1_8, p1_9, p1_10, p1_11, p1_12, p1_13, p1_14, p1_15, p2_0, p2_1, p2_2, p2_3, p2_4, p2_5, p2_6, p2_7, p2_8, p2_9, p2_10, p2_11, p2_12, p2_13, p2_14, p2_15]
        exact k _ (by simp [h7, h6]) h2 m2 q2 f2
  · rw [e] at ti
    have ti' : hI h (x + 4) i = 102 := ti
    simp only [e, Nat.reduceEqDiff, if_true, if_false] at k0 k
    simp only [e26, s26_0, s26_1, s26_2, s26_3, s26_4, s26_7, s26_8, s26_9, s26_10, s26_11, s26_12, s26_15, s26_17, s26_18, s26_21, s26_22, tsw_102, oB_some, cl2_i, cl2_r, cl2_l, cl2_u, cl2_s, wd_0, wd_i, wd_r, wd_l, wd_f, ct_i, ct_r, ct_n, ct_f, rf_s, rf_n, tl_s, tl_n, true_and, and_true, eq_self, and_self, Nat.reduceAdd, Nat.reduceLeDiff, Nat.zero_le, Nat.reduceEqDiff, or_true, true_or, false_or, or_false, if_true, if_false, gI_0, gI_1, gI_2, gI_3, gI_4, gI_5, gI_6, gI_7, gI_8, gI_9, gI_10, gI_11, gI_12, gI_13, gI_14, gI_15, gL_0, gL_1, gL_2, gL_3, gL_4, gL_5, gL_6, gL_7, gL_8, gL_9, gL_10, gL_11, gL_12, gL_13, gL_14, gL_15, gA_0, gA_1, gA_2, gA_3, gA_4, gA_5, gA_6, gA_7, gA_8, gA_9, gA_10, gA_11, gA_12, gA_13, gA_14, gA_15, p1_0, p1_1, p1_2, p1_3, p1_4, p1_5, p1_6, p1_7, p1_8, p1_9, p1_10, p1_11, p1_12, p1_13, p1_14, p1_15, p2_0, p2_1, p2_2, p2_3, p2_4, p2_5, p2_6, p2_7, p2_8, p2_9, p2_10, p2_11, p2_12, p2_13, p2_14, p2_15, K0, s1, s2, digs, digs2, two, ix_nI i31, nI_pos' i31, i96, ti', s26_125, s26_126, s26_127, s26_128, s26_129, s26_130, s26_131, s26_134, s26_137, e32, s32_0, s32_1, s32_2, s32_5, s32_8, s32_9, s32_10, s32_13, s32_14, s32_15, s32_16, s32_19, s32_20, s32_21, s32_22, s32_23, b01_ok, b_ft, b_tf, b01_e0, b01_e1, lgc_0, not_true_eq_false, not_false_eq_true, V, z_hkd_sI, z_hln_sI, z_hL_sI, z_hR_sI, z_hnx_sI, z_hkd_sL, z_hln_sL, z_hI_sL, z_hR_sL, z_hnx_sL, z_hkd_sR, z_hln_sR, z_hI_sR, z_hL_sR, z_hnx_sR, z_hkd_cI, z_hln_cI, z_hL_cI, z_hR_cI, z_hnx_cI, z_hkd_cLg, z_hln_cLg, z_hI_cLg, z_hR_cLg, z_hnx_cLg, hps, r3, r4, if_true]
    by_cases h7 : vn S ≤ dg tp (i + 1)
    · simp only [h7, if_true]
      exact k0 (by simp [h7])
    · by_cases h6 : 5 < dg tp (i + 2)
      · simp only [h7, Nat.not_le.mpr h6, if_true, if_false]
        exact k0 (by simp [h6])
      · have j6 : dg tp (i + 1) < 6 := by omega
        have j31 : dg tp (i + 1) < 2 ^ 31 := by omega
        simp only [h7, Nat.not_lt.mp h6, if_true, if_false, ix_nI j31, nI_pos' j31, j6, true_and]
        exact k _ (by rw [if_neg (by omega)]) _ (Fm.rf.sI (by omega) (by omega)) (RV_r q _ _) (f.sI (Or.inl (by omega)))
  · rw [e] at ti
    have ti' : hI h (x + 4) i = 107 := ti
    simp only [e, Nat.reduceEqDiff, if_true, if_false] at k0 k
    have d3' := d3 e
    have two2 := fun {d : Nat} {Q : PQ} => v_twoDigits (d := d) (Q := Q) K T (i := i + 2) (show i + 2 + 1 < tl by omega) d2 d3'
    have w2 : dd tp (i + 2) ≤ 99 := by
      have := dg_le (i := i + 3) d3'
      unfold dd
      rw [show i + 2 + 1 = i + 3 from rfl]
      omega
    have r8 : (nI (dd tp (i + 2)) ≤ 39) = (dd tp (i + 2) ≤ 39) := propext (nI_leI (b := 39) (by omega) (by decide))
    simp only [e26, s26_0, s26_1, s26_2, s26_3, s26_4, s26_7, s26_8, s26_9, s26_10, s26_11, s26_12, s26_15, s26_17, s26_18, s26_21, s26_22, tsw_107, oB_some, cl2_i, cl2_r, cl2_l, cl2_u, cl2_s, wd_0, wd_i, wd_r, wd_l, wd_f, ct_i, ct_r, ct_n, ct_f, rf_s, rf_n, tl_s, tl_n, true_and, and_true, eq_self, and_self, Nat.reduceAdd, Nat.reduceLeDiff, Nat.zero_le, Nat.reduceEqDiff, or_true, true_or, false_or, or_false, if_true, if_false, gI_0, gI_1, gI_2, gI_3, gI_4, gI_5, gI_6, gI_7, gI_8, gI_9, gI_10, gI_11, gI_12, gI_13, gI_14, gI_15, gL_0, gL_1, gL_2, gL_3, gL_4, gL_5, gL_6, gL_7, gL_8, gL_9, gL_10, gL_11, gL_12, gL_13, gL_14, gL_15, gA_0, gA_1, gA_2, gA_3, gA_4, gA_5, gA_6, gA_7, gA_8, gA_9, gA_10, gA_11, gA_12, gA_13, gA_14, gA_15, p1_0, p1_1, p1_2, p1_3, p1_4, p1_5, p1_6, p1_7, p1_8, p1_9, p1_10, p1_11, p1_12, p1_13, p1_14, p1_15, p2_0, p2_1, p2_2, p2_3, p2_4, p2_5, p2_6, p2_7, p2_8, p2_9, p2_10, p2_11, p2_12, p2_13, p2_14, p2_15, K0, s1, s2, digs, digs2, two, ix_nI i31, nI_pos' i31, i96, ti', s26_138, s26_139, s26_140, s26_143, s26_146, s26_147, s26_148, s26_149, s26_150, s26_151, s26_152, s26_155, b01_ok, b_ft, b_tf, b01_e0, b01_e1, lgc_0, not_true_eq_false, not_false_eq_true, V, hps, r4, two2]
    by_cases h7 : vn S ≤ dg tp (i + 1)
    · simp only [h7, if_true, s26_165, s26_166, oB_some, cl2_i, cl2_r, cl2_l, cl2_u, cl2_s, wd_0, wd_i, wd_r, wd_l, wd_f, ct_i, ct_r, ct_n, ct_f, rf_s, rf_n, tl_s, tl_n, true_and, and_true, eq_self, and_self, Nat.reduceAdd, Nat.reduceLeDiff, Nat.zero_le, Nat.reduceEqDiff, or_true, true_or, false_or, or_false, if_true, if_false, gI_0, gI_1, gI_2, gI_3, gI_4, gI_5, gI_6, gI_7, gI_8, gI_9, gI_10, gI_11, gI_12, gI_13, gI_14, gI_15, gL_0, gL_1, gL_2, gL_3, gL_4, gL_5, gL_6, gL_7, gL_8, gL_9, gL_10, gL_11, gL_12, gL_13, gL_14, gL_15, gA_0, gA_1, gA_2, gA_3, gA_4, gA_5, gA_6, gA_7, gA_8, gA_9, gA_10, gA_11, gA_12, gA_13, gA_14, gA_15, p1_0, p1_1, p1_2, p1_3, p1_4, p1_5, p1_6, p1_7, p1_8, p1_9, p1_10, p1_11, p1_12, p1_13, p1_14, p1_15, p2_0, p2_1, p2_2, p2_3, p2_4, p2_5, p2_6, p2_7, p2_8, p2_9, p2_10, p2_11, p2_12, p2_13, p2_14, p2_15]
      exact k0 (by simp [h7])
    · by_cases h6 : 39 < dd tp (i + 2)
      · simp only [h7, if_false, e34, s34_0, s34_1, s34_3, s34_6, s34_7, s34_8, s34_9, s34_10, s34_11, s34_14, s34_17, s34_18, s26_158, s26_161, s26_162, s26_165, s26_166, oB_some, cl2_i, cl2_r, cl2_l, cl2_u, cl2_s, wd_0, wd_i, wd_r, wd_l, wd_f, ct_i, ct_r, ct_n, ct_f, rf_s, rf_n, tl_s, tl_n, true_and, and_true, eq_self, and_self, Nat.reduceAdd, Nat.reduceLeDiff, Nat.zero_le, Nat.reduceEqDiff, or_true, true_or, false_or, or_false, if_true, if_false, gI_0, gI_1, gI_2, gI_3, gI_4, gI_5, gI_6, gI_7, gI_8, gI_9, gI_10, gI_11, gI_12, gI_13, gI_14, gI_15, gL_0, gL_1, gL_2, gL_3, gL_4, gL_5, gL_6, gL_7, gL_8, gL_9, gL_10, gL_11, gL_12, gL_13, gL_14, gL_15, gA_0, gA_1, gA_2, gA_3, gA_4, gA_5, gA_6, gA_7, gA_8, gA_9, gA_10, gA_11, gA_12, gA_13, gA_14, gA_15, p1_0, p1_1, p1_2, p1_3, p1_4, p1_5, p1_6, p1_7, p1_8, p1_9, p1_10, p1_11, p1_12, p1_13, p1_14, p1_15, p2_0, p2_1, p2_2, p2_3, p2_4, p2_5, p2_6, p2_7, p2_8, p2_9, p2_10, p2_11, p2_12, p2_13, p2_14, p2_15, r8, Nat.not_le.mpr h6, if_true, b01_ok, b_ft, b_tf, b01_e0, b01_e1, lgc_0, not_true_eq_false, not_false_eq_true]
        exact k0 (by simp [h6])
      · simp only [h7, if_false, e34, s34_0, s34_1, s34_3, s34_6, s34_7, s34_8, s34_9, s34_10, s34_11, s34_14, s34_17, s34_18, s26_158, s26_161, s26_162, s26_165, s26_166, oB_some, cl2_i, cl2_r, cl2_l, cl2_u, cl2_s, wd_0, wd_i, wd_r, wd_l, wd_f, ct_i, ct_r, ct_n, ct_f, rf_s, rf_n, tl_s, tl_n, true_and, and_true, eq_self, and_self, Nat.reduceAdd, Nat.reduceLeDiff, Nat.zero_le, Nat.reduceEqDiff, or_true, true_or, false_or, or_false, if_true, if_false, gI_0, gI_1, gI_2, gI_3, gI_4, gI_5, gI_6, gI_7, gI_8, gI_9, gI_10, gI_11, gI_12, gI_13, gI_14, gI_15, gL_0, gL_1, gL_2, gL_3, gL_4, gL_5, gL_6, gL_7, gL_8, gL_9, gL_10, gL_11, gL_12, gL_13, gL_14, gL_15, gA_0, gA_1, gA_2, gA_3, gA_4, gA_5, gA_6, gA_7, gA_8, gA_9, gA_10, gA_11, gA_12, gA_13, gA_14, gA_15, p1_0, p1_1, p1_2, p1_3, p1_4, p1_5, p1_6, p1_7, p1_8, p1_9, p1_10, p1_11, p1_12, p1_13, p1_14, p1_15, p2_0, p2_1, p2_2, p2_3, p2_4, p2_5, p2_6, p2_7, p2_8, p2_9, p2_10, p2_11, p2_12, p2_13, p2_14, p2_15, r8, Nat.not_lt.mp h6, v_only (show dd tp (i + 2) < 64 by omega), v_learn q g (show dg tp (i + 1) < vn S by omega), V, b01_ok, b_ft, b_tf, b01_e0, b01_e1, lgc_0, not_true_eq_false, not_false_eq_true, z10]
        exact k _ (by rw [if_neg (by omega)]) _ (Fm.rf.sL (by omega) (by omega)) (RV_w q _ _) f.sL
  · rw [e] at ti
    have ti' : hI h (x + 4) i = 115 := ti
    simp only [e, Nat.reduceEqDiff, if_true, if_false] at k0 k
    simp only [e26, s26_0, s26_1, s26_2, s26_3, s26_4, s26_7, s26_8, s26_9, s26_10, s26_11, s26_12, s26_15, s26_17, s26_18, s26_21, s26_22, tsw_115, oB_some, cl2_i, cl2_r, cl2_l, cl2_u, cl2_s, wd_0, wd_i, wd_r, wd_l, wd_f, ct_i, ct_r, ct_n, ct_f, rf_s, rf_n, tl_s, tl_n, true_and, and_true, eq_self, and_self, Nat.reduceAdd, Nat.reduceLeDiff, Nat.zero_le, Nat.reduceEqDiff, or_true, true_or, false_or, or_false, if_true, if_false, gI_0, gI_1, gI_2, gI_3, gI_4, gI_5, gI_6, gI_7, gI_8, gI_9, gI_10, gI_11, gI_12, gI_13, gI_14, gI_15, gL_0, gL_1, gL_2, gL_3, gL_4, gL_5, gL_6, gL_7, gL_8, gL_9, gL_10, gL_11, gL_12, gL_13, gL_14, gL_15, gA_0, gA_1, gA_2, gA_3, gA_4, gA_5, gA_6, gA_7, gA_8, gA_9, gA_10, gA_11, gA_12, gA_13, gA_14, gA_15, p1_0, p1_1, p1_2, p1_3, p1_4, p1_5, p1_6, p1_7, p1_8, p1_9, p1_10, p1_11, p1_12, p1_13, p1_14, p1_15, p2_0, p2_1, p2_2, p2_3, p2_4, p2_5, p2_6, p2_7, p2_8, p2_9, p2_10, p2_11, p2_12, p2_13, p2_14, p2_15, K0, s1, s2, digs, digs2, two, ix_nI i31, nI_pos' i31, i96, ti', s26_167, s26_168, s26_169, s26_171, s26_174, e34, s34_0, s34_1, s34_3, s34_6, s34_7, s34_8, s34_9, s34_10, s34_11, s34_14, s34_17, s34_18, b01_ok, b_ft, b_tf, b01_e0, b01_e1, lgc_0, not_true_eq_false, not_false_eq_true, r1]
    by_cases h6 : 39 < dd tp (i + 1)
    · simp only [Nat.not_le.mpr h6, if_false]
      exact k0 (by simp [h6])
    · simp only [Nat.not_lt.mp h6, if_true, v_only (show dd tp (i + 1) < 64 by omega), v_learnS q, V, oB_some, cl2_i, cl2_r, cl2_l, cl2_u, cl2_s, wd_0, wd_i, wd_r, wd_l, wd_f, ct_i, ct_r, ct_n, ct_f, rf_s, rf_n, tl_s, tl_n, true_and, and_true, eq_self, and_self, Nat.reduceAdd, Nat.reduceLeDiff, Nat.zero_le, Nat.reduceEqDiff, or_true, true_or, false_or, or_false, if_true, if_false, gI_0, gI_1, gI_2, gI_3, gI_4, gI_5, gI_6, gI_7, gI_8, gI_9, gI_10, gI_11, gI_12, gI_13, gI_14, gI_15, gL_0, gL_1, gL_2, gL_3, gL_4, gL_5, gL_6, gL_7, gL_8, gL_9, gL_10, gL_11, gL_12, gL_13, gL_14, gL_15, gA_0, gA_1, gA_2, gA_3, gA_4, gA_5, gA_6, gA_7, gA_8, gA_9, gA_10, gA_11, gA_12, gA_13, gA_14, gA_15, p1_0, p1_1, p1_2, p1_3, p1_4, p1_5, p1_6, p1_7, p1_8, p1_9, p1_10, p1_11, p1_12, p1_13, p1_14, p1_15, p2_0, p2_1, p2_2, p2_3, p2_4, p2_5, p2_6, p2_7, p2_8, p2_9, p2_10, p2_11, p2_12, p2_13, p2_14, p2_15, s34_0, s34_1, s34_3, s34_6, s34_7, s34_8, s34_9, s34_10, s34_11, s34_14, s34_17, s34_18, s26_174]
      exact k _ (by rw [if_neg (by omega)]) _ (Fm.rf.sL (by omega) (by omega)) (RV_s q _) f.sL
  · rw [e] at ti
    have ti' : hI h (x + 4) i = 120 := ti
    simp only [e, Nat.reduceEqDiff, if_true, if_false] at k0 k
    simp only [e26, s26_0, s26_1, s26_2, s26_3, s26_4, s26_7, s26_8, s26_9, s26_10, s26_11, s26_12, s26_15, s26_17, s26_18, s26_21, s26_22, tsw_120, oB_some, cl2_i, cl2_r, cl2_l, cl2_u, cl2_s, wd_0, wd_i, wd_r, wd_l, wd_f, ct_i, ct_r, ct_n, ct_f, rf_s, rf_n, tl_s, tl_n, true_and, and_true, eq_self, and_self, Nat.reduceAdd, Nat.reduceLeDiff, Nat.zero_le, Nat.reduceEqDiff, or_true, true_or, false_or, or_false, if_true, if_false, gI_0, gI_1, gI_2, gI_3, gI_4, gI_5, gI_6, gI_7, gI_8, gI_9, gI_10, gI_11, gI_12, gI_13, gI_14, gI_15, gL_0, gL_1, gL_2, gL_3, gL_4, gL_5, gL_6, gL_7, gL_8, gL_9, gL_10, gL_11, gL_12, gL_13, gL_14, gL_15, gA_0, gA_1, gA_2, gA_3, gA_4, gA_5, gA_6, gA_7, gA_8, gA_9, gA_10, gA_11, gA_12, gA_13, gA_14, gA_15, p1_0, p1_1, p1_2, p1_3, p1_4, p1_5, p1_6, p1_7, p1_8, p1_9, p1_10, p1_11, p1_12, p1_13, p1_14, p1_15, p2_0, p2_1, p2_2, p2_3, p2_4, p2_5, p2_6, p2_7, p2_8, p2_9, p2_10, p2_11, p2_12, p2_13, p2_14, p2_15, K0, s1, s2, digs, digs2, two, ix_nI i31, nI_pos' i31, i96, ti', s26_175, s26_176, s26_178, s26_181, e38, s38_0, s38_1, s38_3, s38_6, s38_7, s38_8, s38_9, s38_10, s38_13, s38_14, s38_17, s38_18, s38_21, s38_22, b01_ok, b_ft, b_tf, b01_e0, b01_e1, lgc_0, not_true_eq_false, not_false_eq_true, r1]
    by_cases h6 : 39 < dd tp (i + 1)
    · simp only [Nat.not_le.mpr h6, if_false]
      exact k0 (by simp [h6])
    · simp only [Nat.not_lt.mp h6, if_true, v_only (show dd tp (i + 1) < 64 by omega), q.o, V, oB_some, cl2_i, cl2_r, cl2_l, cl2_u, cl2_s, wd_0, wd_i, wd_r, wd_l, wd_f, ct_i, ct_r, ct_n, ct_f, rf_s, rf_n, tl_s, tl_n, true_and, and_true, eq_self, and_self, Nat.reduceAdd, Nat.reduceLeDiff, Nat.zero_le, Nat.reduceEqDiff, or_true, true_or, false_or, or_false, if_true, if_false, gI_0, gI_1, gI_2, gI_3, gI_4, gI_5, gI_6, gI_7, gI_8, gI_9, gI_10, gI_11, gI_12, gI_13, gI_14, gI_15, gL_0, gL_1, gL_2, gL_3, gL_4, gL_5, gL_6, gL_7, gL_8, gL_9, gL_10, gL_11, gL_12, gL_13, gL_14, gL_15, gA_0, gA_1, gA_2, gA_3, gA_4, gA_5, gA_6, gA_7, gA_8, gA_9, gA_10, gA_11, gA_12, gA_13, gA_14, gA_15, p1_0, p1_1, p1_2, p1_3, p1_4, p1_5, p1_6, p1_7, p1_8, p1_9, p1_10, p1_11, p1_12, p1_13, p1_14, p1_15, p2_0, p2_1, p2_2, p2_3, p2_4, p2_5, p2_6, p2_7, p2_8, p2_9, p2_10, p2_11, p2_12, p2_13, p2_14, p2_15, z_hkd_sI, z_hln_sI, z_hL_sI, z_hR_sI, z_hnx_sI, z_hkd_sL, z_hln_sL, z_hI_sL, z_hR_sL, z_hnx_sL, z_hkd_sR, z_hln_sR, z_hI_sR, z_hL_sR, z_hnx_sR, z_hkd_cI, z_hln_cI, z_hL_cI, z_hR_cI, z_hnx_cI, z_hkd_cLg, z_hln_cLg, z_hI_cLg, z_hR_cLg, z_hnx_cLg, s38_0, s38_1, s38_3, s38_6, s38_7, s38_8, s38_9, s38_10, s38_13, s38_14, s38_17, s38_18, s38_21, s38_22, s26_181]
      exact k _ (by rw [if_neg (by omega)]) _ (Fm.rf.sL (by omega) (by omega)) (RV_o q _) f.sL
  · rw [e] at ti
    have ti' : hI h (x + 4) i = 114 := ti
    simp only [e, Nat.reduceEqDiff, if_true, if_false] at k0 k
    simp only [e26, s26_0, s26_1, s26_2, s26_3, s26_4, s26_7, s26_8, s26_9, s26_10, s26_11, s26_12, s26_15, s26_17, s26_18, s26_21, s26_22, tsw_114, oB_some, cl2_i, cl2_r, cl2_l, cl2_u, cl2_s, wd_0, wd_i, wd_r, wd_l, wd_f, ct_i, ct_r, ct_n, ct_f, rf_s, rf_n, tl_s, tl_n, true_and, and_true, eq_self, and_self, Nat.reduceAdd, Nat.reduceLeDiff, Nat.zero_le, Nat.reduceEqDiff, or_true, true_or, false_or, or_false, if_true, if_false, gI_0, gI_1, gI_2, gI_3, gI_4, gI_5, gI_6, gI_7, gI_8, gI_9, gI_10, gI_11, gI_12, gI_13, gI_14, gI_15, gL_0, gL_1, gL_2, gL_3, gL_4, gL_5, gL_6, gL_7, gL_8, gL_9, gL_10, gL_11, gL_12, gL_13, gL_14, gL_15, gA_0, gA_1, gA_2, gA_3, gA_4, gA_5, gA_6, gA_7, gA_8, gA_9, gA_10, gA_11, gA_12, gA_13, gA_14, gA_15, p1_0, p1_1, p1_2, p1_3, p1_4, p1_5, p1_6, p1_7, p1_8, p1_9, p1_10, p1_11, p1_12, p1_13, p1_14, p1_15, p2_0, p2_1, p2_2, p2_3, p2_4, p2_5, p2_6, p2_7, p2_8, p2_9, p2_10, p2_11, p2_12, p2_13, p2_14, p2_15, K0, s1, s2, digs, digs2, two, ix_nI i31, nI_pos' i31, i96, ti', s26_182, s26_183, s26_185, s26_188, e39, s39_0, s39_1, s39_3, s39_6, s39_7, s39_8, s39_9, s39_10, s39_13, s39_14, b01_ok, b_ft, b_tf, b01_e0, b01_e1, lgc_0, not_true_eq_false, not_false_eq_true, r2]
    by_cases h6 : 18 < dd tp (i + 1)
    · simp only [Nat.not_le.mpr h6, if_false]
      exact k0 (by simp [h6])
    · simp only [Nat.not_lt.mp h6, if_true, V, oB_some, cl2_i, cl2_r, cl2_l, cl2_u, cl2_s, wd_0, wd_i, wd_r, wd_l, wd_f, ct_i, ct_r, ct_n, ct_f, rf_s, rf_n, tl_s, tl_n, true_and, and_true, eq_self, and_self, Nat.reduceAdd, Nat.reduceLeDiff, Nat.zero_le, Nat.reduceEqDiff, or_true, true_or, false_or, or_false, if_true, if_false, gI_0, gI_1, gI_2, gI_3, gI_4, gI_5, gI_6, gI_7, gI_8, gI_9, gI_10, gI_11, gI_12, gI_13, gI_14, gI_15, gL_0, gL_1, gL_2, gL_3, gL_4, gL_5, gL_6, gL_7, gL_8, gL_9, gL_10, gL_11, gL_12, gL_13, gL_14, gL_15, gA_0, gA_1, gA_2, gA_3, gA_4, gA_5, gA_6, gA_7, gA_8, gA_9, gA_10, gA_11, gA_12, gA_13, gA_14, gA_15, p1_0, p1_1, p1_2, p1_3, p1_4, p1_5, p1_6, p1_7, p1_8, p1_9, p1_10, p1_11, p1_12, p1_13, p1_14, p1_15, p2_0, p2_1, p2_2, p2_3, p2_4, p2_5, p2_6, p2_7, p2_8, p2_9, p2_10, p2_11, p2_12, p2_13, p2_14, p2_15, z_hkd_sI, z_hln_sI, z_hL_sI, z_hR_sI, z_hnx_sI, z_hkd_sL, z_hln_sL, z_hI_sL, z_hR_sL, z_hnx_sL, z_hkd_sR, z_hln_sR, z_hI_sR, z_hL_sR, z_hnx_sR, z_hkd_cI, z_hln_cI, z_hL_cI, z_hR_cI, z_hnx_cI, z_hkd_cLg, z_hln_cLg, z_hI_cLg, z_hR_cLg, z_hnx_cLg]
      exact k _ (by rw [if_neg (by omega)]) _ (Fm.rf.sI (by omega) (by omega)) (RV_u q _) (f.sI (Or.inr (by omega)))
  · rw [e] at ti
    have ti' : hI h (x + 4) i = 100 := ti
    simp only [e, Nat.reduceEqDiff, if_true, if_false] at k0 k
    have c1 : (nI (dd tp (i + 1)) < 1) = (dd tp (i + 1) < 1) := ltP (b := 1) (by omega) (by decide)
    have c2 : ((60 : Int32) < nI (dd tp (i + 1))) = (60 < dd tp (i + 1)) := ltP (a := 60) (by decide) (by omega)
    have c3 : nI (vy S) + nI (dd tp (i + 1)) = nI (vy S + dd tp (i + 1)) := nI_add _ _
    have c4 : ((999 : Int32) < nI (vy S + dd tp (i + 1))) = (999 < vy S + dd tp (i + 1)) := ltP (a := 999) (by decide) (by omega)
    simp only [e26, s26_0, s26_1, s26_2, s26_3, s26_4, s26_7, s26_8, s26_9, s26_10, s26_11, s26_12, s26_15, s26_17, s26_18, s26_21, s26_22, tsw_100, oB_some, cl2_i, cl2_r, cl2_l, cl2_u, cl2_s, wd_0, wd_i, wd_r, wd_l, wd_f, ct_i, ct_r, ct_n, ct_f, rf_s, rf_n, tl_s, tl_n, true_and, and_true, eq_self, and_self, Nat.reduceAdd, Nat.reduceLeDiff, Nat.zero_le, Nat.reduceEqDiff, or_true, true_or, false_or, or_false, if_true, if_false, gI_0, gI_1, gI_2, gI_3, gI_4, gI_5, gI_6, gI_7, gI_8, gI_9, gI_10, gI_11, gI_12, gI_13, gI_14, gI_15, gL_0, gL_1, gL_2, gL_3, gL_4, gL_5, gL_6, gL_7, gL_8, gL_9, gL_10, gL_11, gL_12, gL_13, gL_14, gL_15, gA_0, gA_1, gA_2, gA_3, gA_4, gA_5, gA_6, gA_7, gA_8, gA_9, gA_10, gA_11, gA_12, gA_13, gA_14, gA_15, p1_0, p1_1, p1_2, p1_3, p1_4, p1_5, p1_6, p1_7, p1_8, p1_9, p1_10, p1_11, p1_12, p1_13, p1_14, p1_15, p2_0, p2_1, p2_2, p2_3, p2_4, p2_5, p2_6, p2_7, p2_8, p2_9, p2_10, p2_11, p2_12, p2_13, p2_14, p2_15, K0, s1, s2, digs, digs2, two, ix_nI i31, nI_pos' i31, i96, ti', s26_189, s26_190, s26_192, s26_195, s26_198, s26_199, e40, s40_0, s40_1, s40_2, s40_5, s40_6, s40_8, s40_11, s40_12, s40_15, s40_16, s40_17, s40_20, s40_23, s40_24, s40_27, s40_28, b01_ok, b_ft, b_tf, b01_e0, b01_e1, lgc_0, not_true_eq_false, not_false_eq_true, c1, c2, c3, c4, q.y, V]
    by_cases h6 : dd tp (i + 1) < 1
    · simp only [h6, if_true]
      exact k0 (by rw [if_neg (by omega)])
    · by_cases h7 : 60 < dd tp (i + 1)
      · simp only [h6, h7, if_true, if_false]
        exact k0 (by rw [if_neg (by omega)])
      · by_cases h8 : 999 < vy S + dd tp (i + 1)
        · simp only [h6, h7, h8, if_true, if_false]
          exact k0 (by rw [if_neg (by omega)])
        · simp only [h6, h7, h8, if_false, z10, not_false_eq_true, if_true, s26_200, s26_201, s26_203, oB_some, cl2_i, cl2_r, cl2_l, cl2_u, cl2_s, wd_0, wd_i, wd_r, wd_l, wd_f, ct_i, ct_r, ct_n, ct_f, rf_s, rf_n, tl_s, tl_n, true_and, and_true, eq_self, and_self, Nat.reduceAdd, Nat.reduceLeDiff, Nat.zero_le, Nat.reduceEqDiff, or_true, true_or, false_or, or_false, if_true, if_false, gI_0, gI_1, gI_2, gI_3, gI_4, gI_5, gI_6, gI_7, gI_8, gI_9, gI_10, gI_11, gI_12, gI_13, gI_14, gI_15, gL_0, gL_1, gL_2, gL_3, gL_4, gL_5, gL_6, gL_7, gL_8, gL_9, gL_10, gL_11, gL_12, gL_13, gL_14, gL_15, gA_0, gA_1, gA_2, gA_3, gA_4, gA_5, gA_6, gA_7, gA_8, gA_9, gA_10, gA_11, gA_12, gA_13, gA_14, gA_15, p1_0, p1_1, p1_2, p1_3, p1_4, p1_5, p1_6, p1_7, p1_8, p1_9, p1_10, p1_11, p1_12, p1_13, p1_14, p1_15, p2_0, p2_1, p2_2, p2_3, p2_4, p2_5, p2_6, p2_7, p2_8, p2_9, p2_10, p2_11, p2_12, p2_13, p2_14, p2_15, V]
          refine v_passDays q g f (by decide) (show vy S + dd tp (i + 1) < 2 ^ 20 by omega) fun h2 m2 q2 f2 => ?_
          simp only [s26_206, s26_207, oB_some, cl2_i, cl2_r, cl2_l, cl2_u, cl2_s, wd_0, wd_i, wd_r, wd_l, wd_f, ct_i, ct_r, ct_n, ct_f, rf_s, rf_n, tl_s, tl_n, true_and, and_true, eq_self, and_self, Nat.reduceAdd, Nat.reduceLeDiff, Nat.zero_le, Nat.reduceEqDiff, or_true, true_or, false_or, or_false, if_true, if_false, gI_0, gI_1, gI_2, gI_3, gI_4, gI_5, gI_6, gI_7, gI_8, gI_9, gI_10, gI_11, gI_12, gI_13, gI_14, gI_15, gL_0, gL_1, gL_2, gL_3, gL_4, gL_5, gL_6, gL_7, gL_8, gL_9, gL_10, gL_11, gL_12, gL_13, gL_14, gL_15, gA_0, gA_1, gA_2, gA_3, gA_4, gA_5, gA_6, gA_7, gA_8, gA_9, gA_10, gA_11, gA_12, gA_13, gA_14, gA_15, p1_0, p1_1, p1_2, p1_3, p1_4, p1_5, p1_6, p1_7, p1_8, p1_9, p1_10, p1_11, p1_12, p1_13, p1_14, p1_15, p2_0, p2_1, p2_2, p2_3, p2_4, p2_5, p2_6, p2_7, p2_8, p2_9, p2_10, p2_11, p2_12, p2_13, p2_14, p2_15]
          exact k _ (by rw [if_pos (by omega)]) h2 m2 q2 f2
