-- a text: its letters, and what one statement of it does
def lbN (c : Nat) : Nat := if c = 107 then 4 else if c = 112 ∨ c = 102 ∨ c = 115 ∨ c = 120 ∨ c = 114 ∨ c = 100 then 3 else 0
def isDg (c : Nat) : Bool := !(decide (c < 48) || decide (57 < c))
def fits (l c : Nat) : Bool := if l = 1 then decide (c = 59) else isDg c
def fw (tp : Nat → Nat) : Nat → Nat → Nat → Option Nat
  | 0, i, l => if l = 0 ∧ ¬ i = 0 then none else some i
  | n + 1, i, l => if l = 0 then (if lbN (tp i) = 0 then some i else fw tp n (i + 1) (lbN (tp i))) else if fits l (tp i) = true then fw tp n (i + 1) (l - 1) else some i
def oW (o : Option Nat) : Int32 := match o with
  | some k => nI k
  | none => -1
theorem dec1 {l : Nat} (h : ¬ l = 0) : nI l + -1 = nI (l - 1) := by
  have e : nI l - 1 = nI (l - 1) := pk_sub (b := 1) (by omega)
  rw [← e, Int32.sub_eq_add_neg]
theorem lbN_le (c : Nat) : lbN c ≤ 4 := by
  unfold lbN
  split
  · omega
  · split <;> omega
theorem v_lettersBehind {d : Nat} {Q : PQ} {h : HP} {c : Nat} (hc : c < 256) : Ev (d + 1) 24 [.int (nI c)] h Q = Q (some (.int (nI (lbN c)))) h := by
  have e : ∀ b : Nat, b < 2 ^ 31 → (nI c = nI b) = (c = b) := fun b hb => eqP (by omega) hb
  have a0 := e 100 (by decide)
  have a1 := e 102 (by decide)
  have a2 := e 107 (by decide)
  have a3 := e 112 (by decide)
  have a4 := e 114 (by decide)
  have a5 := e 115 (by decide)
  have a6 := e 120 (by decide)
  simp only [e24, s24_0, s24_1, s24_100, s24_101, s24_102, s24_103, s24_104, s24_105, oB_some, cl2_i, cl2_r, cl2_l, cl2_u, cl2_s, wd_0, wd_i, wd_r, wd_l, wd_f, ct_i, ct_r, ct_n, ct_f, rf_s, rf_n, tl_s, tl_n, true_and, and_true, eq_self, and_self, Nat.reduceAdd, Nat.reduceLeDiff, Nat.zero_le, Nat.reduceEqDiff, or_true, true_or, false_or, or_false, if_true, if_false, gI_0, gI_1, gI_2, gI_3, gI_4, gI_5, gI_6, gI_7, gI_8, gI_9, gI_10, gI_11, gI_12, gI_13, gI_14, gI_15, gL_0, gL_1, gL_2, gL_3, gL_4, gL_5, gL_6, gL_7, gL_8, gL_9, gL_10, gL_11, gL_12, gL_13, gL_14, gL_15, gA_0, gA_1, gA_2, gA_3, gA_4, gA_5, gA_6, gA_7, gA_8, gA_9, gA_10, gA_11, gA_12, gA_13, gA_14, gA_15, p1_0, p1_1, p1_2, p1_3, p1_4, p1_5, p1_6, p1_7, p1_8, p1_9, p1_10, p1_11, p1_12, p1_13, p1_14, p1_15, p2_0, p2_1, p2_2, p2_3, p2_4, p2_5, p2_6, p2_7, p2_8, p2_9, p2_10, p2_11, p2_12, p2_13, p2_14, p2_15]
  unfold lbN
  by_cases c0 : c = 100
  · subst c0; rfl
  · by_cases c1 : c = 102
    · subst c1; rfl
    · by_cases c2 : c = 107
      · subst c2; rfl
      · by_cases c3 : c = 112
        · subst c3; rfl
        · by_cases c4 : c = 114
          · subst c4; rfl
          · by_cases c5 : c = 115
            · subst c5; rfl
            · by_cases c6 : c = 120
              · subst c6; rfl
              · have b0 : ¬ nI c = 100 := fun z => c0 (a0.mp z)
                have b1 : ¬ nI c = 102 := fun z => c1 (a1.mp z)
                have b2 : ¬ nI c = 107 := fun z => c2 (a2.mp z)
                have b3 : ¬ nI c = 112 := fun z => c3 (a3.mp z)
                have b4 : ¬ nI c = 114 := fun z => c4 (a4.mp z)
                have b5 : ¬ nI c = 115 := fun z => c5 (a5.mp z)
                have b6 : ¬ nI c = 120 := fun z => c6 (a6.mp z)
                simp only [b0, b1, b2, b3, b4, b5, b6, c0, c1, c2, c3, c4, c5, c6, if_false, ite_self, or_self]
                rfl
theorem v_isDigit {d : Nat} {Q : PQ} {h : HP} {c : Nat} (hc : c < 256) : Ev (d + 1) 25 [.int (nI c)] h Q = Q (some (.int (b01 (isDg c)))) h := by
  have a0 : (nI c < 48) = (c < 48) := ltP (b := 48) (by omega) (by decide)
  have a1 : ((57 : Int32) < nI c) = (57 < c) := ltP (a := 57) (by decide) (by omega)
  simp only [e25, s25_0, s25_1, s25_3, s25_6, s25_7, s25_9, s25_12, s25_13, s25_16, s25_17, oB_some, cl2_i, cl2_r, cl2_l, cl2_u, cl2_s, wd_0, wd_i, wd_r, wd_l, wd_f, ct_i, ct_r, ct_n, ct_f, rf_s, rf_n, tl_s, tl_n, true_and, and_true, eq_self, and_self, Nat.reduceAdd, Nat.reduceLeDiff, Nat.zero_le, Nat.reduceEqDiff, or_true, true_or, false_or, or_false, if_true, if_false, gI_0, gI_1, gI_2, gI_3, gI_4, gI_5, gI_6, gI_7, gI_8, gI_9, gI_10, gI_11, gI_12, gI_13, gI_14, gI_15, gL_0, gL_1, gL_2, gL_3, gL_4, gL_5, gL_6, gL_7, gL_8, gL_9, gL_10, gL_11, gL_12, gL_13, gL_14, gL_15, gA_0, gA_1, gA_2, gA_3, gA_4, gA_5, gA_6, gA_7, gA_8, gA_9, gA_10, gA_11, gA_12, gA_13, gA_14, gA_15, p1_0, p1_1, p1_2, p1_3, p1_4, p1_5, p1_6, p1_7, p1_8, p1_9, p1_10, p1_11, p1_12, p1_13, p1_14, p1_15, p2_0, p2_1, p2_2, p2_3, p2_4, p2_5, p2_6, p2_7, p2_8, p2_9, p2_10, p2_11, p2_12, p2_13, p2_14, p2_15, a0, a1]
  unfold isDg
  by_cases c0 : c < 48
  · simp only [c0, if_true, decide_true, Bool.true_or, Bool.not_true]
    rfl
  · by_cases c1 : 57 < c
    · simp only [c0, c1, if_true, if_false, decide_true, decide_false, Bool.or_true, Bool.not_true]
      rfl
    · simp only [c0, c1, if_false, decide_false, Bool.or_false, Bool.not_false]
      rfl
set_option maxHeartbeats 8000000 in
theorem v_firstWrong {d tl : Nat} {tp : Nat → Nat} {Q : PQ} {h : HP} {x : Nat} (K : XK h x) (T : XT h x tp tl) : Ev (d + 2) 23 [.ref (x + 3)] h Q = Q (some (.int (oW (fw tp tl 0 0)))) h := by
  unfold XK at K
  obtain ⟨t1, t2, t3⟩ := T
  have loop : ∀ (n i l : Nat) (y z : Slot), i + n = tl → l ≤ 4 → WP (d + 1) 23 Q (4, [.val (.ref (x + 3)), .val (.int (nI l)), .val (.int (nI i)), y, z], [], h, 0, 0) = Q (some (.int (oW (fw tp n i l)))) h := by
    intro n
    induction n with
    | zero =>
      intro i l y z hi hl
      obtain rfl : i = tl := by omega
      have p0 : ((0 : Int32) < nI l) = (0 < l) := ltP (a := 0) (by decide) (by omega)
      have p1 : (nI i = 0) = (i = 0) := eqP (b := 0) (by omega) (by decide)
      rw [s23_4]
      simp only [s23_0, s23_1, s23_2, s23_3, s23_5, s23_6, s23_9, s23_12, s23_13, s23_16, s23_17, s23_18, s23_19, s23_20, s23_23, s23_24, s23_27, s23_28, s23_29, s23_32, s23_33, s23_34, s23_35, s23_36, s23_39, s23_40, s23_42, s23_45, s23_46, s23_49, s23_50, s23_53, s23_54, s23_57, s23_59, s23_61, s23_64, s23_65, s23_66, s23_69, s23_72, s23_75, s23_76, s23_79, s23_80, s23_83, s23_86, s23_87, s23_90, s23_93, s23_94, oB_some, cl2_i, cl2_r, cl2_l, cl2_u, cl2_s, wd_0, wd_i, wd_r, wd_l, wd_f, ct_i, ct_r, ct_n, ct_f, rf_s, rf_n, tl_s, tl_n, true_and, and_true, eq_self, and_self, Nat.reduceAdd, Nat.reduceLeDiff, Nat.zero_le, Nat.reduceEqDiff, or_true, true_or, false_or, or_false, if_true, if_false, gI_0, gI_1, gI_2, gI_3, gI_4, gI_5, gI_6, gI_7, gI_8, gI_9, gI_10, gI_11, gI_12, gI_13, gI_14, gI_15, gL_0, gL_1, gL_2, gL_3, gL_4, gL_5, gL_6, gL_7, gL_8, gL_9, gL_10, gL_11, gL_12, gL_13, gL_14, gL_15, gA_0, gA_1, gA_2, gA_3, gA_4, gA_5, gA_6, gA_7, gA_8, gA_9, gA_10, gA_11, gA_12, gA_13, gA_14, gA_15, p1_0, p1_1, p1_2, p1_3, p1_4, p1_5, p1_6, p1_7, p1_8, p1_9, p1_10, p1_11, p1_12, p1_13, p1_14, p1_15, p2_0, p2_1, p2_2, p2_3, p2_4, p2_5, p2_6, p2_7, p2_8, p2_9, p2_10, p2_11, p2_12, p2_13, p2_14, p2_15, b01_ok, b_ft, b_tf, b01_e0, b01_e1, lgc_0, not_true_eq_false, not_false_eq_true, K, t1, Int32.le_refl, p0, p1]
      unfold fw
      by_cases h0 : l = 0
      · subst h0
        by_cases h1 : i = 0
        · subst h1; rfl
        · simp only [h1, Nat.lt_irrefl, not_true_eq_false, not_false_eq_true, and_self, if_true, if_false]
          rfl
      · have h0' : 0 < l := by omega
        simp only [h0, h0', false_and, if_true, if_false]
        rfl
    | succ n ih =>
      intro i l y z hi hl
      have hlt : i < tl := by omega
      have i31 : i < 2 ^ 31 := by omega
      have i96 : i < 96 := by omega
      obtain ⟨ti, tb⟩ := t3 i hlt
      have p1 : (nI l = 0) = (l = 0) := eqP (b := 0) (by omega) (by decide)
      have p2 : (nI (lbN (tp i)) = 0) = (lbN (tp i) = 0) := eqP (b := 0) (by have := lbN_le (tp i); omega) (by decide)
      have p3 : (nI l = 1) = (l = 1) := eqP (b := 1) (by omega) (by decide)
      have p4 : (nI (tp i) = 59) = (tp i = 59) := eqP (b := 59) (by omega) (by decide)
      rw [s23_4]
      simp only [s23_0, s23_1, s23_2, s23_3, s23_5, s23_6, s23_9, s23_12, s23_13, s23_16, s23_17, s23_18, s23_19, s23_20, s23_23, s23_24, s23_27, s23_28, s23_29, s23_32, s23_33, s23_34, s23_35, s23_36, s23_39, s23_40, s23_42, s23_45, s23_46, s23_49, s23_50, s23_53, s23_54, s23_57, s23_59, s23_61, s23_64, s23_65, s23_66, s23_69, s23_72, s23_75, s23_76, s23_79, s23_80, s23_83, s23_86, s23_87, s23_90, s23_93, s23_94, oB_some, cl2_i, cl2_r, cl2_l, cl2_u, cl2_s, wd_0, wd_i, wd_r, wd_l, wd_f, ct_i, ct_r, ct_n, ct_f, rf_s, rf_n, tl_s, tl_n, true_and, and_true, eq_self, and_self, Nat.reduceAdd, Nat.reduceLeDiff, Nat.zero_le, Nat.reduceEqDiff, or_true, true_or, false_or, or_false, if_true, if_false, gI_0, gI_1, gI_2, gI_3, gI_4, gI_5, gI_6, gI_7, gI_8, gI_9, gI_10, gI_11, gI_12, gI_13, gI_14, gI_15, gL_0, gL_1, gL_2, gL_3, gL_4, gL_5, gL_6, gL_7, gL_8, gL_9, gL_10, gL_11, gL_12, gL_13, gL_14, gL_15, gA_0, gA_1, gA_2, gA_3, gA_4, gA_5, gA_6, gA_7, gA_8, gA_9, gA_10, gA_11, gA_12, gA_13, gA_14, gA_15, p1_0, p1_1, p1_2, p1_3, p1_4, p1_5, p1_6, p1_7, p1_8, p1_9, p1_10, p1_11, p1_12, p1_13, p1_14, p1_15, p2_0, p2_1, p2_2, p2_3, p2_4, p2_5, p2_6, p2_7, p2_8, p2_9, p2_10, p2_11, p2_12, p2_13, p2_14, p2_15, b01_ok, b_ft, b_tf, b01_e0, b01_e1, lgc_0, not_true_eq_false, not_false_eq_true, K, t1, nI_ge hlt (show tl < 2 ^ 31 by omega), ix_nI i31, nI_pos' i31, i96, ti, v_lettersBehind tb, v_isDigit tb, p1, p2, p3, p4, nI_1]
      unfold fw
      by_cases h0 : l = 0
      · by_cases h1 : lbN (tp i) = 0
        · simp only [h0, h1, not_true_eq_false, if_true, if_false]
          rfl
        · simp only [h0, h1, not_true_eq_false, not_false_eq_true, if_true, if_false]
          exact ih (i + 1) _ _ _ (by omega) (lbN_le _)
      · have hd := dec1 h0
        unfold fits
        by_cases h1 : l = 1
        · subst h1
          by_cases h2 : tp i = 59
          · simp only [h2, hd, h0, decide_true, not_true_eq_false, not_false_eq_true, if_true, if_false]
            exact ih (i + 1) _ _ _ (by omega) (by omega)
          · simp only [h2, h0, decide_false, Bool.false_eq_true, not_true_eq_false, not_false_eq_true, if_true, if_false]
            rfl
        · cases h2 : isDg (tp i) with
          | true =>
            simp only [h0, h1, h2, b01_t, not_true_eq_false, not_false_eq_true, if_true, if_false, hd]
            exact ih (i + 1) _ _ _ (by omega) (by omega)
          | false =>
            simp only [h0, h1, h2, b01_f, not_true_eq_false, not_false_eq_true, if_true, if_false]
            rfl
  simp only [e23, s23_0, s23_1, s23_2, s23_3, oB_some, cl2_i, cl2_r, cl2_l, cl2_u, cl2_s, wd_0, wd_i, wd_r, wd_l, wd_f, ct_i, ct_r, ct_n, ct_f, rf_s, rf_n, tl_s, tl_n, true_and, and_true, eq_self, and_self, Nat.reduceAdd, Nat.reduceLeDiff, Nat.zero_le, Nat.reduceEqDiff, or_true, true_or, false_or, or_false, if_true, if_false, gI_0, gI_1, gI_2, gI_3, gI_4, gI_5, gI_6, gI_7, gI_8, gI_9, gI_10, gI_11, gI_12, gI_13, gI_14, gI_15, gL_0, gL_1, gL_2, gL_3, gL_4, gL_5, gL_6, gL_7, gL_8, gL_9, gL_10, gL_11, gL_12, gL_13, gL_14, gL_15, gA_0, gA_1, gA_2, gA_3, gA_4, gA_5, gA_6, gA_7, gA_8, gA_9, gA_10, gA_11, gA_12, gA_13, gA_14, gA_15, p1_0, p1_1, p1_2, p1_3, p1_4, p1_5, p1_6, p1_7, p1_8, p1_9, p1_10, p1_11, p1_12, p1_13, p1_14, p1_15, p2_0, p2_1, p2_2, p2_3, p2_4, p2_5, p2_6, p2_7, p2_8, p2_9, p2_10, p2_11, p2_12, p2_13, p2_14, p2_15]
  exact loop tl 0 0 _ _ (by omega) (by omega)
