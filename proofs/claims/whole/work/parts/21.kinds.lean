-- needs: 16.num 17.small 20.spec
theorem rem2 {n : Nat} (h : n < 2 ^ 31) : nI n - nI n / 2 * 2 = nI (n % 2) := pk_rem (d := 2) h (by decide) (by decide)
theorem rem3 {n : Nat} (h : n < 2 ^ 31) : nI n - nI n / 3 * 3 = nI (n % 3) := pk_rem (d := 3) h (by decide) (by decide)
theorem div2 {n : Nat} (h : n < 2 ^ 31) : nI n / 2 = nI (n / 2) := pk_div (d := 2) h (by decide) (by decide)
theorem div3 {n : Nat} (h : n < 2 ^ 31) : nI n / 3 = nI (n / 3) := pk_div (d := 3) h (by decide) (by decide)
theorem n2_0 : ¬ (2 : Int32) = 0 := by decide
theorem n3_0 : ¬ (3 : Int32) = 0 := by decide
theorem eq_l0 {n : Nat} (h : n < 2 ^ 31) : (nI n = 0) = (n = 0) := propext (nI_eq (b := 0) h (by decide))
theorem eq_l1 {n : Nat} (h : n < 2 ^ 31) : (nI n = 1) = (n = 1) := propext (nI_eq (b := 1) h (by decide))
theorem rem_f {a f : Nat} (ha : a < 2 ^ 31) (hf : f < 2 ^ 30) : nI a - nI a / (nI f + 2) * (nI f + 2) = nI (a % (f + 2)) := by
  have e : nI f + 2 = nI (f + 2) := nI_add f 2
  rw [e]
  exact pk_rem ha (by omega) (by omega)
theorem nf_0 {f : Nat} (hf : f < 2 ^ 30) : ¬ nI f + 2 = 0 := by
  have e : nI f + 2 = nI (f + 2) := nI_add f 2
  rw [e]
  exact nI_ne0 (by omega) (by omega)
theorem add_l (a : Nat) (b : Nat) : nI a + Int32.ofNat b = nI (a + b) := nI_add a b
theorem k8 {k : Nat} (h : k < 8) : k = 0 ∨ k = 1 ∨ k = 2 ∨ k = 3 ∨ k = 4 ∨ k = 5 ∨ k = 6 ∨ k = 7 := by omega
theorem li0 : nI 0 = 0 := rfl
theorem li1 : nI 1 = 1 := rfl
theorem li2 : nI 2 = 2 := rfl
theorem li3 : nI 3 = 3 := rfl
theorem li4 : nI 4 = 4 := rfl
theorem li5 : nI 5 = 5 := rfl
theorem li6 : nI 6 = 6 := rfl
theorem li7 : nI 7 = 7 := rfl
theorem li9 : nI 9 = 9 := rfl
def solN (d : Nat) : Nat := if d % 3 = 0 then 4 else if d % 3 = 1 then 1 else 7
theorem v_soldiersLead {d : Nat} {Q : PQ} {h : HP} {e : Nat} (he : e < 2 ^ 31) : Ev (d + 1) 56 [.int (nI e)] h Q = Q (some (.int (nI (solN e)))) h := by
  simp only [e56, s56_0, s56_1, s56_2, s56_3, s56_4, s56_5, s56_8, s56_9, s56_10, s56_11, s56_12, s56_15, s56_16, s56_19, s56_21, oB_some, cl2_i, cl2_r, cl2_l, cl2_u, cl2_s, wd_0, wd_i, wd_r, wd_l, wd_f, ct_i, ct_r, ct_n, ct_f, rf_s, rf_n, tl_s, tl_n, true_and, and_true, eq_self, and_self, Nat.reduceAdd, Nat.reduceLeDiff, Nat.zero_le, Nat.reduceEqDiff, or_true, true_or, false_or, or_false, if_true, if_false, gI_0, gI_1, gI_2, gI_3, gI_4, gI_5, gI_6, gI_7, gI_8, gI_9, gI_10, gI_11, gI_12, gI_13, gI_14, gI_15, gL_0, gL_1, gL_2, gL_3, gL_4, gL_5, gL_6, gL_7, gL_8, gL_9, gL_10, gL_11, gL_12, gL_13, gL_14, gL_15, gA_0, gA_1, gA_2, gA_3, gA_4, gA_5, gA_6, gA_7, gA_8, gA_9, gA_10, gA_11, gA_12, gA_13, gA_14, gA_15, p1_0, p1_1, p1_2, p1_3, p1_4, p1_5, p1_6, p1_7, p1_8, p1_9, p1_10, p1_11, p1_12, p1_13, p1_14, p1_15, p2_0, p2_1, p2_2, p2_3, p2_4, p2_5, p2_6, p2_7, p2_8, p2_9, p2_10, p2_11, p2_12, p2_13, p2_14, p2_15, n3_0, not_false_eq_true, rem3 he, eq_l0 (show e % 3 < 2 ^ 31 by omega), eq_l1 (show e % 3 < 2 ^ 31 by omega)]
  unfold solN
  by_cases h0 : e % 3 = 0
  · simp [h0]; rfl
  · by_cases h1 : e % 3 = 1
    · simp [h1]; rfl
    · simp [h0, h1]; rfl
theorem v_loversLead {d : Nat} {Q : PQ} {h : HP} {f : Nat} (hf : f < 2 ^ 30) : Ev (d + 1) 55 [.int (nI f)] h Q = Q (some (.int (nI (f / 2 + 1)))) h := by
  simp only [e55, s55_0, s55_1, s55_2, s55_3, s55_4, s55_5, oB_some, cl2_i, cl2_r, cl2_l, cl2_u, cl2_s, wd_0, wd_i, wd_r, wd_l, wd_f, ct_i, ct_r, ct_n, ct_f, rf_s, rf_n, tl_s, tl_n, true_and, and_true, eq_self, and_self, Nat.reduceAdd, Nat.reduceLeDiff, Nat.zero_le, Nat.reduceEqDiff, or_true, true_or, false_or, or_false, if_true, if_false, gI_0, gI_1, gI_2, gI_3, gI_4, gI_5, gI_6, gI_7, gI_8, gI_9, gI_10, gI_11, gI_12, gI_13, gI_14, gI_15, gL_0, gL_1, gL_2, gL_3, gL_4, gL_5, gL_6, gL_7, gL_8, gL_9, gL_10, gL_11, gL_12, gL_13, gL_14, gL_15, gA_0, gA_1, gA_2, gA_3, gA_4, gA_5, gA_6, gA_7, gA_8, gA_9, gA_10, gA_11, gA_12, gA_13, gA_14, gA_15, p1_0, p1_1, p1_2, p1_3, p1_4, p1_5, p1_6, p1_7, p1_8, p1_9, p1_10, p1_11, p1_12, p1_13, p1_14, p1_15, p2_0, p2_1, p2_2, p2_3, p2_4, p2_5, p2_6, p2_7, p2_8, p2_9, p2_10, p2_11, p2_12, p2_13, p2_14, p2_15, n2_0, not_false_eq_true, div2 (show f < 2 ^ 31 by omega), nI_1]
theorem v_banksLead {d : Nat} {Q : PQ} {h : HP} {f e : Nat} (hf : f < 2 ^ 30) (he : e < 2 ^ 31) : Ev (d + 1) 57 [.int (nI f), .int (nI e)] h Q = Q (some (.int (nI (if e % (f + 2) = 0 then 9 else 0)))) h := by
  have hm : e % (f + 2) < 2 ^ 31 := Nat.lt_of_le_of_lt (Nat.mod_le _ _) he
  have hp : ¬ nI f + 2 ≤ 0 := by
    have e : nI f + 2 = nI (f + 2) := nI_add f 2
    rw [e]
    exact nI_nle (by omega) (by omega)
  simp only [e57, s57_0, s57_1, s57_2, s57_3, s57_4, s57_5, s57_8, s57_9, s57_10, s57_11, s57_14, s57_16, s57_19, s57_20, oB_some, cl2_i, cl2_r, cl2_l, cl2_u, cl2_s, wd_0, wd_i, wd_r, wd_l, wd_f, ct_i, ct_r, ct_n, ct_f, rf_s, rf_n, tl_s, tl_n, true_and, and_true, eq_self, and_self, Nat.reduceAdd, Nat.reduceLeDiff, Nat.zero_le, Nat.reduceEqDiff, or_true, true_or, false_or, or_false, if_true, if_false, gI_0, gI_1, gI_2, gI_3, gI_4, gI_5, gI_6, gI_7, gI_8, gI_9, gI_10, gI_11, gI_12, gI_13, gI_14, gI_15, gL_0, gL_1, gL_2, gL_3, gL_4, gL_5, gL_6, gL_7, gL_8, gL_9, gL_10, gL_11, gL_12, gL_13, gL_14, gL_15, gA_0, gA_1, gA_2, gA_3, gA_4, gA_5, gA_6, gA_7, gA_8, gA_9, gA_10, gA_11, gA_12, gA_13, gA_14, gA_15, p1_0, p1_1, p1_2, p1_3, p1_4, p1_5, p1_6, p1_7, p1_8, p1_9, p1_10, p1_11, p1_12, p1_13, p1_14, p1_15, p2_0, p2_1, p2_2, p2_3, p2_4, p2_5, p2_6, p2_7, p2_8, p2_9, p2_10, p2_11, p2_12, p2_13, p2_14, p2_15, nf_0 hf, not_false_eq_true, rem_f he hf, hp, if_false, eq_l0 hm]
  by_cases h0 : e % (f + 2) = 0 <;> simp [h0] <;> rfl
set_option maxHeartbeats 4000000 in
theorem v_leadOf {d : Nat} {Q : PQ} {h : HP} {k f e : Nat} (hk : k < 8) (hf : f < 10) (he : e < 2 ^ 31) : Ev (d + 2) 54 [.int (nI k), .int (nI f), .int (nI e)] h Q = Q (some (.int (nI (leadN k f e)))) h := by
  have hr2 := eq_l0 (show e % 2 < 2 ^ 31 by omega)
  have hr3 : e % 2 = 0 ∨ e % 2 = 1 := by omega
  have hfe : e % (f + 2) = 0 ∨ ¬ e % (f + 2) = 0 := Decidable.em _
  simp only [e54, s54_0, s54_1, s54_48, s54_49, s54_50, s54_51, s54_54, s54_55, s54_58, s54_59, s54_60, s54_61, s54_64, s54_65, s54_66, s54_69, s54_70, s54_71, s54_72, s54_75, s54_76, s54_77, s54_78, s54_79, s54_82, s54_83, s54_84, s54_87, s54_90, s54_91, s54_92, s54_93, s54_96, s54_99, s54_100, s54_101, s54_104, s54_105, s54_106, s54_107, s54_108, s54_111, s54_112, s54_113, s54_114, s54_116, s54_117, s54_120, s54_121, s54_122, s54_123, s54_124, s54_125, oB_some, cl2_i, cl2_r, cl2_l, cl2_u, cl2_s, wd_0, wd_i, wd_r, wd_l, wd_f, ct_i, ct_r, ct_n, ct_f, rf_s, rf_n, tl_s, tl_n, true_and, and_true, eq_self, and_self, Nat.reduceAdd, Nat.reduceLeDiff, Nat.zero_le, Nat.reduceEqDiff, or_true, true_or, false_or, or_false, if_true, if_false, gI_0, gI_1, gI_2, gI_3, gI_4, gI_5, gI_6, gI_7, gI_8, gI_9, gI_10, gI_11, gI_12, gI_13, gI_14, gI_15, gL_0, gL_1, gL_2, gL_3, gL_4, gL_5, gL_6, gL_7, gL_8, gL_9, gL_10, gL_11, gL_12, gL_13, gL_14, gL_15, gA_0, gA_1, gA_2, gA_3, gA_4, gA_5, gA_6, gA_7, gA_8, gA_9, gA_10, gA_11, gA_12, gA_13, gA_14, gA_15, p1_0, p1_1, p1_2, p1_3, p1_4, p1_5, p1_6, p1_7, p1_8, p1_9, p1_10, p1_11, p1_12, p1_13, p1_14, p1_15, p2_0, p2_1, p2_2, p2_3, p2_4, p2_5, p2_6, p2_7, p2_8, p2_9, p2_10, p2_11, p2_12, p2_13, p2_14, p2_15, n2_0, not_false_eq_true, rem2 he, hr2, v_loversLead (show f < 2 ^ 30 by omega), v_soldiersLead he, v_banksLead (show f < 2 ^ 30 by omega) he]
  unfold leadN childN solN
  rcases k8 hk with rfl | rfl | rfl | rfl | rfl | rfl | rfl | rfl
  · rcases hr3 with q | q <;> simp [li0, q]
  · simp [li1]
  · simp [li2]
  · simp [li3]
  · rcases hr3 with q | q <;> rcases hfe with w | w <;> simp [li4, q, w, li9, li0, li5]
  · have z : nI (f / 2 + 1) + 2 = nI (f / 2 + 3) := nI_add (f / 2 + 1) 2
    simp [li5, z]
  · rcases (show e % 3 = 0 ∨ e % 3 = 1 ∨ e % 3 = 2 by omega) with q | q | q <;> simp [li6, q] <;> rfl
  · rcases (show e % 3 = 0 ∨ e % 3 = 1 ∨ e % 3 = 2 by omega) with q | q | q <;> simp [li7, q] <;> rfl
theorem m_leadOfChild {d : Nat} {Q : PQ} {h : HP} {e : Nat} (he : e < 2 ^ 31) : Ev (d + 1) 101 [.int (nI e)] h Q = Q (some (.int (nI (childN e)))) h := by
  simp only [e101, s101_0, s101_1, s101_2, s101_3, s101_6, s101_7, s101_10, s101_11, s101_12, s101_13, s101_14, s101_17, s101_18, s101_21, s101_23, oB_some, cl2_i, cl2_r, cl2_l, cl2_u, cl2_s, wd_0, wd_i, wd_r, wd_l, wd_f, ct_i, ct_r, ct_n, ct_f, rf_s, rf_n, tl_s, tl_n, true_and, and_true, eq_self, and_self, Nat.reduceAdd, Nat.reduceLeDiff, Nat.zero_le, Nat.reduceEqDiff, or_true, true_or, false_or, or_false, if_true, if_false, gI_0, gI_1, gI_2, gI_3, gI_4, gI_5, gI_6, gI_7, gI_8, gI_9, gI_10, gI_11, gI_12, gI_13, gI_14, gI_15, gL_0, gL_1, gL_2, gL_3, gL_4, gL_5, gL_6, gL_7, gL_8, gL_9, gL_10, gL_11, gL_12, gL_13, gL_14, gL_15, gA_0, gA_1, gA_2, gA_3, gA_4, gA_5, gA_6, gA_7, gA_8, gA_9, gA_10, gA_11, gA_12, gA_13, gA_14, gA_15, p1_0, p1_1, p1_2, p1_3, p1_4, p1_5, p1_6, p1_7, p1_8, p1_9, p1_10, p1_11, p1_12, p1_13, p1_14, p1_15, p2_0, p2_1, p2_2, p2_3, p2_4, p2_5, p2_6, p2_7, p2_8, p2_9, p2_10, p2_11, p2_12, p2_13, p2_14, p2_15, n3_0, not_false_eq_true, rem3 he, eq_l0 (show e % 3 < 2 ^ 31 by omega), eq_l1 (show e % 3 < 2 ^ 31 by omega)]
  unfold childN
  rcases (show e % 3 = 0 ∨ e % 3 = 1 ∨ e % 3 = 2 by omega) with q | q | q <;> simp [q] <;> rfl
set_option maxHeartbeats 4000000 in
theorem m_leadOf {d : Nat} {Q : PQ} {h : HP} {k f e : Nat} (hk : k < 8) (hf : f < 10) (he : e < 2 ^ 31) : Ev (d + 2) 100 [.int (nI k), .int (nI f), .int (nI e)] h Q = Q (some (.int (nI (leadN k f e)))) h := by
  have hr2 := eq_l0 (show e % 2 < 2 ^ 31 by omega)
  have hr21 := eq_l1 (show e % 2 < 2 ^ 31 by omega)
  have hr3 : e % 2 = 0 ∨ e % 2 = 1 := by omega
  have hfe : e % (f + 2) = 0 ∨ ¬ e % (f + 2) = 0 := Decidable.em _
  have hm : e % (f + 2) < 2 ^ 31 := Nat.lt_of_le_of_lt (Nat.mod_le _ _) he
  simp only [e100, s100_0, s100_1, s100_44, s100_45, s100_46, s100_47, s100_48, s100_49, s100_50, s100_51, s100_52, s100_53, s100_54, s100_55, s100_56, s100_57, s100_58, s100_59, s100_62, s100_63, s100_66, s100_67, s100_68, s100_69, s100_70, s100_73, s100_74, s100_77, s100_79, s100_80, s100_81, s100_84, s100_85, s100_87, s100_88, s100_91, s100_92, s100_93, s100_94, s100_95, s100_96, s100_97, s100_98, s100_101, s100_103, s100_106, s100_107, s100_108, s100_109, s100_110, s100_111, s100_112, s100_113, s100_116, s100_118, s100_121, s100_122, s100_123, s100_124, s100_125, s100_128, s100_129, s100_132, s100_133, s100_134, s100_135, s100_136, s100_137, s100_140, s100_141, s100_144, s100_145, oB_some, cl2_i, cl2_r, cl2_l, cl2_u, cl2_s, wd_0, wd_i, wd_r, wd_l, wd_f, ct_i, ct_r, ct_n, ct_f, rf_s, rf_n, tl_s, tl_n, true_and, and_true, eq_self, and_self, Nat.reduceAdd, Nat.reduceLeDiff, Nat.zero_le, Nat.reduceEqDiff, or_true, true_or, false_or, or_false, if_true, if_false, gI_0, gI_1, gI_2, gI_3, gI_4, gI_5, gI_6, gI_7, gI_8, gI_9, gI_10, gI_11, gI_12, gI_13, gI_14, gI_15, gL_0, gL_1, gL_2, gL_3, gL_4, gL_5, gL_6, gL_7, gL_8, gL_9, gL_10, gL_11, gL_12, gL_13, gL_14, gL_15, gA_0, gA_1, gA_2, gA_3, gA_4, gA_5, gA_6, gA_7, gA_8, gA_9, gA_10, gA_11, gA_12, gA_13, gA_14, gA_15, p1_0, p1_1, p1_2, p1_3, p1_4, p1_5, p1_6, p1_7, p1_8, p1_9, p1_10, p1_11, p1_12, p1_13, p1_14, p1_15, p2_0, p2_1, p2_2, p2_3, p2_4, p2_5, p2_6, p2_7, p2_8, p2_9, p2_10, p2_11, p2_12, p2_13, p2_14, p2_15, n2_0, n3_0, not_false_eq_true, rem2 he, rem3 he, hr2, hr21, m_leadOfChild he, nf_0 (show f < 2 ^ 30 by omega), rem_f he (show f < 2 ^ 30 by omega), eq_l0 hm, div2 (show f < 2 ^ 31 by omega), eq_l0 (show e % 3 < 2 ^ 31 by omega), eq_l1 (show e % 3 < 2 ^ 31 by omega)]
  unfold leadN childN
  rcases k8 hk with rfl | rfl | rfl | rfl | rfl | rfl | rfl | rfl
  · rcases hr3 with q | q <;> simp [li0, q]
  · have z : nI (f / 2) + 1 = nI (f / 2 + 1) := nI_add (f / 2) 1
    simp [li1, z]
  · rcases (show e % 3 = 0 ∨ e % 3 = 1 ∨ e % 3 = 2 by omega) with q | q | q <;> simp [li2, q] <;> rfl
  · rcases hfe with w | w <;> simp [li3, w, li9, li0]
  · rcases hr3 with q | q <;> rcases hfe with w | w <;> simp [li4, q, w, li9, li0, li5]
  · have z : nI (f / 2) + 3 = nI (f / 2 + 3) := nI_add (f / 2) 3
    simp [li5, z]
  · simp [li6]
  · rcases (show e % 3 = 0 ∨ e % 3 = 1 ∨ e % 3 = 2 by omega) with q | q | q <;> simp [li7, q] <;> rfl
theorem v_loversPress {d : Nat} {Q : PQ} {h : HP} {f : Nat} (hf : f < 2 ^ 30) : Ev (d + 1) 59 [.int (nI f)] h Q = Q (some (.int (nI (4 + f / 3)))) h := by
  have z : (4 : Int32) + nI (f / 3) = nI (4 + f / 3) := nI_add 4 (f / 3)
  simp only [e59, s59_0, s59_1, s59_2, s59_3, s59_4, s59_5, oB_some, cl2_i, cl2_r, cl2_l, cl2_u, cl2_s, wd_0, wd_i, wd_r, wd_l, wd_f, ct_i, ct_r, ct_n, ct_f, rf_s, rf_n, tl_s, tl_n, true_and, and_true, eq_self, and_self, Nat.reduceAdd, Nat.reduceLeDiff, Nat.zero_le, Nat.reduceEqDiff, or_true, true_or, false_or, or_false, if_true, if_false, gI_0, gI_1, gI_2, gI_3, gI_4, gI_5, gI_6, gI_7, gI_8, gI_9, gI_10, gI_11, gI_12, gI_13, gI_14, gI_15, gL_0, gL_1, gL_2, gL_3, gL_4, gL_5, gL_6, gL_7, gL_8, gL_9, gL_10, gL_11, gL_12, gL_13, gL_14, gL_15, gA_0, gA_1, gA_2, gA_3, gA_4, gA_5, gA_6, gA_7, gA_8, gA_9, gA_10, gA_11, gA_12, gA_13, gA_14, gA_15, p1_0, p1_1, p1_2, p1_3, p1_4, p1_5, p1_6, p1_7, p1_8, p1_9, p1_10, p1_11, p1_12, p1_13, p1_14, p1_15, p2_0, p2_1, p2_2, p2_3, p2_4, p2_5, p2_6, p2_7, p2_8, p2_9, p2_10, p2_11, p2_12, p2_13, p2_14, p2_15, n3_0, not_false_eq_true, div3 (show f < 2 ^ 31 by omega), z]
theorem v_soldiersEvery {d : Nat} {Q : PQ} {h : HP} {f : Nat} (hf : f < 2 ^ 30) : Ev (d + 1) 47 [.int (nI f)] h Q = Q (some (.int (nI (f / 2 + 2)))) h := by
  have z : nI (f / 2) + 2 = nI (f / 2 + 2) := nI_add (f / 2) 2
  simp only [e47, s47_0, s47_1, s47_2, s47_3, s47_4, s47_5, oB_some, cl2_i, cl2_r, cl2_l, cl2_u, cl2_s, wd_0, wd_i, wd_r, wd_l, wd_f, ct_i, ct_r, ct_n, ct_f, rf_s, rf_n, tl_s, tl_n, true_and, and_true, eq_self, and_self, Nat.reduceAdd, Nat.reduceLeDiff, Nat.zero_le, Nat.reduceEqDiff, or_true, true_or, false_or, or_false, if_true, if_false, gI_0, gI_1, gI_2, gI_3, gI_4, gI_5, gI_6, gI_7, gI_8, gI_9, gI_10, gI_11, gI_12, gI_13, gI_14, gI_15, gL_0, gL_1, gL_2, gL_3, gL_4, gL_5, gL_6, gL_7, gL_8, gL_9, gL_10, gL_11, gL_12, gL_13, gL_14, gL_15, gA_0, gA_1, gA_2, gA_3, gA_4, gA_5, gA_6, gA_7, gA_8, gA_9, gA_10, gA_11, gA_12, gA_13, gA_14, gA_15, p1_0, p1_1, p1_2, p1_3, p1_4, p1_5, p1_6, p1_7, p1_8, p1_9, p1_10, p1_11, p1_12, p1_13, p1_14, p1_15, p2_0, p2_1, p2_2, p2_3, p2_4, p2_5, p2_6, p2_7, p2_8, p2_9, p2_10, p2_11, p2_12, p2_13, p2_14, p2_15, n2_0, not_false_eq_true, div2 (show f < 2 ^ 31 by omega), z]
set_option maxHeartbeats 4000000 in
theorem v_pressOf {d : Nat} {Q : PQ} {h : HP} {k f : Nat} (hk : k < 8) (hf : f < 10) : Ev (d + 2) 58 [.int (nI k), .int (nI f)] h Q = Q (some (.int (nI (pressN k f)))) h := by
  simp only [e58, s58_0, s58_1, s58_48, s58_49, s58_50, s58_51, s58_54, s58_55, s58_56, s58_57, s58_58, s58_59, s58_60, s58_61, s58_62, s58_65, s58_66, s58_67, s58_68, s58_69, s58_70, s58_71, oB_some, cl2_i, cl2_r, cl2_l, cl2_u, cl2_s, wd_0, wd_i, wd_r, wd_l, wd_f, ct_i, ct_r, ct_n, ct_f, rf_s, rf_n, tl_s, tl_n, true_and, and_true, eq_self, and_self, Nat.reduceAdd, Nat.reduceLeDiff, Nat.zero_le, Nat.reduceEqDiff, or_true, true_or, false_or, or_false, if_true, if_false, gI_0, gI_1, gI_2, gI_3, gI_4, gI_5, gI_6, gI_7, gI_8, gI_9, gI_10, gI_11, gI_12, gI_13, gI_14, gI_15, gL_0, gL_1, gL_2, gL_3, gL_4, gL_5, gL_6, gL_7, gL_8, gL_9, gL_10, gL_11, gL_12, gL_13, gL_14, gL_15, gA_0, gA_1, gA_2, gA_3, gA_4, gA_5, gA_6, gA_7, gA_8, gA_9, gA_10, gA_11, gA_12, gA_13, gA_14, gA_15, p1_0, p1_1, p1_2, p1_3, p1_4, p1_5, p1_6, p1_7, p1_8, p1_9, p1_10, p1_11, p1_12, p1_13, p1_14, p1_15, p2_0, p2_1, p2_2, p2_3, p2_4, p2_5, p2_6, p2_7, p2_8, p2_9, p2_10, p2_11, p2_12, p2_13, p2_14, p2_15, v_loversPress (show f < 2 ^ 30 by omega)]
  have z : nI (4 + f / 3) - 3 = nI (1 + f / 3) := by
    have := pk_sub (a := 4 + f / 3) (b := 3) (by omega)
    rw [show 4 + f / 3 - 3 = 1 + f / 3 by omega] at this
    exact this
  unfold pressN
  rcases k8 hk with rfl | rfl | rfl | rfl | rfl | rfl | rfl | rfl <;> simp [li0, li1, li2, li3, li4, li5, li6, li7, z]
set_option maxHeartbeats 4000000 in
theorem v_everyOf {d : Nat} {Q : PQ} {h : HP} {k f : Nat} (hk : k < 8) (hf : f < 10) : Ev (d + 2) 46 [.int (nI k), .int (nI f)] h Q = Q (some (.int (nI (everyN k f)))) h := by
  simp only [e46, s46_0, s46_1, s46_48, s46_49, s46_50, s46_51, s46_52, s46_53, s46_56, s46_57, s46_58, s46_59, s46_60, s46_61, s46_62, s46_63, s46_64, s46_67, s46_68, s46_69, s46_70, s46_71, s46_72, s46_75, s46_76, s46_77, s46_78, s46_79, s46_80, oB_some, cl2_i, cl2_r, cl2_l, cl2_u, cl2_s, wd_0, wd_i, wd_r, wd_l, wd_f, ct_i, ct_r, ct_n, ct_f, rf_s, rf_n, tl_s, tl_n, true_and, and_true, eq_self, and_self, Nat.reduceAdd, Nat.reduceLeDiff, Nat.zero_le, Nat.reduceEqDiff, or_true, true_or, false_or, or_false, if_true, if_false, gI_0, gI_1, gI_2, gI_3, gI_4, gI_5, gI_6, gI_7, gI_8, gI_9, gI_10, gI_11, gI_12, gI_13, gI_14, gI_15, gL_0, gL_1, gL_2, gL_3, gL_4, gL_5, gL_6, gL_7, gL_8, gL_9, gL_10, gL_11, gL_12, gL_13, gL_14, gL_15, gA_0, gA_1, gA_2, gA_3, gA_4, gA_5, gA_6, gA_7, gA_8, gA_9, gA_10, gA_11, gA_12, gA_13, gA_14, gA_15, p1_0, p1_1, p1_2, p1_3, p1_4, p1_5, p1_6, p1_7, p1_8, p1_9, p1_10, p1_11, p1_12, p1_13, p1_14, p1_15, p2_0, p2_1, p2_2, p2_3, p2_4, p2_5, p2_6, p2_7, p2_8, p2_9, p2_10, p2_11, p2_12, p2_13, p2_14, p2_15, v_soldiersEvery (show f < 2 ^ 30 by omega)]
  have z : nI (f / 2 + 2) + 1 = nI (f / 2 + 3) := nI_add (f / 2 + 2) 1
  have z2 : 2 * nI (f / 2 + 3) = nI (2 * (f / 2 + 3)) := pk_mul 2 (f / 2 + 3)
  unfold everyN
  rcases k8 hk with rfl | rfl | rfl | rfl | rfl | rfl | rfl | rfl <;> simp [li0, li1, li2, li3, li4, li5, li6, li7, z, z2]
set_option maxHeartbeats 4000000 in
theorem v_picksOf {d : Nat} {Q : PQ} {h : HP} {k : Nat} (hk : k < 8) : Ev (d + 1) 50 [.int (nI k)] h Q = Q (some (.int (nI (picksN k)))) h := by
  simp only [e50, s50_0, s50_1, s50_44, s50_45, s50_46, s50_47, s50_48, s50_49, oB_some, cl2_i, cl2_r, cl2_l, cl2_u, cl2_s, wd_0, wd_i, wd_r, wd_l, wd_f, ct_i, ct_r, ct_n, ct_f, rf_s, rf_n, tl_s, tl_n, true_and, and_true, eq_self, and_self, Nat.reduceAdd, Nat.reduceLeDiff, Nat.zero_le, Nat.reduceEqDiff, or_true, true_or, false_or, or_false, if_true, if_false, gI_0, gI_1, gI_2, gI_3, gI_4, gI_5, gI_6, gI_7, gI_8, gI_9, gI_10, gI_11, gI_12, gI_13, gI_14, gI_15, gL_0, gL_1, gL_2, gL_3, gL_4, gL_5, gL_6, gL_7, gL_8, gL_9, gL_10, gL_11, gL_12, gL_13, gL_14, gL_15, gA_0, gA_1, gA_2, gA_3, gA_4, gA_5, gA_6, gA_7, gA_8, gA_9, gA_10, gA_11, gA_12, gA_13, gA_14, gA_15, p1_0, p1_1, p1_2, p1_3, p1_4, p1_5, p1_6, p1_7, p1_8, p1_9, p1_10, p1_11, p1_12, p1_13, p1_14, p1_15, p2_0, p2_1, p2_2, p2_3, p2_4, p2_5, p2_6, p2_7, p2_8, p2_9, p2_10, p2_11, p2_12, p2_13, p2_14, p2_15]
  unfold picksN
  rcases k8 hk with rfl | rfl | rfl | rfl | rfl | rfl | rfl | rfl <;> simp [li0, li1, li2, li3, li4, li5, li6, li7]
set_option maxHeartbeats 4000000 in
theorem v_isBackward {d : Nat} {Q : PQ} {h : HP} {k : Nat} (hk : k < 8) : Ev (d + 1) 51 [.int (nI k)] h Q = Q (some (.int (b01 (backN k)))) h := by
  simp only [e51, s51_0, s51_1, s51_2, s51_5, s51_6, s51_8, s51_11, s51_12, s51_15, s51_16, oB_some, cl2_i, cl2_r, cl2_l, cl2_u, cl2_s, wd_0, wd_i, wd_r, wd_l, wd_f, ct_i, ct_r, ct_n, ct_f, rf_s, rf_n, tl_s, tl_n, true_and, and_true, eq_self, and_self, Nat.reduceAdd, Nat.reduceLeDiff, Nat.zero_le, Nat.reduceEqDiff, or_true, true_or, false_or, or_false, if_true, if_false, gI_0, gI_1, gI_2, gI_3, gI_4, gI_5, gI_6, gI_7, gI_8, gI_9, gI_10, gI_11, gI_12, gI_13, gI_14, gI_15, gL_0, gL_1, gL_2, gL_3, gL_4, gL_5, gL_6, gL_7, gL_8, gL_9, gL_10, gL_11, gL_12, gL_13, gL_14, gL_15, gA_0, gA_1, gA_2, gA_3, gA_4, gA_5, gA_6, gA_7, gA_8, gA_9, gA_10, gA_11, gA_12, gA_13, gA_14, gA_15, p1_0, p1_1, p1_2, p1_3, p1_4, p1_5, p1_6, p1_7, p1_8, p1_9, p1_10, p1_11, p1_12, p1_13, p1_14, p1_15, p2_0, p2_1, p2_2, p2_3, p2_4, p2_5, p2_6, p2_7, p2_8, p2_9, p2_10, p2_11, p2_12, p2_13, p2_14, p2_15]
  unfold backN
  rcases k8 hk with rfl | rfl | rfl | rfl | rfl | rfl | rfl | rfl <;> simp [li0, li1, li2, li3, li4, li5, li6, li7, b01]
set_option maxHeartbeats 4000000 in
theorem m_pressOf {d : Nat} {Q : PQ} {h : HP} {k f : Nat} (hk : k < 8) (hf : f < 10) : Ev (d + 1) 102 [.int (nI k), .int (nI f)] h Q = Q (some (.int (nI (pressN k f)))) h := by
  have z : (4 : Int32) + nI (f / 3) = nI (4 + f / 3) := nI_add 4 (f / 3)
  have z2 : (1 : Int32) + nI (f / 3) = nI (1 + f / 3) := nI_add 1 (f / 3)
  simp only [e102, s102_0, s102_1, s102_44, s102_45, s102_46, s102_47, s102_48, s102_49, s102_50, s102_51, s102_52, s102_53, s102_54, s102_55, s102_56, s102_57, s102_58, s102_59, s102_60, s102_61, s102_62, s102_63, oB_some, cl2_i, cl2_r, cl2_l, cl2_u, cl2_s, wd_0, wd_i, wd_r, wd_l, wd_f, ct_i, ct_r, ct_n, ct_f, rf_s, rf_n, tl_s, tl_n, true_and, and_true, eq_self, and_self, Nat.reduceAdd, Nat.reduceLeDiff, Nat.zero_le, Nat.reduceEqDiff, or_true, true_or, false_or, or_false, if_true, if_false, gI_0, gI_1, gI_2, gI_3, gI_4, gI_5, gI_6, gI_7, gI_8, gI_9, gI_10, gI_11, gI_12, gI_13, gI_14, gI_15, gL_0, gL_1, gL_2, gL_3, gL_4, gL_5, gL_6, gL_7, gL_8, gL_9, gL_10, gL_11, gL_12, gL_13, gL_14, gL_15, gA_0, gA_1, gA_2, gA_3, gA_4, gA_5, gA_6, gA_7, gA_8, gA_9, gA_10, gA_11, gA_12, gA_13, gA_14, gA_15, p1_0, p1_1, p1_2, p1_3, p1_4, p1_5, p1_6, p1_7, p1_8, p1_9, p1_10, p1_11, p1_12, p1_13, p1_14, p1_15, p2_0, p2_1, p2_2, p2_3, p2_4, p2_5, p2_6, p2_7, p2_8, p2_9, p2_10, p2_11, p2_12, p2_13, p2_14, p2_15, n3_0, not_false_eq_true, div3 (show f < 2 ^ 31 by omega), z, z2]
  unfold pressN
  rcases k8 hk with rfl | rfl | rfl | rfl | rfl | rfl | rfl | rfl <;> simp [li0, li1, li2, li3, li4, li5, li6, li7]
set_option maxHeartbeats 4000000 in
theorem m_everyOf {d : Nat} {Q : PQ} {h : HP} {k f : Nat} (hk : k < 8) (hf : f < 10) : Ev (d + 1) 95 [.int (nI k), .int (nI f)] h Q = Q (some (.int (nI (everyN k f)))) h := by
  have z : nI (f / 2) + 2 = nI (f / 2 + 2) := nI_add (f / 2) 2
  have z1 : nI (f / 2) + 3 = nI (f / 2 + 3) := nI_add (f / 2) 3
  have z2 : 2 * nI (f / 2 + 3) = nI (2 * (f / 2 + 3)) := pk_mul 2 (f / 2 + 3)
  simp only [e95, s95_0, s95_1, s95_44, s95_45, s95_46, s95_47, s95_48, s95_49, s95_50, s95_51, s95_52, s95_53, s95_54, s95_55, s95_56, s95_57, s95_58, s95_59, s95_60, s95_61, s95_62, s95_63, s95_64, s95_65, s95_66, s95_67, s95_68, s95_69, oB_some, cl2_i, cl2_r, cl2_l, cl2_u, cl2_s, wd_0, wd_i, wd_r, wd_l, wd_f, ct_i, ct_r, ct_n, ct_f, rf_s, rf_n, tl_s, tl_n, true_and, and_true, eq_self, and_self, Nat.reduceAdd, Nat.reduceLeDiff, Nat.zero_le, Nat.reduceEqDiff, or_true, true_or, false_or, or_false, if_true, if_false, gI_0, gI_1, gI_2, gI_3, gI_4, gI_5, gI_6, gI_7, gI_8, gI_9, gI_10, gI_11, gI_12, gI_13, gI_14, gI_15, gL_0, gL_1, gL_2, gL_3, gL_4, gL_5, gL_6, gL_7, gL_8, gL_9, gL_10, gL_11, gL_12, gL_13, gL_14, gL_15, gA_0, gA_1, gA_2, gA_3, gA_4, gA_5, gA_6, gA_7, gA_8, gA_9, gA_10, gA_11, gA_12, gA_13, gA_14, gA_15, p1_0, p1_1, p1_2, p1_3, p1_4, p1_5, p1_6, p1_7, p1_8, p1_9, p1_10, p1_11, p1_12, p1_13, p1_14, p1_15, p2_0, p2_1, p2_2, p2_3, p2_4, p2_5, p2_6, p2_7, p2_8, p2_9, p2_10, p2_11, p2_12, p2_13, p2_14, p2_15, n2_0, not_false_eq_true, div2 (show f < 2 ^ 31 by omega), z, z1, z2]
  unfold everyN
  rcases k8 hk with rfl | rfl | rfl | rfl | rfl | rfl | rfl | rfl <;> simp [li0, li1, li2, li3, li4, li5, li6, li7]
set_option maxHeartbeats 4000000 in
theorem m_picksOf {d : Nat} {Q : PQ} {h : HP} {k : Nat} (hk : k < 8) : Ev (d + 1) 97 [.int (nI k)] h Q = Q (some (.int (nI (picksN k)))) h := by
  simp only [e97, s97_0, s97_1, s97_2, s97_5, s97_6, s97_8, s97_11, s97_12, s97_15, s97_16, s97_19, s97_20, s97_21, s97_24, s97_25, s97_28, s97_29, oB_some, cl2_i, cl2_r, cl2_l, cl2_u, cl2_s, wd_0, wd_i, wd_r, wd_l, wd_f, ct_i, ct_r, ct_n, ct_f, rf_s, rf_n, tl_s, tl_n, true_and, and_true, eq_self, and_self, Nat.reduceAdd, Nat.reduceLeDiff, Nat.zero_le, Nat.reduceEqDiff, or_true, true_or, false_or, or_false, if_true, if_false, gI_0, gI_1, gI_2, gI_3, gI_4, gI_5, gI_6, gI_7, gI_8, gI_9, gI_10, gI_11, gI_12, gI_13, gI_14, gI_15, gL_0, gL_1, gL_2, gL_3, gL_4, gL_5, gL_6, gL_7, gL_8, gL_9, gL_10, gL_11, gL_12, gL_13, gL_14, gL_15, gA_0, gA_1, gA_2, gA_3, gA_4, gA_5, gA_6, gA_7, gA_8, gA_9, gA_10, gA_11, gA_12, gA_13, gA_14, gA_15, p1_0, p1_1, p1_2, p1_3, p1_4, p1_5, p1_6, p1_7, p1_8, p1_9, p1_10, p1_11, p1_12, p1_13, p1_14, p1_15, p2_0, p2_1, p2_2, p2_3, p2_4, p2_5, p2_6, p2_7, p2_8, p2_9, p2_10, p2_11, p2_12, p2_13, p2_14, p2_15]
  unfold picksN
  rcases k8 hk with rfl | rfl | rfl | rfl | rfl | rfl | rfl | rfl <;> simp [li0, li1, li2, li3, li4, li5, li6, li7]
set_option maxHeartbeats 4000000 in
theorem m_isBackward {d : Nat} {Q : PQ} {h : HP} {k : Nat} (hk : k < 8) : Ev (d + 1) 98 [.int (nI k)] h Q = Q (some (.int (b01 (backN k)))) h := by
  simp only [e98, s98_0, s98_1, s98_2, s98_5, s98_6, s98_8, s98_11, s98_12, s98_15, s98_16, oB_some, cl2_i, cl2_r, cl2_l, cl2_u, cl2_s, wd_0, wd_i, wd_r, wd_l, wd_f, ct_i, ct_r, ct_n, ct_f, rf_s, rf_n, tl_s, tl_n, true_and, and_true, eq_self, and_self, Nat.reduceAdd, Nat.reduceLeDiff, Nat.zero_le, Nat.reduceEqDiff, or_true, true_or, false_or, or_false, if_true, if_false, gI_0, gI_1, gI_2, gI_3, gI_4, gI_5, gI_6, gI_7, gI_8, gI_9, gI_10, gI_11, gI_12, gI_13, gI_14, gI_15, gL_0, gL_1, gL_2, gL_3, gL_4, gL_5, gL_6, gL_7, gL_8, gL_9, gL_10, gL_11, gL_12, gL_13, gL_14, gL_15, gA_0, gA_1, gA_2, gA_3, gA_4, gA_5, gA_6, gA_7, gA_8, gA_9, gA_10, gA_11, gA_12, gA_13, gA_14, gA_15, p1_0, p1_1, p1_2, p1_3, p1_4, p1_5, p1_6, p1_7, p1_8, p1_9, p1_10, p1_11, p1_12, p1_13, p1_14, p1_15, p2_0, p2_1, p2_2, p2_3, p2_4, p2_5, p2_6, p2_7, p2_8, p2_9, p2_10, p2_11, p2_12, p2_13, p2_14, p2_15]
  unfold backN
  rcases k8 hk with rfl | rfl | rfl | rfl | rfl | rfl | rfl | rfl <;> simp [li0, li1, li2, li3, li4, li5, li6, li7, b01]
