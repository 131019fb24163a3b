-- needs: 16.num 17.small 20.spec
theorem rem2 {n : Nat} (h : n < 2 ^ 31) : nI n - nI n / 2 * 2 = nI (n % 2) := pk_rem (d := 2) h (by decide) (by decide)
theorem rem3 {n : Nat} (h : n < 2 ^ 31) : nI n - nI n / 3 * 3 = nI (n % 3) := pk_rem (d := 3) h (by decide) (by decide)
theorem div2 {n : Nat} (h : n < 2 ^ 31) : nI n / 2 = nI (n / 2) := pk_div (d := 2) h (by decide) (by decide)
theorem div3 {n : Nat} (h : n < 2 ^ 31) : nI n / 3 = nI (n / 3) := pk_div (d := 3) h (by decide) (by decide)
theorem n2_0 : ¬ (2 : Int32) = 0 := by decide
theorem n3_0 : ¬ (3 : Int32) = 0 := by decide
theorem eq_l0 {n : Nat} (h : n < 2 ^ 31) : (nI n = 0) = (n = 0) := propext (nI_eq (b := 0) h (by decide))
theorem eq_l1 {n : Nat} (h : n < 2 ^ 31) : (nI n = 1) = (n = 1) := propext (nI_eq (b := 1) h (by decide))
theorem rem_f {a f : Nat} (ha : a < 2 ^ 31) (hf : f < 2 ^ 30) : nI a - nI a / (nI f + 2) * (nI f + 2) = nI (a % (f + 2)) := by
  have e : nI f + 2 = nI (f + 2) := nI_add f 2
  rw [e]
  exact pk_rem ha (by omega) (by omega)
theorem nf_0 {f : Nat} (hf : f < 2 ^ 30) : ¬ nI f + 2 = 0 := by
  have e : nI f + 2 = nI (f + 2) := nI_add f 2
  rw [e]
  exact nI_ne0 (by omega) (by omega)
theorem add_l (a : Nat) (b : Nat) : nI a + Int32.ofNat b = nI (a + b) := nI_add a b
theorem k8 {k : Nat} (h : k < 8) : k = 0 ∨ k = 1 ∨ k = 2 ∨ k = 3 ∨ k = 4 ∨ k = 5 ∨ k = 6 ∨ k = 7 := by omega
theorem li0 : nI 0 = 0 := rfl
theorem li1 : nI 1 = 1 := rfl
theorem li2 : nI 2 = 2 := rfl
theorem li3 : nI 3 = 3 := rfl
theorem li4 : nI 4 = 4 := rfl
theorem li5 : nI 5 = 5 := rfl
theorem li6 : nI 6 = 6 := rfl
theorem li7 : nI 7 = 7 := rfl
theorem li9 : nI 9 = 9 := rfl
def solN (d : Nat) : Nat := if d % 3 = 0 then 4 else if d % 3 = 1 then 1 else 7
theorem v_soldiersLead {d : Nat} {Q : PQ} {h : HP} {e : Nat} (he : e < 2 ^ 31) : Ev (d + 1) 59 [.int (nI e)] h Q = Q (some (.int (nI (solN e)))) h := by
  simp only [e59, s59_0, s59_1, s59_2, s59_3, s59_4, s59_5, s59_8, s59_9, s59_10, s59_11, s59_12, s59_15, s59_16, s59_19, s59_21, oB_some, cl2_i, cl2_r, cl2_l, cl2_u, cl2_s, wd_0, wd_i, wd_r, wd_l, wd_f, ct_i, ct_r, ct_n, ct_f, rf_s, rf_n, tl_s, tl_n, true_and, and_true, eq_self, and_self, Nat.reduceAdd, Nat.reduceLeDiff, Nat.zero_le, Nat.reduceEqDiff, or_true, true_or, false_or, or_false, if_true, if_false, gI_0, gI_1, gI_2, gI_3, gI_4, gI_5, gI_6, gI_7, gI_8, gI_9, gI_10, gI_11, gI_12, gI_13, gI_14, gI_15, gL_0, gL_1, gL_2, gL_3, gL_4, gL_5, gL_6, gL_7, gL_8, gL_9, gL_10, gL_11, gL_12, gL_13, gL_14, gL_15, gA_0, gA_1, gA_2, gA_3, gA_4, gA_5, gA_6, gA_7, gA_8, gA_9, gA_10, gA_11, gA_12, gA_13, gA_14, gA_15, p1_0, p1_1, p1_2, p1_3, p1_4, p1_5, p1_6, p1_7, p1_8, p1_9, p1_10, p1_11, p1_12, p1_13, p1_14, p1_15, p2_0, p2_1, p2_2, p2_3, p2_4, p2_5, p2_6, p2_7, p2_8, p2_9, p2_10, p2_11, p2_12, p2_13, p2_14, p2_15, n3_0, not_false_eq_true, rem3 he, eq_l0 (show e % 3 < 2 ^ 31 by omega), eq_l1 (show e % 3 < 2 ^ 31 by omega)]
  unfold solN
  by_cases h0 : e % 3 = 0
  · simp [h0]; rfl
  · by_cases h1 : e % 3 = 1
    · simp [h1]; rfl
    · simp [h0, h1]; rfl
theorem v_loversLead {d : Nat} {Q : PQ} {h : HP} {f : Nat} (hf : f < 2 ^ 30) : Ev (d + 1) 58 [.int (nI f)] h Q = Q (some (.int (nI (f / 2 + 1)))) h := by
  simp only [e58, s58_0, s58_1, s58_2, s58_3, s58_4, s58_5, oB_some, cl2_i, cl2_r, cl2_l, cl2_u, cl2_s, wd_0, wd_i, wd_r, wd_l, wd_f, ct_i, ct_r, ct_n, ct_f, rf_s, rf_n, tl_s, tl_n, true_and, and_true, eq_self, and_self, Nat.reduceAdd, Nat.reduceLeDiff, Nat.zero_le, Nat.reduceEqDiff, or_true, true_or, false_or, or_false, if_true, if_false, gI_0, gI_1, gI_2, gI_3, gI_4, gI_5, gI_6, gI_7, gI_8, gI_9, gI_10, gI_11, gI_12, gI_13, gI_14, gI_15, gL_0, gL_1, gL_2, gL_3, gL_4, gL_5, gL_6, gL_7, gL_8, gL_9, gL_10, gL_11, gL_12, gL_13, gL_14, gL_15, gA_0, gA_1, gA_2, gA_3, gA_4, gA_5, gA_6, gA_7, gA_8, gA_9, gA_10, gA_11, gA_12, gA_13, gA_14, gA_15, p1_0, p1_1, p1_2, p1_3, p1_4, p1_5, p1_6, p1_7, p1_8, p1_9, p1_10, p1_11, p1_12, p1_13, p1_14, p1_15, p2_0, p2_1, p2_2, p2_3, p2_4, p2_5, p2_6, p2_7, p2_8, p2_9, p2_10, p2_11, p2_12, p2_13, p2_14, p2_15, n2_0, not_false_eq_true, div2 (show f < 2 ^ 31 by omega), nI_1]
theorem v_banksLead {d : Nat} {Q : PQ} {h : HP} {f e : Nat} (hf : f < 2 ^ 30) (he : e < 2 ^ 31) : Ev (d + 1) 60 [.int (nI f), .int (nI e)] h Q = Q (some (.int (nI (if e % (f + 2) = 0 then 9 else 0)))) h := by
  have hm : e % (f + 2) < 2 ^ 31 := Nat.lt_of_le_of_lt (Nat.mod_le _ _) he
  have hp : ¬ nI f + 2 ≤ 0 := by
    have e : nI f + 2 = nI (f + 2) := nI_add f 2
    rw [e]
    exact nI_nle (by omega) (by omega)
  simp only [e60, s60_0, s60_1, s60_2, s60_3, s60_4, s60_5, s60_8, s60_9, s60_10, s60_11, s60_14, s60_16, s60_19, s60_20, oB_some, cl2_i, cl2_r, cl2_l, cl2_u, cl2_s, wd_0, wd_i, wd_r, wd_l, wd_f, ct_i, ct_r, ct_n, ct_f, rf_s, rf_n, tl_s, tl_n, true_and, and_true, eq_self, and_self, Nat.reduceAdd, Nat.reduceLeDiff, Nat.zero_le, Nat.reduceEqDiff, or_true, true_or, false_or, or_false, if_true, if_false, gI_0, gI_1, gI_2, gI_3, gI_4, gI_5, gI_6, gI_7, gI_8, gI_9, gI_10, gI_11, gI_12, gI_13, gI_14, gI_15, gL_0, gL_1, gL_2, gL_3, gL_4, gL_5, gL_6, gL_7, gL_8, gL_9, gL_10, gL_11, gL_12, gL_13, gL_14, gL_15, gA_0, gA_1, gA_2, gA_3, gA_4, gA_5, gA_6, gA_7, gA_8, gA_9, gA_10, gA_11, gA_12, gA_13, gA_14, gA_15, p1_0, p1_1, p1_2, p1_3, p1_4, p1_5, p1_6, p1_7, p1_8, p1_9, p1_10, p1_11, p1_12, p1_13, p1_14, p1_15, p2_0, p2_1, p2_2, p2_3, p2_4, p2_5, p2_6, p2_7, p2_8, p2_9, p2_10, p2_11, p2_12, p2_13, p2_14, p2_15, nf_0 hf, not_false_eq_true, rem_f he hf, hp, if_false, eq_l0 hm]
  by_cases h0 : e % (f + 2) = 0 <;> simp [h0] <;> rfl
set_option maxHeartbeats 4000000 in
theorem v_leadOf {d : Nat} {Q : PQ} {h : HP} {k f e : Nat} (hk : k < 8) (hf : f < 10) (he : e < 2 ^ 31) : Ev (d + 2) 57 [.int (nI k), .int (nI f), .int (nI e)] h Q = Q (some (.int (nI (leadN k f e)))) h := by
  have hr2 := eq_l0 (show e % 2 < 2 ^ 31 by omega)
  have hr3 : e % 2 = 0 ∨ e % 2 = 1 := by omega
  have hfe : e % (f + 2) = 0 ∨ ¬ e % (f + 2) = 0 := Decidable.em _
  simp only [e57, s57_0, s57_1, s57_48, s57_49, s57_50, s57_51, s57_54, s57_55, s57_58, s57_59, s57_60, s57_61, s57_64, s57_65, s57_66, s57_69, s57_70, s57_71, s57_72, s57_75, s57_76, s57_77, s57_78, s57_79, s57_82, s57_83, s57_84, s57_87, s57_90, s57_91, s57_92, s57_93, s57_96, s57_99, s57_100, s57_101, s57_104, s57_105, s57_106, s57_107, s57_108, s57_111, s57_112, s57_113, s57_114, s57_116, s57_117, s57_120, s57_121, s57_122, s57_123, s57_124, s57_125, oB_some, cl2_i, cl2_r, cl2_l, cl2_u, cl2_s, wd_0, wd_i, wd_r, wd_l, wd_f, ct_i, ct_r, ct_n, ct_f, rf_s, rf_n, tl_s, tl_n, true_and, and_true, eq_self, and_self, Nat.reduceAdd, Nat.reduceLeDiff, Nat.zero_le, Nat.reduceEqDiff, or_true, true_or, false_or, or_false, if_true, if_false, gI_0, gI_1, gI_2, gI_3, gI_4, gI_5, gI_6, gI_7, gI_8, gI_9, gI_10, gI_11, gI_12, gI_13, gI_14, gI_15, gL_0, gL_1, gL_2, gL_3, gL_4, gL_5, gL_6, gL_7, gL_8, gL_9, gL_10, gL_11, gL_12, gL_13, gL_14, gL_15, gA_0, gA_1, gA_2, gA_3, gA_4, gA_5, gA_6, gA_7, gA_8, gA_9, gA_10, gA_11, gA_12, gA_13, gA_14, gA_15, p1_0, p1_1, p1_2, p1_3, p1_4, p1_5, p1_6, p1_7, p1_8, p1_9, p1_10, p1_11, p1_12, p1_13, p1_14, p1_15, p2_0, p2_1, p2_2, p2_3, p2_4, p2_5, p2_6, p2_7, p2_8, p2_9, p2_10, p2_11, p2_12, p2_13, p2_14, p2_15, n2_0, not_false_eq_true, rem2 he, hr2, v_loversLead (show f < 2 ^ 30 by omega), v_soldiersLead he, v_banksLead (show f < 2 ^ 30 by omega) he]
  unfold leadN childN solN
  rcases k8 hk with rfl | rfl | rfl | rfl | rfl | rfl | rfl | rfl
  · rcases hr3 with q | q <;> simp [li0, q]
  · simp [li1]
  · simp [li2]
  · simp [li3]
  · rcases hr3 with q | q <;> rcases hfe with w | w <;> simp [li4, q, w, li9, li0, li5]
  · have z : nI (f / 2 + 1) + 2 = nI (f / 2 + 3) := nI_add (f / 2 + 1) 2
    simp [li5, z]
  · rcases (show e % 3 = 0 ∨ e % 3 = 1 ∨ e % 3 = 2 by omega) with q | q | q <;> simp [li6, q] <;> rfl
  · rcases (show e % 3 = 0 ∨ e % 3 = 1 ∨ e % 3 = 2 by omega) with q | q | q <;> simp [li7, q] <;> rfl
theorem m_leadOfChild {d : Nat} {Q : PQ} {h : HP} {e : Nat} (he : e < 2 ^ 31) : Ev (d + 1) 104 [.int (nI e)] h Q = Q (some (.int (nI (childN e)))) h := by
  simp only [e104, s104_0, s104_1, s104_2, s104_3, s104_6, s104_7, s104_10, s104_11, s104_12, s104_13, s104_14, s104_17, s104_18, s104_21, s104_23, oB_some, cl2_i, cl2_r, cl2_l, cl2_u, cl2_s, wd_0, wd_i, wd_r, wd_l, wd_f, ct_i, ct_r, ct_n, ct_f, rf_s, rf_n, tl_s, tl_n, true_and, and_true, eq_self, and_self, Nat.reduceAdd, Nat.reduceLeDiff, Nat.zero_le, Nat.reduceEqDiff, or_true, true_or, false_or, or_false, if_true, if_false, gI_0, gI_1, gI_2, gI_3, gI_4, gI_5, gI_6, gI_7, gI_8, gI_9, gI_10, gI_11, gI_12, gI_13, gI_14, gI_15, gL_0, gL_1, gL_2, gL_3, gL_4, gL_5, gL_6, gL_7, gL_8, gL_9, gL_10, gL_11, gL_12, gL_13, gL_14, gL_15, gA_0, gA_1, gA_2, gA_3, gA_4, gA_5, gA_6, gA_7, gA_8, gA_9, gA_10, gA_11, gA_12, gA_13, gA_14, gA_15, p1_0, p1_1, p1_2, p1_3, p1_4, p1_5, p1_6, p1_7, p1_8, p1_9, p1_10, p1_11, p1_12, p1_13, p1_14, p1_15, p2_0, p2_1, p2_2, p2_3, p2_4, p2_5, p2_6, p2_7, p2_8, p2_9, p2_10, p2_11, p2_12, p2_13, p2_14, p2_15, n3_0, not_false_eq_true, rem3 he, eq_l0 (show e % 3 < 2 ^ 31 by omega), eq_l1 (show e % 3 < 2 ^ 31 by omega)]
  unfold childN
  rcases (show e % 3 = 0 ∨ e % 3 = 1 ∨ e % 3 = 2 by omega) with q | q | q <;> simp [q] <;> rfl
set_option maxHeartbeats 4000000 in
theorem m_leadOf {d : Nat} {Q : PQ} {h : HP} {k f e : Nat} (hk : k < 8) (hf : f < 10) (he : e < 2 ^ 31) : Ev (d + 2) 103 [.int (nI k), .int (nI f), .int (nI e)] h Q = Q (some (.int (nI (leadN k f e)))) h := by
  have hr2 := eq_l0 (show e % 2 < 2 ^ 31 by omega)
  have hr21 := eq_l1 (show e % 2 < 2 ^ 31 by omega)
  have hr3 : e % 2 = 0 ∨ e % 2 = 1 := by omega
  have hfe : e % (f + 2) = 0 ∨ ¬ e % (f + 2) = 0 := Decidable.em _
  have hm : e % (f + 2) < 2 ^ 31 := Nat.lt_of_le_of_lt (Nat.mod_le _ _) he
  simp only [e103, s103_0, s103_1, s103_44, s103_45, s103_46, s103_47, s103_48, s103_49, s103_50, s103_51, s103_52, s103_53, s103_54, s103_55, s103_56, s103_57, s103_58, s103_59, s103_62, s103_63, s103_66, s103_67, s103_68, s103_69, s103_70, s103_73, s103_74, s103_77, s103_79, s103_80, s103_81, s103_84, s103_85, s103_87, s103_88, s103_91, s103_92, s103_93, s103_94, s103_95, s103_96, s103_97, s103_98, s103_101, s103_103, s103_106, s103_107, s103_108, s103_109, s103_110, s103_111, s103_112, s103_113, s103_116, s103_118, s103_121, s103_122, s103_123, s103_124, s103_125, s103_128, s103_129, s103_132, s103_133, s103_134, s103_135, s103_136, s103_137, s103_140, s103_141, s103_144, s103_145, oB_some, cl2_i, cl2_r, cl2_l, cl2_u, cl2_s, wd_0, wd_i, wd_r, wd_l, wd_f, ct_i, ct_r, ct_n, ct_f, rf_s, rf_n, tl_s, tl_n, true_and, and_true, eq_self, and_self, Nat.reduceAdd, Nat.reduceLeDiff, Nat.zero_le, Nat.reduceEqDiff, or_true, true_or, false_or, or_false, if_true, if_false, gI_0, gI_1, gI_2, gI_3, gI_4, gI_5, gI_6, gI_7, gI_8, gI_9, gI_10, gI_11, gI_12, gI_13, gI_14, gI_15, gL_0, gL_1, gL_2, gL_3, gL_4, gL_5, gL_6, gL_7, gL_8, gL_9, gL_10, gL_11, gL_12, gL_13, gL_14, gL_15, gA_0, gA_1, gA_2, gA_3, gA_4, gA_5, gA_6, gA_7, gA_8, gA_9, gA_10, gA_11, gA_12, gA_13, gA_14, gA_15, p1_0, p1_1, p1_2, p1_3, p1_4, p1_5, p1_6, p1_7, p1_8, p1_9, p1_10, p1_11, p1_12, p1_13, p1_14, p1_15, p2_0, p2_1, p2_2, p2_3, p2_4, p2_5, p2_6, p2_7, p2_8, p2_9, p2_10, p2_11, p2_12, p2_13, p2_14, p2_15, n2_0, n3_0, not_false_eq_true, rem2 he, rem3 he, hr2, hr21, m_leadOfChild he, nf_0 (show f < 2 ^ 30 by omega), rem_f he (show f < 2 ^ 30 by omega), eq_l0 hm, div2 (show f < 2 ^ 31 by omega), eq_l0 (show e % 3 < 2 ^ 31 by omega), eq_l1 (show e % 3 < 2 ^ 31 by omega)]
  unfold leadN childN
  rcases k8 hk with rfl | rfl | rfl | rfl | rfl | rfl | rfl | rfl
  · rcases hr3 with q | q <;> simp [li0, q]
  · have z : nI (f / 2) + 1 = nI (f / 2 + 1) := nI_add (f / 2) 1
    simp [li1, z]
  · rcases (show e % 3 = 0 ∨ e % 3 = 1 ∨ e % 3 = 2 by omega) with q | q | q <;> simp [li2, q] <;> rfl
  · rcases hfe with w | w <;> simp [li3, w, li9, li0]
  · rcases hr3 with q | q <;> rcases hfe with w | w <;> simp [li4, q, w, li9, li0, li5]
  · have z : nI (f / 2) + 3 = nI (f / 2 + 3) := nI_add (f / 2) 3
    simp [li5, z]
  · simp [li6]
  · rcases (show e % 3 = 0 ∨ e % 3 = 1 ∨ e % 3 = 2 by omega) with q | q | q <;> simp [li7, q] <;> rfl
theorem v_loversPress {d : Nat} {Q : PQ} {h : HP} {f : Nat} (hf : f < 2 ^ 30) : Ev (d + 1) 62 [.int (nI f)] h Q = Q (some (.int (nI (4 + f / 3)))) h := by
  have z : (4 : Int32) + nI (f / 3) = nI (4 + f / 3) := nI_add 4 (f / 3)
  simp only [e62, s62_0, s62_1, s62_2, s62_3, s62_4, s62_5, oB_some, cl2_i, cl2_r, cl2_l, cl2_u, cl2_s, wd_0, wd_i, wd_r, wd_l, wd_f, ct_i, ct_r, ct_n, ct_f, rf_s, rf_n, tl_s, tl_n, true_and, and_true, eq_self, and_self, Nat.reduceAdd, Nat.reduceLeDiff, Nat.zero_le, Nat.reduceEqDiff, or_true, true_or, false_or, or_false, if_true, if_false, gI_0, gI_1, gI_2, gI_3, gI_4, gI_5, gI_6, gI_7, gI_8, gI_9, gI_10, gI_11, gI_12, gI_13, gI_14, gI_15, gL_0, gL_1, gL_2, gL_3, gL_4, gL_5, gL_6, gL_7, gL_8, gL_9, gL_10, gL_11, gL_12, gL_13, gL_14, gL_15, gA_0, gA_1, gA_2, gA_3, gA_4, gA_5, gA_6, gA_7, gA_8, gA_9, gA_10, gA_11, gA_12, gA_13, gA_14, gA_15, p1_0, p1_1, p1_2, p1_3, p1_4, p1_5, p1_6, p1_7, p1_8, p1_9, p1_10, p1_11, p1_12, p1_13, p1_14, p1_15, p2_0, p2_1, p2_2, p2_3, p2_4, p2_5, p2_6, p2_7, p2_8, p2_9, p2_10, p2_11, p2_12, p2_13, p2_14, p2_15, n3_0, not_false_eq_true, div3 (show f < 2 ^ 31 by omega), z]
theorem v_soldiersEvery {d : Nat} {Q : PQ} {h : HP} {f : Nat} (hf : f < 2 ^ 30) : Ev (d + 1) 50 [.int (nI f)] h Q = Q (some (.int (nI (f / 2 + 2)))) h := by
  have z : nI (f / 2) + 2 = nI (f / 2 + 2) := nI_add (f / 2) 2
  simp only [e50, s50_0, s50_1, s50_2, s50_3, s50_4, s50_5, oB_some, cl2_i, cl2_r, cl2_l, cl2_u, cl2_s, wd_0, wd_i, wd_r, wd_l, wd_f, ct_i, ct_r, ct_n, ct_f, rf_s, rf_n, tl_s, tl_n, true_and, and_true, eq_self, and_self, Nat.reduceAdd, Nat.reduceLeDiff, Nat.zero_le, Nat.reduceEqDiff, or_true, true_or, false_or, or_false, if_true, if_false, gI_0, gI_1, gI_2, gI_3, gI_4, gI_5, gI_6, gI_7, gI_8, gI_9, gI_10, gI_11, gI_12, gI_13, gI_14, gI_15, gL_0, gL_1, gL_2, gL_3, gL_4, gL_5, gL_6, gL_7, gL_8, gL_9, gL_10, gL_11, gL_12, gL_13, gL_14, gL_15, gA_0, gA_1, gA_2, gA_3, gA_4, gA_5, gA_6, gA_7, gA_8, gA_9, gA_10, gA_11, gA_12, gA_13, gA_14, gA_15, p1_0, p1_1, p1_2, p1_3, p1_4, p1_5, p1_6, p1_7, p1_8, p1_9, p1_10, p1_11, p1_12, p1_13, p1_14, p1_15, p2_0, p2_1, p2_2, p2_3, p2_4, p2_5, p2_6, p2_7, p2_8, p2_9, p2_10, p2_11, p2_12, p2_13, p2_14, p2_15, n2_0, not_false_eq_true, div2 (show f < 2 ^ 31 by omega), z]
set_option maxHeartbeats 4000000 in
theorem v_pressOf {d : Nat} {Q : PQ} {h : HP} {k f : Nat} (hk : k < 8) (hf : f < 10) : Ev (d + 2) 61 [.int (nI k), .int (nI f)] h Q = Q (some (.int (nI (pressN k f)))) h := by
  simp only [e61, s61_0, s61_1, s61_48, s61_49, s61_50, s61_51, s61_54, s61_55, s61_56, s61_57, s61_58, s61_59, s61_60, s61_61, s61_62, s61_65, s61_66, s61_67, s61_68, s61_69, s61_70, s61_71, oB_some, cl2_i, cl2_r, cl2_l, cl2_u, cl2_s, wd_0, wd_i, wd_r, wd_l, wd_f, ct_i, ct_r, ct_n, ct_f, rf_s, rf_n, tl_s, tl_n, true_and, and_true, eq_self, and_self, Nat.reduceAdd, Nat.reduceLeDiff, Nat.zero_le, Nat.reduceEqDiff, or_true, true_or, false_or, or_false, if_true, if_false, gI_0, gI_1, gI_2, gI_3, gI_4, gI_5, gI_6, gI_7, gI_8, gI_9, gI_10, gI_11, gI_12, gI_13, gI_14, gI_15, gL_0, gL_1, gL_2, gL_3, gL_4, gL_5, gL_6, gL_7, gL_8, gL_9, gL_10, gL_11, gL_12, gL_13, gL_14, gL_15, gA_0, gA_1, gA_2, gA_3, gA_4, gA_5, gA_6, gA_7, gA_8, gA_9, gA_10, gA_11, gA_12, gA_13, gA_14, gA_15, p1_0, p1_1, p1_2, p1_3, p1_4, p1_5, p1_6, p1_7, p1_8, p1_9, p1_10, p1_11, p1_12, p1_13, p1_14, p1_15, p2_0, p2_1, p2_2, p2_3, p2_4, p2_5, p2_6, p2_7, p2_8, p2_9, p2_10, p2_11, p2_12, p2_13, p2_14, p2_15, v_loversPress (show f < 2 ^ 30 by omega)]
  have z : nI (4 + f / 3) - 3 = nI (1 + f / 3) := by
    have := pk_sub (a := 4 + f / 3) (b := 3) (by omega)
    rw [show 4 + f / 3 - 3 = 1 + f / 3 by omega] at this
    exact this
  unfold pressN
  rcases k8 hk with rfl | rfl | rfl | rfl | rfl | rfl | rfl | rfl <;> simp [li0, li1, li2, li3, li4, li5, li6, li7, z]
set_option maxHeartbeats 4000000 in
theorem v_everyOf {d : Nat} {Q : PQ} {h : HP} {k f : Nat} (hk : k < 8) (hf : f < 10) : Ev (d + 2) 49 [.int (nI k), .int (nI f)] h Q = Q (some (.int (nI (everyN k f)))) h := by
  simp only [e49, s49_0, s49_1, s49_48, s49_49, s49_50, s49_51, s49_52, s49_53, s49_56, s49_57, s49_58, s49_59, s49_60, s49_61, s49_62, s49_63, s49_64, s49_67, s49_68, s49_69, s49_70, s49_71, s49_72, s49_75, s49_76, s49_77, s49_78, s49_79, s49_80, oB_some, cl2_i, cl2_r, cl2_l, cl2_u, cl2_s, wd_0, wd_i, wd_r, wd_l, wd_f, ct_i, ct_r, ct_n, ct_f, rf_s, rf_n, tl_s, tl_n, true_and, and_true, eq_self, and_self, Nat.reduceAdd, Nat.reduceLeDiff, Nat.zero_le, Nat.reduceEqDiff, or_true, true_or, false_or, or_false, if_true, if_false, gI_0, gI_1, gI_2, gI_3, gI_4, gI_5, gI_6, gI_7, gI_8, gI_9, gI_10, gI_11, gI_12, gI_13, gI_14, gI_15, gL_0, gL_1, gL_2, gL_3, gL_4, gL_5, gL_6, gL_7, gL_8, gL_9, gL_10, gL_11, gL_12, gL_13, gL_14, gL_15, gA_0, gA_1, gA_2, gA_3, gA_4, gA_5, gA_6, gA_7, gA_8, gA_9, gA_10, gA_11, gA_12, gA_13, gA_14, gA_15, p1_0, p1_1, p1_2, p1_3, p1_4, p1_5, p1_6, p1_7, p1_8, p1_9, p1_10, p1_11, p1_12, p1_13, p1_14, p1_15, p2_0, p2_1, p2_2, p2_3, p2_4, p2_5, p2_6, p2_7, p2_8, p2_9, p2_10, p2_11, p2_12, p2_13, p2_14, p2_15, v_soldiersEvery (show f < 2 ^ 30 by omega)]
  have z : nI (f / 2 + 2) + 1 = nI (f / 2 + 3) := nI_add (f / 2 + 2) 1
  have z2 : 2 * nI (f / 2 + 3) = nI (2 * (f / 2 + 3)) := pk_mul 2 (f / 2 + 3)
  unfold everyN
  rcases k8 hk with rfl | rfl | rfl | rfl | rfl | rfl | rfl | rfl <;> simp [li0, li1, li2, li3, li4, li5, li6, li7, z, z2]
set_option maxHeartbeats 4000000 in
theorem v_picksOf {d : Nat} {Q : PQ} {h : HP} {k : Nat} (hk : k < 8) : Ev (d + 1) 53 [.int (nI k)] h Q = Q (some (.int (nI (picksN k)))) h := by
  simp only [e53, s53_0, s53_1, s53_44, s53_45, s53_46, s53_47, s53_48, s53_49, oB_some, cl2_i, cl2_r, cl2_l, cl2_u, cl2_s, wd_0, wd_i, wd_r, wd_l, wd_f, ct_i, ct_r, ct_n, ct_f, rf_s, rf_n, tl_s, tl_n, true_and, and_true, eq_self, and_self, Nat.reduceAdd, Nat.reduceLeDiff, Nat.zero_le, Nat.reduceEqDiff, or_true, true_or, false_or, or_false, if_true, if_false, gI_0, gI_1, gI_2, gI_3, gI_4, gI_5, gI_6, gI_7, gI_8, gI_9, gI_10, gI_11, gI_12, gI_13, gI_14, gI_15, gL_0, gL_1, gL_2, gL_3, gL_4, gL_5, gL_6, gL_7, gL_8, gL_9, gL_10, gL_11, gL_12, gL_13, gL_14, gL_15, gA_0, gA_1, gA_2, gA_3, gA_4, gA_5, gA_6, gA_7, gA_8, gA_9, gA_10, gA_11, gA_12, gA_13, gA_14, gA_15, p1_0, p1_1, p1_2, p1_3, p1_4, p1_5, p1_6, p1_7, p1_8, p1_9, p1_10, p1_11, p1_12, p1_13, p1_14, p1_15, p2_0, p2_1, p2_2, p2_3, p2_4, p2_5, p2_6, p2_7, p2_8, p2_9, p2_10, p2_11, p2_12, p2_13, p2_14, p2_15]
  unfold picksN
  rcases k8 hk with rfl | rfl | rfl | rfl | rfl | rfl | rfl | rfl <;> simp [li0, li1, li2, li3, li4, li5, li6, li7]
set_option maxHeartbeats 4000000 in
theorem v_isBackward {d : Nat} {Q : PQ} {h : HP} {k : Nat} (hk : k < 8) : Ev (d + 1) 54 [.int (nI k)] h Q = Q (some (.int (b01 (backN k)))) h := by
  simp only [e54, s54_0, s54_1, s54_2, s54_5, s54_6, s54_8, s54_11, s54_12, s54_15, s54_16, oB_some, cl2_i, cl2_r, cl2_l, cl2_u, cl2_s, wd_0, wd_i, wd_r, wd_l, wd_f, ct_i, ct_r, ct_n, ct_f, rf_s, rf_n, tl_s, tl_n, true_and, and_true, eq_self, and_self, Nat.reduceAdd, Nat.reduceLeDiff, Nat.zero_le, Nat.reduceEqDiff, or_true, true_or, false_or, or_false, if_true, if_false, gI_0, gI_1, gI_2, gI_3, gI_4, gI_5, gI_6, gI_7, gI_8, gI_9, gI_10, gI_11, gI_12, gI_13, gI_14, gI_15, gL_0, gL_1, gL_2, gL_3, gL_4, gL_5, gL_6, gL_7, gL_8, gL_9, gL_10, gL_11, gL_12, gL_13, gL_14, gL_15, gA_0, gA_1, gA_2, gA_3, gA_4, gA_5, gA_6, gA_7, gA_8, gA_9, gA_10, gA_11, gA_12, gA_13, gA_14, gA_15, p1_0, p1_1, p1_2, p1_3, p1_4, p1_5, p1_6, p1_7, p1_8, p1_9, p1_10, p1_11, p1_12, p1_13, p1_14, p1_15, p2_0, p2_1, p2_2, p2_3, p2_4, p2_5, p2_6, p2_7, p2_8, p2_9, p2_10, p2_11, p2_12, p2_13, p2_14, p2_15]
  unfold backN
  rcases k8 hk with rfl | rfl | rfl | rfl | rfl | rfl | rfl | rfl <;> simp [li0, li1, li2, li3, li4, li5, li6, li7, b01]
set_option maxHeartbeats 4000000 in
theorem m_pressOf {d : Nat} {Q : PQ} {h : HP} {k f : Nat} (hk : k < 8) (hf : f < 10) : Ev (d + 1) 105 [.int (nI k), .int (nI f)] h Q = Q (some (.int (nI (pressN k f)))) h := by
  have z : (4 : Int32) + nI (f / 3) = nI (4 + f / 3) := nI_add 4 (f / 3)
  have z2 : (1 : Int32) + nI (f / 3) = nI (1 + f / 3) := nI_add 1 (f / 3)
  simp only [e105, s105_0, s105_1, s105_44, s105_45, s105_46, s105_47, s105_48, s105_49, s105_50, s105_51, s105_52, s105_53, s105_54, s105_55, s105_56, s105_57, s105_58, s105_59, s105_60, s105_61, s105_62, s105_63, oB_some, cl2_i, cl2_r, cl2_l, cl2_u, cl2_s, wd_0, wd_i, wd_r, wd_l, wd_f, ct_i, ct_r, ct_n, ct_f, rf_s, rf_n, tl_s, tl_n, true_and, and_true, eq_self, and_self, Nat.reduceAdd, Nat.reduceLeDiff, Nat.zero_le, Nat.reduceEqDiff, or_true, true_or, false_or, or_false, if_true, if_false, gI_0, gI_1, gI_2, gI_3, gI_4, gI_5, gI_6, gI_7, gI_8, gI_9, gI_10, gI_11, gI_12, gI_13, gI_14, gI_15, gL_0, gL_1, gL_2, gL_3, gL_4, gL_5, gL_6, gL_7, gL_8, gL_9, gL_10, gL_11, gL_12, gL_13, gL_14, gL_15, gA_0, gA_1, gA_2, gA_3, gA_4, gA_5, gA_6, gA_7, gA_8, gA_9, gA_10, gA_11, gA_12, gA_13, gA_14, gA_15, p1_0, p1_1, p1_2, p1_3, p1_4, p1_5, p1_6, p1_7, p1_8, p1_9, p1_10, p1_11, p1_12, p1_13, p1_14, p1_15, p2_0, p2_1, p2_2, p2_3, p2_4, p2_5, p2_6, p2_7, p2_8, p2_9, p2_10, p2_11, p2_12, p2_13, p2_14, p2_15, n3_0, not_false_eq_true, div3 (show f < 2 ^ 31 by omega), z, z2]
  unfold pressN
  rcases k8 hk with rfl | rfl | rfl | rfl | rfl | rfl | rfl | rfl <;> simp [li0, li1, li2, li3, li4, li5, li6, li7]
set_option maxHeartbeats 4000000 in
theorem m_everyOf {d : Nat} {Q : PQ} {h : HP} {k f : Nat} (hk : k < 8) (hf : f < 10) : Ev (d + 1) 98 [.int (nI k), .int (nI f)] h Q = Q (some (.int (nI (everyN k f)))) h := by
  have z : nI (f / 2) + 2 = nI (f / 2 + 2) := nI_add (f / 2) 2
  have z1 : nI (f / 2) + 3 = nI (f / 2 + 3) := nI_add (f / 2) 3
  have z2 : 2 * nI (f / 2 + 3) = nI (2 * (f / 2 + 3)) := pk_mul 2 (f / 2 + 3)
  simp only [e98, s98_0, s98_1, s98_44, s98_45, s98_46, s98_47, s98_48, s98_49, s98_50, s98_51, s98_52, s98_53, s98_54, s98_55, s98_56, s98_57, s98_58, s98_59, s98_60, s98_61, s98_62, s98_63, s98_64, s98_65, s98_66, s98_67, s98_68, s98_69, oB_some, cl2_i, cl2_r, cl2_l, cl2_u, cl2_s, wd_0, wd_i, wd_r, wd_l, wd_f, ct_i, ct_r, ct_n, ct_f, rf_s, rf_n, tl_s, tl_n, true_and, and_true, eq_self, and_self, Nat.reduceAdd, Nat.reduceLeDiff, Nat.zero_le, Nat.reduceEqDiff, or_true, true_or, false_or, or_false, if_true, if_false, gI_0, gI_1, gI_2, gI_3, gI_4, gI_5, gI_6, gI_7, gI_8, gI_9, gI_10, gI_11, gI_12, gI_13, gI_14, gI_15, gL_0, gL_1, gL_2, gL_3, gL_4, gL_5, gL_6, gL_7, gL_8, gL_9, gL_10, gL_11, gL_12, gL_13, gL_14, gL_15, gA_0, gA_1, gA_2, gA_3, gA_4, gA_5, gA_6, gA_7, gA_8, gA_9, gA_10, gA_11, gA_12, gA_13, gA_14, gA_15, p1_0, p1_1, p1_2, p1_3, p1_4, p1_5, p1_6, p1_7, p1_8, p1_9, p1_10, p1_11, p1_12, p1_13, p1_14, p1_15, p2_0, p2_1, p2_2, p2_3, p2_4, p2_5, p2_6, p2_7, p2_8, p2_9, p2_10, p2_11, p2_12, p2_13, p2_14, p2_15, n2_0, not_false_eq_true, div2 (show f < 2 ^ 31 by omega), z, z1, z2]
  unfold everyN
  rcases k8 hk with rfl | rfl | rfl | rfl | rfl | rfl | rfl | rfl <;> simp [li0, li1, li2, li3, li4, li5, li6, li7]
set_option maxHeartbeats 4000000 in
theorem m_picksOf {d : Nat} {Q : PQ} {h : HP} {k : Nat} (hk : k < 8) : Ev (d + 1) 100 [.int (nI k)] h Q = Q (some (.int (nI (picksN k)))) h := by
  simp only [e100, s100_0, s100_1, s100_2, s100_5, s100_6, s100_8, s100_11, s100_12, s100_15, s100_16, s100_19, s100_20, s100_21, s100_24, s100_25, s100_28, s100_29, oB_some, cl2_i, cl2_r, cl2_l, cl2_u, cl2_s, wd_0, wd_i, wd_r, wd_l, wd_f, ct_i, ct_r, ct_n, ct_f, rf_s, rf_n, tl_s, tl_n, true_and, and_true, eq_self, and_self, Nat.reduceAdd, Nat.reduceLeDiff, Nat.zero_le, Nat.reduceEqDiff, or_true, true_or, false_or, or_false, if_true, if_false, gI_0, gI_1, gI_2, gI_3, gI_4, gI_5, gI_6, gI_7, gI_8, gI_9, gI_10, gI_11, gI_12, gI_13, gI_14, gI_15, gL_0, gL_1, gL_2, gL_3, gL_4, gL_5, gL_6, gL_7, gL_8, gL_9, gL_10, gL_11, gL_12, gL_13, gL_14, gL_15, gA_0, gA_1, gA_2, gA_3, gA_4, gA_5, gA_6, gA_7, gA_8, gA_9, gA_10, gA_11, gA_12, gA_13, gA_14, gA_15, p1_0, p1_1, p1_2, p1_3, p1_4, p1_5, p1_6, p1_7, p1_8, p1_9, p1_10, p1_11, p1_12, p1_13, p1_14, p1_15, p2_0, p2_1, p2_2, p2_3, p2_4, p2_5, p2_6, p2_7, p2_8, p2_9, p2_10, p2_11, p2_12, p2_13, p2_14, p2_15]
  unfold picksN
  rcases k8 hk with rfl | rfl | rfl | rfl | rfl | rfl | rfl | rfl <;> simp [li0, li1, li2, li3, li4, li5, li6, li7]
set_option maxHeartbeats 4000000 in
theorem m_isBackward {d : Nat} {Q : PQ} {h : HP} {k : Nat} (hk : k < 8) : Ev (d + 1) 101 [.int (nI k)] h Q = Q (some (.int (b01 (backN k)))) h := by
  simp only [e101, s101_0, s101_1, s101_2, s101_5, s101_6, s101_8, s101_11, s101_12, s101_15, s101_16, oB_some, cl2_i, cl2_r, cl2_l, cl2_u, cl2_s, wd_0, wd_i, wd_r, wd_l, wd_f, ct_i, ct_r, ct_n, ct_f, rf_s, rf_n, tl_s, tl_n, true_and, and_true, eq_self, and_self, Nat.reduceAdd, Nat.reduceLeDiff, Nat.zero_le, Nat.reduceEqDiff, or_true, true_or, false_or, or_false, if_true, if_false, gI_0, gI_1, gI_2, gI_3, gI_4, gI_5, gI_6, gI_7, gI_8, gI_9, gI_10, gI_11, gI_12, gI_13, gI_14, gI_15, gL_0, gL_1, gL_2, gL_3, gL_4, gL_5, gL_6, gL_7, gL_8, gL_9, gL_10, gL_11, gL_12, gL_13, gL_14, gL_15, gA_0, gA_1, gA_2, gA_3, gA_4, gA_5, gA_6, gA_7, gA_8, gA_9, gA_10, gA_11, gA_12, gA_13, gA_14, gA_15, p1_0, p1_1, p1_2, p1_3, p1_4, p1_5, p1_6, p1_7, p1_8, p1_9, p1_10, p1_11, p1_12, p1_13, p1_14, p1_15, p2_0, p2_1, p2_2, p2_3, p2_4, p2_5, p2_6, p2_7, p2_8, p2_9, p2_10, p2_11, p2_12, p2_13, p2_14, p2_15]
  unfold backN
  rcases k8 hk with rfl | rfl | rfl | rfl | rfl | rfl | rfl | rfl <;> simp [li0, li1, li2, li3, li4, li5, li6, li7, b01]
