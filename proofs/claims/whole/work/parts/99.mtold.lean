-- the other side: what one statement does
theorem tst_112 {d : Nat} {Q : PQ} {al : List Slot} {st : List Value} {h : HP} {c s : Nat} : WP d 78 Q (10, al, .int (nI 112) :: st, h, c, s) = WP d 78 Q (60, al, st, h, c, s) := s78_10.trans rfl
theorem tst_102 {d : Nat} {Q : PQ} {al : List Slot} {st : List Value} {h : HP} {c s : Nat} : WP d 78 Q (10, al, .int (nI 102) :: st, h, c, s) = WP d 78 Q (79, al, st, h, c, s) := s78_10.trans rfl
theorem tst_107 {d : Nat} {Q : PQ} {al : List Slot} {st : List Value} {h : HP} {c s : Nat} : WP d 78 Q (10, al, .int (nI 107) :: st, h, c, s) = WP d 78 Q (98, al, st, h, c, s) := s78_10.trans rfl
theorem tst_115 {d : Nat} {Q : PQ} {al : List Slot} {st : List Value} {h : HP} {c s : Nat} : WP d 78 Q (10, al, .int (nI 115) :: st, h, c, s) = WP d 78 Q (117, al, st, h, c, s) := s78_10.trans rfl
theorem tst_120 {d : Nat} {Q : PQ} {al : List Slot} {st : List Value} {h : HP} {c s : Nat} : WP d 78 Q (10, al, .int (nI 120) :: st, h, c, s) = WP d 78 Q (129, al, st, h, c, s) := s78_10.trans rfl
theorem tst_114 {d : Nat} {Q : PQ} {al : List Slot} {st : List Value} {h : HP} {c s : Nat} : WP d 78 Q (10, al, .int (nI 114) :: st, h, c, s) = WP d 78 Q (140, al, st, h, c, s) := s78_10.trans rfl
theorem tst_100 {d : Nat} {Q : PQ} {al : List Slot} {st : List Value} {h : HP} {c s : Nat} : WP d 78 Q (10, al, .int (nI 100) :: st, h, c, s) = WP d 78 Q (140, al, st, h, c, s) := s78_10.trans rfl
theorem mulTwo {j : Nat} (hj : j < 33) : (2 : Int32) * nI j = nI (2 * j) := by
  have : ∀ j, j < 33 → (2 : Int32) * nI j = nI (2 * j) := by decide +kernel
  exact this j hj
set_option maxHeartbeats 8000000 in
theorem m_comesTold {d i j : Nat} {tp : Nat → Nat} {Q : PQ} {h : HP} {m : Nat} {S : VS} (M : MO h m S) (gS : GV S) (st : ST h m tp j i) (hj : j < 33) (l0 : ¬ lbN (tp i) = 0) (d1 : isDg (tp (i + 1)) = true) (d2 : isDg (tp (i + 2)) = true) (d3 : tp i = 107 → isDg (tp (i + 3)) = true)
    (k0 : tl1 tp S i = none → Q (some (.int 0)) h)
    (k : ∀ S', tl1 tp S i = some S' → ∀ h', FQ m h h' → MO h' m S' → Q (some (.int 1)) h') : Ev (d + 9) 78 [.ref m, .int (nI j)] h Q := by
  have K := M.1.k
  unfold MK at K
  have g := gS.1
  have hy := gS.2
  have gn := g.n
  obtain ⟨s1, s2, s3, s4, s5⟩ := st
  have j31 : j < 2 ^ 31 := by omega
  have p31 : 2 * j < 2 ^ 31 := by omega
  have p66 : 2 * j < 66 := by omega
  have q31 : 2 * j + 1 < 2 ^ 31 := by omega
  have q66 : 2 * j + 1 < 66 := by omega
  have a1 := dg_le d1
  have a2 := dg_le d2
  have w1 : dd tp (i + 1) ≤ 99 := by unfold dd; rw [show i + 1 + 1 = i + 2 from rfl]; omega
  have r0 : ((8 : Int32) ≤ nI (dg tp (i + 1))) = (8 ≤ dg tp (i + 1)) := propext (nI_leI (a := 8) (by decide) (by omega))
  have r1 : (nI (dd tp (i + 1)) < 40) = (dd tp (i + 1) < 40) := ltP (b := 40) (by omega) (by decide)
  have r2 : (nI (dd tp (i + 1)) ≤ 18) = (dd tp (i + 1) ≤ 18) := propext (nI_leI (b := 18) (by omega) (by decide))
  have r3 : (nI (dg tp (i + 2)) ≤ 5) = (dg tp (i + 2) ≤ 5) := propext (nI_leI (b := 5) (by omega) (by decide))
  have r7 : (nI (vn S) = 6) = (vn S = 6) := eqP (b := 6) (by omega) (by decide)
  have mm := mulTwo hj
  unfold tl1 at k0 k
  rcases lb7 l0 with e | e | e | e | e | e | e
  · have t1 := s1
    rw [e] at t1
    obtain ⟨u1, u2⟩ := s3 (Or.inl e)
    simp only [e, Nat.reduceEqDiff, if_true, if_false] at k0 k
    simp only [e78, s78_0, s78_1, s78_2, s78_3, s78_4, s78_5, s78_8, s78_9, tst_112, oB_some, cl2_i, cl2_r, cl2_l, cl2_u, cl2_s, wd_0, wd_i, wd_r, wd_l, wd_f, ct_i, ct_r, ct_n, ct_f, rf_s, rf_n, tl_s, tl_n, true_and, and_true, eq_self, and_self, Nat.reduceAdd, Nat.reduceLeDiff, Nat.zero_le, Nat.reduceEqDiff, or_true, true_or, false_or, or_false, if_true, if_false, gI_0, gI_1, gI_2, gI_3, gI_4, gI_5, gI_6, gI_7, gI_8, gI_9, gI_10, gI_11, gI_12, gI_13, gI_14, gI_15, gL_0, gL_1, gL_2, gL_3, gL_4, gL_5, gL_6, gL_7, gL_8, gL_9, gL_10, gL_11, gL_12, gL_13, gL_14, gL_15, gA_0, gA_1, gA_2, gA_3, gA_4, gA_5, gA_6, gA_7, gA_8, gA_9, gA_10, gA_11, gA_12, gA_13, gA_14, gA_15, p1_0, p1_1, p1_2, p1_3, p1_4, p1_5, p1_6, p1_7, p1_8, p1_9, p1_10, p1_11, p1_12, p1_13, p1_14, p1_15, p2_0, p2_1, p2_2, p2_3, p2_4, p2_5, p2_6, p2_7, p2_8, p2_9, p2_10, p2_11, p2_12, p2_13, p2_14, p2_15, K, mm, ix_nI j31, nI_pos' j31, hj, t1, ix_nI p31, nI_pos' p31, p66, ix_nI q31, nI_pos' q31, q66, nI_1, u1, u2, s78_60, s78_61, s78_62, s78_65, s78_66, s78_67, s78_68, s78_71, s78_72, s78_73, s78_74, s78_75, s78_78, e79, s79_0, s79_1, s79_3, s79_6, s79_7, s79_10, s79_12, s79_15, s79_16, b01_ok, b_ft, b_tf, b01_e0, b01_e1, lgc_0, not_true_eq_false, not_false_eq_true, r0, M.1.n, r7]
    by_cases h7 : 7 < dg tp (i + 1)
    · simp only [show 8 ≤ dg tp (i + 1) from h7, if_true]
      exact k0 (by simp [h7])
    · have h7' : ¬ 8 ≤ dg tp (i + 1) := by omega
      by_cases h6 : vn S = 6
      · simp only [h7', h6, if_true, if_false, not_true_eq_false]
        exact k0 (by simp [h6])
      · simp only [h7', h6, if_true, if_false, not_false_eq_true, s79_17, s79_18, s79_19, s79_20, oB_some, cl2_i, cl2_r, cl2_l, cl2_u, cl2_s, wd_0, wd_i, wd_r, wd_l, wd_f, ct_i, ct_r, ct_n, ct_f, rf_s, rf_n, tl_s, tl_n, true_and, and_true, eq_self, and_self, Nat.reduceAdd, Nat.reduceLeDiff, Nat.zero_le, Nat.reduceEqDiff, or_true, true_or, false_or, or_false, if_true, if_false, gI_0, gI_1, gI_2, gI_3, gI_4, gI_5, gI_6, gI_7, gI_8, gI_9, gI_10, gI_11, gI_12, gI_13, gI_14, gI_15, gL_0, gL_1, gL_2, gL_3, gL_4, gL_5, gL_6, gL_7, gL_8, gL_9, gL_10, gL_11, gL_12, gL_13, gL_14, gL_15, gA_0, gA_1, gA_2, gA_3, gA_4, gA_5, gA_6, gA_7, gA_8, gA_9, gA_10, gA_11, gA_12, gA_13, gA_14, gA_15, p1_0, p1_1, p1_2, p1_3, p1_4, p1_5, p1_6, p1_7, p1_8, p1_9, p1_10, p1_11, p1_12, p1_13, p1_14, p1_15, p2_0, p2_1, p2_2, p2_3, p2_4, p2_5, p2_6, p2_7, p2_8, p2_9, p2_10, p2_11, p2_12, p2_13, p2_14, p2_15, K]
        refine m_isMore M g (by omega) fun h2 f2 q2 => ?_
        simp only [s79_23, s79_24, s78_78, oB_some, cl2_i, cl2_r, cl2_l, cl2_u, cl2_s, wd_0, wd_i, wd_r, wd_l, wd_f, ct_i, ct_r, ct_n, ct_f, rf_s, rf_n, tl_s, tl_n, true_and, and_true, eq_self, and_self, Nat.reduceAdd, Nat.reduceLeDiff, Nat.zero_le, Nat.reduceEqDiff, or_true, true_or, false_or, or_false, if_true, if_false, gI_0, gI_1, gI_2, gI_3, gI_4, gI_5, gI_6, gI_7, gI_8, gI_9, gI_10, gI_11, gI_12, gI_13, gI_14, gI_15, gL_0, gL_1, gL_2, gL_3, gL_4, gL_5, gL_6, gL_7, gL_8, gL_9, gL_10, gL_11, gL_12, gL_13, gL_14, gL_15, gA_0, gA_1, gA_2, gA_3, gA_4, gA_5, gA_6, gA_7, gA_8, gA_9, gA_10, gA_11, gA_12, gA_13, gA_14, gA_15, p1_0, p1_1, p1_2, p1_3, p1_4, p1_5, p1_6, p1_7, p1_8, p1_9, p1_10, p1_11, p1_12, p1_13, p1_14, p1_15, p2_0, p2_1, p2_2, p2_3, p2_4, p2_5, p2_6, p2_7, p2_8, p2_9, p2_10, p2_11, p2_12, p2_13, p2_14, p2_15]
        exact k _ (by rw [if_neg (by omega)]) h2 f2 q2
  · have t1 := s1
    rw [e] at t1
    obtain ⟨u1, u2⟩ := s3 (Or.inr e)
    simp only [e, Nat.reduceEqDiff, if_true, if_false] at k0 k
    simp only [e78, s78_0, s78_1, s78_2, s78_3, s78_4, s78_5, s78_8, s78_9, tst_102, oB_some, cl2_i, cl2_r, cl2_l, cl2_u, cl2_s, wd_0, wd_i, wd_r, wd_l, wd_f, ct_i, ct_r, ct_n, ct_f, rf_s, rf_n, tl_s, tl_n, true_and, and_true, eq_self, and_self, Nat.reduceAdd, Nat.reduceLeDiff, Nat.zero_le, Nat.reduceEqDiff, or_true, true_or, false_or, or_false, if_true, if_false, gI_0, gI_1, gI_2, gI_3, gI_4, gI_5, gI_6, gI_7, gI_8, gI_9, gI_10, gI_11, gI_12, gI_13, gI_14, gI_15, gL_0, gL_1, gL_2, gL_3, gL_4, gL_5, gL_6, gL_7, gL_8, gL_9, gL_10, gL_11, gL_12, gL_13, gL_14, gL_15, gA_0, gA_1, gA_2, gA_3, gA_4, gA_5, gA_6, gA_7, gA_8, gA_9, gA_10, gA_11, gA_12, gA_13, gA_14, gA_15, p1_0, p1_1, p1_2, p1_3, p1_4, p1_5, p1_6, p1_7, p1_8, p1_9, p1_10, p1_11, p1_12, p1_13, p1_14, p1_15, p2_0, p2_1, p2_2, p2_3, p2_4, p2_5, p2_6, p2_7, p2_8, p2_9, p2_10, p2_11, p2_12, p2_13, p2_14, p2_15, K, mm, ix_nI j31, nI_pos' j31, hj, t1, ix_nI p31, nI_pos' p31, p66, ix_nI q31, nI_pos' q31, q66, nI_1, u1, u2, s78_79, s78_80, s78_81, s78_84, s78_85, s78_86, s78_87, s78_90, s78_91, s78_92, s78_93, s78_94, s78_97, e81, s81_0, s81_1, s81_2, s81_5, s81_8, s81_9, s81_10, s81_13, s81_14, s81_15, s81_16, s81_19, s81_20, s81_21, s81_22, s81_23, z_hkd_sI, z_hln_sI, z_hL_sI, z_hR_sI, z_hnx_sI, z_hkd_sL, z_hln_sL, z_hI_sL, z_hR_sL, z_hnx_sL, z_hkd_sR, z_hln_sR, z_hI_sR, z_hL_sR, z_hnx_sR, z_hkd_cI, z_hln_cI, z_hL_cI, z_hR_cI, z_hnx_cI, z_hkd_cLg, z_hln_cLg, z_hI_cLg, z_hR_cLg, z_hnx_cLg, b01_ok, b_ft, b_tf, b01_e0, b01_e1, lgc_0, not_true_eq_false, not_false_eq_true, m_isPersonI M.1 g, isPI_nI g (show dg tp (i + 1) < 2 ^ 31 by omega), r3]
    by_cases h7 : vn S ≤ dg tp (i + 1)
    · simp only [show decide (dg tp (i + 1) < vn S) = false from decide_eq_false (by omega), b01_f, if_true]
      exact k0 (by simp [h7])
    · by_cases h6 : 5 < dg tp (i + 2)
      · simp only [show decide (dg tp (i + 1) < vn S) = true from decide_eq_true (by omega), b01_t, Nat.not_le.mpr h6, Bool.true_eq_false, z10, if_false]
        exact k0 (by simp [h6])
      · have j6 : dg tp (i + 1) < 6 := by omega
        have o31 : dg tp (i + 1) < 2 ^ 31 := by omega
        simp only [show decide (dg tp (i + 1) < vn S) = true from decide_eq_true (by omega), b01_t, Nat.not_lt.mp h6, Bool.true_eq_false, z10, if_false, if_true, ix_nI o31, nI_pos' o31, j6, true_and]
        exact k _ (by rw [if_neg (by omega)]) _ (FQ.rf.sI (Or.inr (Or.inl (by omega)))) ⟨RM_r M.1 _ _, M.2.w (Or.inl (by omega))⟩
  · have t1 := s1
    rw [e] at t1
    obtain ⟨u1, u2⟩ := s4 e
    simp only [e, Nat.reduceEqDiff, if_true, if_false] at k0 k
    have d3' := d3 e
    have w2 : dd tp (i + 2) ≤ 99 := by
      have := dg_le (i := i + 3) d3'
      unfold dd
      rw [show i + 2 + 1 = i + 3 from rfl]
      omega
    have u2' : hI h (m + 15) (2 * j + 1) = nI (dd tp (i + 2)) := u2
    have r8 : (nI (dd tp (i + 2)) < 40) = (dd tp (i + 2) < 40) := ltP (b := 40) (by omega) (by decide)
    have ki : isKI S (nI (dg tp (i + 1))) = decide (dg tp (i + 1) < vn S) := by
      unfold isKI
      rw [isPI_nI g (by omega), decide_eq_false (nm1 (show dg tp (i + 1) < 2 ^ 31 by omega)), Bool.false_or]
    by_cases h7 : vn S ≤ dg tp (i + 1)
    · simp only [e78, s78_0, s78_1, s78_2, s78_3, s78_4, s78_5, s78_8, s78_9, tst_107, oB_some, cl2_i, cl2_r, cl2_l, cl2_u, cl2_s, wd_0, wd_i, wd_r, wd_l, wd_f, ct_i, ct_r, ct_n, ct_f, rf_s, rf_n, tl_s, tl_n, true_and, and_true, eq_self, and_self, Nat.reduceAdd, Nat.reduceLeDiff, Nat.zero_le, Nat.reduceEqDiff, or_true, true_or, false_or, or_false, if_true, if_false, gI_0, gI_1, gI_2, gI_3, gI_4, gI_5, gI_6, gI_7, gI_8, gI_9, gI_10, gI_11, gI_12, gI_13, gI_14, gI_15, gL_0, gL_1, gL_2, gL_3, gL_4, gL_5, gL_6, gL_7, gL_8, gL_9, gL_10, gL_11, gL_12, gL_13, gL_14, gL_15, gA_0, gA_1, gA_2, gA_3, gA_4, gA_5, gA_6, gA_7, gA_8, gA_9, gA_10, gA_11, gA_12, gA_13, gA_14, gA_15, p1_0, p1_1, p1_2, p1_3, p1_4, p1_5, p1_6, p1_7, p1_8, p1_9, p1_10, p1_11, p1_12, p1_13, p1_14, p1_15, p2_0, p2_1, p2_2, p2_3, p2_4, p2_5, p2_6, p2_7, p2_8, p2_9, p2_10, p2_11, p2_12, p2_13, p2_14, p2_15, K, mm, ix_nI j31, nI_pos' j31, hj, t1, ix_nI p31, nI_pos' p31, p66, ix_nI q31, nI_pos' q31, q66, nI_1, u1, u2', s78_98, s78_99, s78_100, s78_103, s78_104, s78_105, s78_106, s78_109, s78_110, s78_111, s78_112, s78_113, s78_116, e83, s83_0, s83_1, s83_2, s83_5, s83_8, s83_9, s83_11, s83_14, s83_15, s83_16, s83_17, s83_20, s83_21, s83_22, s83_25, s83_26, s83_27, s83_28, s83_29, s83_32, s83_35, s83_36, s83_39, s83_40, s83_41, s83_42, s83_43, s83_44, s83_45, s83_46, s83_47, s83_48, b01_ok, b_ft, b_tf, b01_e0, b01_e1, lgc_0, not_true_eq_false, not_false_eq_true, m_isKnowerI M.1 g, ki, show decide (dg tp (i + 1) < vn S) = false from decide_eq_false (by omega), b01_f, if_true]
      exact k0 (by simp [h7])
    · by_cases h6 : 39 < dd tp (i + 2)
      · simp only [e78, s78_0, s78_1, s78_2, s78_3, s78_4, s78_5, s78_8, s78_9, tst_107, oB_some, cl2_i, cl2_r, cl2_l, cl2_u, cl2_s, wd_0, wd_i, wd_r, wd_l, wd_f, ct_i, ct_r, ct_n, ct_f, rf_s, rf_n, tl_s, tl_n, true_and, and_true, eq_self, and_self, Nat.reduceAdd, Nat.reduceLeDiff, Nat.zero_le, Nat.reduceEqDiff, or_true, true_or, false_or, or_false, if_true, if_false, gI_0, gI_1, gI_2, gI_3, gI_4, gI_5, gI_6, gI_7, gI_8, gI_9, gI_10, gI_11, gI_12, gI_13, gI_14, gI_15, gL_0, gL_1, gL_2, gL_3, gL_4, gL_5, gL_6, gL_7, gL_8, gL_9, gL_10, gL_11, gL_12, gL_13, gL_14, gL_15, gA_0, gA_1, gA_2, gA_3, gA_4, gA_5, gA_6, gA_7, gA_8, gA_9, gA_10, gA_11, gA_12, gA_13, gA_14, gA_15, p1_0, p1_1, p1_2, p1_3, p1_4, p1_5, p1_6, p1_7, p1_8, p1_9, p1_10, p1_11, p1_12, p1_13, p1_14, p1_15, p2_0, p2_1, p2_2, p2_3, p2_4, p2_5, p2_6, p2_7, p2_8, p2_9, p2_10, p2_11, p2_12, p2_13, p2_14, p2_15, K, mm, ix_nI j31, nI_pos' j31, hj, t1, ix_nI p31, nI_pos' p31, p66, ix_nI q31, nI_pos' q31, q66, nI_1, u1, u2', s78_98, s78_99, s78_100, s78_103, s78_104, s78_105, s78_106, s78_109, s78_110, s78_111, s78_112, s78_113, s78_116, e83, s83_0, s83_1, s83_2, s83_5, s83_8, s83_9, s83_11, s83_14, s83_15, b01_ok, b_ft, b_tf, b01_e0, b01_e1, lgc_0, not_true_eq_false, not_false_eq_true, m_isKnowerI M.1 g, ki, show decide (dg tp (i + 1) < vn S) = true from decide_eq_true (by omega), b01_t, Bool.true_eq_false, z10, r8, show ¬ dd tp (i + 2) < 40 by omega, if_false]
        exact k0 (by simp [h6])
      · simp only [e78, s78_0, s78_1, s78_2, s78_3, s78_4, s78_5, s78_8, s78_9, tst_107, oB_some, cl2_i, cl2_r, cl2_l, cl2_u, cl2_s, wd_0, wd_i, wd_r, wd_l, wd_f, ct_i, ct_r, ct_n, ct_f, rf_s, rf_n, tl_s, tl_n, true_and, and_true, eq_self, and_self, Nat.reduceAdd, Nat.reduceLeDiff, Nat.zero_le, Nat.reduceEqDiff, or_true, true_or, false_or, or_false, if_true, if_false, gI_0, gI_1, gI_2, gI_3, gI_4, gI_5, gI_6, gI_7, gI_8, gI_9, gI_10, gI_11, gI_12, gI_13, gI_14, gI_15, gL_0, gL_1, gL_2, gL_3, gL_4, gL_5, gL_6, gL_7, gL_8, gL_9, gL_10, gL_11, gL_12, gL_13, gL_14, gL_15, gA_0, gA_1, gA_2, gA_3, gA_4, gA_5, gA_6, gA_7, gA_8, gA_9, gA_10, gA_11, gA_12, gA_13, gA_14, gA_15, p1_0, p1_1, p1_2, p1_3, p1_4, p1_5, p1_6, p1_7, p1_8, p1_9, p1_10, p1_11, p1_12, p1_13, p1_14, p1_15, p2_0, p2_1, p2_2, p2_3, p2_4, p2_5, p2_6, p2_7, p2_8, p2_9, p2_10, p2_11, p2_12, p2_13, p2_14, p2_15, K, mm, ix_nI j31, nI_pos' j31, hj, t1, ix_nI p31, nI_pos' p31, p66, ix_nI q31, nI_pos' q31, q66, nI_1, u1, u2', s78_98, s78_99, s78_100, s78_103, s78_104, s78_105, s78_106, s78_109, s78_110, s78_111, s78_112, s78_113, s78_116]
        refine m_comesKnowing M g (by rw [ki]; exact decide_eq_true (by omega)) (by omega) fun h2 f2 q2 => ?_
        simp only [s78_116, oB_some, cl2_i, cl2_r, cl2_l, cl2_u, cl2_s, wd_0, wd_i, wd_r, wd_l, wd_f, ct_i, ct_r, ct_n, ct_f, rf_s, rf_n, tl_s, tl_n, true_and, and_true, eq_self, and_self, Nat.reduceAdd, Nat.reduceLeDiff, Nat.zero_le, Nat.reduceEqDiff, or_true, true_or, false_or, or_false, if_true, if_false, gI_0, gI_1, gI_2, gI_3, gI_4, gI_5, gI_6, gI_7, gI_8, gI_9, gI_10, gI_11, gI_12, gI_13, gI_14, gI_15, gL_0, gL_1, gL_2, gL_3, gL_4, gL_5, gL_6, gL_7, gL_8, gL_9, gL_10, gL_11, gL_12, gL_13, gL_14, gL_15, gA_0, gA_1, gA_2, gA_3, gA_4, gA_5, gA_6, gA_7, gA_8, gA_9, gA_10, gA_11, gA_12, gA_13, gA_14, gA_15, p1_0, p1_1, p1_2, p1_3, p1_4, p1_5, p1_6, p1_7, p1_8, p1_9, p1_10, p1_11, p1_12, p1_13, p1_14, p1_15, p2_0, p2_1, p2_2, p2_3, p2_4, p2_5, p2_6, p2_7, p2_8, p2_9, p2_10, p2_11, p2_12, p2_13, p2_14, p2_15]
        rw [lrn_n (by omega)] at q2
        exact k _ (by rw [if_neg (by omega)]) h2 f2 q2
  · have t1 := s1
    rw [e] at t1
    have u1 := s5 (by omega) (by omega) (by omega)
    simp only [e, Nat.reduceEqDiff, if_true, if_false] at k0 k
    by_cases h6 : 39 < dd tp (i + 1)
    · simp only [e78, s78_0, s78_1, s78_2, s78_3, s78_4, s78_5, s78_8, s78_9, tst_115, oB_some, cl2_i, cl2_r, cl2_l, cl2_u, cl2_s, wd_0, wd_i, wd_r, wd_l, wd_f, ct_i, ct_r, ct_n, ct_f, rf_s, rf_n, tl_s, tl_n, true_and, and_true, eq_self, and_self, Nat.reduceAdd, Nat.reduceLeDiff, Nat.zero_le, Nat.reduceEqDiff, or_true, true_or, false_or, or_false, if_true, if_false, gI_0, gI_1, gI_2, gI_3, gI_4, gI_5, gI_6, gI_7, gI_8, gI_9, gI_10, gI_11, gI_12, gI_13, gI_14, gI_15, gL_0, gL_1, gL_2, gL_3, gL_4, gL_5, gL_6, gL_7, gL_8, gL_9, gL_10, gL_11, gL_12, gL_13, gL_14, gL_15, gA_0, gA_1, gA_2, gA_3, gA_4, gA_5, gA_6, gA_7, gA_8, gA_9, gA_10, gA_11, gA_12, gA_13, gA_14, gA_15, p1_0, p1_1, p1_2, p1_3, p1_4, p1_5, p1_6, p1_7, p1_8, p1_9, p1_10, p1_11, p1_12, p1_13, p1_14, p1_15, p2_0, p2_1, p2_2, p2_3, p2_4, p2_5, p2_6, p2_7, p2_8, p2_9, p2_10, p2_11, p2_12, p2_13, p2_14, p2_15, K, mm, ix_nI j31, nI_pos' j31, hj, t1, ix_nI p31, nI_pos' p31, p66, ix_nI q31, nI_pos' q31, q66, nI_1, u1, s78_117, s78_118, s78_119, s78_120, s78_123, s78_124, s78_125, s78_128, e83, s83_0, s83_1, s83_2, s83_5, s83_8, s83_9, s83_11, s83_14, s83_15, b01_ok, b_ft, b_tf, b01_e0, b01_e1, lgc_0, not_true_eq_false, not_false_eq_true, m_isKnowerI M.1 g, show isKI S (-1) = true from rfl, b01_t, Bool.true_eq_false, z10, r1, show ¬ dd tp (i + 1) < 40 by omega, if_false]
      exact k0 (by simp [h6])
    · simp only [e78, s78_0, s78_1, s78_2, s78_3, s78_4, s78_5, s78_8, s78_9, tst_115, oB_some, cl2_i, cl2_r, cl2_l, cl2_u, cl2_s, wd_0, wd_i, wd_r, wd_l, wd_f, ct_i, ct_r, ct_n, ct_f, rf_s, rf_n, tl_s, tl_n, true_and, and_true, eq_self, and_self, Nat.reduceAdd, Nat.reduceLeDiff, Nat.zero_le, Nat.reduceEqDiff, or_true, true_or, false_or, or_false, if_true, if_false, gI_0, gI_1, gI_2, gI_3, gI_4, gI_5, gI_6, gI_7, gI_8, gI_9, gI_10, gI_11, gI_12, gI_13, gI_14, gI_15, gL_0, gL_1, gL_2, gL_3, gL_4, gL_5, gL_6, gL_7, gL_8, gL_9, gL_10, gL_11, gL_12, gL_13, gL_14, gL_15, gA_0, gA_1, gA_2, gA_3, gA_4, gA_5, gA_6, gA_7, gA_8, gA_9, gA_10, gA_11, gA_12, gA_13, gA_14, gA_15, p1_0, p1_1, p1_2, p1_3, p1_4, p1_5, p1_6, p1_7, p1_8, p1_9, p1_10, p1_11, p1_12, p1_13, p1_14, p1_15, p2_0, p2_1, p2_2, p2_3, p2_4, p2_5, p2_6, p2_7, p2_8, p2_9, p2_10, p2_11, p2_12, p2_13, p2_14, p2_15, K, mm, ix_nI j31, nI_pos' j31, hj, t1, ix_nI p31, nI_pos' p31, p66, ix_nI q31, nI_pos' q31, q66, nI_1, u1, s78_117, s78_118, s78_119, s78_120, s78_123, s78_124, s78_125, s78_128]
      refine m_comesKnowing M g rfl (by omega) fun h2 f2 q2 => ?_
      simp only [s78_128, oB_some, cl2_i, cl2_r, cl2_l, cl2_u, cl2_s, wd_0, wd_i, wd_r, wd_l, wd_f, ct_i, ct_r, ct_n, ct_f, rf_s, rf_n, tl_s, tl_n, true_and, and_true, eq_self, and_self, Nat.reduceAdd, Nat.reduceLeDiff, Nat.zero_le, Nat.reduceEqDiff, or_true, true_or, false_or, or_false, if_true, if_false, gI_0, gI_1, gI_2, gI_3, gI_4, gI_5, gI_6, gI_7, gI_8, gI_9, gI_10, gI_11, gI_12, gI_13, gI_14, gI_15, gL_0, gL_1, gL_2, gL_3, gL_4, gL_5, gL_6, gL_7, gL_8, gL_9, gL_10, gL_11, gL_12, gL_13, gL_14, gL_15, gA_0, gA_1, gA_2, gA_3, gA_4, gA_5, gA_6, gA_7, gA_8, gA_9, gA_10, gA_11, gA_12, gA_13, gA_14, gA_15, p1_0, p1_1, p1_2, p1_3, p1_4, p1_5, p1_6, p1_7, p1_8, p1_9, p1_10, p1_11, p1_12, p1_13, p1_14, p1_15, p2_0, p2_1, p2_2, p2_3, p2_4, p2_5, p2_6, p2_7, p2_8, p2_9, p2_10, p2_11, p2_12, p2_13, p2_14, p2_15]
      have le : lrn S (-1) (bL (dd tp (i + 1))) = wS S (vs S ||| bL (dd tp (i + 1))) := by unfold lrn; rw [if_pos rfl]
      rw [le] at q2
      exact k _ (by rw [if_neg (by omega)]) h2 f2 q2
  · have t1 := s1
    rw [e] at t1
    have u1 := s5 (by omega) (by omega) (by omega)
    simp only [e, Nat.reduceEqDiff, if_true, if_false] at k0 k
    simp only [e78, s78_0, s78_1, s78_2, s78_3, s78_4, s78_5, s78_8, s78_9, tst_120, oB_some, cl2_i, cl2_r, cl2_l, cl2_u, cl2_s, wd_0, wd_i, wd_r, wd_l, wd_f, ct_i, ct_r, ct_n, ct_f, rf_s, rf_n, tl_s, tl_n, true_and, and_true, eq_self, and_self, Nat.reduceAdd, Nat.reduceLeDiff, Nat.zero_le, Nat.reduceEqDiff, or_true, true_or, false_or, or_false, if_true, if_false, gI_0, gI_1, gI_2, gI_3, gI_4, gI_5, gI_6, gI_7, gI_8, gI_9, gI_10, gI_11, gI_12, gI_13, gI_14, gI_15, gL_0, gL_1, gL_2, gL_3, gL_4, gL_5, gL_6, gL_7, gL_8, gL_9, gL_10, gL_11, gL_12, gL_13, gL_14, gL_15, gA_0, gA_1, gA_2, gA_3, gA_4, gA_5, gA_6, gA_7, gA_8, gA_9, gA_10, gA_11, gA_12, gA_13, gA_14, gA_15, p1_0, p1_1, p1_2, p1_3, p1_4, p1_5, p1_6, p1_7, p1_8, p1_9, p1_10, p1_11, p1_12, p1_13, p1_14, p1_15, p2_0, p2_1, p2_2, p2_3, p2_4, p2_5, p2_6, p2_7, p2_8, p2_9, p2_10, p2_11, p2_12, p2_13, p2_14, p2_15, K, mm, ix_nI j31, nI_pos' j31, hj, t1, ix_nI p31, nI_pos' p31, p66, ix_nI q31, nI_pos' q31, q66, nI_1, u1, s78_129, s78_130, s78_131, s78_134, s78_135, s78_136, s78_139, e85, s85_0, s85_1, s85_3, s85_6, s85_7, s85_8, s85_9, s85_10, s85_13, s85_14, s85_15, s85_16, s85_17, s85_20, s85_21, z_hkd_sI, z_hln_sI, z_hL_sI, z_hR_sI, z_hnx_sI, z_hkd_sL, z_hln_sL, z_hI_sL, z_hR_sL, z_hnx_sL, z_hkd_sR, z_hln_sR, z_hI_sR, z_hL_sR, z_hnx_sR, z_hkd_cI, z_hln_cI, z_hL_cI, z_hR_cI, z_hnx_cI, z_hkd_cLg, z_hln_cLg, z_hI_cLg, z_hR_cLg, z_hnx_cLg, b01_ok, b_ft, b_tf, b01_e0, b01_e1, lgc_0, not_true_eq_false, not_false_eq_true, r1, M.1.o]
    by_cases h6 : 39 < dd tp (i + 1)
    · simp only [show ¬ dd tp (i + 1) < 40 by omega, if_false]
      exact k0 (by simp [h6])
    · simp only [show dd tp (i + 1) < 40 by omega, if_true, shl_bL (dd tp (i + 1)) (by omega)]
      exact k _ (by rw [if_neg (by omega)]) _ (FQ.rf.sL (Or.inl rfl)) ⟨RM_o M.1 _, M.2.wL⟩
  · have t1 := s1
    rw [e] at t1
    have u1 := s5 (by omega) (by omega) (by omega)
    simp only [e, Nat.reduceEqDiff, if_true, if_false] at k0 k
    have n114 : (nI 114 = 114) = True := eq_true rfl
    simp only [e78, s78_0, s78_1, s78_2, s78_3, s78_4, s78_5, s78_8, s78_9, tst_114, oB_some, cl2_i, cl2_r, cl2_l, cl2_u, cl2_s, wd_0, wd_i, wd_r, wd_l, wd_f, ct_i, ct_r, ct_n, ct_f, rf_s, rf_n, tl_s, tl_n, true_and, and_true, eq_self, and_self, Nat.reduceAdd, Nat.reduceLeDiff, Nat.zero_le, Nat.reduceEqDiff, or_true, true_or, false_or, or_false, if_true, if_false, gI_0, gI_1, gI_2, gI_3, gI_4, gI_5, gI_6, gI_7, gI_8, gI_9, gI_10, gI_11, gI_12, gI_13, gI_14, gI_15, gL_0, gL_1, gL_2, gL_3, gL_4, gL_5, gL_6, gL_7, gL_8, gL_9, gL_10, gL_11, gL_12, gL_13, gL_14, gL_15, gA_0, gA_1, gA_2, gA_3, gA_4, gA_5, gA_6, gA_7, gA_8, gA_9, gA_10, gA_11, gA_12, gA_13, gA_14, gA_15, p1_0, p1_1, p1_2, p1_3, p1_4, p1_5, p1_6, p1_7, p1_8, p1_9, p1_10, p1_11, p1_12, p1_13, p1_14, p1_15, p2_0, p2_1, p2_2, p2_3, p2_4, p2_5, p2_6, p2_7, p2_8, p2_9, p2_10, p2_11, p2_12, p2_13, p2_14, p2_15, K, mm, ix_nI j31, nI_pos' j31, hj, t1, ix_nI p31, nI_pos' p31, p66, ix_nI q31, nI_pos' q31, q66, nI_1, u1, n114, s78_140, s78_141, s78_142, s78_145, s78_146, s78_147, s78_148, s78_151, s78_152, s78_153, s78_156, e86, s86_0, s86_1, s86_3, s86_6, s86_7, s86_9, s86_12, s86_13, s86_14, s86_15, s86_16, s86_19, s86_20, z_hkd_sI, z_hln_sI, z_hL_sI, z_hR_sI, z_hnx_sI, z_hkd_sL, z_hln_sL, z_hI_sL, z_hR_sL, z_hnx_sL, z_hkd_sR, z_hln_sR, z_hI_sR, z_hL_sR, z_hnx_sR, z_hkd_cI, z_hln_cI, z_hL_cI, z_hR_cI, z_hnx_cI, z_hkd_cLg, z_hln_cLg, z_hI_cLg, z_hR_cLg, z_hnx_cLg, b01_ok, b_ft, b_tf, b01_e0, b01_e1, lgc_0, not_true_eq_false, not_false_eq_true, r2]
    by_cases h6 : 18 < dd tp (i + 1)
    · simp only [Nat.not_le.mpr h6, if_false]
      exact k0 (by simp [h6])
    · simp only [Nat.not_lt.mp h6, if_true]
      exact k _ (by rw [if_neg (by omega)]) _ (FQ.rf.sI (Or.inl ⟨rfl, by omega⟩)) ⟨RM_u M.1 _, M.2.w (Or.inr (by decide))⟩
  · have t1 := s1
    rw [e] at t1
    have u1 := s5 (by omega) (by omega) (by omega)
    simp only [e, Nat.reduceEqDiff, if_true, if_false] at k0 k
    have n100 : (nI 100 = 114) = False := eq_false (by decide)
    have c1 : ((1 : Int32) ≤ nI (dd tp (i + 1))) = (1 ≤ dd tp (i + 1)) := propext (nI_leI (a := 1) (by decide) (by omega))
    have c2 : (nI (dd tp (i + 1)) ≤ (60 : Int32)) = (dd tp (i + 1) ≤ 60) := propext (nI_leI (b := 60) (by omega) (by decide))
    have c3 : nI (vy S) + nI (dd tp (i + 1)) = nI (vy S + dd tp (i + 1)) := nI_add _ _
    have c4 : (nI (vy S + dd tp (i + 1)) ≤ 999) = (vy S + dd tp (i + 1) ≤ 999) := propext (nI_leI (b := 999) (by omega) (by decide))
    simp only [e78, s78_0, s78_1, s78_2, s78_3, s78_4, s78_5, s78_8, s78_9, tst_100, oB_some, cl2_i, cl2_r, cl2_l, cl2_u, cl2_s, wd_0, wd_i, wd_r, wd_l, wd_f, ct_i, ct_r, ct_n, ct_f, rf_s, rf_n, tl_s, tl_n, true_and, and_true, eq_self, and_self, Nat.reduceAdd, Nat.reduceLeDiff, Nat.zero_le, Nat.reduceEqDiff, or_true, true_or, false_or, or_false, if_true, if_false, gI_0, gI_1, gI_2, gI_3, gI_4, gI_5, gI_6, gI_7, gI_8, gI_9, gI_10, gI_11, gI_12, gI_13, gI_14, gI_15, gL_0, gL_1, gL_2, gL_3, gL_4, gL_5, gL_6, gL_7, gL_8, gL_9, gL_10, gL_11, gL_12, gL_13, gL_14, gL_15, gA_0, gA_1, gA_2, gA_3, gA_4, gA_5, gA_6, gA_7, gA_8, gA_9, gA_10, gA_11, gA_12, gA_13, gA_14, gA_15, p1_0, p1_1, p1_2, p1_3, p1_4, p1_5, p1_6, p1_7, p1_8, p1_9, p1_10, p1_11, p1_12, p1_13, p1_14, p1_15, p2_0, p2_1, p2_2, p2_3, p2_4, p2_5, p2_6, p2_7, p2_8, p2_9, p2_10, p2_11, p2_12, p2_13, p2_14, p2_15, K, mm, ix_nI j31, nI_pos' j31, hj, t1, ix_nI p31, nI_pos' p31, p66, ix_nI q31, nI_pos' q31, q66, nI_1, u1, n100, s78_140, s78_141, s78_142, s78_145, s78_146, s78_147, s78_148, s78_151, s78_152, s78_153, s78_156, e86, s86_0, s86_1, s86_3, s86_6, s86_7, s86_9, s86_12, s86_13, s86_14, s86_15, s86_16, s86_19, s86_20, s86_21, s86_22, s86_23, s86_25, s86_28, s86_31, s86_32, s86_35, s86_36, s86_37, s86_40, s86_43, s86_44, z_hkd_sI, z_hln_sI, z_hL_sI, z_hR_sI, z_hnx_sI, z_hkd_sL, z_hln_sL, z_hI_sL, z_hR_sL, z_hnx_sL, z_hkd_sR, z_hln_sR, z_hI_sR, z_hL_sR, z_hnx_sR, z_hkd_cI, z_hln_cI, z_hL_cI, z_hR_cI, z_hnx_cI, z_hkd_cLg, z_hln_cLg, z_hI_cLg, z_hR_cLg, z_hnx_cLg, b01_ok, b_ft, b_tf, b01_e0, b01_e1, lgc_0, not_true_eq_false, not_false_eq_true, c1, c2, c3, c4, m_isIn, M.1.y]
    by_cases h6 : 1 ≤ dd tp (i + 1) ∧ dd tp (i + 1) ≤ 60
    · by_cases h8 : vy S + dd tp (i + 1) ≤ 999
      · simp only [show decide (1 ≤ dd tp (i + 1) ∧ dd tp (i + 1) ≤ 60) = true from decide_eq_true h6, b01_t, Bool.true_eq_false, z10, h8, if_true, if_false, s86_45, s86_46, s86_47, oB_some, cl2_i, cl2_r, cl2_l, cl2_u, cl2_s, wd_0, wd_i, wd_r, wd_l, wd_f, ct_i, ct_r, ct_n, ct_f, rf_s, rf_n, tl_s, tl_n, true_and, and_true, eq_self, and_self, Nat.reduceAdd, Nat.reduceLeDiff, Nat.zero_le, Nat.reduceEqDiff, or_true, true_or, false_or, or_false, if_true, if_false, gI_0, gI_1, gI_2, gI_3, gI_4, gI_5, gI_6, gI_7, gI_8, gI_9, gI_10, gI_11, gI_12, gI_13, gI_14, gI_15, gL_0, gL_1, gL_2, gL_3, gL_4, gL_5, gL_6, gL_7, gL_8, gL_9, gL_10, gL_11, gL_12, gL_13, gL_14, gL_15, gA_0, gA_1, gA_2, gA_3, gA_4, gA_5, gA_6, gA_7, gA_8, gA_9, gA_10, gA_11, gA_12, gA_13, gA_14, gA_15, p1_0, p1_1, p1_2, p1_3, p1_4, p1_5, p1_6, p1_7, p1_8, p1_9, p1_10, p1_11, p1_12, p1_13, p1_14, p1_15, p2_0, p2_1, p2_2, p2_3, p2_4, p2_5, p2_6, p2_7, p2_8, p2_9, p2_10, p2_11, p2_12, p2_13, p2_14, p2_15, K]
        refine m_goes M.1 g M.2 (by decide) (show vy S + dd tp (i + 1) < 2 ^ 20 by omega) fun h2 f2 q2 => ?_
        simp only [s86_50, s86_51, s78_156, oB_some, cl2_i, cl2_r, cl2_l, cl2_u, cl2_s, wd_0, wd_i, wd_r, wd_l, wd_f, ct_i, ct_r, ct_n, ct_f, rf_s, rf_n, tl_s, tl_n, true_and, and_true, eq_self, and_self, Nat.reduceAdd, Nat.reduceLeDiff, Nat.zero_le, Nat.reduceEqDiff, or_true, true_or, false_or, or_false, if_true, if_false, gI_0, gI_1, gI_2, gI_3, gI_4, gI_5, gI_6, gI_7, gI_8, gI_9, gI_10, gI_11, gI_12, gI_13, gI_14, gI_15, gL_0, gL_1, gL_2, gL_3, gL_4, gL_5, gL_6, gL_7, gL_8, gL_9, gL_10, gL_11, gL_12, gL_13, gL_14, gL_15, gA_0, gA_1, gA_2, gA_3, gA_4, gA_5, gA_6, gA_7, gA_8, gA_9, gA_10, gA_11, gA_12, gA_13, gA_14, gA_15, p1_0, p1_1, p1_2, p1_3, p1_4, p1_5, p1_6, p1_7, p1_8, p1_9, p1_10, p1_11, p1_12, p1_13, p1_14, p1_15, p2_0, p2_1, p2_2, p2_3, p2_4, p2_5, p2_6, p2_7, p2_8, p2_9, p2_10, p2_11, p2_12, p2_13, p2_14, p2_15]
        exact k _ (by rw [if_pos ⟨h6.1, h6.2, h8⟩]) h2 f2.fq ⟨q2, M.2.kept f2⟩
      · simp only [show decide (1 ≤ dd tp (i + 1) ∧ dd tp (i + 1) ≤ 60) = true from decide_eq_true h6, b01_t, Bool.true_eq_false, z10, h8, if_false]
        exact k0 (by rw [if_neg (by omega)])
    · simp only [show decide (1 ≤ dd tp (i + 1) ∧ dd tp (i + 1) ≤ 60) = false from decide_eq_false h6, b01_f, if_true]
      exact k0 (by rw [if_neg (by omega)])
