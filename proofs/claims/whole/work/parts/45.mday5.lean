set_option maxHeartbeats 8000000 in
theorem m_writes {d : Nat} {Q : PQ} {h : HP} {m p ink : Nat} {dm sh : Bool} {S : VS} (q : RM h m S) (g : Good S) (f : FMl h m ink dm sh) (hi : ink < 64) (hp : p < vn S)
    (k : ∀ h', FD m h h' → hI h' m 20 = hI h m 20 → RM h' m (writ ink S p) → Q none h') : Ev (d + 4) 97 [.ref m, .int (nI p)] h Q := by
  have K := q.k
  unfold MK at K
  have gn := g.n
  have gl := g.l
  have gy := g.y
  obtain ⟨g1, g2, g3, g4, g5⟩ := g.at hp
  obtain ⟨a1, a2, a3, a4, a5⟩ := q.at hp
  have p31 : p < 2 ^ 31 := by omega
  have p6 : p < 6 := by omega
  have ep := @every_pos (vk S p) (vf S p)
  have el := @every_lt (vk S p) (vf S p) g2
  have z2 : ¬ nI (everyN (vk S p) (vf S p)) = 0 := nI_ne0 ep (by omega)
  have rm := remN (a := vy S) (b := everyN (vk S p) (vf S p)) (by omega) (by omega) ep
  have r0 : (nI (vy S % everyN (vk S p) (vf S p)) = 0) = (vy S % everyN (vk S p) (vf S p) = 0) := eq_l0 (by have := Nat.mod_lt (vy S) ep; omega)
  have l24 : (nI (vb S).length = 24) = ((vb S).length = 24) := eqP (b := 24) (by omega) (by decide)
  have same : writ ink S p = S → Q none h := fun e => k h FD.rf rfl (by rw [e]; exact q)
  have fin : ∀ ld, ld = (if ink.testBit p = true then 0 else leadN (vk S p) (vf S p) (vy S)) → due S p = true → ¬ pick1 S p = 0 → (vb S).length < 24 →
      Q none (sL (adM h m (vb S).length (nI p) (nI (vr S p)) (nI ld) (nI (pressN (vk S p) (vf S p))) (pick1 S p)) (m + 10) p (vx S p ||| pick1 S p)) := by
    intro ld eld hd hk hl
    have F := @adM_f h m (vb S).length (nI p) (nI (vr S p)) (nI ld) (nI (pressN (vk S p) (vf S p))) (pick1 S p)
    have q1 : RM (adM h m (vb S).length (nI p) (nI (vr S p)) (nI ld) (nI (pressN (vk S p) (vf S p))) (pick1 S p)) m (wB S (vb S ++ [(p, vr S p, ld, pressN (vk S p) (vf S p), pick1 S p)])) := by
      refine RM_b q F.1 F.2.1 F.2.2.1 F.2.2.2.1 F.2.2.2.2.1 F.2.2.2.2.2.1 ?_ ?_
      · unfold adM
        rw [hI_sI_eq, up_at, List.length_append]
        rfl
      · refine q.b.push (fun j hj => ?_) ?_
        · rw [adM_t, if_neg (by omega)]
        · rw [adM_t, if_pos rfl]
          rfl
    refine k _ (F.fd.sL (Or.inr ⟨by omega, by omega⟩)) (by rw [hI_sL]; exact F.2.2.1 20 (by decide)) ?_
    have e : writ ink S p = wX (wB S (vb S ++ [(p, vr S p, ld, pressN (vk S p) (vf S p), pick1 S p)])) p (vx S p ||| pick1 S p) := by
      unfold writ
      rw [if_pos ⟨hd, hk, hl⟩, eld]
    rw [e]
    exact RM_x q1 p _
  simp only [e97, s97_0, s97_1, s97_4, s97_5, s97_8, s97_9, s97_10, s97_11, s97_14, s97_15, s97_16, s97_19, s97_20, s97_23, s97_24, s97_25, s97_28, s97_29, s97_30, s97_33, s97_36, s97_37, s97_40, s97_41, s97_42, s97_43, s97_46, s97_47, s97_48, s97_49, s97_52, s97_53, s97_54, s97_55, s97_56, s97_59, s97_60, s97_63, s97_65, s97_68, oB_some, cl2_i, cl2_r, cl2_l, cl2_u, cl2_s, wd_0, wd_i, wd_r, wd_l, wd_f, ct_i, ct_r, ct_n, ct_f, rf_s, rf_n, tl_s, tl_n, true_and, and_true, eq_self, and_self, Nat.reduceAdd, Nat.reduceLeDiff, Nat.zero_le, Nat.reduceEqDiff, or_true, true_or, false_or, or_false, if_true, if_false, gI_0, gI_1, gI_2, gI_3, gI_4, gI_5, gI_6, gI_7, gI_8, gI_9, gI_10, gI_11, gI_12, gI_13, gI_14, gI_15, gL_0, gL_1, gL_2, gL_3, gL_4, gL_5, gL_6, gL_7, gL_8, gL_9, gL_10, gL_11, gL_12, gL_13, gL_14, gL_15, gA_0, gA_1, gA_2, gA_3, gA_4, gA_5, gA_6, gA_7, gA_8, gA_9, gA_10, gA_11, gA_12, gA_13, gA_14, gA_15, p1_0, p1_1, p1_2, p1_3, p1_4, p1_5, p1_6, p1_7, p1_8, p1_9, p1_10, p1_11, p1_12, p1_13, p1_14, p1_15, p2_0, p2_1, p2_2, p2_3, p2_4, p2_5, p2_6, p2_7, p2_8, p2_9, p2_10, p2_11, p2_12, p2_13, p2_14, p2_15, b01_ok, b_ft, b_tf, b01_e0, b01_e1, lgc_0, not_true_eq_false, not_false_eq_true, K, a1, a2, a3, a4, a5, q.y, q.m, ix_nI p31, nI_pos' p31, p6, m_everyOf g1 g2, z2, rm, r0, m_isPerson q, isP (show vr S p < 2 ^ 31 by omega) (show vn S < 2 ^ 31 by omega) (show 1 ≤ vn S by omega), eqP (show vr S p < 2 ^ 31 by omega) p31, m_picked q g hp, l24]
  by_cases hd : due S p = true
  · have hd' := hd
    unfold due at hd'
    simp only [Bool.and_eq_true, decide_eq_true_eq] at hd'
    obtain ⟨⟨d1, d2⟩, d3⟩ := hd'
    have d3' : ¬ vr S p = p := by simpa using d3
    rw [if_neg (not_not_intro d1), if_neg (by rw [decide_eq_true d2]; decide), if_pos d3']
    by_cases hk : pick1 S p = 0
    · rw [if_pos hk]
      exact same (by unfold writ; rw [if_neg (fun z => z.2.1 hk)])
    · rw [if_neg hk]
      by_cases hl : (vb S).length = 24
      · rw [if_neg (not_not_intro hl)]
        exact same (by unfold writ; rw [if_neg (fun z => by omega)])
      · rw [if_pos hl]
        have l31 : (vb S).length < 2 ^ 31 := by omega
        have lt24 : (vb S).length < 24 := by omega
        simp only [s97_69, s97_70, s97_73, s97_74, s97_77, s97_78, s97_79, s97_80, s97_83, s97_84, s97_87, s97_88, s97_91, s97_92, s97_93, s97_94, s97_95, s97_98, s97_99, s97_102, s97_103, s97_106, s97_107, s97_108, s97_109, s97_110, s97_111, oB_some, cl2_i, cl2_r, cl2_l, cl2_u, cl2_s, wd_0, wd_i, wd_r, wd_l, wd_f, ct_i, ct_r, ct_n, ct_f, rf_s, rf_n, tl_s, tl_n, true_and, and_true, eq_self, and_self, Nat.reduceAdd, Nat.reduceLeDiff, Nat.zero_le, Nat.reduceEqDiff, or_true, true_or, false_or, or_false, if_true, if_false, gI_0, gI_1, gI_2, gI_3, gI_4, gI_5, gI_6, gI_7, gI_8, gI_9, gI_10, gI_11, gI_12, gI_13, gI_14, gI_15, gL_0, gL_1, gL_2, gL_3, gL_4, gL_5, gL_6, gL_7, gL_8, gL_9, gL_10, gL_11, gL_12, gL_13, gL_14, gL_15, gA_0, gA_1, gA_2, gA_3, gA_4, gA_5, gA_6, gA_7, gA_8, gA_9, gA_10, gA_11, gA_12, gA_13, gA_14, gA_15, p1_0, p1_1, p1_2, p1_3, p1_4, p1_5, p1_6, p1_7, p1_8, p1_9, p1_10, p1_11, p1_12, p1_13, p1_14, p1_15, p2_0, p2_1, p2_2, p2_3, p2_4, p2_5, p2_6, p2_7, p2_8, p2_9, p2_10, p2_11, p2_12, p2_13, p2_14, p2_15, b01_ok, b_ft, b_tf, b01_e0, b01_e1, lgc_0, not_true_eq_false, not_false_eq_true, z_hkd_sI, z_hln_sI, z_hL_sI, z_hR_sI, z_hnx_sI, z_hkd_sL, z_hln_sL, z_hI_sL, z_hR_sL, z_hnx_sL, z_hkd_sR, z_hln_sR, z_hI_sR, z_hL_sR, z_hnx_sR, z_hkd_cI, z_hln_cI, z_hL_cI, z_hR_cI, z_hnx_cI, z_hkd_cLg, z_hln_cLg, z_hI_cLg, z_hR_cLg, z_hnx_cLg, hI_sI_ne, hL_sL_ne, ne_eq, Nat.add_left_cancel_iff, Nat.left_eq_add, Nat.add_eq_left, Nat.reduceEqDiff, not_false_eq_true, K, a1, a2, a3, a4, a5, q.y, q.m, f.1, ix_nI p31, nI_pos' p31, p6, ix_nI l31, nI_pos' l31, lt24]
        have tail : ∀ ld, ld = (if ink.testBit p = true then 0 else leadN (vk S p) (vf S p) (vy S)) → WP (d + 3) 97 Q (137, [.val (.ref m), .val (.int (nI p)), .val (.long (pick1 S p)), .second], [.int (nI ld), .int (nI (vb S).length), .ref (m + 7)], sI (sI h (m + 5) (vb S).length (nI p)) (m + 6) (vb S).length (nI (vr S p)), 0, 0) := by
          intro ld eld
          have h4 := fin ld eld hd hk lt24
          simp only [s97_137, s97_138, s97_139, s97_142, s97_143, s97_146, s97_147, s97_150, s97_151, s97_152, s97_153, s97_156, s97_157, s97_158, s97_161, s97_162, s97_163, s97_166, s97_167, s97_170, s97_171, s97_172, s97_173, s97_174, s97_177, s97_178, s97_179, s97_182, s97_183, s97_186, s97_187, s97_188, s97_189, s97_190, s97_191, s97_192, oB_some, cl2_i, cl2_r, cl2_l, cl2_u, cl2_s, wd_0, wd_i, wd_r, wd_l, wd_f, ct_i, ct_r, ct_n, ct_f, rf_s, rf_n, tl_s, tl_n, true_and, and_true, eq_self, and_self, Nat.reduceAdd, Nat.reduceLeDiff, Nat.zero_le, Nat.reduceEqDiff, or_true, true_or, false_or, or_false, if_true, if_false, gI_0, gI_1, gI_2, gI_3, gI_4, gI_5, gI_6, gI_7, gI_8, gI_9, gI_10, gI_11, gI_12, gI_13, gI_14, gI_15, gL_0, gL_1, gL_2, gL_3, gL_4, gL_5, gL_6, gL_7, gL_8, gL_9, gL_10, gL_11, gL_12, gL_13, gL_14, gL_15, gA_0, gA_1, gA_2, gA_3, gA_4, gA_5, gA_6, gA_7, gA_8, gA_9, gA_10, gA_11, gA_12, gA_13, gA_14, gA_15, p1_0, p1_1, p1_2, p1_3, p1_4, p1_5, p1_6, p1_7, p1_8, p1_9, p1_10, p1_11, p1_12, p1_13, p1_14, p1_15, p2_0, p2_1, p2_2, p2_3, p2_4, p2_5, p2_6, p2_7, p2_8, p2_9, p2_10, p2_11, p2_12, p2_13, p2_14, p2_15, b01_ok, b_ft, b_tf, b01_e0, b01_e1, lgc_0, not_true_eq_false, not_false_eq_true, z_hkd_sI, z_hln_sI, z_hL_sI, z_hR_sI, z_hnx_sI, z_hkd_sL, z_hln_sL, z_hI_sL, z_hR_sL, z_hnx_sL, z_hkd_sR, z_hln_sR, z_hI_sR, z_hL_sR, z_hnx_sR, z_hkd_cI, z_hln_cI, z_hL_cI, z_hR_cI, z_hnx_cI, z_hkd_cLg, z_hln_cLg, z_hI_cLg, z_hR_cLg, z_hnx_cLg, hI_sI_ne, hL_sL_ne, ne_eq, Nat.add_left_cancel_iff, Nat.left_eq_add, Nat.add_eq_left, Nat.reduceEqDiff, not_false_eq_true, K, a1, a2, a3, a4, a5, q.y, q.m, ix_nI p31, nI_pos' p31, p6, ix_nI l31, nI_pos' l31, lt24, m_pressOf g1 g2, nI_1]
          unfold adM at h4
          exact h4
        have ib := inkBitM ink hi p p6
        by_cases hb1 : ink.testBit p = true
        · rw [if_neg (not_not_intro (ib.mpr hb1))]
          simp only [s97_114, s97_115, s97_118, s97_119, s97_122, s97_123, s97_124, s97_125, s97_128, s97_129, s97_130, s97_131, s97_134, oB_some, cl2_i, cl2_r, cl2_l, cl2_u, cl2_s, wd_0, wd_i, wd_r, wd_l, wd_f, ct_i, ct_r, ct_n, ct_f, rf_s, rf_n, tl_s, tl_n, true_and, and_true, eq_self, and_self, Nat.reduceAdd, Nat.reduceLeDiff, Nat.zero_le, Nat.reduceEqDiff, or_true, true_or, false_or, or_false, if_true, if_false, gI_0, gI_1, gI_2, gI_3, gI_4, gI_5, gI_6, gI_7, gI_8, gI_9, gI_10, gI_11, gI_12, gI_13, gI_14, gI_15, gL_0, gL_1, gL_2, gL_3, gL_4, gL_5, gL_6, gL_7, gL_8, gL_9, gL_10, gL_11, gL_12, gL_13, gL_14, gL_15, gA_0, gA_1, gA_2, gA_3, gA_4, gA_5, gA_6, gA_7, gA_8, gA_9, gA_10, gA_11, gA_12, gA_13, gA_14, gA_15, p1_0, p1_1, p1_2, p1_3, p1_4, p1_5, p1_6, p1_7, p1_8, p1_9, p1_10, p1_11, p1_12, p1_13, p1_14, p1_15, p2_0, p2_1, p2_2, p2_3, p2_4, p2_5, p2_6, p2_7, p2_8, p2_9, p2_10, p2_11, p2_12, p2_13, p2_14, p2_15, b01_ok, b_ft, b_tf, b01_e0, b01_e1, lgc_0, not_true_eq_false, not_false_eq_true, z_hkd_sI, z_hln_sI, z_hL_sI, z_hR_sI, z_hnx_sI, z_hkd_sL, z_hln_sL, z_hI_sL, z_hR_sL, z_hnx_sL, z_hkd_sR, z_hln_sR, z_hI_sR, z_hL_sR, z_hnx_sR, z_hkd_cI, z_hln_cI, z_hL_cI, z_hR_cI, z_hnx_cI, z_hkd_cLg, z_hln_cLg, z_hI_cLg, z_hR_cLg, z_hnx_cLg, hI_sI_ne, hL_sL_ne, ne_eq, Nat.add_left_cancel_iff, Nat.left_eq_add, Nat.add_eq_left, Nat.reduceEqDiff, not_false_eq_true, K]
          have t0 := tail 0 (by rw [if_pos hb1])
          rw [nI_0] at t0
          exact t0
        · rw [if_pos (fun c => hb1 (ib.mp c))]
          simp only [s97_114, s97_115, s97_118, s97_119, s97_122, s97_123, s97_124, s97_125, s97_128, s97_129, s97_130, s97_131, s97_134, oB_some, cl2_i, cl2_r, cl2_l, cl2_u, cl2_s, wd_0, wd_i, wd_r, wd_l, wd_f, ct_i, ct_r, ct_n, ct_f, rf_s, rf_n, tl_s, tl_n, true_and, and_true, eq_self, and_self, Nat.reduceAdd, Nat.reduceLeDiff, Nat.zero_le, Nat.reduceEqDiff, or_true, true_or, false_or, or_false, if_true, if_false, gI_0, gI_1, gI_2, gI_3, gI_4, gI_5, gI_6, gI_7, gI_8, gI_9, gI_10, gI_11, gI_12, gI_13, gI_14, gI_15, gL_0, gL_1, gL_2, gL_3, gL_4, gL_5, gL_6, gL_7, gL_8, gL_9, gL_10, gL_11, gL_12, gL_13, gL_14, gL_15, gA_0, gA_1, gA_2, gA_3, gA_4, gA_5, gA_6, gA_7, gA_8, gA_9, gA_10, gA_11, gA_12, gA_13, gA_14, gA_15, p1_0, p1_1, p1_2, p1_3, p1_4, p1_5, p1_6, p1_7, p1_8, p1_9, p1_10, p1_11, p1_12, p1_13, p1_14, p1_15, p2_0, p2_1, p2_2, p2_3, p2_4, p2_5, p2_6, p2_7, p2_8, p2_9, p2_10, p2_11, p2_12, p2_13, p2_14, p2_15, b01_ok, b_ft, b_tf, b01_e0, b01_e1, lgc_0, not_true_eq_false, not_false_eq_true, z_hkd_sI, z_hln_sI, z_hL_sI, z_hR_sI, z_hnx_sI, z_hkd_sL, z_hln_sL, z_hI_sL, z_hR_sL, z_hnx_sL, z_hkd_sR, z_hln_sR, z_hI_sR, z_hL_sR, z_hnx_sR, z_hkd_cI, z_hln_cI, z_hL_cI, z_hR_cI, z_hnx_cI, z_hkd_cLg, z_hln_cLg, z_hI_cLg, z_hR_cLg, z_hnx_cLg, hI_sI_ne, hL_sL_ne, ne_eq, Nat.add_left_cancel_iff, Nat.left_eq_add, Nat.add_eq_left, Nat.reduceEqDiff, not_false_eq_true, K, a1, a2, q.y, ix_nI p31, nI_pos' p31, p6, m_leadOf g1 g2 (show vy S < 2 ^ 31 by omega)]
          exact tail _ (by rw [if_neg hb1])
  · have s : writ ink S p = S := by unfold writ; rw [if_neg (fun z => hd z.1)]
    by_cases d1 : vy S % everyN (vk S p) (vf S p) = 0
    · rw [if_neg (not_not_intro d1)]
      by_cases d2 : vr S p < vn S
      · rw [if_neg (by rw [decide_eq_true d2]; decide)]
        have d3 : vr S p = p := by
          cases e : decide (vr S p = p)
          · exact absurd (by unfold due; rw [decide_eq_true d1, decide_eq_true d2, e]; rfl) hd
          · exact of_decide_eq_true e
        rw [if_neg (not_not_intro d3)]
        exact same s
      · rw [if_pos (decide_eq_false d2)]
        exact same s
    · rw [if_pos d1]
      exact same s
