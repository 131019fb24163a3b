theorem FV.sI {h : HP} {v ink a k : Nat} {dm sh : Bool} {x : Int32} (f : FV h v ink dm sh) (hn : ¬ a = v ∨ k < 13) : FV (sI h a k x) v ink dm sh := by
  unfold FV at f ⊢
  simp only [hI_sI]
  rw [if_neg (by omega), if_neg (by omega), if_neg (by omega)]
  exact f
theorem FV.sL {h : HP} {v ink a k : Nat} {dm sh : Bool} {x : Int64} (f : FV h v ink dm sh) : FV (sL h a k x) v ink dm sh := f
set_option maxHeartbeats 8000000 in
theorem v_haveLetter {d : Nat} {Q : PQ} {h : HP} {v j ink : Nat} {dm sh : Bool} {S : VS} {l : Ltr} (q : RV h v S) (g : Good S) (f : FV h v ink dm sh) (hj : (vb S)[j]? = some l)
    (k : ∀ h', Fm v 12 h h' → RV h' v (had1 dm sh S l) → FV h' v ink dm sh → Q (some (.int (b01 (!decide (word1 dm sh S l = 0))))) h') : Ev (d + 3) 43 [.ref v, .int (nI j)] h Q := by
  have gl := g.l
  have gn := g.n
  have j24 : j < 24 := by have := (List.getElem?_eq_some_iff.mp hj).1; omega
  have j31 : j < 2 ^ 31 := by omega
  obtain ⟨l1, l2, l3, l4, l5, l6⟩ := g.b (List.mem_of_getElem? hj)
  have l1' := l1
  have C : ∀ (h1 : HP) (S1 : VS) (w : Int64) (i : Int32), RV h1 v S1 → FV h1 v ink dm sh → Fm v 12 h h1 → vn S1 = vn S → vd S1 ≤ 999 → w = word1 dm sh S l → (had1 dm sh S l = if w = 0 then wD S1 (min 999 (vd S1 + 1)) else wW S1 (lT l) (vw S1 (lT l) ||| w)) →
      WP (d + 2) 43 Q (108, [.val (.ref v), .val (.int (nI j)), .val (.int (nI (lT l))), .val (.int (nI (lD l))), .val (.long w), .second, .val (.int i)], [], h1, 0, 0) := by
    intro h1 S1 w i q1 f1 m1 n1 d1 ew e1
    have K := q1.k
    unfold VK at K
    have t31 : lT l < 2 ^ 31 := by omega
    have t6 : lT l < 6 := by omega
    have hm : (if nI (vd S1 + 1) < 999 then nI (vd S1 + 1) else 999) = nI (min 999 (vd S1 + 1)) := minN (b := 999) (by omega) (by omega)
    simp only [s43_108, s43_110, s43_111, s43_112, s43_115, s43_116, s43_119, s43_120, s43_123, s43_124, s43_125, s43_128, s43_131, s43_132, s43_133, s43_134, s43_135, s43_137, s43_140, s43_141, oB_some, cl2_i, cl2_r, cl2_l, cl2_u, cl2_s, wd_0, wd_i, wd_r, wd_l, wd_f, ct_i, ct_r, ct_n, ct_f, rf_s, rf_n, tl_s, tl_n, true_and, and_true, eq_self, and_self, Nat.reduceAdd, Nat.reduceLeDiff, Nat.zero_le, Nat.reduceEqDiff, or_true, true_or, false_or, or_false, if_true, if_false, gI_0, gI_1, gI_2, gI_3, gI_4, gI_5, gI_6, gI_7, gI_8, gI_9, gI_10, gI_11, gI_12, gI_13, gI_14, gI_15, gL_0, gL_1, gL_2, gL_3, gL_4, gL_5, gL_6, gL_7, gL_8, gL_9, gL_10, gL_11, gL_12, gL_13, gL_14, gL_15, gA_0, gA_1, gA_2, gA_3, gA_4, gA_5, gA_6, gA_7, gA_8, gA_9, gA_10, gA_11, gA_12, gA_13, gA_14, gA_15, p1_0, p1_1, p1_2, p1_3, p1_4, p1_5, p1_6, p1_7, p1_8, p1_9, p1_10, p1_11, p1_12, p1_13, p1_14, p1_15, p2_0, p2_1, p2_2, p2_3, p2_4, p2_5, p2_6, p2_7, p2_8, p2_9, p2_10, p2_11, p2_12, p2_13, p2_14, p2_15, b01_ok, b_ft, b_tf, b01_e0, b01_e1, lgc_0, not_true_eq_false, not_false_eq_true, z_hkd_sI, z_hln_sI, z_hL_sI, z_hR_sI, z_hnx_sI, z_hkd_sL, z_hln_sL, z_hI_sL, z_hR_sL, z_hnx_sL, z_hkd_sR, z_hln_sR, z_hI_sR, z_hL_sR, z_hnx_sR, z_hkd_cI, z_hln_cI, z_hL_cI, z_hR_cI, z_hnx_cI, z_hkd_cLg, z_hln_cLg, z_hI_cLg, z_hR_cLg, z_hnx_cLg, K, q1.d, nI_1, hm, v_learnN q1 (show lT l < vn S1 by omega) t6]
    by_cases hw : w = 0
    · rw [if_neg (not_not_intro hw)]
      rw [if_pos hw] at e1
      have kk := k _ (m1.sI (k := 10) (x := nI (min 999 (vd S1 + 1))) (Nat.le_refl _) (by omega)) (by rw [e1]; exact RV_d q1 _) (f1.sI (Or.inr (by decide)))
      rw [← ew, decide_eq_true hw] at kk
      exact kk
    · rw [if_pos hw]
      rw [if_neg hw] at e1
      have kk := k _ (m1.sL (a := v + 4) (k := lT l) (x := vw S1 (lT l) ||| w) (by omega) (by omega)) (by rw [e1]; exact RV_w q1 _ _) f1.sL
      rw [← ew, decide_eq_false hw] at kk
      exact kk
  have B : ∀ (y : Slot), WP (d + 2) 43 Q (54, [.val (.ref v), .val (.int (nI j)), .val (.int (nI (lT l))), .val (.int (nI (lD l))), .val (.long (lC l)), .second, .val (.int (b01 (inkd sh l)))], [], h, 0, 0) := by
    intro y
    have K := q.k
    unfold VK at K
    obtain ⟨f1, f2, f3⟩ := f
    obtain ⟨a1, a2, a3, a4, a5⟩ := q.lt hj
    have q1 := RV_s q (vs S ||| lC l)
    have g1 : Good (wS S (vs S ||| lC l)) := ⟨g.1, g.2.1, g.2.2.1, g.2.2.2.1, sm_or g.s l6, g.2.2.2.2.2⟩
    simp only [s43_54, s43_56, s43_59, s43_60, s43_61, s43_64, s43_66, s43_67, s43_70, s43_71, s43_74, s43_77, s43_78, s43_79, s43_82, s43_85, s43_86, s43_87, s43_88, s43_89, s43_92, s43_95, s43_96, s43_98, s43_99, s43_100, s43_103, s43_106, oB_some, cl2_i, cl2_r, cl2_l, cl2_u, cl2_s, wd_0, wd_i, wd_r, wd_l, wd_f, ct_i, ct_r, ct_n, ct_f, rf_s, rf_n, tl_s, tl_n, true_and, and_true, eq_self, and_self, Nat.reduceAdd, Nat.reduceLeDiff, Nat.zero_le, Nat.reduceEqDiff, or_true, true_or, false_or, or_false, if_true, if_false, gI_0, gI_1, gI_2, gI_3, gI_4, gI_5, gI_6, gI_7, gI_8, gI_9, gI_10, gI_11, gI_12, gI_13, gI_14, gI_15, gL_0, gL_1, gL_2, gL_3, gL_4, gL_5, gL_6, gL_7, gL_8, gL_9, gL_10, gL_11, gL_12, gL_13, gL_14, gL_15, gA_0, gA_1, gA_2, gA_3, gA_4, gA_5, gA_6, gA_7, gA_8, gA_9, gA_10, gA_11, gA_12, gA_13, gA_14, gA_15, p1_0, p1_1, p1_2, p1_3, p1_4, p1_5, p1_6, p1_7, p1_8, p1_9, p1_10, p1_11, p1_12, p1_13, p1_14, p1_15, p2_0, p2_1, p2_2, p2_3, p2_4, p2_5, p2_6, p2_7, p2_8, p2_9, p2_10, p2_11, p2_12, p2_13, p2_14, p2_15, b01_ok, b_ft, b_tf, b01_e0, b01_e1, lgc_0, not_true_eq_false, not_false_eq_true, z_hkd_sI, z_hln_sI, z_hL_sI, z_hR_sI, z_hnx_sI, z_hkd_sL, z_hln_sL, z_hI_sL, z_hR_sL, z_hnx_sL, z_hkd_sR, z_hln_sR, z_hI_sR, z_hL_sR, z_hnx_sR, z_hkd_cI, z_hln_cI, z_hL_cI, z_hR_cI, z_hnx_cI, z_hkd_cLg, z_hln_cLg, z_hI_cLg, z_hR_cLg, z_hnx_cLg, K, q.s, f2, a4, q.u, ix_nI j31, nI_pos' j31, j24, nI_add, ltP (show vu S < 2 ^ 31 by have := g.u; omega) (show lD l + lP l < 2 ^ 31 by omega), v_knownBy q1 g1 (show lT l < vn (wS S (vs S ||| lC l)) from l2), v_afterRubbing q1 g1]
    by_cases hi : inkd sh l = true
    · rw [if_pos (by rw [hi]; decide)]
      have hr : rubs dm sh S l = false := by unfold rubs; rw [hi]; rfl
      have hs : she1 sh S l = vs S := by unfold she1; rw [if_pos hi]
      have hl1 : left1 dm sh S l = S := by unfold left1; rw [hr, hs]; rfl
      have hw1 : word1 dm sh S l = lC l := by unfold word1; rw [hr]; rfl
      refine C h S (lC l) _ q ⟨f1, f2, f3⟩ Fm.rf rfl g.d hw1.symm ?_
      unfold had1
      rw [hl1, hw1]
    · have hif : inkd sh l = false := by simpa using hi
      rw [if_neg (by rw [hif]; decide)]
      have hs : she1 sh S l = vs S ||| lC l := by unfold she1; rw [if_neg hi]
      have no : rubs dm sh S l = false → WP (d + 2) 43 Q (108, [.val (.ref v), .val (.int (nI j)), .val (.int (nI (lT l))), .val (.int (nI (lD l))), .val (.long (lC l)), .second, .val (.int (b01 (inkd sh l)))], [], sL h v 7 (vs S ||| lC l), 0, 0) := by
        intro hr
        have hl1 : left1 dm sh S l = wS S (vs S ||| lC l) := by unfold left1; rw [hr, hs]; rfl
        have hw1 : word1 dm sh S l = lC l := by unfold word1; rw [hr]; rfl
        refine C _ _ (lC l) _ q1 (FV.sL ⟨f1, f2, f3⟩) (Fm.sL Fm.rf (Nat.le_refl _) (by omega)) rfl g.d hw1.symm ?_
        unfold had1
        rw [hl1, hw1]
        rfl
      by_cases hd : dm = false
      · rw [if_neg (not_not_intro hd)]
        by_cases hu : vu S < lD l + lP l
        · rw [if_pos hu]
          refine no ?_
          unfold rubs
          rw [decide_eq_false (by omega)]
          simp
        · rw [if_neg hu]
          have q2 := RV_t q1 (min 9999 (vt (wS S (vs S ||| lC l)) + nb (lC l &&& vo (wS S (vs S ||| lC l)))))
          by_cases hz : lC l &&& vo S = 0
          · have hr : rubs dm sh S l = false := by
              unfold rubs
              rw [decide_eq_true hz]
              simp
            have hl1 : left1 dm sh S l = wS S (vs S ||| lC l) := by unfold left1; rw [hr, hs]; rfl
            have hw1 : word1 dm sh S l = lC l := by unfold word1; rw [hr]; rfl
            have hw : lC l &&& (vo S ^^^ -1) = lC l := by
              apply hb_ext
              intro b hb1
              have e := congrArg (hb · b) hz
              simp only [hb_and, hb_0] at e
              rw [hb_and, hb_xor, hb_m1 hb1]
              revert e
              cases hb (lC l) b <;> cases hb (vo S) b <;> simp
            have hw2 : lC l &&& (vo (wS S (vs S ||| lC l)) ^^^ -1) = lC l := hw
            have ht : min 9999 (vt (wS S (vs S ||| lC l)) + nb (lC l &&& vo (wS S (vs S ||| lC l)))) = vt S := by
              have e1 : lC l &&& vo (wS S (vs S ||| lC l)) = 0 := hz
              have e2 : vt (wS S (vs S ||| lC l)) = vt S := rfl
              have e3 : nb 0 = 0 := by decide
              have := g.t
              rw [e1, e2, e3]
              omega
            refine C _ _ _ _ q2 ((FV.sL ⟨f1, f2, f3⟩).sI (Or.inr (by decide))) (Fm.sI (Fm.sL Fm.rf (Nat.le_refl _) (by omega)) (Nat.le_refl _) (by omega)) rfl g.d ?_ ?_
            · rw [hw1, hw2, if_neg l5]
            unfold had1
            rw [hl1, hw1, hw2, ht]
            simp only [if_neg l5]
            rfl
          · have hr : rubs dm sh S l = true := by
              unfold rubs
              rw [decide_eq_false hz, decide_eq_true (show lD l + lP l ≤ vu S by omega), hif, hd]
              rfl
            have hl1 : left1 dm sh S l = wT (wS S (vs S ||| lC l)) (min 9999 (vt S + nb (lC l &&& vo S))) := by unfold left1; rw [hr, hs]; rfl
            have hw1 : word1 dm sh S l = if lC l &&& (vo S ^^^ -1) = 0 then putIn (wS S (vs S ||| lC l)) (lT l) else lC l &&& (vo S ^^^ -1) := by unfold word1; rw [hr, hs]; rfl
            refine C _ _ _ _ q2 ((FV.sL ⟨f1, f2, f3⟩).sI (Or.inr (by decide))) (Fm.sI (Fm.sL Fm.rf (Nat.le_refl _) (by omega)) (Nat.le_refl _) (by omega)) rfl g.d hw1.symm ?_
            unfold had1
            rw [hl1, hw1]
            rfl
      · rw [if_pos hd]
        refine no ?_
        unfold rubs
        have : dm = true := by simpa using hd
        rw [this]
        simp
  have K := q.k
  unfold VK at K
  obtain ⟨a1, a2, a3, a4, a5⟩ := q.lt hj
  have e5 : (nI (lD l) = 5) = (lD l = 5) := eqP (b := 5) (show lD l < 2 ^ 31 by omega) (by decide)
  simp only [e43, s43_0, s43_1, s43_4, s43_7, s43_8, s43_9, s43_10, s43_11, s43_14, s43_17, s43_18, s43_19, s43_20, s43_21, s43_24, s43_27, s43_28, s43_29, s43_31, s43_32, s43_35, s43_36, s43_39, s43_42, s43_43, s43_44, s43_47, s43_48, s43_51, s43_52, oB_some, cl2_i, cl2_r, cl2_l, cl2_u, cl2_s, wd_0, wd_i, wd_r, wd_l, wd_f, ct_i, ct_r, ct_n, ct_f, rf_s, rf_n, tl_s, tl_n, true_and, and_true, eq_self, and_self, Nat.reduceAdd, Nat.reduceLeDiff, Nat.zero_le, Nat.reduceEqDiff, or_true, true_or, false_or, or_false, if_true, if_false, gI_0, gI_1, gI_2, gI_3, gI_4, gI_5, gI_6, gI_7, gI_8, gI_9, gI_10, gI_11, gI_12, gI_13, gI_14, gI_15, gL_0, gL_1, gL_2, gL_3, gL_4, gL_5, gL_6, gL_7, gL_8, gL_9, gL_10, gL_11, gL_12, gL_13, gL_14, gL_15, gA_0, gA_1, gA_2, gA_3, gA_4, gA_5, gA_6, gA_7, gA_8, gA_9, gA_10, gA_11, gA_12, gA_13, gA_14, gA_15, p1_0, p1_1, p1_2, p1_3, p1_4, p1_5, p1_6, p1_7, p1_8, p1_9, p1_10, p1_11, p1_12, p1_13, p1_14, p1_15, p2_0, p2_1, p2_2, p2_3, p2_4, p2_5, p2_6, p2_7, p2_8, p2_9, p2_10, p2_11, p2_12, p2_13, p2_14, p2_15, b01_ok, b_ft, b_tf, b01_e0, b01_e1, lgc_0, not_true_eq_false, not_false_eq_true, z_hkd_sI, z_hln_sI, z_hL_sI, z_hR_sI, z_hnx_sI, z_hkd_sL, z_hln_sL, z_hI_sL, z_hR_sL, z_hnx_sL, z_hkd_sR, z_hln_sR, z_hI_sR, z_hL_sR, z_hnx_sR, z_hkd_cI, z_hln_cI, z_hL_cI, z_hR_cI, z_hnx_cI, z_hkd_cLg, z_hln_cLg, z_hI_cLg, z_hR_cLg, z_hnx_cLg, K, f.2.2, a1, a2, a3, a4, a5, ix_nI j31, nI_pos' j31, j24, eq_l0 (show lD l < 2 ^ 31 by omega), e5]
  have fin : ∀ i, i = b01 (inkd sh l) → WP (d + 2) 43 Q (54, [.val (.ref v), .val (.int (nI j)), .val (.int (nI (lT l))), .val (.int (nI (lD l))), .val (.long (lC l)), .second, .val (.int i)], [], h, 0, 0) := by
    rintro _ rfl
    exact B .unset
  by_cases h0 : lD l = 0
  · rw [if_pos h0]
    exact fin 1 (by unfold inkd; rw [decide_eq_true h0]; rfl)
  · rw [if_neg h0]
    by_cases h1 : sh = false
    · rw [if_pos h1]
      exact fin 0 (by unfold inkd; rw [decide_eq_false h0, h1]; rfl)
    · have h1t : sh = true := by simpa using h1
      rw [if_neg h1]
      by_cases h5 : lD l = 5
      · rw [if_neg (not_not_intro h5)]
        exact fin 1 (by unfold inkd; rw [decide_eq_true h5, h1t]; simp [b01])
      · rw [if_pos h5]
        exact fin 0 (by unfold inkd; rw [decide_eq_false h0, decide_eq_false h5]; simp [b01])
