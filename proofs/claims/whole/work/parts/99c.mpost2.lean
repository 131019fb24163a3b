-- the other side: the post
set_option maxHeartbeats 8000000 in
theorem o_post {d tl len : Nat} {tp r : Nat → Nat} {Q : PQ} {h : HP} {m : Nat} {S : VS} {H : HS} (C : MI h m S H tp tl r len) (gS : GV S) (gH : GH H)
    (k0 : (pst tp tl S).2 = none → KM h m S H tp 0 r len (Q (some (.int (pst tp tl S).1))))
    (k1 : ∀ S', (pst tp tl S).2 = some S' → GV S' → KM h m S' (dropH H) tp 0 r len (Q (some (.int (pst tp tl S).1)))) : Ev (d + 10) 67 [.ref m] h Q := by
  have M := C.1
  have K0 := M.1.k
  have T := C.2.2.1
  have t1 := T.1
  have t96 := T.2.1
  -- a fault in the letters
  have bad : ∀ w h2, fw tp tl 0 0 = some w → TF m h h2 → hI h2 m 28 = nI w → WP (d + 9) 67 Q (60, [.val (.ref m), .val (.int 0), .unset], [], h2, 0, 0) := fun w h2 hw f e => by
    have K2 := f.mk K0
    unfold MK at K2
    have f2 : TF m h (sI h2 m 27 0) := f.sI (Or.inl ⟨rfl, by omega, by omega⟩)
    have e28 : hI (sI h2 m 27 0) m 28 = nI w := by rw [hI_sI, if_neg (by omega)]; exact e
    have p1 : (pst tp tl S).1 = -1000 - nI w := by unfold pst; rw [hw]
    have p2 : (pst tp tl S).2 = none := by unfold pst; rw [hw]
    have kk := k0 p2
    rw [p1] at kk
    simp only [s67_60, s67_61, s67_62, s67_65, s67_66, s67_69, s67_72, s67_73, s67_76, s67_77, oB_some, cl2_i, cl2_r, cl2_l, cl2_u, cl2_s, wd_0, wd_i, wd_r, wd_l, wd_f, ct_i, ct_r, ct_n, ct_f, rf_s, rf_n, tl_s, tl_n, true_and, and_true, eq_self, and_self, Nat.reduceAdd, Nat.reduceLeDiff, Nat.zero_le, Nat.reduceEqDiff, or_true, true_or, false_or, or_false, if_true, if_false, gI_0, gI_1, gI_2, gI_3, gI_4, gI_5, gI_6, gI_7, gI_8, gI_9, gI_10, gI_11, gI_12, gI_13, gI_14, gI_15, gL_0, gL_1, gL_2, gL_3, gL_4, gL_5, gL_6, gL_7, gL_8, gL_9, gL_10, gL_11, gL_12, gL_13, gL_14, gL_15, gA_0, gA_1, gA_2, gA_3, gA_4, gA_5, gA_6, gA_7, gA_8, gA_9, gA_10, gA_11, gA_12, gA_13, gA_14, gA_15, p1_0, p1_1, p1_2, p1_3, p1_4, p1_5, p1_6, p1_7, p1_8, p1_9, p1_10, p1_11, p1_12, p1_13, p1_14, p1_15, p2_0, p2_1, p2_2, p2_3, p2_4, p2_5, p2_6, p2_7, p2_8, p2_9, p2_10, p2_11, p2_12, p2_13, p2_14, p2_15, b01_ok, b_ft, b_tf, b01_e0, b01_e1, lgc_0, not_true_eq_false, not_false_eq_true, z_hkd_sI, z_hln_sI, z_hL_sI, z_hR_sI, z_hnx_sI, z_hkd_sL, z_hln_sL, z_hI_sL, z_hR_sL, z_hnx_sL, z_hkd_sR, z_hln_sR, z_hI_sR, z_hL_sR, z_hnx_sR, z_hkd_cI, z_hln_cI, z_hL_cI, z_hR_cI, z_hnx_cI, z_hkd_cLg, z_hln_cLg, z_hI_cLg, z_hR_cLg, z_hnx_cLg, K2, e28]
    exact kk _ f2.pf.fm (f2.2.1 (m + 1) (by omega) (by omega)) (C.pf gH f2.pf (M.tf f2) (by rw [hI_sI, if_pos ⟨rfl, rfl⟩]))
  -- no fault in the letters
  have good : ∀ N h2, fw tp tl 0 0 = none → TF m h h2 → pl tp N = tl → hI h2 m 29 = nI N → (∀ j, j < N → ST h2 m tp j (pl tp j)) → 4 * N ≤ tl → WP (d + 9) 67 Q (60, [.val (.ref m), .val (.int 1), .unset], [], h2, 0, 0) := fun N h2 hw f eN e29 sts hN => by
    have K2 := f.mk K0
    have K2' := K2
    unfold MK at K2'
    have f2 : TF m h (sI h2 m 27 0) := f.sI (Or.inl ⟨rfl, by omega, by omega⟩)
    have M2 := M.tf f2
    simp only [s67_60, s67_61, s67_62, s67_65, s67_66, s67_69, s67_72, s67_73, s67_76, s67_77, s67_78, s67_79, s67_80, s67_81, oB_some, cl2_i, cl2_r, cl2_l, cl2_u, cl2_s, wd_0, wd_i, wd_r, wd_l, wd_f, ct_i, ct_r, ct_n, ct_f, rf_s, rf_n, tl_s, tl_n, true_and, and_true, eq_self, and_self, Nat.reduceAdd, Nat.reduceLeDiff, Nat.zero_le, Nat.reduceEqDiff, or_true, true_or, false_or, or_false, if_true, if_false, gI_0, gI_1, gI_2, gI_3, gI_4, gI_5, gI_6, gI_7, gI_8, gI_9, gI_10, gI_11, gI_12, gI_13, gI_14, gI_15, gL_0, gL_1, gL_2, gL_3, gL_4, gL_5, gL_6, gL_7, gL_8, gL_9, gL_10, gL_11, gL_12, gL_13, gL_14, gL_15, gA_0, gA_1, gA_2, gA_3, gA_4, gA_5, gA_6, gA_7, gA_8, gA_9, gA_10, gA_11, gA_12, gA_13, gA_14, gA_15, p1_0, p1_1, p1_2, p1_3, p1_4, p1_5, p1_6, p1_7, p1_8, p1_9, p1_10, p1_11, p1_12, p1_13, p1_14, p1_15, p2_0, p2_1, p2_2, p2_3, p2_4, p2_5, p2_6, p2_7, p2_8, p2_9, p2_10, p2_11, p2_12, p2_13, p2_14, p2_15, b01_ok, b_ft, b_tf, b01_e0, b01_e1, lgc_0, not_true_eq_false, not_false_eq_true, z_hkd_sI, z_hln_sI, z_hL_sI, z_hR_sI, z_hnx_sI, z_hkd_sL, z_hln_sL, z_hI_sL, z_hR_sL, z_hnx_sL, z_hkd_sR, z_hln_sR, z_hI_sR, z_hL_sR, z_hnx_sR, z_hkd_cI, z_hln_cI, z_hL_cI, z_hR_cI, z_hnx_cI, z_hkd_cLg, z_hln_cLg, z_hI_cLg, z_hR_cLg, z_hnx_cLg, K2', z10]
    refine m_allK (w := 1) M2.1.k (by decide) fun h3 G => ?_
    have M3 : MO h3 m S := ⟨PK.rm M2.1 G, M2.2.pk G⟩
    have P3 : PF m h h3 := f2.pf.tr G.pf
    have kp3 : KP h3 m 1 S := PK.kp M2.1 gS.1 G
    have s27 : hI h3 m 27 = 0 := by rw [G.2.2.2.1 27 (by decide) (by decide) (by decide), hI_sI, if_pos ⟨rfl, rfl⟩]
    have s29 : hI h3 m 29 = nI N := by rw [G.2.2.2.1 29 (by decide) (by decide) (by decide), hI_sI, if_neg (by omega)]; exact e29
    have sts3 : ∀ j, j < N → ST h3 m tp j (pl tp j) := fun j hj => (sts j hj).cong fun b b1 b2 => by rw [G.2.2.1 b (by omega) (by omega), hI_sI_ne (by omega)]
    have pe : pst tp tl S = rn tp tl 97 0 0 S := by unfold pst; rw [hw]
    rw [pe] at k0 k1
    obtain ⟨R, hR⟩ : ∃ R, rn tp tl 97 0 0 S = R := ⟨_, rfl⟩
    rw [hR] at k0 k1
    have loop : ∀ (fu n i j : Nat) (S1 : VS) (h1 : HP), i + n = tl → n ≤ fu → (0 < n → fw tp n i 0 = none) → i = pl tp j → j ≤ N → FQ m h3 h1 → MO h1 m S1 → GV S1 → rn tp tl fu i j S1 = R →
        WP (d + 9) 67 Q (86, [.val (.ref m), .val (.int 1), .val (.int (nI j))], [], h1, 0, 0) := by
      intro fu
      have fin : ∀ (n i j : Nat) (S1 : VS) (h1 : HP), i + n = tl → n = 0 → i = pl tp j → j ≤ N → FQ m h3 h1 → MO h1 m S1 → GV S1 → (nI j, some S1) = R → WP (d + 9) 67 Q (86, [.val (.ref m), .val (.int 1), .val (.int (nI j))], [], h1, 0, 0) := fun n i j S1 h1 hi hn ei hj fq M1 g1 er => by
        obtain rfl : j = N := by
          by_cases z : j < N
          · have := pl_lt (tp := tp) z
            omega
          · omega
        have K1 := M1.1.k
        unfold MK at K1
        have u29 : hI h1 m 29 = nI j := by rw [fq.2.2.2.1 29 (by decide) (by decide) (by decide) (by decide) (by decide)]; exact s29
        have u29' : hI (sI h1 m 38 0) m 29 = nI j := by rw [hI_sI, if_neg (by omega)]; exact u29
        have kk := k1 S1 (by rw [← er]) g1
        rw [← er] at kk
        have C1 := C.pf gH (P3.tr fq.pf) M1 (by rw [fq.2.2.2.1 27 (by decide) (by decide) (by decide) (by decide) (by decide)]; exact s27)
        rw [s67_86]
        simp only [s67_87, s67_88, s67_91, s67_128, s67_129, s67_130, s67_133, s67_134, s67_137, oB_some, cl2_i, cl2_r, cl2_l, cl2_u, cl2_s, wd_0, wd_i, wd_r, wd_l, wd_f, ct_i, ct_r, ct_n, ct_f, rf_s, rf_n, tl_s, tl_n, true_and, and_true, eq_self, and_self, Nat.reduceAdd, Nat.reduceLeDiff, Nat.zero_le, Nat.reduceEqDiff, or_true, true_or, false_or, or_false, if_true, if_false, gI_0, gI_1, gI_2, gI_3, gI_4, gI_5, gI_6, gI_7, gI_8, gI_9, gI_10, gI_11, gI_12, gI_13, gI_14, gI_15, gL_0, gL_1, gL_2, gL_3, gL_4, gL_5, gL_6, gL_7, gL_8, gL_9, gL_10, gL_11, gL_12, gL_13, gL_14, gL_15, gA_0, gA_1, gA_2, gA_3, gA_4, gA_5, gA_6, gA_7, gA_8, gA_9, gA_10, gA_11, gA_12, gA_13, gA_14, gA_15, p1_0, p1_1, p1_2, p1_3, p1_4, p1_5, p1_6, p1_7, p1_8, p1_9, p1_10, p1_11, p1_12, p1_13, p1_14, p1_15, p2_0, p2_1, p2_2, p2_3, p2_4, p2_5, p2_6, p2_7, p2_8, p2_9, p2_10, p2_11, p2_12, p2_13, p2_14, p2_15, b01_ok, b_ft, b_tf, b01_e0, b01_e1, lgc_0, not_true_eq_false, not_false_eq_true, z_hkd_sI, z_hln_sI, z_hL_sI, z_hR_sI, z_hnx_sI, z_hkd_sL, z_hln_sL, z_hI_sL, z_hR_sL, z_hnx_sL, z_hkd_sR, z_hln_sR, z_hI_sR, z_hL_sR, z_hnx_sR, z_hkd_cI, z_hln_cI, z_hL_cI, z_hR_cI, z_hnx_cI, z_hkd_cLg, z_hln_cLg, z_hI_cLg, z_hR_cLg, z_hnx_cLg, K1, u29, u29', Int32.le_refl]
        exact kk _ ((P3.tr fq.pf).fm.sI (by omega) (by omega)) (by rw [hI_sI_ne (by omega), fq.2.2.1 (m + 1) (by omega), P3.2.2.1 (m + 1) (by omega)]) (C1.drop gH)
      induction fu with
      | zero =>
        intro n i j S1 h1 hi hn hf ei hj fq M1 g1 er
        exact fin n i j S1 h1 hi (by omega) ei hj fq M1 g1 er
      | succ fu ih =>
        intro n i j S1 h1 hi hn hf ei hj fq M1 g1 er
        by_cases hlt : i < tl
        · obtain ⟨n0, rfl⟩ : ∃ n0, n = n0 + 1 := ⟨n - 1, by omega⟩
          obtain ⟨l0, d1, d2, d3, -, n', hn', hf'⟩ := fw_ok hi (hf (by omega))
          have lbb := lb34 (tp i)
          have jN : j < N := by
            by_cases z : j < N
            · exact z
            · obtain rfl : j = N := by omega
              omega
          unfold rn at er
          rw [if_pos hlt] at er
          have K1 := M1.1.k
          have K1' := K1
          unfold MK at K1'
          have u29 : hI h1 m 29 = nI N := by rw [fq.2.2.2.1 29 (by decide) (by decide) (by decide) (by decide) (by decide)]; exact s29
          have ge : (nI N ≤ nI j) = False := eq_false (nI_ge jN (by omega))
          have st1 : ST h1 m tp j i := by
            rw [ei]
            exact (sts3 j jN).cong fun b b1 b2 => fq.2.2.1 b (by omega)
          have j31 : j < 2 ^ 31 := by omega
          have j33 : j < 33 := by omega
          rw [s67_86]
          simp only [s67_87, s67_88, s67_91, s67_94, s67_95, s67_96, oB_some, cl2_i, cl2_r, cl2_l, cl2_u, cl2_s, wd_0, wd_i, wd_r, wd_l, wd_f, ct_i, ct_r, ct_n, ct_f, rf_s, rf_n, tl_s, tl_n, true_and, and_true, eq_self, and_self, Nat.reduceAdd, Nat.reduceLeDiff, Nat.zero_le, Nat.reduceEqDiff, or_true, true_or, false_or, or_false, if_true, if_false, gI_0, gI_1, gI_2, gI_3, gI_4, gI_5, gI_6, gI_7, gI_8, gI_9, gI_10, gI_11, gI_12, gI_13, gI_14, gI_15, gL_0, gL_1, gL_2, gL_3, gL_4, gL_5, gL_6, gL_7, gL_8, gL_9, gL_10, gL_11, gL_12, gL_13, gL_14, gL_15, gA_0, gA_1, gA_2, gA_3, gA_4, gA_5, gA_6, gA_7, gA_8, gA_9, gA_10, gA_11, gA_12, gA_13, gA_14, gA_15, p1_0, p1_1, p1_2, p1_3, p1_4, p1_5, p1_6, p1_7, p1_8, p1_9, p1_10, p1_11, p1_12, p1_13, p1_14, p1_15, p2_0, p2_1, p2_2, p2_3, p2_4, p2_5, p2_6, p2_7, p2_8, p2_9, p2_10, p2_11, p2_12, p2_13, p2_14, p2_15, b01_ok, b_ft, b_tf, b01_e0, b01_e1, lgc_0, not_true_eq_false, not_false_eq_true, K1', u29, ge]
          refine m_comesTold M1 g1 st1 (by omega) l0 d1 d2 d3 (fun e0 => ?_) fun S2 e2 h2 fq2 M2' => ?_
          · rw [e0] at er
            simp only [s67_99, s67_102, s67_105, s67_106, s67_107, s67_108, oB_some, cl2_i, cl2_r, cl2_l, cl2_u, cl2_s, wd_0, wd_i, wd_r, wd_l, wd_f, ct_i, ct_r, ct_n, ct_f, rf_s, rf_n, tl_s, tl_n, true_and, and_true, eq_self, and_self, Nat.reduceAdd, Nat.reduceLeDiff, Nat.zero_le, Nat.reduceEqDiff, or_true, true_or, false_or, or_false, if_true, if_false, gI_0, gI_1, gI_2, gI_3, gI_4, gI_5, gI_6, gI_7, gI_8, gI_9, gI_10, gI_11, gI_12, gI_13, gI_14, gI_15, gL_0, gL_1, gL_2, gL_3, gL_4, gL_5, gL_6, gL_7, gL_8, gL_9, gL_10, gL_11, gL_12, gL_13, gL_14, gL_15, gA_0, gA_1, gA_2, gA_3, gA_4, gA_5, gA_6, gA_7, gA_8, gA_9, gA_10, gA_11, gA_12, gA_13, gA_14, gA_15, p1_0, p1_1, p1_2, p1_3, p1_4, p1_5, p1_6, p1_7, p1_8, p1_9, p1_10, p1_11, p1_12, p1_13, p1_14, p1_15, p2_0, p2_1, p2_2, p2_3, p2_4, p2_5, p2_6, p2_7, p2_8, p2_9, p2_10, p2_11, p2_12, p2_13, p2_14, p2_15, b01_ok, b_ft, b_tf, b01_e0, b01_e1, lgc_0, not_true_eq_false, not_false_eq_true, K1']
            refine m_allR (w := 1) K1 (by decide) fun h5 G5 => ?_
            have kp1 : KP h1 m 1 S := kp3.fq gS.1 fq (by decide)
            have M5 : MO h5 m S := ⟨PR.rm K1 kp1 gS.1 G5, M1.2.pr G5⟩
            have K5 := M5.1.k
            unfold MK at K5
            have P5 := (P3.tr fq.pf).tr G5.pf
            have u14 : hI h5 (m + 14) j = nI i := by
              rw [G5.2.2.1 (m + 14) (by omega)]
              exact st1.2.1
            have kk := k0 (by rw [← er])
            rw [← er] at kk
            simp only [s67_111, s67_114, s67_115, s67_118, s67_119, s67_120, s67_121, oB_some, cl2_i, cl2_r, cl2_l, cl2_u, cl2_s, wd_0, wd_i, wd_r, wd_l, wd_f, ct_i, ct_r, ct_n, ct_f, rf_s, rf_n, tl_s, tl_n, true_and, and_true, eq_self, and_self, Nat.reduceAdd, Nat.reduceLeDiff, Nat.zero_le, Nat.reduceEqDiff, or_true, true_or, false_or, or_false, if_true, if_false, gI_0, gI_1, gI_2, gI_3, gI_4, gI_5, gI_6, gI_7, gI_8, gI_9, gI_10, gI_11, gI_12, gI_13, gI_14, gI_15, gL_0, gL_1, gL_2, gL_3, gL_4, gL_5, gL_6, gL_7, gL_8, gL_9, gL_10, gL_11, gL_12, gL_13, gL_14, gL_15, gA_0, gA_1, gA_2, gA_3, gA_4, gA_5, gA_6, gA_7, gA_8, gA_9, gA_10, gA_11, gA_12, gA_13, gA_14, gA_15, p1_0, p1_1, p1_2, p1_3, p1_4, p1_5, p1_6, p1_7, p1_8, p1_9, p1_10, p1_11, p1_12, p1_13, p1_14, p1_15, p2_0, p2_1, p2_2, p2_3, p2_4, p2_5, p2_6, p2_7, p2_8, p2_9, p2_10, p2_11, p2_12, p2_13, p2_14, p2_15, b01_ok, b_ft, b_tf, b01_e0, b01_e1, lgc_0, not_true_eq_false, not_false_eq_true, K5, ix_nI j31, nI_pos' j31, j33, u14]
            exact kk h5 P5.fm (P5.2.2.1 (m + 1) (by omega)) (C.pf gH P5 M5 (by rw [G5.2.2.2.1 27 (by decide) (by decide) (by decide) (by decide), fq.2.2.2.1 27 (by decide) (by decide) (by decide) (by decide) (by decide)]; exact s27))
          · rw [e2] at er
            simp only [s67_99, s67_102, s67_122, s67_125, oB_some, cl2_i, cl2_r, cl2_l, cl2_u, cl2_s, wd_0, wd_i, wd_r, wd_l, wd_f, ct_i, ct_r, ct_n, ct_f, rf_s, rf_n, tl_s, tl_n, true_and, and_true, eq_self, and_self, Nat.reduceAdd, Nat.reduceLeDiff, Nat.zero_le, Nat.reduceEqDiff, or_true, true_or, false_or, or_false, if_true, if_false, gI_0, gI_1, gI_2, gI_3, gI_4, gI_5, gI_6, gI_7, gI_8, gI_9, gI_10, gI_11, gI_12, gI_13, gI_14, gI_15, gL_0, gL_1, gL_2, gL_3, gL_4, gL_5, gL_6, gL_7, gL_8, gL_9, gL_10, gL_11, gL_12, gL_13, gL_14, gL_15, gA_0, gA_1, gA_2, gA_3, gA_4, gA_5, gA_6, gA_7, gA_8, gA_9, gA_10, gA_11, gA_12, gA_13, gA_14, gA_15, p1_0, p1_1, p1_2, p1_3, p1_4, p1_5, p1_6, p1_7, p1_8, p1_9, p1_10, p1_11, p1_12, p1_13, p1_14, p1_15, p2_0, p2_1, p2_2, p2_3, p2_4, p2_5, p2_6, p2_7, p2_8, p2_9, p2_10, p2_11, p2_12, p2_13, p2_14, p2_15, b01_ok, b_ft, b_tf, b01_e0, b01_e1, lgc_0, not_true_eq_false, not_false_eq_true, z10, nI_1]
            exact ih n' (i + 1 + lbN (tp i)) (j + 1) S2 h2 hn' (by omega) (fun _ => hf') (by rw [ei]; rfl) (by omega) (fq.tr fq2) M2' (tl1_gv g1 d1 d2 e2) er
        · have er' : (nI j, some S1) = R := by
            rw [← er]
            unfold rn
            rw [if_neg hlt]
          exact fin n i j S1 h1 hi (by omega) ei hj fq M1 g1 er'
    simp only [s67_84, s67_85, oB_some, cl2_i, cl2_r, cl2_l, cl2_u, cl2_s, wd_0, wd_i, wd_r, wd_l, wd_f, ct_i, ct_r, ct_n, ct_f, rf_s, rf_n, tl_s, tl_n, true_and, and_true, eq_self, and_self, Nat.reduceAdd, Nat.reduceLeDiff, Nat.zero_le, Nat.reduceEqDiff, or_true, true_or, false_or, or_false, if_true, if_false, gI_0, gI_1, gI_2, gI_3, gI_4, gI_5, gI_6, gI_7, gI_8, gI_9, gI_10, gI_11, gI_12, gI_13, gI_14, gI_15, gL_0, gL_1, gL_2, gL_3, gL_4, gL_5, gL_6, gL_7, gL_8, gL_9, gL_10, gL_11, gL_12, gL_13, gL_14, gL_15, gA_0, gA_1, gA_2, gA_3, gA_4, gA_5, gA_6, gA_7, gA_8, gA_9, gA_10, gA_11, gA_12, gA_13, gA_14, gA_15, p1_0, p1_1, p1_2, p1_3, p1_4, p1_5, p1_6, p1_7, p1_8, p1_9, p1_10, p1_11, p1_12, p1_13, p1_14, p1_15, p2_0, p2_1, p2_2, p2_3, p2_4, p2_5, p2_6, p2_7, p2_8, p2_9, p2_10, p2_11, p2_12, p2_13, p2_14, p2_15, b01_ok, b_ft, b_tf, b01_e0, b01_e1, lgc_0, not_true_eq_false, not_false_eq_true]
    exact loop 97 tl 0 0 S h3 (by omega) (by omega) (fun _ => hw) rfl (by omega) FQ.rf M3 gS hR
  have parse : ∀ (n i N : Nat) (h1 : HP), i + n = tl → i = pl tp N → (∀ j, j < N → ¬ lbN (tp (pl tp j)) = 0) → fw tp tl 0 0 = fw tp n i 0 → TF m h h1 → hI h1 m 27 = nI tl → hI h1 m 28 = nI i → hI h1 m 29 = nI N → (∀ j, j < N → ST h1 m tp j (pl tp j)) →
      WP (d + 9) 67 Q (12, [.val (.ref m), .val (.int 1), .unset], [], h1, 0, 0) := by
    intro n
    induction n using Nat.strongRecOn with
    | _ n ih =>
      intro i N h1 hi ei hl hw f e27 e28 e29 sts
      have K1 := f.mk K0
      have K1' := K1
      unfold MK at K1'
      have T1 := f.mt T (e27.trans t1.symm)
      have N4 := pl_4 hl
      rw [← ei] at N4
      have lt : (nI i < nI tl) = (i < tl) := ltP (by omega) (by omega)
      have N0 : (nI N = 0) = (N = 0) := eqP (b := 0) (by omega) (by decide)
      have st : (0 < n ∨ i = 0) → Ev (d + 9) 68 [.ref m] h1 (fun r h' => WP (d + 9) 67 Q (38, [.val (.ref m), .val (.int 1), .unset], r.toList ++ [], h', 0, 0)) := fun hv => by
        refine m_statement K1 T1 e28 e29 (by omega) hi hv (fun w h2 ew f2 e2 => ?_) fun n' h2 hn' n0 l0 ew f2 e2 u29 u27 old new => ?_
        · have K2 := f2.mk K1
          unfold MK at K2
          simp only [s67_38, s67_39, s67_40, s67_41, s67_44, s67_45, s67_48, s67_49, s67_52, s67_53, s67_54, s67_57, oB_some, cl2_i, cl2_r, cl2_l, cl2_u, cl2_s, wd_0, wd_i, wd_r, wd_l, wd_f, ct_i, ct_r, ct_n, ct_f, rf_s, rf_n, tl_s, tl_n, true_and, and_true, eq_self, and_self, Nat.reduceAdd, Nat.reduceLeDiff, Nat.zero_le, Nat.reduceEqDiff, or_true, true_or, false_or, or_false, if_true, if_false, gI_0, gI_1, gI_2, gI_3, gI_4, gI_5, gI_6, gI_7, gI_8, gI_9, gI_10, gI_11, gI_12, gI_13, gI_14, gI_15, gL_0, gL_1, gL_2, gL_3, gL_4, gL_5, gL_6, gL_7, gL_8, gL_9, gL_10, gL_11, gL_12, gL_13, gL_14, gL_15, gA_0, gA_1, gA_2, gA_3, gA_4, gA_5, gA_6, gA_7, gA_8, gA_9, gA_10, gA_11, gA_12, gA_13, gA_14, gA_15, p1_0, p1_1, p1_2, p1_3, p1_4, p1_5, p1_6, p1_7, p1_8, p1_9, p1_10, p1_11, p1_12, p1_13, p1_14, p1_15, p2_0, p2_1, p2_2, p2_3, p2_4, p2_5, p2_6, p2_7, p2_8, p2_9, p2_10, p2_11, p2_12, p2_13, p2_14, p2_15, b01_ok, b_ft, b_tf, b01_e0, b01_e1, lgc_0, not_true_eq_false, not_false_eq_true, z_hkd_sI, z_hln_sI, z_hL_sI, z_hR_sI, z_hnx_sI, z_hkd_sL, z_hln_sL, z_hI_sL, z_hR_sL, z_hnx_sL, z_hkd_sR, z_hln_sR, z_hI_sR, z_hL_sR, z_hnx_sR, z_hkd_cI, z_hln_cI, z_hL_cI, z_hR_cI, z_hnx_cI, z_hkd_cLg, z_hln_cLg, z_hI_cLg, z_hR_cLg, z_hnx_cLg, K2]
          rw [s67_12]
          simp only [s67_13, oB_some, cl2_i, cl2_r, cl2_l, cl2_u, cl2_s, wd_0, wd_i, wd_r, wd_l, wd_f, ct_i, ct_r, ct_n, ct_f, rf_s, rf_n, tl_s, tl_n, true_and, and_true, eq_self, and_self, Nat.reduceAdd, Nat.reduceLeDiff, Nat.zero_le, Nat.reduceEqDiff, or_true, true_or, false_or, or_false, if_true, if_false, gI_0, gI_1, gI_2, gI_3, gI_4, gI_5, gI_6, gI_7, gI_8, gI_9, gI_10, gI_11, gI_12, gI_13, gI_14, gI_15, gL_0, gL_1, gL_2, gL_3, gL_4, gL_5, gL_6, gL_7, gL_8, gL_9, gL_10, gL_11, gL_12, gL_13, gL_14, gL_15, gA_0, gA_1, gA_2, gA_3, gA_4, gA_5, gA_6, gA_7, gA_8, gA_9, gA_10, gA_11, gA_12, gA_13, gA_14, gA_15, p1_0, p1_1, p1_2, p1_3, p1_4, p1_5, p1_6, p1_7, p1_8, p1_9, p1_10, p1_11, p1_12, p1_13, p1_14, p1_15, p2_0, p2_1, p2_2, p2_3, p2_4, p2_5, p2_6, p2_7, p2_8, p2_9, p2_10, p2_11, p2_12, p2_13, p2_14, p2_15, b01_ok, b_ft, b_tf, b01_e0, b01_e1, lgc_0, not_true_eq_false, not_false_eq_true]
          exact bad w _ (hw.trans ew) ((f.tr f2).sI (Or.inl ⟨rfl, by omega, by omega⟩)) (by rw [hI_sI, if_neg (by omega)]; exact e2)
        · have K2 := f2.mk K1
          unfold MK at K2
          have lbb := lb34 (tp i)
          simp only [s67_38, s67_39, s67_40, s67_41, s67_44, s67_45, s67_48, s67_49, s67_52, s67_53, s67_54, s67_57, oB_some, cl2_i, cl2_r, cl2_l, cl2_u, cl2_s, wd_0, wd_i, wd_r, wd_l, wd_f, ct_i, ct_r, ct_n, ct_f, rf_s, rf_n, tl_s, tl_n, true_and, and_true, eq_self, and_self, Nat.reduceAdd, Nat.reduceLeDiff, Nat.zero_le, Nat.reduceEqDiff, or_true, true_or, false_or, or_false, if_true, if_false, gI_0, gI_1, gI_2, gI_3, gI_4, gI_5, gI_6, gI_7, gI_8, gI_9, gI_10, gI_11, gI_12, gI_13, gI_14, gI_15, gL_0, gL_1, gL_2, gL_3, gL_4, gL_5, gL_6, gL_7, gL_8, gL_9, gL_10, gL_11, gL_12, gL_13, gL_14, gL_15, gA_0, gA_1, gA_2, gA_3, gA_4, gA_5, gA_6, gA_7, gA_8, gA_9, gA_10, gA_11, gA_12, gA_13, gA_14, gA_15, p1_0, p1_1, p1_2, p1_3, p1_4, p1_5, p1_6, p1_7, p1_8, p1_9, p1_10, p1_11, p1_12, p1_13, p1_14, p1_15, p2_0, p2_1, p2_2, p2_3, p2_4, p2_5, p2_6, p2_7, p2_8, p2_9, p2_10, p2_11, p2_12, p2_13, p2_14, p2_15, b01_ok, b_ft, b_tf, b01_e0, b01_e1, lgc_0, not_true_eq_false, not_false_eq_true, z_hkd_sI, z_hln_sI, z_hL_sI, z_hR_sI, z_hnx_sI, z_hkd_sL, z_hln_sL, z_hI_sL, z_hR_sL, z_hnx_sL, z_hkd_sR, z_hln_sR, z_hI_sR, z_hL_sR, z_hnx_sR, z_hkd_cI, z_hln_cI, z_hL_cI, z_hR_cI, z_hnx_cI, z_hkd_cLg, z_hln_cLg, z_hI_cLg, z_hR_cLg, z_hnx_cLg, K2, z10, u29, nI_1]
          refine ih n' (by omega) (i + 1 + lbN (tp i)) (N + 1) _ hn' (by rw [ei]; rfl) (fun j hj => ?_) (hw.trans ew) ((f.tr f2).sI (Or.inl ⟨rfl, by omega, by omega⟩)) (by rw [hI_sI, if_neg (by omega), u27]; exact e27) (by rw [hI_sI, if_neg (by omega)]; exact e2) (by rw [hI_sI, if_pos ⟨rfl, rfl⟩]) fun j hj => ?_
          · by_cases z : j = N
            · rw [z, ← ei]; exact l0
            · exact hl j (by omega)
          · have cg : ∀ b, m + 13 ≤ b → b ≤ m + 15 → hI (sI h2 m 29 (nI (N + 1))) b = hI h2 b := fun b b1 b2 => by rw [hI_sI_ne (by omega)]
            by_cases z : j = N
            · rw [z, ← ei]
              exact new.cong cg
            · exact (old j _ (by omega) (sts j (by omega))).cong cg
      rw [s67_12]
      by_cases hlt : i < tl
      · simp only [s67_13, s67_16, s67_17, s67_20, s67_21, s67_24, s67_27, s67_28, s67_31, s67_34, s67_35, oB_some, cl2_i, cl2_r, cl2_l, cl2_u, cl2_s, wd_0, wd_i, wd_r, wd_l, wd_f, ct_i, ct_r, ct_n, ct_f, rf_s, rf_n, tl_s, tl_n, true_and, and_true, eq_self, and_self, Nat.reduceAdd, Nat.reduceLeDiff, Nat.zero_le, Nat.reduceEqDiff, or_true, true_or, false_or, or_false, if_true, if_false, gI_0, gI_1, gI_2, gI_3, gI_4, gI_5, gI_6, gI_7, gI_8, gI_9, gI_10, gI_11, gI_12, gI_13, gI_14, gI_15, gL_0, gL_1, gL_2, gL_3, gL_4, gL_5, gL_6, gL_7, gL_8, gL_9, gL_10, gL_11, gL_12, gL_13, gL_14, gL_15, gA_0, gA_1, gA_2, gA_3, gA_4, gA_5, gA_6, gA_7, gA_8, gA_9, gA_10, gA_11, gA_12, gA_13, gA_14, gA_15, p1_0, p1_1, p1_2, p1_3, p1_4, p1_5, p1_6, p1_7, p1_8, p1_9, p1_10, p1_11, p1_12, p1_13, p1_14, p1_15, p2_0, p2_1, p2_2, p2_3, p2_4, p2_5, p2_6, p2_7, p2_8, p2_9, p2_10, p2_11, p2_12, p2_13, p2_14, p2_15, b01_ok, b_ft, b_tf, b01_e0, b01_e1, lgc_0, not_true_eq_false, not_false_eq_true, K1', z10, e27, e28, e29, lt, hlt]
        exact st (Or.inl (by omega))
      · by_cases hN : N = 0
        · simp only [s67_13, s67_16, s67_17, s67_20, s67_21, s67_24, s67_27, s67_28, s67_31, s67_34, s67_35, oB_some, cl2_i, cl2_r, cl2_l, cl2_u, cl2_s, wd_0, wd_i, wd_r, wd_l, wd_f, ct_i, ct_r, ct_n, ct_f, rf_s, rf_n, tl_s, tl_n, true_and, and_true, eq_self, and_self, Nat.reduceAdd, Nat.reduceLeDiff, Nat.zero_le, Nat.reduceEqDiff, or_true, true_or, false_or, or_false, if_true, if_false, gI_0, gI_1, gI_2, gI_3, gI_4, gI_5, gI_6, gI_7, gI_8, gI_9, gI_10, gI_11, gI_12, gI_13, gI_14, gI_15, gL_0, gL_1, gL_2, gL_3, gL_4, gL_5, gL_6, gL_7, gL_8, gL_9, gL_10, gL_11, gL_12, gL_13, gL_14, gL_15, gA_0, gA_1, gA_2, gA_3, gA_4, gA_5, gA_6, gA_7, gA_8, gA_9, gA_10, gA_11, gA_12, gA_13, gA_14, gA_15, p1_0, p1_1, p1_2, p1_3, p1_4, p1_5, p1_6, p1_7, p1_8, p1_9, p1_10, p1_11, p1_12, p1_13, p1_14, p1_15, p2_0, p2_1, p2_2, p2_3, p2_4, p2_5, p2_6, p2_7, p2_8, p2_9, p2_10, p2_11, p2_12, p2_13, p2_14, p2_15, b01_ok, b_ft, b_tf, b01_e0, b01_e1, lgc_0, not_true_eq_false, not_false_eq_true, K1', z10, e27, e28, e29, lt, N0, hlt, hN]
          exact st (Or.inr (by rw [ei, hN]; rfl))
        · simp only [s67_13, s67_16, s67_17, s67_20, s67_21, s67_24, s67_27, s67_28, s67_31, s67_34, s67_35, oB_some, cl2_i, cl2_r, cl2_l, cl2_u, cl2_s, wd_0, wd_i, wd_r, wd_l, wd_f, ct_i, ct_r, ct_n, ct_f, rf_s, rf_n, tl_s, tl_n, true_and, and_true, eq_self, and_self, Nat.reduceAdd, Nat.reduceLeDiff, Nat.zero_le, Nat.reduceEqDiff, or_true, true_or, false_or, or_false, if_true, if_false, gI_0, gI_1, gI_2, gI_3, gI_4, gI_5, gI_6, gI_7, gI_8, gI_9, gI_10, gI_11, gI_12, gI_13, gI_14, gI_15, gL_0, gL_1, gL_2, gL_3, gL_4, gL_5, gL_6, gL_7, gL_8, gL_9, gL_10, gL_11, gL_12, gL_13, gL_14, gL_15, gA_0, gA_1, gA_2, gA_3, gA_4, gA_5, gA_6, gA_7, gA_8, gA_9, gA_10, gA_11, gA_12, gA_13, gA_14, gA_15, p1_0, p1_1, p1_2, p1_3, p1_4, p1_5, p1_6, p1_7, p1_8, p1_9, p1_10, p1_11, p1_12, p1_13, p1_14, p1_15, p2_0, p2_1, p2_2, p2_3, p2_4, p2_5, p2_6, p2_7, p2_8, p2_9, p2_10, p2_11, p2_12, p2_13, p2_14, p2_15, b01_ok, b_ft, b_tf, b01_e0, b01_e1, lgc_0, not_true_eq_false, not_false_eq_true, K1', z10, e27, e28, e29, lt, N0, hlt, hN]
          obtain rfl : n = 0 := by omega
          refine good N h1 (hw.trans ?_) f (by omega) e29 sts (by omega)
          unfold fw
          rw [if_pos ⟨rfl, by omega⟩]
  have K := K0
  unfold MK at K
  simp only [e67, s67_0, s67_1, s67_2, s67_5, s67_6, s67_7, s67_10, s67_11, oB_some, cl2_i, cl2_r, cl2_l, cl2_u, cl2_s, wd_0, wd_i, wd_r, wd_l, wd_f, ct_i, ct_r, ct_n, ct_f, rf_s, rf_n, tl_s, tl_n, true_and, and_true, eq_self, and_self, Nat.reduceAdd, Nat.reduceLeDiff, Nat.zero_le, Nat.reduceEqDiff, or_true, true_or, false_or, or_false, if_true, if_false, gI_0, gI_1, gI_2, gI_3, gI_4, gI_5, gI_6, gI_7, gI_8, gI_9, gI_10, gI_11, gI_12, gI_13, gI_14, gI_15, gL_0, gL_1, gL_2, gL_3, gL_4, gL_5, gL_6, gL_7, gL_8, gL_9, gL_10, gL_11, gL_12, gL_13, gL_14, gL_15, gA_0, gA_1, gA_2, gA_3, gA_4, gA_5, gA_6, gA_7, gA_8, gA_9, gA_10, gA_11, gA_12, gA_13, gA_14, gA_15, p1_0, p1_1, p1_2, p1_3, p1_4, p1_5, p1_6, p1_7, p1_8, p1_9, p1_10, p1_11, p1_12, p1_13, p1_14, p1_15, p2_0, p2_1, p2_2, p2_3, p2_4, p2_5, p2_6, p2_7, p2_8, p2_9, p2_10, p2_11, p2_12, p2_13, p2_14, p2_15, b01_ok, b_ft, b_tf, b01_e0, b01_e1, lgc_0, not_true_eq_false, not_false_eq_true, z_hkd_sI, z_hln_sI, z_hL_sI, z_hR_sI, z_hnx_sI, z_hkd_sL, z_hln_sL, z_hI_sL, z_hR_sL, z_hnx_sL, z_hkd_sR, z_hln_sR, z_hI_sR, z_hL_sR, z_hnx_sR, z_hkd_cI, z_hln_cI, z_hL_cI, z_hR_cI, z_hnx_cI, z_hkd_cLg, z_hln_cLg, z_hI_cLg, z_hR_cLg, z_hnx_cLg, K]
  refine parse tl 0 0 _ (by omega) rfl (fun j hj => absurd hj (Nat.not_lt_zero j)) rfl ((TF.rf.sI (Or.inl ⟨rfl, by omega, by omega⟩)).sI (Or.inl ⟨rfl, by omega, by omega⟩)) ?_ ?_ ?_ (fun j hj => absurd hj (Nat.not_lt_zero j))
  · rw [hI_sI, if_neg (by omega), hI_sI, if_neg (by omega)]; exact t1
  · rw [hI_sI, if_neg (by omega), hI_sI, if_pos ⟨rfl, rfl⟩]; rfl
  · rw [hI_sI, if_pos ⟨rfl, rfl⟩]; rfl
