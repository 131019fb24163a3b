-- the other side reads one statement
theorem sg_semi {tp : Nat → Nat} {tl i : Nat} (hb : i < tl → tp i < 256) : (sgI tp tl i = 59) = (i < tl ∧ tp i = 59) := by
  unfold sgI
  by_cases hl : i < tl
  · have b := hb hl
    rw [if_pos hl, show (59 : Int32) = nI 59 from rfl, eqP (by omega) (by decide)]
    simp [hl]
  · rw [if_neg hl]
    simp only [hl, false_and]
    exact eq_false (by decide)
/-- of a statement read: its letter, its place, its numbers -/
def ST (h : HP) (m : Nat) (tp : Nat → Nat) (j i : Nat) : Prop := hI h (m + 13) j = nI (tp i) ∧ hI h (m + 14) j = nI i ∧ TLD h m tp (tp i) (2 * j) (i + 1)
set_option maxHeartbeats 8000000 in
theorem m_statement {d i n N tl : Nat} {tp : Nat → Nat} {Q : PQ} {h : HP} {m : Nat} (K : MK h m) (T : MT h m tp tl) (e : hI h m 28 = nI i) (e2 : hI h m 29 = nI N) (hN : N < 33) (hin : i + n = tl) (hv : 0 < n ∨ i = 0)
    (kb : ∀ w h', fw tp n i 0 = some w → TF m h h' → hI h' m 28 = nI w → Q (some (.int 0)) h')
    (kg : ∀ n' h', i + 1 + lbN (tp i) + n' = tl → 0 < n → ¬ lbN (tp i) = 0 → fw tp n i 0 = fw tp n' (i + 1 + lbN (tp i)) 0 → TF m h h' → hI h' m 28 = nI (i + 1 + lbN (tp i)) → hI h' m 29 = nI N → hI h' m 27 = hI h m 27 → (∀ j i', j < N → ST h m tp j i' → ST h' m tp j i') → ST h' m tp N i → Q (some (.int 1)) h') : Ev (d + 5) 68 [.ref m] h Q := by
  have K0 := K
  unfold MK at K
  have t96 := T.2.1
  have i96 : i ≤ 96 := by omega
  have bad : ∀ c : Int32, ¬ c = 112 → ¬ c = 102 → ¬ c = 107 → ¬ c = 115 → ¬ c = 120 → ¬ c = 114 → ¬ c = 100 → Q (some (.int 0)) h → sgI tp tl i = c → Ev (d + 5) 68 [.ref m] h Q := fun c c1 c2 c3 c4 c5 c6 c7 q es => by
    simp only [e68, s68_0, s68_1, s68_4, s68_5, s68_6, s68_8, s68_11, s68_12, s68_14, s68_17, s68_18, s68_20, s68_23, s68_24, s68_26, s68_29, s68_30, s68_32, s68_35, s68_36, s68_38, s68_41, s68_42, s68_44, s68_47, s68_48, oB_some, cl2_i, cl2_r, cl2_l, cl2_u, cl2_s, wd_0, wd_i, wd_r, wd_l, wd_f, ct_i, ct_r, ct_n, ct_f, rf_s, rf_n, tl_s, tl_n, true_and, and_true, eq_self, and_self, Nat.reduceAdd, Nat.reduceLeDiff, Nat.zero_le, Nat.reduceEqDiff, or_true, true_or, false_or, or_false, if_true, if_false, gI_0, gI_1, gI_2, gI_3, gI_4, gI_5, gI_6, gI_7, gI_8, gI_9, gI_10, gI_11, gI_12, gI_13, gI_14, gI_15, gL_0, gL_1, gL_2, gL_3, gL_4, gL_5, gL_6, gL_7, gL_8, gL_9, gL_10, gL_11, gL_12, gL_13, gL_14, gL_15, gA_0, gA_1, gA_2, gA_3, gA_4, gA_5, gA_6, gA_7, gA_8, gA_9, gA_10, gA_11, gA_12, gA_13, gA_14, gA_15, p1_0, p1_1, p1_2, p1_3, p1_4, p1_5, p1_6, p1_7, p1_8, p1_9, p1_10, p1_11, p1_12, p1_13, p1_14, p1_15, p2_0, p2_1, p2_2, p2_3, p2_4, p2_5, p2_6, p2_7, p2_8, p2_9, p2_10, p2_11, p2_12, p2_13, p2_14, p2_15, b01_ok, b_ft, b_tf, b01_e0, b01_e1, lgc_0, not_true_eq_false, not_false_eq_true, K, m_sign K0 T e i96, es, c1, c2, c3, c4, c5, c6, c7]
    exact q
  by_cases hl : i < tl
  · obtain ⟨ti, tb⟩ := T.2.2 i hl
    have sv : sgI tp tl i = nI (tp i) := by unfold sgI; rw [if_pos hl]
    have q1 : (nI (tp i) = 112) = (tp i = 112) := eqP (b := 112) (by omega) (by decide)
    have q2 : (nI (tp i) = 102) = (tp i = 102) := eqP (b := 102) (by omega) (by decide)
    have q3 : (nI (tp i) = 107) = (tp i = 107) := eqP (b := 107) (by omega) (by decide)
    have q4 : (nI (tp i) = 115) = (tp i = 115) := eqP (b := 115) (by omega) (by decide)
    have q5 : (nI (tp i) = 120) = (tp i = 120) := eqP (b := 120) (by omega) (by decide)
    have q6 : (nI (tp i) = 114) = (tp i = 114) := eqP (b := 114) (by omega) (by decide)
    have q7 : (nI (tp i) = 100) = (tp i = 100) := eqP (b := 100) (by omega) (by decide)
    obtain ⟨n0, rfl⟩ : ∃ n0, n = n0 + 1 := ⟨n - 1, by omega⟩
    have fe : fw tp (n0 + 1) i 0 = if lbN (tp i) = 0 then some i else fw tp n0 (i + 1) (lbN (tp i)) := by
      conv => lhs; unfold fw
      rw [if_pos rfl]
    by_cases l0 : lbN (tp i) = 0
    · have b0 : ∀ c, lbN c = 0 → ¬ c = 112 ∧ ¬ c = 102 ∧ ¬ c = 107 ∧ ¬ c = 115 ∧ ¬ c = 120 ∧ ¬ c = 114 ∧ ¬ c = 100 := fun c hc => by
        refine ⟨?_, ?_, ?_, ?_, ?_, ?_, ?_⟩ <;> rintro rfl <;> exact absurd hc (by decide)
      obtain ⟨c1, c2, c3, c4, c5, c6, c7⟩ := b0 _ l0
      exact bad (nI (tp i)) (by rw [q1]; exact c1) (by rw [q2]; exact c2) (by rw [q3]; exact c3) (by rw [q4]; exact c4) (by rw [q5]; exact c5) (by rw [q6]; exact c6) (by rw [q7]; exact c7) (kb i h (by rw [fe, if_pos l0]) TF.rf e) sv
    · rw [fe, if_neg l0] at kb kg
      have N31 : N < 2 ^ 31 := by omega
      have w1 : (2 : Int32) * nI N = nI (2 * N) := by
        have : ∀ j, j < 33 → (2 : Int32) * nI j = nI (2 * j) := by decide +kernel
        exact this N hN
      -- what is noted of it
      have g29 : hI (sI (sI h (m + 13) N (nI (tp i))) (m + 14) N (nI i)) m 29 = nI N := by rw [hI_sI_ne (by omega), hI_sI_ne (by omega)]; exact e2
      have g29a : hI (sI h (m + 13) N (nI (tp i))) m 29 = nI N := by rw [hI_sI_ne (by omega)]; exact e2
      have g28a : hI (sI h (m + 13) N (nI (tp i))) m 28 = nI i := by rw [hI_sI_ne (by omega)]; exact e
      have g28 : hI (sI (sI (sI h (m + 13) N (nI (tp i))) (m + 14) N (nI i)) m 30 (nI (2 * N))) m 28 = nI i := by rw [hI_sI, if_neg (by omega), hI_sI_ne (by omega), hI_sI_ne (by omega)]; exact e
      have f4 : TF m h (sI (sI (sI (sI h (m + 13) N (nI (tp i))) (m + 14) N (nI i)) m 30 (nI (2 * N))) m 28 (nI (i + 1))) := (((TF.rf.sI (Or.inr (by omega))).sI (Or.inr (by omega))).sI (Or.inl ⟨rfl, by omega, by omega⟩)).sI (Or.inl ⟨rfl, by omega, by omega⟩)
      have a27 : hI (sI (sI (sI (sI h (m + 13) N (nI (tp i))) (m + 14) N (nI i)) m 30 (nI (2 * N))) m 28 (nI (i + 1))) m 27 = hI h m 27 := by rw [hI_sI, if_neg (by omega), hI_sI, if_neg (by omega), hI_sI_ne (by omega), hI_sI_ne (by omega)]
      have a28 : hI (sI (sI (sI (sI h (m + 13) N (nI (tp i))) (m + 14) N (nI i)) m 30 (nI (2 * N))) m 28 (nI (i + 1))) m 28 = nI (i + 1) := by rw [hI_sI, if_pos ⟨rfl, rfl⟩]
      have a29 : hI (sI (sI (sI (sI h (m + 13) N (nI (tp i))) (m + 14) N (nI i)) m 30 (nI (2 * N))) m 28 (nI (i + 1))) m 29 = nI N := by rw [hI_sI, if_neg (by omega), hI_sI, if_neg (by omega)]; exact g29
      have a30 : hI (sI (sI (sI (sI h (m + 13) N (nI (tp i))) (m + 14) N (nI i)) m 30 (nI (2 * N))) m 28 (nI (i + 1))) m 30 = nI (2 * N) := by rw [hI_sI, if_neg (by omega), hI_sI, if_pos ⟨rfl, rfl⟩]
      have a13 : ∀ k, hI (sI (sI (sI (sI h (m + 13) N (nI (tp i))) (m + 14) N (nI i)) m 30 (nI (2 * N))) m 28 (nI (i + 1))) (m + 13) k = if k = N then nI (tp i) else hI h (m + 13) k := fun k => by
        rw [hI_sI_ne (by omega), hI_sI_ne (by omega), hI_sI_ne (by omega), hI_sI]
        by_cases z : k = N
        · rw [if_pos ⟨rfl, z⟩, if_pos z]
        · rw [if_neg (fun y => z y.2), if_neg z]
      have a14 : ∀ k, hI (sI (sI (sI (sI h (m + 13) N (nI (tp i))) (m + 14) N (nI i)) m 30 (nI (2 * N))) m 28 (nI (i + 1))) (m + 14) k = if k = N then nI i else hI h (m + 14) k := fun k => by
        rw [hI_sI_ne (by omega), hI_sI_ne (by omega), hI_sI]
        by_cases z : k = N
        · rw [if_pos ⟨rfl, z⟩, if_pos z]
        · rw [if_neg (fun y => z y.2), if_neg z, hI_sI_ne (by omega)]
      have a15 : hI (sI (sI (sI (sI h (m + 13) N (nI (tp i))) (m + 14) N (nI i)) m 30 (nI (2 * N))) m 28 (nI (i + 1))) (m + 15) = hI h (m + 15) := by
        rw [hI_sI_ne (by omega), hI_sI_ne (by omega), hI_sI_ne (by omega), hI_sI_ne (by omega)]
      have start : WP (d + 4) 68 Q (49, [.val (.ref m), .val (.int (nI (tp i)))], [], h, 0, 0) := by
        simp only [s68_49, s68_50, s68_53, s68_54, s68_57, s68_58, s68_59, s68_60, s68_63, s68_64, s68_67, s68_68, s68_71, s68_72, s68_73, s68_74, s68_75, s68_78, s68_79, s68_82, s68_83, s68_84, s68_87, s68_88, s68_89, s68_92, s68_93, s68_94, oB_some, cl2_i, cl2_r, cl2_l, cl2_u, cl2_s, wd_0, wd_i, wd_r, wd_l, wd_f, ct_i, ct_r, ct_n, ct_f, rf_s, rf_n, tl_s, tl_n, true_and, and_true, eq_self, and_self, Nat.reduceAdd, Nat.reduceLeDiff, Nat.zero_le, Nat.reduceEqDiff, or_true, true_or, false_or, or_false, if_true, if_false, gI_0, gI_1, gI_2, gI_3, gI_4, gI_5, gI_6, gI_7, gI_8, gI_9, gI_10, gI_11, gI_12, gI_13, gI_14, gI_15, gL_0, gL_1, gL_2, gL_3, gL_4, gL_5, gL_6, gL_7, gL_8, gL_9, gL_10, gL_11, gL_12, gL_13, gL_14, gL_15, gA_0, gA_1, gA_2, gA_3, gA_4, gA_5, gA_6, gA_7, gA_8, gA_9, gA_10, gA_11, gA_12, gA_13, gA_14, gA_15, p1_0, p1_1, p1_2, p1_3, p1_4, p1_5, p1_6, p1_7, p1_8, p1_9, p1_10, p1_11, p1_12, p1_13, p1_14, p1_15, p2_0, p2_1, p2_2, p2_3, p2_4, p2_5, p2_6, p2_7, p2_8, p2_9, p2_10, p2_11, p2_12, p2_13, p2_14, p2_15, b01_ok, b_ft, b_tf, b01_e0, b01_e1, lgc_0, not_true_eq_false, not_false_eq_true, z_hkd_sI, z_hln_sI, z_hL_sI, z_hR_sI, z_hnx_sI, z_hkd_sL, z_hln_sL, z_hI_sL, z_hR_sL, z_hnx_sL, z_hkd_sR, z_hln_sR, z_hI_sR, z_hL_sR, z_hnx_sR, z_hkd_cI, z_hln_cI, z_hL_cI, z_hR_cI, z_hnx_cI, z_hkd_cLg, z_hln_cLg, z_hI_cLg, z_hR_cLg, z_hnx_cLg, K, e2, g29a, g28a, g29, g28, w1, ix_nI N31, nI_pos' N31, hN, nI_1]
        generalize sI (sI (sI (sI h (m + 13) N (nI (tp i))) (m + 14) N (nI i)) m 30 (nI (2 * N))) m 28 (nI (i + 1)) = h4 at f4 a27 a28 a29 a30 a13 a14 a15
        have K4 := f4.mk K0
        have T4 := f4.mt T a27
        refine m_readsAll K4 T4 a28 (by omega) a30 (by omega) l0 (fun w h5 hw f5 e5 => ?_) fun h5 hw f5 e5 o15 o13 o14 o29 o27 tld => ?_
        · simp only [s68_97, s68_109, s68_110, s68_111, s68_112, s68_113, s68_116, s68_117, s68_118, s68_121, s68_122, oB_some, cl2_i, cl2_r, cl2_l, cl2_u, cl2_s, wd_0, wd_i, wd_r, wd_l, wd_f, ct_i, ct_r, ct_n, ct_f, rf_s, rf_n, tl_s, tl_n, true_and, and_true, eq_self, and_self, Nat.reduceAdd, Nat.reduceLeDiff, Nat.zero_le, Nat.reduceEqDiff, or_true, true_or, false_or, or_false, if_true, if_false, gI_0, gI_1, gI_2, gI_3, gI_4, gI_5, gI_6, gI_7, gI_8, gI_9, gI_10, gI_11, gI_12, gI_13, gI_14, gI_15, gL_0, gL_1, gL_2, gL_3, gL_4, gL_5, gL_6, gL_7, gL_8, gL_9, gL_10, gL_11, gL_12, gL_13, gL_14, gL_15, gA_0, gA_1, gA_2, gA_3, gA_4, gA_5, gA_6, gA_7, gA_8, gA_9, gA_10, gA_11, gA_12, gA_13, gA_14, gA_15, p1_0, p1_1, p1_2, p1_3, p1_4, p1_5, p1_6, p1_7, p1_8, p1_9, p1_10, p1_11, p1_12, p1_13, p1_14, p1_15, p2_0, p2_1, p2_2, p2_3, p2_4, p2_5, p2_6, p2_7, p2_8, p2_9, p2_10, p2_11, p2_12, p2_13, p2_14, p2_15, b01_ok, b_ft, b_tf, b01_e0, b01_e1, lgc_0, not_true_eq_false, not_false_eq_true]
          exact kb w h5 (hw n0 (by omega)) (f4.tr f5) e5
        · obtain ⟨ln, hw⟩ := hw n0 (by omega)
          have K5 := f5.mk K4
          have T5 := f5.mt T4 o27
          have K5' := K5
          unfold MK at K5'
          have T3 := T.2.2
          have ss := sg_semi (tp := tp) (tl := tl) (i := i + 1 + (lbN (tp i) - 1)) (fun z => (T3 _ z).2)
          simp only [s68_97, s68_100, s68_101, s68_104, s68_106, oB_some, cl2_i, cl2_r, cl2_l, cl2_u, cl2_s, wd_0, wd_i, wd_r, wd_l, wd_f, ct_i, ct_r, ct_n, ct_f, rf_s, rf_n, tl_s, tl_n, true_and, and_true, eq_self, and_self, Nat.reduceAdd, Nat.reduceLeDiff, Nat.zero_le, Nat.reduceEqDiff, or_true, true_or, false_or, or_false, if_true, if_false, gI_0, gI_1, gI_2, gI_3, gI_4, gI_5, gI_6, gI_7, gI_8, gI_9, gI_10, gI_11, gI_12, gI_13, gI_14, gI_15, gL_0, gL_1, gL_2, gL_3, gL_4, gL_5, gL_6, gL_7, gL_8, gL_9, gL_10, gL_11, gL_12, gL_13, gL_14, gL_15, gA_0, gA_1, gA_2, gA_3, gA_4, gA_5, gA_6, gA_7, gA_8, gA_9, gA_10, gA_11, gA_12, gA_13, gA_14, gA_15, p1_0, p1_1, p1_2, p1_3, p1_4, p1_5, p1_6, p1_7, p1_8, p1_9, p1_10, p1_11, p1_12, p1_13, p1_14, p1_15, p2_0, p2_1, p2_2, p2_3, p2_4, p2_5, p2_6, p2_7, p2_8, p2_9, p2_10, p2_11, p2_12, p2_13, p2_14, p2_15, b01_ok, b_ft, b_tf, b01_e0, b01_e1, lgc_0, not_true_eq_false, not_false_eq_true, z10, K5', m_sign K5 T5 e5 (show i + 1 + (lbN (tp i) - 1) ≤ 96 by omega), ss]
          rw [hw, fw_semi (tl := tl) (show i + 1 + (lbN (tp i) - 1) + (n0 - (lbN (tp i) - 1)) = tl by omega)] at kb kg
          by_cases c : i + 1 + (lbN (tp i) - 1) < tl ∧ tp (i + 1 + (lbN (tp i) - 1)) = 59
          · rw [if_pos c] at kg
            have ei : i + 1 + (lbN (tp i) - 1) + 1 = i + 1 + lbN (tp i) := by omega
            simp only [c, and_self, if_true, s68_111, s68_112, s68_113, s68_116, s68_117, s68_118, s68_121, s68_122, oB_some, cl2_i, cl2_r, cl2_l, cl2_u, cl2_s, wd_0, wd_i, wd_r, wd_l, wd_f, ct_i, ct_r, ct_n, ct_f, rf_s, rf_n, tl_s, tl_n, true_and, and_true, eq_self, and_self, Nat.reduceAdd, Nat.reduceLeDiff, Nat.zero_le, Nat.reduceEqDiff, or_true, true_or, false_or, or_false, if_true, if_false, gI_0, gI_1, gI_2, gI_3, gI_4, gI_5, gI_6, gI_7, gI_8, gI_9, gI_10, gI_11, gI_12, gI_13, gI_14, gI_15, gL_0, gL_1, gL_2, gL_3, gL_4, gL_5, gL_6, gL_7, gL_8, gL_9, gL_10, gL_11, gL_12, gL_13, gL_14, gL_15, gA_0, gA_1, gA_2, gA_3, gA_4, gA_5, gA_6, gA_7, gA_8, gA_9, gA_10, gA_11, gA_12, gA_13, gA_14, gA_15, p1_0, p1_1, p1_2, p1_3, p1_4, p1_5, p1_6, p1_7, p1_8, p1_9, p1_10, p1_11, p1_12, p1_13, p1_14, p1_15, p2_0, p2_1, p2_2, p2_3, p2_4, p2_5, p2_6, p2_7, p2_8, p2_9, p2_10, p2_11, p2_12, p2_13, p2_14, p2_15, z_hkd_sI, z_hln_sI, z_hL_sI, z_hR_sI, z_hnx_sI, z_hkd_sL, z_hln_sL, z_hI_sL, z_hR_sL, z_hnx_sL, z_hkd_sR, z_hln_sR, z_hI_sR, z_hL_sR, z_hnx_sR, z_hkd_cI, z_hln_cI, z_hL_cI, z_hR_cI, z_hnx_cI, z_hkd_cLg, z_hln_cLg, z_hI_cLg, z_hR_cLg, z_hnx_cLg, K5', e5, nI_1, ei]
            rw [ei] at kg
            refine kg (n0 - (lbN (tp i) - 1) - 1) _ (by omega) (by omega) l0 rfl ((f4.tr f5).sI (Or.inl ⟨rfl, by omega, by omega⟩)) (by rw [hI_sI, if_pos ⟨rfl, rfl⟩]) ?_ ?_ (fun j i' hj st => ?_) ?_
            · rw [hI_sI, if_neg (by omega), o29, a29]
            · rw [hI_sI, if_neg (by omega), o27, a27]
            · obtain ⟨s1, s2, s3, s4, s5⟩ := st
              refine ⟨?_, ?_, ?_⟩
              · rw [hI_sI_ne (by omega), o13, a13, if_neg (by omega)]; exact s1
              · rw [hI_sI_ne (by omega), o14, a14, if_neg (by omega)]; exact s2
              · unfold TLD
                rw [hI_sI_ne (by omega), o15 (2 * j) (by omega) (by omega), o15 (2 * j + 1) (by omega) (by omega), a15]
                exact ⟨s3, s4, s5⟩
            · refine ⟨?_, ?_, ?_⟩
              · rw [hI_sI_ne (by omega), o13, a13, if_pos rfl]
              · rw [hI_sI_ne (by omega), o14, a14, if_pos rfl]
              · unfold TLD
                rw [hI_sI_ne (by omega)]
                exact tld
          · rw [if_neg c] at kb
            simp only [c, if_false, s68_109, s68_110, oB_some, cl2_i, cl2_r, cl2_l, cl2_u, cl2_s, wd_0, wd_i, wd_r, wd_l, wd_f, ct_i, ct_r, ct_n, ct_f, rf_s, rf_n, tl_s, tl_n, true_and, and_true, eq_self, and_self, Nat.reduceAdd, Nat.reduceLeDiff, Nat.zero_le, Nat.reduceEqDiff, or_true, true_or, false_or, or_false, if_true, if_false, gI_0, gI_1, gI_2, gI_3, gI_4, gI_5, gI_6, gI_7, gI_8, gI_9, gI_10, gI_11, gI_12, gI_13, gI_14, gI_15, gL_0, gL_1, gL_2, gL_3, gL_4, gL_5, gL_6, gL_7, gL_8, gL_9, gL_10, gL_11, gL_12, gL_13, gL_14, gL_15, gA_0, gA_1, gA_2, gA_3, gA_4, gA_5, gA_6, gA_7, gA_8, gA_9, gA_10, gA_11, gA_12, gA_13, gA_14, gA_15, p1_0, p1_1, p1_2, p1_3, p1_4, p1_5, p1_6, p1_7, p1_8, p1_9, p1_10, p1_11, p1_12, p1_13, p1_14, p1_15, p2_0, p2_1, p2_2, p2_3, p2_4, p2_5, p2_6, p2_7, p2_8, p2_9, p2_10, p2_11, p2_12, p2_13, p2_14, p2_15]
            exact kb _ h5 rfl (f4.tr f5) e5
      have pre : Ev (d + 5) 68 [.ref m] h Q = WP (d + 4) 68 Q (49, [.val (.ref m), .val (.int (nI (tp i)))], [], h, 0, 0) := by
        rcases lb7 l0 with z | z | z | z | z | z | z
        · simp only [e68, s68_0, s68_1, s68_4, s68_5, s68_6, s68_8, s68_11, s68_12, s68_14, s68_17, s68_18, s68_20, s68_23, s68_24, s68_26, s68_29, s68_30, s68_32, s68_35, s68_36, s68_38, s68_41, s68_42, s68_44, s68_47, s68_48, oB_some, cl2_i, cl2_r, cl2_l, cl2_u, cl2_s, wd_0, wd_i, wd_r, wd_l, wd_f, ct_i, ct_r, ct_n, ct_f, rf_s, rf_n, tl_s, tl_n, true_and, and_true, eq_self, and_self, Nat.reduceAdd, Nat.reduceLeDiff, Nat.zero_le, Nat.reduceEqDiff, or_true, true_or, false_or, or_false, if_true, if_false, gI_0, gI_1, gI_2, gI_3, gI_4, gI_5, gI_6, gI_7, gI_8, gI_9, gI_10, gI_11, gI_12, gI_13, gI_14, gI_15, gL_0, gL_1, gL_2, gL_3, gL_4, gL_5, gL_6, gL_7, gL_8, gL_9, gL_10, gL_11, gL_12, gL_13, gL_14, gL_15, gA_0, gA_1, gA_2, gA_3, gA_4, gA_5, gA_6, gA_7, gA_8, gA_9, gA_10, gA_11, gA_12, gA_13, gA_14, gA_15, p1_0, p1_1, p1_2, p1_3, p1_4, p1_5, p1_6, p1_7, p1_8, p1_9, p1_10, p1_11, p1_12, p1_13, p1_14, p1_15, p2_0, p2_1, p2_2, p2_3, p2_4, p2_5, p2_6, p2_7, p2_8, p2_9, p2_10, p2_11, p2_12, p2_13, p2_14, p2_15, b01_ok, b_ft, b_tf, b01_e0, b01_e1, lgc_0, not_true_eq_false, not_false_eq_true, K, m_sign K0 T e i96, sv, q1, q2, q3, q4, q5, q6, q7, eq_true z]
        · simp only [e68, s68_0, s68_1, s68_4, s68_5, s68_6, s68_8, s68_11, s68_12, s68_14, s68_17, s68_18, s68_20, s68_23, s68_24, s68_26, s68_29, s68_30, s68_32, s68_35, s68_36, s68_38, s68_41, s68_42, s68_44, s68_47, s68_48, oB_some, cl2_i, cl2_r, cl2_l, cl2_u, cl2_s, wd_0, wd_i, wd_r, wd_l, wd_f, ct_i, ct_r, ct_n, ct_f, rf_s, rf_n, tl_s, tl_n, true_and, and_true, eq_self, and_self, Nat.reduceAdd, Nat.reduceLeDiff, Nat.zero_le, Nat.reduceEqDiff, or_true, true_or, false_or, or_false, if_true, if_false, gI_0, gI_1, gI_2, gI_3, gI_4, gI_5, gI_6, gI_7, gI_8, gI_9, gI_10, gI_11, gI_12, gI_13, gI_14, gI_15, gL_0, gL_1, gL_2, gL_3, gL_4, gL_5, gL_6, gL_7, gL_8, gL_9, gL_10, gL_11, gL_12, gL_13, gL_14, gL_15, gA_0, gA_1, gA_2, gA_3, gA_4, gA_5, gA_6, gA_7, gA_8, gA_9, gA_10, gA_11, gA_12, gA_13, gA_14, gA_15, p1_0, p1_1, p1_2, p1_3, p1_4, p1_5, p1_6, p1_7, p1_8, p1_9, p1_10, p1_11, p1_12, p1_13, p1_14, p1_15, p2_0, p2_1, p2_2, p2_3, p2_4, p2_5, p2_6, p2_7, p2_8, p2_9, p2_10, p2_11, p2_12, p2_13, p2_14, p2_15, b01_ok, b_ft, b_tf, b01_e0, b01_e1, lgc_0, not_true_eq_false, not_false_eq_true, K, m_sign K0 T e i96, sv, q1, q2, q3, q4, q5, q6, q7, eq_true z, eq_false (show ¬ tp i = 112 by omega)]
        · simp only [e68, s68_0, s68_1, s68_4, s68_5, s68_6, s68_8, s68_11, s68_12, s68_14, s68_17, s68_18, s68_20, s68_23, s68_24, s68_26, s68_29, s68_30, s68_32, s68_35, s68_36, s68_38, s68_41, s68_42, s68_44, s68_47, s68_48, oB_some, cl2_i, cl2_r, cl2_l, cl2_u, cl2_s, wd_0, wd_i, wd_r, wd_l, wd_f, ct_i, ct_r, ct_n, ct_f, rf_s, rf_n, tl_s, tl_n, true_and, and_true, eq_self, and_self, Nat.reduceAdd, Nat.reduceLeDiff, Nat.zero_le, Nat.reduceEqDiff, or_true, true_or, false_or, or_false, if_true, if_false, gI_0, gI_1, gI_2, gI_3, gI_4, gI_5, gI_6, gI_7, gI_8, gI_9, gI_10, gI_11, gI_12, gI_13, gI_14, gI_15, gL_0, gL_1, gL_2, gL_3, gL_4, gL_5, gL_6, gL_7, gL_8, gL_9, gL_10, gL_11, gL_12, gL_13, gL_14, gL_15, gA_0, gA_1, gA_2, gA_3, gA_4, gA_5, gA_6, gA_7, gA_8, gA_9, gA_10, gA_11, gA_12, gA_13, gA_14, gA_15, p1_0, p1_1, p1_2, p1_3, p1_4, p1_5, p1_6, p1_7, p1_8, p1_9, p1_10, p1_11, p1_12, p1_13, p1_14, p1_15, p2_0, p2_1, p2_2, p2_3, p2_4, p2_5, p2_6, p2_7, p2_8, p2_9, p2_10, p2_11, p2_12, p2_13, p2_14, p2_15, b01_ok, b_ft, b_tf, b01_e0, b01_e1, lgc_0, not_true_eq_false, not_false_eq_true, K, m_sign K0 T e i96, sv, q1, q2, q3, q4, q5, q6, q7, eq_true z, eq_false (show ¬ tp i = 112 by omega), eq_false (show ¬ tp i = 102 by omega)]
        · simp only [e68, s68_0, s68_1, s68_4, s68_5, s68_6, s68_8, s68_11, s68_12, s68_14, s68_17, s68_18, s68_20, s68_23, s68_24, s68_26, s68_29, s68_30, s68_32, s68_35, s68_36, s68_38, s68_41, s68_42, s68_44, s68_47, s68_48, oB_some, cl2_i, cl2_r, cl2_l, cl2_u, cl2_s, wd_0, wd_i, wd_r, wd_l, wd_f, ct_i, ct_r, ct_n, ct_f, rf_s, rf_n, tl_s, tl_n, true_and, and_true, eq_self, and_self, Nat.reduceAdd, Nat.reduceLeDiff, Nat.zero_le, Nat.reduceEqDiff, or_true, true_or, false_or, or_false, if_true, if_false, gI_0, gI_1, gI_2, gI_3, gI_4, gI_5, gI_6, gI_7, gI_8, gI_9, gI_10, gI_11, gI_12, gI_13, gI_14, gI_15, gL_0, gL_1, gL_2, gL_3, gL_4, gL_5, gL_6, gL_7, gL_8, gL_9, gL_10, gL_11, gL_12, gL_13, gL_14, gL_15, gA_0, gA_1, gA_2, gA_3, gA_4, gA_5, gA_6, gA_7, gA_8, gA_9, gA_10, gA_11, gA_12, gA_13, gA_14, gA_15, p1_0, p1_1, p1_2, p1_3, p1_4, p1_5, p1_6, p1_7, p1_8, p1_9, p1_10, p1_11, p1_12, p1_13, p1_14, p1_15, p2_0, p2_1, p2_2, p2_3, p2_4, p2_5, p2_6, p2_7, p2_8, p2_9, p2_10, p2_11, p2_12, p2_13, p2_14, p2_15, b01_ok, b_ft, b_tf, b01_e0, b01_e1, lgc_0, not_true_eq_false, not_false_eq_true, K, m_sign K0 T e i96, sv, q1, q2, q3, q4, q5, q6, q7, eq_true z, eq_false (show ¬ tp i = 112 by omega), eq_false (show ¬ tp i = 102 by omega), eq_false (show ¬ tp i = 107 by omega)]
        · simp only [e68, s68_0, s68_1, s68_4, s68_5, s68_6, s68_8, s68_11, s68_12, s68_14, s68_17, s68_18, s68_20, s68_23, s68_24, s68_26, s68_29, s68_30, s68_32, s68_35, s68_36, s68_38, s68_41, s68_42, s68_44, s68_47, s68_48, oB_some, cl2_i, cl2_r, cl2_l, cl2_u, cl2_s, wd_0, wd_i, wd_r, wd_l, wd_f, ct_i, ct_r, ct_n, ct_f, rf_s, rf_n, tl_s, tl_n, true_and, and_true, eq_self, and_self, Nat.reduceAdd, Nat.reduceLeDiff, Nat.zero_le, Nat.reduceEqDiff, or_true, true_or, false_or, or_false, if_true, if_false, gI_0, gI_1, gI_2, gI_3, gI_4, gI_5, gI_6, gI_7, gI_8, gI_9, gI_10, gI_11, gI_12, gI_13, gI_14, gI_15, gL_0, gL_1, gL_2, gL_3, gL_4, gL_5, gL_6, gL_7, gL_8, gL_9, gL_10, gL_11, gL_12, gL_13, gL_14, gL_15, gA_0, gA_1, gA_2, gA_3, gA_4, gA_5, gA_6, gA_7, gA_8, gA_9, gA_10, gA_11, gA_12, gA_13, gA_14, gA_15, p1_0, p1_1, p1_2, p1_3, p1_4, p1_5, p1_6, p1_7, p1_8, p1_9, p1_10, p1_11, p1_12, p1_13, p1_14, p1_15, p2_0, p2_1, p2_2, p2_3, p2_4, p2_5, p2_6, p2_7, p2_8, p2_9, p2_10, p2_11, p2_12, p2_13, p2_14, p2_15, b01_ok, b_ft, b_tf, b01_e0, b01_e1, lgc_0, not_true_eq_false, not_false_eq_true, K, m_sign K0 T e i96, sv, q1, q2, q3, q4, q5, q6, q7, eq_true z, eq_false (show ¬ tp i = 112 by omega), eq_false (show ¬ tp i = 102 by omega), eq_false (show ¬ tp i = 107 by omega), eq_false (show ¬ tp i = 115 by omega)]
        · simp only [e68, s68_0, s68_1, s68_4, s68_5, s68_6, s68_8, s68_11, s68_12, s68_14, s68_17, s68_18, s68_20, s68_23, s68_24, s68_26, s68_29, s68_30, s68_32, s68_35, s68_36, s68_38, s68_41, s68_42, s68_44, s68_47, s68_48, oB_some, cl2_i, cl2_r, cl2_l, cl2_u, cl2_s, wd_0, wd_i, wd_r, wd_l, wd_f, ct_i, ct_r, ct_n, ct_f, rf_s, rf_n, tl_s, tl_n, true_and, and_true, eq_self, and_self, Nat.reduceAdd, Nat.reduceLeDiff, Nat.zero_le, Nat.reduceEqDiff, or_true, true_or, false_or, or_false, if_true, if_false, gI_0, gI_1, gI_2, gI_3, gI_4, gI_5, gI_6, gI_7, gI_8, gI_9, gI_10, gI_11, gI_12, gI_13, gI_14, gI_15, gL_0, gL_1, gL_2, gL_3, gL_4, gL_5, gL_6, gL_7, gL_8, gL_9, gL_10, gL_11, gL_12, gL_13, gL_14, gL_15, gA_0, gA_1, gA_2, gA_3, gA_4, gA_5, gA_6, gA_7, gA_8, gA_9, gA_10, gA_11, gA_12, gA_13, gA_14, gA_15, p1_0, p1_1, p1_2, p1_3, p1_4, p1_5, p1_6, p1_7, p1_8, p1_9, p1_10, p1_11, p1_12, p1_13, p1_14, p1_15, p2_0, p2_1, p2_2, p2_3, p2_4, p2_5, p2_6, p2_7, p2_8, p2_9, p2_10, p2_11, p2_12, p2_13, p2_14, p2_15, b01_ok, b_ft, b_tf, b01_e0, b01_e1, lgc_0, not_true_eq_false, not_false_eq_true, K, m_sign K0 T e i96, sv, q1, q2, q3, q4, q5, q6, q7, eq_true z, eq_false (show ¬ tp i = 112 by omega), eq_false (show ¬ tp i = 102 by omega), eq_false (show ¬ tp i = 107 by omega), eq_false (show ¬ tp i = 115 by omega), eq_false (show ¬ tp i = 120 by omega)]
        · simp only [e68, s68_0, s68_1, s68_4, s68_5, s68_6, s68_8, s68_11, s68_12, s68_14, s68_17, s68_18, s68_20, s68_23, s68_24, s68_26, s68_29, s68_30, s68_32, s68_35, s68_36, s68_38, s68_41, s68_42, s68_44, s68_47, s68_48, oB_some, cl2_i, cl2_r, cl2_l, cl2_u, cl2_s, wd_0, wd_i, wd_r, wd_l, wd_f, ct_i, ct_r, ct_n, ct_f, rf_s, rf_n, tl_s, tl_n, true_and, and_true, eq_self, and_self, Nat.reduceAdd, Nat.reduceLeDiff, Nat.zero_le, Nat.reduceEqDiff, or_true, true_or, false_or, or_false, if_true, if_false, gI_0, gI_1, gI_2, gI_3, gI_4, gI_5, gI_6, gI_7, gI_8, gI_9, gI_10, gI_11, gI_12, gI_13, gI_14, gI_15, gL_0, gL_1, gL_2, gL_3, gL_4, gL_5, gL_6, gL_7, gL_8, gL_9, gL_10, gL_11, gL_12, gL_13, gL_14, gL_15, gA_0, gA_1, gA_2, gA_3, gA_4, gA_5, gA_6, gA_7, gA_8, gA_9, gA_10, gA_11, gA_12, gA_13, gA_14, gA_15, p1_0, p1_1, p1_2, p1_3, p1_4, p1_5, p1_6, p1_7, p1_8, p1_9, p1_10, p1_11, p1_12, p1_13, p1_14, p1_15, p2_0, p2_1, p2_2, p2_3, p2_4, p2_5, p2_6, p2_7, p2_8, p2_9, p2_10, p2_11, p2_12, p2_13, p2_14, p2_15, b01_ok, b_ft, b_tf, b01_e0, b01_e1, lgc_0, not_true_eq_false, not_false_eq_true, K, m_sign K0 T e i96, sv, q1, q2, q3, q4, q5, q6, q7, eq_true z, eq_false (show ¬ tp i = 112 by omega), eq_false (show ¬ tp i = 102 by omega), eq_false (show ¬ tp i = 107 by omega), eq_false (show ¬ tp i = 115 by omega), eq_false (show ¬ tp i = 120 by omega), eq_false (show ¬ tp i = 114 by omega)]
      rw [pre]
      exact start
  · obtain rfl : n = 0 := by omega
    have i0 : i = 0 := by omega
    exact bad (-1) (by decide) (by decide) (by decide) (by decide) (by decide) (by decide) (by decide) (kb i h (by unfold fw; rw [if_neg (fun z => z.2 i0)]) TF.rf e) (by unfold sgI; rw [if_neg hl])
