-- needs: 16.num 17.small 20.spec 22.rep
def BK (h : HP) (g : Nat) : Prop :=
  (hkd h g = 10 ∧ hkd h (g + 1) = 2 ∧ hkd h (g + 2) = 2 ∧ hkd h (g + 3) = 2 ∧ hkd h (g + 4) = 2 ∧ hkd h (g + 5) = 3) ∧ (hln h (g + 1) = 24 ∧ hln h (g + 2) = 24 ∧ hln h (g + 3) = 24 ∧ hln h (g + 4) = 24 ∧ hln h (g + 5) = 24) ∧
  (hR h g 1 = some (g + 1) ∧ hR h g 2 = some (g + 2) ∧ hR h g 3 = some (g + 3) ∧ hR h g 4 = some (g + 4) ∧ hR h g 5 = some (g + 5))
theorem VK.bag {h : HP} {v : Nat} (k : VK h v) : BK h (v + 6) := by
  obtain ⟨⟨a0, a1, a2, a3, a4, a5, a6, a7, a8, a9, a10, a11⟩, ⟨b1, b2, b3, b4, b5, b7, b8, b9, b10, b11⟩, c, d⟩ := k
  exact ⟨⟨a6, a7, a8, a9, a10, a11⟩, ⟨b7, b8, b9, b10, b11⟩, d⟩
theorem BK.kept {h h' : HP} {g : Nat} (a : BK h g) (k1 : hkd h' = hkd h) (k2 : hln h' = hln h) (k3 : hR h' = hR h) : BK h' g := by
  unfold BK
  rw [k1, k2, k3]
  exact a
def putB (h : HP) (g p g2 q : Nat) : HP :=
  sL (sI (sI (sI (sI h (g + 1) p (hI h (g2 + 1) q)) (g + 2) p (hI (sI h (g + 1) p (hI h (g2 + 1) q)) (g2 + 2) q)) (g + 3) p (hI (sI (sI h (g + 1) p (hI h (g2 + 1) q)) (g + 2) p (hI (sI h (g + 1) p (hI h (g2 + 1) q)) (g2 + 2) q)) (g2 + 3) q)) (g + 4) p
    (hI (sI (sI (sI h (g + 1) p (hI h (g2 + 1) q)) (g + 2) p (hI (sI h (g + 1) p (hI h (g2 + 1) q)) (g2 + 2) q)) (g + 3) p (hI (sI (sI h (g + 1) p (hI h (g2 + 1) q)) (g + 2) p (hI (sI h (g + 1) p (hI h (g2 + 1) q)) (g2 + 2) q)) (g2 + 3) q)) (g2 + 4) q)) (g + 5) p (hL h (g2 + 5) q)
set_option maxHeartbeats 4000000 in
theorem v_put {d : Nat} {Q : PQ} {h : HP} {g g2 p q : Nat} (bk : BK h g) (bk2 : BK h g2) (hp : p < 24) (hq : q < 24) : Ev (d + 1) 21 [.ref g, .int (nI p), .ref g2, .int (nI q)] h Q = Q none (putB h g p g2 q) := by
  unfold BK at bk bk2
  simp only [e21, s21_0, s21_1, s21_4, s21_5, s21_6, s21_9, s21_10, s21_11, s21_12, s21_13, s21_16, s21_17, s21_18, s21_21, s21_22, s21_23, s21_24, s21_25, s21_28, s21_29, s21_30, s21_33, s21_34, s21_35, s21_36, s21_37, s21_40, s21_41, s21_42, s21_45, s21_46, s21_47, s21_48, s21_49, s21_52, s21_53, s21_54, s21_57, s21_58, s21_59, s21_60, oB_some, cl2_i, cl2_r, cl2_l, cl2_u, cl2_s, wd_0, wd_i, wd_r, wd_l, wd_f, ct_i, ct_r, ct_n, ct_f, rf_s, rf_n, tl_s, tl_n, true_and, and_true, eq_self, and_self, Nat.reduceAdd, Nat.reduceLeDiff, Nat.zero_le, Nat.reduceEqDiff, or_true, true_or, false_or, or_false, if_true, if_false, gI_0, gI_1, gI_2, gI_3, gI_4, gI_5, gI_6, gI_7, gI_8, gI_9, gI_10, gI_11, gI_12, gI_13, gI_14, gI_15, gL_0, gL_1, gL_2, gL_3, gL_4, gL_5, gL_6, gL_7, gL_8, gL_9, gL_10, gL_11, gL_12, gL_13, gL_14, gL_15, gA_0, gA_1, gA_2, gA_3, gA_4, gA_5, gA_6, gA_7, gA_8, gA_9, gA_10, gA_11, gA_12, gA_13, gA_14, gA_15, p1_0, p1_1, p1_2, p1_3, p1_4, p1_5, p1_6, p1_7, p1_8, p1_9, p1_10, p1_11, p1_12, p1_13, p1_14, p1_15, p2_0, p2_1, p2_2, p2_3, p2_4, p2_5, p2_6, p2_7, p2_8, p2_9, p2_10, p2_11, p2_12, p2_13, p2_14, p2_15, z_hkd_sI, z_hln_sI, z_hL_sI, z_hR_sI, z_hnx_sI, z_hkd_sL, z_hln_sL, z_hI_sL, z_hR_sL, z_hnx_sL, z_hkd_sR, z_hln_sR, z_hI_sR, z_hL_sR, z_hnx_sR, z_hkd_cI, z_hln_cI, z_hL_cI, z_hR_cI, z_hnx_cI, z_hkd_cLg, z_hln_cLg, z_hI_cLg, z_hR_cLg, z_hnx_cLg, bk, bk2, ix_nI (show p < 2 ^ 31 by omega), ix_nI (show q < 2 ^ 31 by omega), nI_pos' (show p < 2 ^ 31 by omega), nI_pos' (show q < 2 ^ 31 by omega), hp, hq]
  rfl
theorem putB_lt {h : HP} {g g2 p q : Nat} (hd : g2 = g ∨ g2 + 6 ≤ g ∨ g + 6 ≤ g2) : lt5 (putB h g p g2 q) g = va_up (lt5 h g) p (lt5 h g2 q) := by
  have n21 : ¬ g2 + 2 = g + 1 := by omega
  have n31 : ¬ g2 + 3 = g + 1 := by omega
  have n32 : ¬ g2 + 3 = g + 2 := by omega
  have n41 : ¬ g2 + 4 = g + 1 := by omega
  have n42 : ¬ g2 + 4 = g + 2 := by omega
  have n43 : ¬ g2 + 4 = g + 3 := by omega
  funext j
  unfold lt5 putB va_up
  by_cases hj : j = p
  · subst hj
    simp [hI_sI, hL_sL, hI_sL, hL_sI, n21, n31, n32, n41, n42, n43]
  · simp [hI_sI, hL_sL, hI_sL, hL_sI, hj]
theorem putB_fm {lo n : Nat} {h : HP} {g g2 p q : Nat} (h1 : lo ≤ g + 1) (h2 : g + 6 ≤ lo + n) : Fm lo n h (putB h g p g2 q) := by
  unfold putB
  exact Fm.sL (Fm.sI (Fm.sI (Fm.sI (Fm.sI Fm.rf (by omega) (by omega)) (by omega) (by omega)) (by omega) (by omega)) (by omega) (by omega)) (by omega) (by omega)
theorem putB_g {h : HP} {g g2 p q : Nat} : hI (putB h g p g2 q) g = hI h g := ((putB_fm (lo := g + 1) (n := 5) (Nat.le_refl _) (by omega)).1 g (by omega)).1
theorem v_isFull {d : Nat} {Q : PQ} {h : HP} {g n : Nat} (bk : BK h g) (hn : hI h g 0 = nI n) (hb : n ≤ 24) : Ev (d + 1) 52 [.ref g] h Q = Q (some (.int (b01 (decide (n = 24))))) h := by
  unfold BK at bk
  simp only [e52, s52_0, s52_1, s52_4, s52_6, s52_9, s52_10, s52_13, s52_14, oB_some, cl2_i, cl2_r, cl2_l, cl2_u, cl2_s, wd_0, wd_i, wd_r, wd_l, wd_f, ct_i, ct_r, ct_n, ct_f, rf_s, rf_n, tl_s, tl_n, true_and, and_true, eq_self, and_self, Nat.reduceAdd, Nat.reduceLeDiff, Nat.zero_le, Nat.reduceEqDiff, or_true, true_or, false_or, or_false, if_true, if_false, gI_0, gI_1, gI_2, gI_3, gI_4, gI_5, gI_6, gI_7, gI_8, gI_9, gI_10, gI_11, gI_12, gI_13, gI_14, gI_15, gL_0, gL_1, gL_2, gL_3, gL_4, gL_5, gL_6, gL_7, gL_8, gL_9, gL_10, gL_11, gL_12, gL_13, gL_14, gL_15, gA_0, gA_1, gA_2, gA_3, gA_4, gA_5, gA_6, gA_7, gA_8, gA_9, gA_10, gA_11, gA_12, gA_13, gA_14, gA_15, p1_0, p1_1, p1_2, p1_3, p1_4, p1_5, p1_6, p1_7, p1_8, p1_9, p1_10, p1_11, p1_12, p1_13, p1_14, p1_15, p2_0, p2_1, p2_2, p2_3, p2_4, p2_5, p2_6, p2_7, p2_8, p2_9, p2_10, p2_11, p2_12, p2_13, p2_14, p2_15, bk, hn]
  by_cases h1 : n = 24
  · subst h1
    rw [if_neg (by decide)]
    simp [b01]
  · rw [if_pos (show nI n < 24 from nI_lt (b := 24) (by omega) (by decide))]
    simp [b01, h1]
set_option maxHeartbeats 4000000 in
/-- the bag's first few go -/
theorem v_dropFirst {d : Nat} {Q : PQ} {h : HP} {g few : Nat} {b : List Ltr} (bk : BK h g) (hn : hI h g 0 = nI b.length) (hb : b.length ≤ 24) (hf : few ≤ b.length) (hr : RL5 (lt5 h g) b)
    (k : ∀ h', Fm g 6 h h' → hI h' g 0 = nI (b.drop few).length → RL5 (lt5 h' g) (b.drop few) → Q none h') : Ev (d + 2) 47 [.ref g, .int (nI few)] h Q := by
  have loop : ∀ (n i : Nat) (h1 : HP), few ≤ i → i + n = b.length → Fm (g + 1) 5 h h1 → (∀ j, lt5 h1 g j = if j + few < i then lt5 h g (j + few) else lt5 h g j) → WP (d + 1) 47 Q (2, [.val (.ref g), .val (.int (nI few)), .val (.int (nI i))], [], h1, 0, 0) := by
    intro n
    induction n with
    | zero =>
      intro i h1 hi hin hF hl
      have ei : i = b.length := by omega
      subst ei
      have bk1 := bk.kept hF.2.1 hF.2.2.1 hF.2.2.2.1
      have hn1 : hI h1 g 0 = nI b.length := by rw [(hF.1 g (by omega)).1]; exact hn
      rw [s47_2]
      unfold BK at bk1
      have hz : nI b.length ≤ nI b.length := Int32.le_refl _
      have e1 : nI b.length - nI few = nI (b.length - few) := pk_sub hf
      have e2 : ¬ (0 : Int32) < nI (b.length - few) → nI (b.length - few) = 0 := by
        intro q
        have : b.length - few = 0 := by
          by_cases z : b.length - few = 0
          · exact z
          · exact absurd (nI_lt (a := 0) (b := b.length - few) (by omega) (by omega)) q
        rw [this]; rfl
      simp only [s47_0, s47_1, s47_3, s47_4, s47_7, s47_10, s47_11, s47_12, s47_13, s47_14, s47_15, s47_16, s47_19, s47_22, s47_25, s47_26, s47_27, s47_28, s47_31, s47_32, s47_33, s47_36, s47_39, oB_some, cl2_i, cl2_r, cl2_l, cl2_u, cl2_s, wd_0, wd_i, wd_r, wd_l, wd_f, ct_i, ct_r, ct_n, ct_f, rf_s, rf_n, tl_s, tl_n, true_and, and_true, eq_self, and_self, Nat.reduceAdd, Nat.reduceLeDiff, Nat.zero_le, Nat.reduceEqDiff, or_true, true_or, false_or, or_false, if_true, if_false, gI_0, gI_1, gI_2, gI_3, gI_4, gI_5, gI_6, gI_7, gI_8, gI_9, gI_10, gI_11, gI_12, gI_13, gI_14, gI_15, gL_0, gL_1, gL_2, gL_3, gL_4, gL_5, gL_6, gL_7, gL_8, gL_9, gL_10, gL_11, gL_12, gL_13, gL_14, gL_15, gA_0, gA_1, gA_2, gA_3, gA_4, gA_5, gA_6, gA_7, gA_8, gA_9, gA_10, gA_11, gA_12, gA_13, gA_14, gA_15, p1_0, p1_1, p1_2, p1_3, p1_4, p1_5, p1_6, p1_7, p1_8, p1_9, p1_10, p1_11, p1_12, p1_13, p1_14, p1_15, p2_0, p2_1, p2_2, p2_3, p2_4, p2_5, p2_6, p2_7, p2_8, p2_9, p2_10, p2_11, p2_12, p2_13, p2_14, p2_15, z_hkd_sI, z_hln_sI, z_hL_sI, z_hR_sI, z_hnx_sI, z_hkd_sL, z_hln_sL, z_hI_sL, z_hR_sL, z_hnx_sL, z_hkd_sR, z_hln_sR, z_hI_sR, z_hL_sR, z_hnx_sR, z_hkd_cI, z_hln_cI, z_hL_cI, z_hR_cI, z_hnx_cI, z_hkd_cLg, z_hln_cLg, z_hI_cLg, z_hR_cLg, z_hnx_cLg, bk1, hn1, hz, e1]
      refine k _ (Fm.sI (hF.wide (by omega) (by omega)) (Nat.le_refl _) (by omega)) ?_ ?_
      · rw [hI_sI_eq, up_at, List.length_drop]
        by_cases z : (0 : Int32) < nI (b.length - few)
        · rw [if_pos z]
        · rw [if_neg z, e2 z]
      · rw [lt5_sI (by omega)]
        refine (hr.drop few).cong fun j hj => ?_
        rw [List.length_drop] at hj
        rw [hl j, if_pos (by omega)]
    | succ n ih =>
      intro i h1 hi hin hF hl
      have bk1 := bk.kept hF.2.1 hF.2.2.1 hF.2.2.2.1
      have hn1 : hI h1 g 0 = nI b.length := by rw [(hF.1 g (by omega)).1]; exact hn
      rw [s47_2]
      have bk1' := bk1
      unfold BK at bk1'
      have hlt : ¬ nI b.length ≤ nI i := nI_ge (by omega) (by omega)
      have e1 : nI i - nI few = nI (i - few) := pk_sub hi
      simp only [s47_0, s47_1, s47_3, s47_4, s47_7, s47_10, s47_11, s47_12, s47_13, s47_14, s47_15, s47_16, s47_19, s47_22, s47_25, s47_26, s47_27, s47_28, s47_31, s47_32, s47_33, s47_36, s47_39, oB_some, cl2_i, cl2_r, cl2_l, cl2_u, cl2_s, wd_0, wd_i, wd_r, wd_l, wd_f, ct_i, ct_r, ct_n, ct_f, rf_s, rf_n, tl_s, tl_n, true_and, and_true, eq_self, and_self, Nat.reduceAdd, Nat.reduceLeDiff, Nat.zero_le, Nat.reduceEqDiff, or_true, true_or, false_or, or_false, if_true, if_false, gI_0, gI_1, gI_2, gI_3, gI_4, gI_5, gI_6, gI_7, gI_8, gI_9, gI_10, gI_11, gI_12, gI_13, gI_14, gI_15, gL_0, gL_1, gL_2, gL_3, gL_4, gL_5, gL_6, gL_7, gL_8, gL_9, gL_10, gL_11, gL_12, gL_13, gL_14, gL_15, gA_0, gA_1, gA_2, gA_3, gA_4, gA_5, gA_6, gA_7, gA_8, gA_9, gA_10, gA_11, gA_12, gA_13, gA_14, gA_15, p1_0, p1_1, p1_2, p1_3, p1_4, p1_5, p1_6, p1_7, p1_8, p1_9, p1_10, p1_11, p1_12, p1_13, p1_14, p1_15, p2_0, p2_1, p2_2, p2_3, p2_4, p2_5, p2_6, p2_7, p2_8, p2_9, p2_10, p2_11, p2_12, p2_13, p2_14, p2_15, bk1', hn1, hlt, e1, v_put bk1 bk1 (show i - few < 24 by omega) (show i < 24 by omega), nI_1]
      refine ih (i + 1) _ (by omega) (by omega) (hF.tr (putB_fm (Nat.le_refl _) (by omega))) fun j => ?_
      rw [putB_lt (Or.inl rfl)]
      unfold va_up
      by_cases hj : j = i - few
      · rw [if_pos hj, if_pos (by omega), hl i, if_neg (by omega)]
        congr 1
        omega
      · rw [if_neg hj, hl j]
        by_cases h2 : j + few < i
        · rw [if_pos h2, if_pos (by omega)]
        · rw [if_neg h2, if_neg (by omega)]
  simp only [e47, s47_0, s47_1, s47_3, s47_4, s47_7, s47_10, s47_11, s47_12, s47_13, s47_14, s47_15, s47_16, s47_19, s47_22, s47_25, s47_26, s47_27, s47_28, s47_31, s47_32, s47_33, s47_36, s47_39, oB_some, cl2_i, cl2_r, cl2_l, cl2_u, cl2_s, wd_0, wd_i, wd_r, wd_l, wd_f, ct_i, ct_r, ct_n, ct_f, rf_s, rf_n, tl_s, tl_n, true_and, and_true, eq_self, and_self, Nat.reduceAdd, Nat.reduceLeDiff, Nat.zero_le, Nat.reduceEqDiff, or_true, true_or, false_or, or_false, if_true, if_false, gI_0, gI_1, gI_2, gI_3, gI_4, gI_5, gI_6, gI_7, gI_8, gI_9, gI_10, gI_11, gI_12, gI_13, gI_14, gI_15, gL_0, gL_1, gL_2, gL_3, gL_4, gL_5, gL_6, gL_7, gL_8, gL_9, gL_10, gL_11, gL_12, gL_13, gL_14, gL_15, gA_0, gA_1, gA_2, gA_3, gA_4, gA_5, gA_6, gA_7, gA_8, gA_9, gA_10, gA_11, gA_12, gA_13, gA_14, gA_15, p1_0, p1_1, p1_2, p1_3, p1_4, p1_5, p1_6, p1_7, p1_8, p1_9, p1_10, p1_11, p1_12, p1_13, p1_14, p1_15, p2_0, p2_1, p2_2, p2_3, p2_4, p2_5, p2_6, p2_7, p2_8, p2_9, p2_10, p2_11, p2_12, p2_13, p2_14, p2_15]
  exact loop (b.length - few) few h (Nat.le_refl _) (by omega) Fm.rf (fun j => by rw [if_neg (by omega)])
