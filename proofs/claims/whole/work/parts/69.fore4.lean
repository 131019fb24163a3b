-- what would be, the one side: damp nights, stillness, games, who knows it first; friends' rings
theorem v_power {d : Nat} {Q : PQ} {h : HP} {b e : Nat} (hb : b < 2 ^ 31) (he : e < 2 ^ 20) : Ev (d + 1) 209 [.int (nI b), .int (nI e)] h Q = Q (some (.long (lN (b ^ e)))) h := by
  have loop : ∀ (m i : Nat), i + m = e → WP d 209 Q (5, [.val (.int (nI b)), .val (.int (nI e)), .val (.long (lN (b ^ i))), .second, .val (.int (nI i))], [], h, 0, 0) = Q (some (.long (lN (b ^ e)))) h := by
    intro m
    induction m with
    | zero =>
      intro i hi
      obtain rfl : i = e := by omega
      rw [s209_5]
      simp only [s209_0, s209_1, s209_2, s209_3, s209_7, s209_8, s209_11, s209_12, s209_13, s209_14, s209_15, s209_16, s209_19, s209_22, s209_23, oB_some, cl2_i, cl2_r, cl2_l, cl2_u, cl2_s, wd_0, wd_i, wd_r, wd_l, wd_f, ct_i, ct_r, ct_n, ct_f, rf_s, rf_n, tl_s, tl_n, true_and, and_true, eq_self, and_self, Nat.reduceAdd, Nat.reduceLeDiff, Nat.zero_le, Nat.reduceEqDiff, or_true, true_or, false_or, or_false, if_true, if_false, gI_0, gI_1, gI_2, gI_3, gI_4, gI_5, gI_6, gI_7, gI_8, gI_9, gI_10, gI_11, gI_12, gI_13, gI_14, gI_15, gL_0, gL_1, gL_2, gL_3, gL_4, gL_5, gL_6, gL_7, gL_8, gL_9, gL_10, gL_11, gL_12, gL_13, gL_14, gL_15, gA_0, gA_1, gA_2, gA_3, gA_4, gA_5, gA_6, gA_7, gA_8, gA_9, gA_10, gA_11, gA_12, gA_13, gA_14, gA_15, p1_0, p1_1, p1_2, p1_3, p1_4, p1_5, p1_6, p1_7, p1_8, p1_9, p1_10, p1_11, p1_12, p1_13, p1_14, p1_15, p2_0, p2_1, p2_2, p2_3, p2_4, p2_5, p2_6, p2_7, p2_8, p2_9, p2_10, p2_11, p2_12, p2_13, p2_14, p2_15, b01_ok, b_ft, b_tf, b01_e0, b01_e1, lgc_0, not_true_eq_false, not_false_eq_true, Int32.le_refl]
    | succ m ih =>
      intro i hi
      have z : ¬ nI e ≤ nI i := nI_ge (by omega) (by omega)
      have i1 := ih (i + 1) (by omega)
      rw [Nat.pow_succ] at i1
      rw [s209_5]
      simp only [s209_0, s209_1, s209_2, s209_3, s209_7, s209_8, s209_11, s209_12, s209_13, s209_14, s209_15, s209_16, s209_19, s209_22, s209_23, oB_some, cl2_i, cl2_r, cl2_l, cl2_u, cl2_s, wd_0, wd_i, wd_r, wd_l, wd_f, ct_i, ct_r, ct_n, ct_f, rf_s, rf_n, tl_s, tl_n, true_and, and_true, eq_self, and_self, Nat.reduceAdd, Nat.reduceLeDiff, Nat.zero_le, Nat.reduceEqDiff, or_true, true_or, false_or, or_false, if_true, if_false, gI_0, gI_1, gI_2, gI_3, gI_4, gI_5, gI_6, gI_7, gI_8, gI_9, gI_10, gI_11, gI_12, gI_13, gI_14, gI_15, gL_0, gL_1, gL_2, gL_3, gL_4, gL_5, gL_6, gL_7, gL_8, gL_9, gL_10, gL_11, gL_12, gL_13, gL_14, gL_15, gA_0, gA_1, gA_2, gA_3, gA_4, gA_5, gA_6, gA_7, gA_8, gA_9, gA_10, gA_11, gA_12, gA_13, gA_14, gA_15, p1_0, p1_1, p1_2, p1_3, p1_4, p1_5, p1_6, p1_7, p1_8, p1_9, p1_10, p1_11, p1_12, p1_13, p1_14, p1_15, p2_0, p2_1, p2_2, p2_3, p2_4, p2_5, p2_6, p2_7, p2_8, p2_9, p2_10, p2_11, p2_12, p2_13, p2_14, p2_15, b01_ok, b_ft, b_tf, b01_e0, b01_e1, lgc_0, not_true_eq_false, not_false_eq_true, z, nI_l hb, lN_mul, nI_1]
      exact i1
  simp only [e209, s209_0, s209_1, s209_2, s209_3, s209_7, s209_8, s209_11, s209_12, s209_13, s209_14, s209_15, s209_16, s209_19, s209_22, s209_23, oB_some, cl2_i, cl2_r, cl2_l, cl2_u, cl2_s, wd_0, wd_i, wd_r, wd_l, wd_f, ct_i, ct_r, ct_n, ct_f, rf_s, rf_n, tl_s, tl_n, true_and, and_true, eq_self, and_self, Nat.reduceAdd, Nat.reduceLeDiff, Nat.zero_le, Nat.reduceEqDiff, or_true, true_or, false_or, or_false, if_true, if_false, gI_0, gI_1, gI_2, gI_3, gI_4, gI_5, gI_6, gI_7, gI_8, gI_9, gI_10, gI_11, gI_12, gI_13, gI_14, gI_15, gL_0, gL_1, gL_2, gL_3, gL_4, gL_5, gL_6, gL_7, gL_8, gL_9, gL_10, gL_11, gL_12, gL_13, gL_14, gL_15, gA_0, gA_1, gA_2, gA_3, gA_4, gA_5, gA_6, gA_7, gA_8, gA_9, gA_10, gA_11, gA_12, gA_13, gA_14, gA_15, p1_0, p1_1, p1_2, p1_3, p1_4, p1_5, p1_6, p1_7, p1_8, p1_9, p1_10, p1_11, p1_12, p1_13, p1_14, p1_15, p2_0, p2_1, p2_2, p2_3, p2_4, p2_5, p2_6, p2_7, p2_8, p2_9, p2_10, p2_11, p2_12, p2_13, p2_14, p2_15, b01_ok, b_ft, b_tf, b01_e0, b01_e1, lgc_0, not_true_eq_false, not_false_eq_true]
  exact loop e 0 (by omega)
theorem biF_128 : ∀ n, n < 128 → biF (nI n) = nI (pc n) := by decide +kernel
theorem v_bitCount7 {d : Nat} {Q : PQ} {h : HP} {n : Nat} (hx : n < 128) : Ev (d + 1) 172 [.int (nI n)] h Q = Q (some (.int (nI (pc n)))) h := by
  rw [← biF_128 n hx]
  simp only [e172, s172_0, s172_1, s172_2, s172_3, s172_4, s172_7, s172_8, s172_9, s172_10, s172_11, s172_14, s172_15, s172_16, s172_17, s172_18, s172_21, s172_22, s172_23, s172_24, s172_25, s172_26, s172_27, s172_28, s172_29, s172_32, s172_33, s172_34, s172_35, s172_36, s172_38, s172_39, s172_40, s172_41, s172_42, s172_43, s172_45, s172_46, s172_47, s172_48, s172_49, s172_51, s172_52, oB_some, cl2_i, cl2_r, cl2_l, cl2_u, cl2_s, wd_0, wd_i, wd_r, wd_l, wd_f, ct_i, ct_r, ct_n, ct_f, rf_s, rf_n, tl_s, tl_n, true_and, and_true, eq_self, and_self, Nat.reduceAdd, Nat.reduceLeDiff, Nat.zero_le, Nat.reduceEqDiff, or_true, true_or, false_or, or_false, if_true, if_false, gI_0, gI_1, gI_2, gI_3, gI_4, gI_5, gI_6, gI_7, gI_8, gI_9, gI_10, gI_11, gI_12, gI_13, gI_14, gI_15, gL_0, gL_1, gL_2, gL_3, gL_4, gL_5, gL_6, gL_7, gL_8, gL_9, gL_10, gL_11, gL_12, gL_13, gL_14, gL_15, gA_0, gA_1, gA_2, gA_3, gA_4, gA_5, gA_6, gA_7, gA_8, gA_9, gA_10, gA_11, gA_12, gA_13, gA_14, gA_15, p1_0, p1_1, p1_2, p1_3, p1_4, p1_5, p1_6, p1_7, p1_8, p1_9, p1_10, p1_11, p1_12, p1_13, p1_14, p1_15, p2_0, p2_1, p2_2, p2_3, p2_4, p2_5, p2_6, p2_7, p2_8, p2_9, p2_10, p2_11, p2_12, p2_13, p2_14, p2_15, biF, bi5, bi4, bi3, bi2, bi1, shi]
theorem dampBit : ∀ b, b < 128 → ∀ i, i < 7 → (nI b &&& (1 : Int32) <<< (nI i &&& 31) = 0) = (b.testBit i = false) := by decide +kernel
theorem pc_n : ∀ n, n ≤ 7 → ∀ b, b < 2 ^ n → pc b ≤ n := by decide +kernel
def dampA (b : Nat) : Nat → Nat → VS → VS
  | 0, _, T => T
  | m + 1, i, T => dampA b m (i + 1) (day1 0 (b.testBit i) false T)
theorem dampA_s (b m i : Nat) (T : VS) : dampA b (m + 1) i T = dampA b m (i + 1) (day1 0 (b.testBit i) false T) := rfl
def dmpW (S : VS) (p c n t b : Nat) : Nat := if hb (vw (dampA b n 0 S) p) c = true then (t - 1) ^ (n - pc b) else 0
def waysN (S : VS) (p c n t : Nat) : Nat := sumN (dmpW S p c n t) (2 ^ n)
theorem dampA_keep {b : Nat} : ∀ {m i : Nat} {T : VS}, Good T → vy T + m < 2 ^ 20 → Good (dampA b m i T) ∧ vn (dampA b m i T) = vn T
  | 0, i, T, g, _ => ⟨g, rfl⟩
  | m + 1, i, T, g, hy => by
    obtain ⟨a, a2, a3⟩ := day1_keep (ink := 0) (dm := b.testBit i) (sh := false) g (by omega)
    obtain ⟨x, y⟩ := dampA_keep (b := b) (m := m) (i := i + 1) a (by rw [a3]; omega)
    exact ⟨x, y.trans a2⟩
set_option maxHeartbeats 8000000 in
theorem v_waysToLearn {d : Nat} {Q : PQ} {h : HP} {f v w p c n t : Nat} {S : VS} (x : FY h f v w S) (g : Good S) (hy : vy S + 8 < 2 ^ 20) (hp : p < vn S) (hc : c < 64) (hn : n ≤ 7) (ht : 1 ≤ t) (ht2 : t < 100)
    (k : ∀ h', Fm w 12 h h' → Q (some (.long (lN (waysN S p c n t)))) h') : Ev (d + 6) 208 [.ref f, .int (nI p), .int (nI c), .int (nI n), .int (nI t)] h Q := by
  have M128 : 2 ^ n ≤ 2 ^ 7 := Nat.pow_le_pow_right (by decide) hn
  have loop : ∀ (m b : Nat) (h1 : HP) (y : Slot), b + m = 2 ^ n → Fm w 12 h h1 →
      WP (d + 5) 208 Q (6, [.val (.ref f), .val (.int (nI p)), .val (.int (nI c)), .val (.int (nI n)), .val (.int (nI t)), .val (.long (lN (sumN (dmpW S p c n t) b))), .second, .val (.int (nI b)), y], [], h1, 0, 0) := by
    intro m
    induction m with
    | zero =>
      intro b h1 y hb m1
      obtain rfl : b = 2 ^ n := by omega
      rw [s208_6]
      simp only [s208_8, s208_9, s208_10, s208_11, s208_101, s208_103, oB_some, cl2_i, cl2_r, cl2_l, cl2_u, cl2_s, wd_0, wd_i, wd_r, wd_l, wd_f, ct_i, ct_r, ct_n, ct_f, rf_s, rf_n, tl_s, tl_n, true_and, and_true, eq_self, and_self, Nat.reduceAdd, Nat.reduceLeDiff, Nat.zero_le, Nat.reduceEqDiff, or_true, true_or, false_or, or_false, if_true, if_false, gI_0, gI_1, gI_2, gI_3, gI_4, gI_5, gI_6, gI_7, gI_8, gI_9, gI_10, gI_11, gI_12, gI_13, gI_14, gI_15, gL_0, gL_1, gL_2, gL_3, gL_4, gL_5, gL_6, gL_7, gL_8, gL_9, gL_10, gL_11, gL_12, gL_13, gL_14, gL_15, gA_0, gA_1, gA_2, gA_3, gA_4, gA_5, gA_6, gA_7, gA_8, gA_9, gA_10, gA_11, gA_12, gA_13, gA_14, gA_15, p1_0, p1_1, p1_2, p1_3, p1_4, p1_5, p1_6, p1_7, p1_8, p1_9, p1_10, p1_11, p1_12, p1_13, p1_14, p1_15, p2_0, p2_1, p2_2, p2_3, p2_4, p2_5, p2_6, p2_7, p2_8, p2_9, p2_10, p2_11, p2_12, p2_13, p2_14, p2_15, b01_ok, b_ft, b_tf, b01_e0, b01_e1, lgc_0, not_true_eq_false, not_false_eq_true, shl1 n (by omega), Int32.le_refl]
      exact k h1 m1
    | succ m ih =>
      intro b h1 y hb_ m1
      have x1 := x.kept m1
      have x0 := x1.1
      have z : ¬ nI (2 ^ n) ≤ nI b := nI_ge (by omega) (by omega)
      have i1 := fun h2 y2 m2 => ih (b + 1) h2 y2 (by omega) m2
      rw [sumN_s] at i1
      have inner : ∀ (r i : Nat) (h2 : HP) (T : VS) (dm : Bool), i + r = n → Fm w 12 h h2 → RV h2 w T → Good T → FV h2 w 0 dm false → vy T + r < 2 ^ 20 → vn T = vn S → dampA b r i T = dampA b n 0 S →
          WP (d + 5) 208 Q (22, [.val (.ref f), .val (.int (nI p)), .val (.int (nI c)), .val (.int (nI n)), .val (.int (nI t)), .val (.long (lN (sumN (dmpW S p c n t) b))), .second, .val (.int (nI b)), .val (.int (nI i))], [], h2, 0, 0) := by
        intro r
        induction r with
        | zero =>
          intro i h2 T dm hi m2 q2 g2 f2 y2 n2 e2
          obtain rfl : i = n := by omega
          have e3 : T = dampA b i 0 S := e2
          have x2 := x.kept m2
          have x20 := x2.1
          have K2 := q2.k
          unfold VK at K2
          have pn := pc_n i hn b (by omega)
          have ps : nI i - nI (pc b) = nI (i - pc b) := pk_sub pn
          have pt : nI t - 1 = nI (t - 1) := pk_sub (b := 1) ht
          rw [s208_22]
          simp only [s208_24, s208_25, s208_64, s208_65, s208_68, s208_69, s208_70, s208_73, s208_76, s208_78, s208_80, s208_81, s208_82, s208_83, s208_85, s208_88, s208_89, s208_92, s208_93, s208_95, s208_98, oB_some, cl2_i, cl2_r, cl2_l, cl2_u, cl2_s, wd_0, wd_i, wd_r, wd_l, wd_f, ct_i, ct_r, ct_n, ct_f, rf_s, rf_n, tl_s, tl_n, true_and, and_true, eq_self, and_self, Nat.reduceAdd, Nat.reduceLeDiff, Nat.zero_le, Nat.reduceEqDiff, or_true, true_or, false_or, or_false, if_true, if_false, gI_0, gI_1, gI_2, gI_3, gI_4, gI_5, gI_6, gI_7, gI_8, gI_9, gI_10, gI_11, gI_12, gI_13, gI_14, gI_15, gL_0, gL_1, gL_2, gL_3, gL_4, gL_5, gL_6, gL_7, gL_8, gL_9, gL_10, gL_11, gL_12, gL_13, gL_14, gL_15, gA_0, gA_1, gA_2, gA_3, gA_4, gA_5, gA_6, gA_7, gA_8, gA_9, gA_10, gA_11, gA_12, gA_13, gA_14, gA_15, p1_0, p1_1, p1_2, p1_3, p1_4, p1_5, p1_6, p1_7, p1_8, p1_9, p1_10, p1_11, p1_12, p1_13, p1_14, p1_15, p2_0, p2_1, p2_2, p2_3, p2_4, p2_5, p2_6, p2_7, p2_8, p2_9, p2_10, p2_11, p2_12, p2_13, p2_14, p2_15, b01_ok, b_ft, b_tf, b01_e0, b01_e1, lgc_0, not_true_eq_false, not_false_eq_true, Int32.le_refl, x20, K2, v_hasLearnt q2 g2 (show p < vn T by omega) hc, v_bitCount7 (show b < 128 by omega), ps, pt, v_power (show t - 1 < 2 ^ 31 by omega) (show i - pc b < 2 ^ 20 by omega), lN_add, nI_1]
          by_cases e : hb (vw T p) c = true
          · rw [if_neg (by rw [e]; decide)]
            have ew : dmpW S p c i t b = (t - 1) ^ (i - pc b) := by unfold dmpW; rw [← e3, if_pos e]
            have := i1 h2 (.val (.int (nI i))) m2
            rw [ew] at this
            exact this
          · rw [if_pos (by simpa using e)]
            have ew : dmpW S p c i t b = 0 := by unfold dmpW; rw [← e3, if_neg e]
            have := i1 h2 (.val (.int (nI i))) m2
            rw [ew] at this
            exact this
        | succ r ihr =>
          intro i h2 T dm hi m2 q2 g2 f2 y2 n2 e2
          have x2 := x.kept m2
          have x20 := x2.1
          have K2 := q2.k
          unfold VK at K2
          have z2 : ¬ nI n ≤ nI i := nI_ge (by omega) (by omega)
          rw [dampA_s] at e2
          rw [s208_22]
          simp only [s208_24, s208_25, s208_28, s208_29, s208_32, s208_34, s208_35, s208_37, s208_38, s208_39, s208_42, s208_43, s208_46, s208_47, oB_some, cl2_i, cl2_r, cl2_l, cl2_u, cl2_s, wd_0, wd_i, wd_r, wd_l, wd_f, ct_i, ct_r, ct_n, ct_f, rf_s, rf_n, tl_s, tl_n, true_and, and_true, eq_self, and_self, Nat.reduceAdd, Nat.reduceLeDiff, Nat.zero_le, Nat.reduceEqDiff, or_true, true_or, false_or, or_false, if_true, if_false, gI_0, gI_1, gI_2, gI_3, gI_4, gI_5, gI_6, gI_7, gI_8, gI_9, gI_10, gI_11, gI_12, gI_13, gI_14, gI_15, gL_0, gL_1, gL_2, gL_3, gL_4, gL_5, gL_6, gL_7, gL_8, gL_9, gL_10, gL_11, gL_12, gL_13, gL_14, gL_15, gA_0, gA_1, gA_2, gA_3, gA_4, gA_5, gA_6, gA_7, gA_8, gA_9, gA_10, gA_11, gA_12, gA_13, gA_14, gA_15, p1_0, p1_1, p1_2, p1_3, p1_4, p1_5, p1_6, p1_7, p1_8, p1_9, p1_10, p1_11, p1_12, p1_13, p1_14, p1_15, p2_0, p2_1, p2_2, p2_3, p2_4, p2_5, p2_6, p2_7, p2_8, p2_9, p2_10, p2_11, p2_12, p2_13, p2_14, p2_15, b01_ok, b_ft, b_tf, b01_e0, b01_e1, lgc_0, not_true_eq_false, not_false_eq_true, z_hkd_sI, z_hln_sI, z_hL_sI, z_hR_sI, z_hnx_sI, z_hkd_sL, z_hln_sL, z_hI_sL, z_hR_sL, z_hnx_sL, z_hkd_sR, z_hln_sR, z_hI_sR, z_hL_sR, z_hnx_sR, z_hkd_cI, z_hln_cI, z_hL_cI, z_hR_cI, z_hnx_cI, z_hkd_cLg, z_hln_cLg, z_hI_cLg, z_hR_cLg, z_hnx_cLg, x20, K2, z2, dampBit b (by omega) i (by omega)]
          have step : ∀ bb : Bool, bb = b.testBit i → WP (d + 5) 208 Q (50, [.val (.ref f), .val (.int (nI p)), .val (.int (nI c)), .val (.int (nI n)), .val (.int (nI t)), .val (.long (lN (sumN (dmpW S p c n t) b))), .second, .val (.int (nI b)), .val (.int (nI i))], [], sI h2 w 14 (b01 bb), 0, 0) := by
            rintro bb rfl
            have m3 : Fm w 12 h2 (sI h2 w 14 (b01 (b.testBit i))) := Fm.rf.sI (Nat.le_refl _) (by omega)
            have x30 := (x2.kept m3).1
            have q3 : RV (sI h2 w 14 (b01 (b.testBit i))) w T := RV_i q2 (by decide)
            have K3 := q3.k
            unfold VK at K3
            simp only [s208_50, s208_51, s208_54, s208_55, oB_some, cl2_i, cl2_r, cl2_l, cl2_u, cl2_s, wd_0, wd_i, wd_r, wd_l, wd_f, ct_i, ct_r, ct_n, ct_f, rf_s, rf_n, tl_s, tl_n, true_and, and_true, eq_self, and_self, Nat.reduceAdd, Nat.reduceLeDiff, Nat.zero_le, Nat.reduceEqDiff, or_true, true_or, false_or, or_false, if_true, if_false, gI_0, gI_1, gI_2, gI_3, gI_4, gI_5, gI_6, gI_7, gI_8, gI_9, gI_10, gI_11, gI_12, gI_13, gI_14, gI_15, gL_0, gL_1, gL_2, gL_3, gL_4, gL_5, gL_6, gL_7, gL_8, gL_9, gL_10, gL_11, gL_12, gL_13, gL_14, gL_15, gA_0, gA_1, gA_2, gA_3, gA_4, gA_5, gA_6, gA_7, gA_8, gA_9, gA_10, gA_11, gA_12, gA_13, gA_14, gA_15, p1_0, p1_1, p1_2, p1_3, p1_4, p1_5, p1_6, p1_7, p1_8, p1_9, p1_10, p1_11, p1_12, p1_13, p1_14, p1_15, p2_0, p2_1, p2_2, p2_3, p2_4, p2_5, p2_6, p2_7, p2_8, p2_9, p2_10, p2_11, p2_12, p2_13, p2_14, p2_15, b01_ok, b_ft, b_tf, b01_e0, b01_e1, lgc_0, not_true_eq_false, not_false_eq_true, x30, K3]
            refine v_passDays (n := 1) q3 g2 (FV_dm f2) (by decide) (by omega) fun h4 m4 q4 f4 => ?_
            have k1 := day1_keep (ink := 0) (dm := b.testBit i) (sh := false) g2 (by omega)
            simp only [s208_58, s208_61, oB_some, cl2_i, cl2_r, cl2_l, cl2_u, cl2_s, wd_0, wd_i, wd_r, wd_l, wd_f, ct_i, ct_r, ct_n, ct_f, rf_s, rf_n, tl_s, tl_n, true_and, and_true, eq_self, and_self, Nat.reduceAdd, Nat.reduceLeDiff, Nat.zero_le, Nat.reduceEqDiff, or_true, true_or, false_or, or_false, if_true, if_false, gI_0, gI_1, gI_2, gI_3, gI_4, gI_5, gI_6, gI_7, gI_8, gI_9, gI_10, gI_11, gI_12, gI_13, gI_14, gI_15, gL_0, gL_1, gL_2, gL_3, gL_4, gL_5, gL_6, gL_7, gL_8, gL_9, gL_10, gL_11, gL_12, gL_13, gL_14, gL_15, gA_0, gA_1, gA_2, gA_3, gA_4, gA_5, gA_6, gA_7, gA_8, gA_9, gA_10, gA_11, gA_12, gA_13, gA_14, gA_15, p1_0, p1_1, p1_2, p1_3, p1_4, p1_5, p1_6, p1_7, p1_8, p1_9, p1_10, p1_11, p1_12, p1_13, p1_14, p1_15, p2_0, p2_1, p2_2, p2_3, p2_4, p2_5, p2_6, p2_7, p2_8, p2_9, p2_10, p2_11, p2_12, p2_13, p2_14, p2_15, b01_ok, b_ft, b_tf, b01_e0, b01_e1, lgc_0, not_true_eq_false, not_false_eq_true, nI_1]
            exact ihr (i + 1) h4 _ _ (by omega) (m2.tr (m3.tr m4)) q4 k1.1 f4 (by rw [dayN_1, k1.2.2]; omega) (k1.2.1.trans n2) e2
          by_cases e : b.testBit i = true
          · rw [if_neg (by rw [e]; decide)]
            exact step true e.symm
          · rw [if_pos (by simpa using e)]
            exact step false (by simpa using e)
      rw [s208_6]
      simp only [s208_8, s208_9, s208_10, s208_11, s208_14, s208_15, oB_some, cl2_i, cl2_r, cl2_l, cl2_u, cl2_s, wd_0, wd_i, wd_r, wd_l, wd_f, ct_i, ct_r, ct_n, ct_f, rf_s, rf_n, tl_s, tl_n, true_and, and_true, eq_self, and_self, Nat.reduceAdd, Nat.reduceLeDiff, Nat.zero_le, Nat.reduceEqDiff, or_true, true_or, false_or, or_false, if_true, if_false, gI_0, gI_1, gI_2, gI_3, gI_4, gI_5, gI_6, gI_7, gI_8, gI_9, gI_10, gI_11, gI_12, gI_13, gI_14, gI_15, gL_0, gL_1, gL_2, gL_3, gL_4, gL_5, gL_6, gL_7, gL_8, gL_9, gL_10, gL_11, gL_12, gL_13, gL_14, gL_15, gA_0, gA_1, gA_2, gA_3, gA_4, gA_5, gA_6, gA_7, gA_8, gA_9, gA_10, gA_11, gA_12, gA_13, gA_14, gA_15, p1_0, p1_1, p1_2, p1_3, p1_4, p1_5, p1_6, p1_7, p1_8, p1_9, p1_10, p1_11, p1_12, p1_13, p1_14, p1_15, p2_0, p2_1, p2_2, p2_3, p2_4, p2_5, p2_6, p2_7, p2_8, p2_9, p2_10, p2_11, p2_12, p2_13, p2_14, p2_15, b01_ok, b_ft, b_tf, b01_e0, b01_e1, lgc_0, not_true_eq_false, not_false_eq_true, shl1 n (by omega), z, x0]
      refine v_asItIs x1 g fun h2 m2 q2 f2 => ?_
      simp only [s208_18, s208_19, s208_20, oB_some, cl2_i, cl2_r, cl2_l, cl2_u, cl2_s, wd_0, wd_i, wd_r, wd_l, wd_f, ct_i, ct_r, ct_n, ct_f, rf_s, rf_n, tl_s, tl_n, true_and, and_true, eq_self, and_self, Nat.reduceAdd, Nat.reduceLeDiff, Nat.zero_le, Nat.reduceEqDiff, or_true, true_or, false_or, or_false, if_true, if_false, gI_0, gI_1, gI_2, gI_3, gI_4, gI_5, gI_6, gI_7, gI_8, gI_9, gI_10, gI_11, gI_12, gI_13, gI_14, gI_15, gL_0, gL_1, gL_2, gL_3, gL_4, gL_5, gL_6, gL_7, gL_8, gL_9, gL_10, gL_11, gL_12, gL_13, gL_14, gL_15, gA_0, gA_1, gA_2, gA_3, gA_4, gA_5, gA_6, gA_7, gA_8, gA_9, gA_10, gA_11, gA_12, gA_13, gA_14, gA_15, p1_0, p1_1, p1_2, p1_3, p1_4, p1_5, p1_6, p1_7, p1_8, p1_9, p1_10, p1_11, p1_12, p1_13, p1_14, p1_15, p2_0, p2_1, p2_2, p2_3, p2_4, p2_5, p2_6, p2_7, p2_8, p2_9, p2_10, p2_11, p2_12, p2_13, p2_14, p2_15, b01_ok, b_ft, b_tf, b01_e0, b01_e1, lgc_0, not_true_eq_false, not_false_eq_true]
      exact inner n 0 h2 S false (by omega) (m1.tr m2) q2 g f2 (by omega) rfl rfl
  simp only [e208, s208_0, s208_1, s208_3, s208_4, oB_some, cl2_i, cl2_r, cl2_l, cl2_u, cl2_s, wd_0, wd_i, wd_r, wd_l, wd_f, ct_i, ct_r, ct_n, ct_f, rf_s, rf_n, tl_s, tl_n, true_and, and_true, eq_self, and_self, Nat.reduceAdd, Nat.reduceLeDiff, Nat.zero_le, Nat.reduceEqDiff, or_true, true_or, false_or, or_false, if_true, if_false, gI_0, gI_1, gI_2, gI_3, gI_4, gI_5, gI_6, gI_7, gI_8, gI_9, gI_10, gI_11, gI_12, gI_13, gI_14, gI_15, gL_0, gL_1, gL_2, gL_3, gL_4, gL_5, gL_6, gL_7, gL_8, gL_9, gL_10, gL_11, gL_12, gL_13, gL_14, gL_15, gA_0, gA_1, gA_2, gA_3, gA_4, gA_5, gA_6, gA_7, gA_8, gA_9, gA_10, gA_11, gA_12, gA_13, gA_14, gA_15, p1_0, p1_1, p1_2, p1_3, p1_4, p1_5, p1_6, p1_7, p1_8, p1_9, p1_10, p1_11, p1_12, p1_13, p1_14, p1_15, p2_0, p2_1, p2_2, p2_3, p2_4, p2_5, p2_6, p2_7, p2_8, p2_9, p2_10, p2_11, p2_12, p2_13, p2_14, p2_15, b01_ok, b_ft, b_tf, b01_e0, b01_e1, lgc_0, not_true_eq_false, not_false_eq_true]
  exact loop (2 ^ n) 0 h _ (by omega) Fm.rf
-- stillness
def knAll (S : VS) : Nat := together S + nb (vs S)
def stA : Nat → VS → Nat → Nat → Nat → Nat
  | 0, _, _, _, l => l
  | m + 1, T, b, r, l => stA m (day1 0 false false T) (knAll (day1 0 false false T)) (if knAll (day1 0 false false T) = b then r + 1 else 0) (max l (if knAll (day1 0 false false T) = b then r + 1 else 0))
theorem stA_s (m : Nat) (T : VS) (b r l : Nat) : stA (m + 1) T b r l = stA m (day1 0 false false T) (knAll (day1 0 false false T)) (if knAll (day1 0 false false T) = b then r + 1 else 0) (max l (if knAll (day1 0 false false T) = b then r + 1 else 0)) := rfl
theorem knAll_le {S : VS} (g : Good S) : knAll S ≤ 280 := by
  have a := together_le g
  have b := nb_le (vs S)
  unfold knAll
  omega
theorem maxN {a b : Nat} (ha : a < 2 ^ 31) (hb : b < 2 ^ 31) : (if nI a < nI b then nI b else nI a) = nI (max a b) := by
  simp only [ltP ha hb]
  by_cases z : a < b
  · rw [if_pos z, Nat.max_eq_right (by omega)]
  · rw [if_neg z, Nat.max_eq_left (by omega)]
set_option maxHeartbeats 8000000 in
theorem v_longestStill {d : Nat} {Q : PQ} {h : HP} {f v w : Nat} {S : VS} (x : FY h f v w S) (g : Good S) (hy : vy S + 61 < 2 ^ 20)
    (k : ∀ h', Fm w 12 h h' → Q (some (.int (nI (stA 60 S (knAll S) 0 0)))) h') : Ev (d + 6) 237 [.ref f] h Q := by
  have loop : ∀ (m i : Nat) (h1 : HP) (T : VS) (r l : Nat) (y : Slot), i + m = 60 → Fm w 12 h h1 → RV h1 w T → Good T → FV h1 w 0 false false → vy T + m < 2 ^ 20 → r ≤ i → l ≤ i → stA m T (knAll T) r l = stA 60 S (knAll S) 0 0 →
      WP (d + 5) 237 Q (15, [.val (.ref f), .val (.int (nI l)), .val (.int (nI r)), .val (.int (nI (knAll T))), .val (.int (nI i)), y], [], h1, 0, 0) := by
    intro m
    induction m with
    | zero =>
      intro i h1 T r l y hi m1 q1 g1 f1 y1 hr hl e1
      obtain rfl : i = 60 := by omega
      rw [s237_15]
      simp only [s237_17, s237_19, s237_68, s237_69, oB_some, cl2_i, cl2_r, cl2_l, cl2_u, cl2_s, wd_0, wd_i, wd_r, wd_l, wd_f, ct_i, ct_r, ct_n, ct_f, rf_s, rf_n, tl_s, tl_n, true_and, and_true, eq_self, and_self, Nat.reduceAdd, Nat.reduceLeDiff, Nat.zero_le, Nat.reduceEqDiff, or_true, true_or, false_or, or_false, if_true, if_false, gI_0, gI_1, gI_2, gI_3, gI_4, gI_5, gI_6, gI_7, gI_8, gI_9, gI_10, gI_11, gI_12, gI_13, gI_14, gI_15, gL_0, gL_1, gL_2, gL_3, gL_4, gL_5, gL_6, gL_7, gL_8, gL_9, gL_10, gL_11, gL_12, gL_13, gL_14, gL_15, gA_0, gA_1, gA_2, gA_3, gA_4, gA_5, gA_6, gA_7, gA_8, gA_9, gA_10, gA_11, gA_12, gA_13, gA_14, gA_15, p1_0, p1_1, p1_2, p1_3, p1_4, p1_5, p1_6, p1_7, p1_8, p1_9, p1_10, p1_11, p1_12, p1_13, p1_14, p1_15, p2_0, p2_1, p2_2, p2_3, p2_4, p2_5, p2_6, p2_7, p2_8, p2_9, p2_10, p2_11, p2_12, p2_13, p2_14, p2_15, b01_ok, b_ft, b_tf, b01_e0, b01_e1, lgc_0, not_true_eq_false, not_false_eq_true]
      rw [if_pos (by decide)]
      have kk := k h1 m1
      rw [← e1] at kk
      exact kk
    | succ m ih =>
      intro i h1 T r l y hi m1 q1 g1 f1 y1 hr hl e1
      have x1 := x.kept m1
      have x0 := x1.1
      have K1 := q1.k
      unfold VK at K1
      have z : ¬ (60 : Int32) ≤ nI i := nI_ge (b := 60) (by omega) (by decide)
      rw [s237_15]
      simp only [s237_17, s237_19, s237_22, s237_23, s237_26, s237_27, oB_some, cl2_i, cl2_r, cl2_l, cl2_u, cl2_s, wd_0, wd_i, wd_r, wd_l, wd_f, ct_i, ct_r, ct_n, ct_f, rf_s, rf_n, tl_s, tl_n, true_and, and_true, eq_self, and_self, Nat.reduceAdd, Nat.reduceLeDiff, Nat.zero_le, Nat.reduceEqDiff, or_true, true_or, false_or, or_false, if_true, if_false, gI_0, gI_1, gI_2, gI_3, gI_4, gI_5, gI_6, gI_7, gI_8, gI_9, gI_10, gI_11, gI_12, gI_13, gI_14, gI_15, gL_0, gL_1, gL_2, gL_3, gL_4, gL_5, gL_6, gL_7, gL_8, gL_9, gL_10, gL_11, gL_12, gL_13, gL_14, gL_15, gA_0, gA_1, gA_2, gA_3, gA_4, gA_5, gA_6, gA_7, gA_8, gA_9, gA_10, gA_11, gA_12, gA_13, gA_14, gA_15, p1_0, p1_1, p1_2, p1_3, p1_4, p1_5, p1_6, p1_7, p1_8, p1_9, p1_10, p1_11, p1_12, p1_13, p1_14, p1_15, p2_0, p2_1, p2_2, p2_3, p2_4, p2_5, p2_6, p2_7, p2_8, p2_9, p2_10, p2_11, p2_12, p2_13, p2_14, p2_15, b01_ok, b_ft, b_tf, b01_e0, b01_e1, lgc_0, not_true_eq_false, not_false_eq_true, x0, K1, z]
      refine v_passDays (n := 1) q1 g1 f1 (by decide) (by omega) fun h2 m2 q2 f2 => ?_
      have k1 := day1_keep (ink := 0) (dm := false) (sh := false) g1 (by omega)
      rw [dayN_1] at q2
      have x20 := (x1.kept m2).1
      have K2 := q2.k
      unfold VK at K2
      have ka := knAll_le k1.1
      have kb := knAll_le g1
      have ke : together (day1 0 false false T) + nb (vs (day1 0 false false T)) = knAll (day1 0 false false T) := rfl
      rw [stA_s] at e1
      simp only [s237_30, s237_31, s237_34, s237_37, s237_39, s237_41, s237_42, s237_45, s237_46, s237_47, s237_48, s237_51, s237_52, oB_some, cl2_i, cl2_r, cl2_l, cl2_u, cl2_s, wd_0, wd_i, wd_r, wd_l, wd_f, ct_i, ct_r, ct_n, ct_f, rf_s, rf_n, tl_s, tl_n, true_and, and_true, eq_self, and_self, Nat.reduceAdd, Nat.reduceLeDiff, Nat.zero_le, Nat.reduceEqDiff, or_true, true_or, false_or, or_false, if_true, if_false, gI_0, gI_1, gI_2, gI_3, gI_4, gI_5, gI_6, gI_7, gI_8, gI_9, gI_10, gI_11, gI_12, gI_13, gI_14, gI_15, gL_0, gL_1, gL_2, gL_3, gL_4, gL_5, gL_6, gL_7, gL_8, gL_9, gL_10, gL_11, gL_12, gL_13, gL_14, gL_15, gA_0, gA_1, gA_2, gA_3, gA_4, gA_5, gA_6, gA_7, gA_8, gA_9, gA_10, gA_11, gA_12, gA_13, gA_14, gA_15, p1_0, p1_1, p1_2, p1_3, p1_4, p1_5, p1_6, p1_7, p1_8, p1_9, p1_10, p1_11, p1_12, p1_13, p1_14, p1_15, p2_0, p2_1, p2_2, p2_3, p2_4, p2_5, p2_6, p2_7, p2_8, p2_9, p2_10, p2_11, p2_12, p2_13, p2_14, p2_15, b01_ok, b_ft, b_tf, b01_e0, b01_e1, lgc_0, not_true_eq_false, not_false_eq_true, x20, K2, v_knownInAll q2 k1.1, ke, eqP (show knAll (day1 0 false false T) < 2 ^ 31 by omega) (show knAll T < 2 ^ 31 by omega), nI_1]
      have step : ∀ r1, r1 = (if knAll (day1 0 false false T) = knAll T then r + 1 else 0) → WP (d + 5) 237 Q (53, [.val (.ref f), .val (.int (nI l)), .val (.int (nI r1)), .val (.int (nI (knAll T))), .val (.int (nI i)), .val (.int (nI (knAll (day1 0 false false T))))], [], h2, 0, 0) := by
        intro r1 h1r
        have r1i : r1 ≤ i + 1 := by rw [h1r]; split <;> omega
        rw [← h1r] at e1
        simp only [s237_53, s237_54, s237_55, s237_58, s237_59, s237_61, s237_62, s237_65, oB_some, cl2_i, cl2_r, cl2_l, cl2_u, cl2_s, wd_0, wd_i, wd_r, wd_l, wd_f, ct_i, ct_r, ct_n, ct_f, rf_s, rf_n, tl_s, tl_n, true_and, and_true, eq_self, and_self, Nat.reduceAdd, Nat.reduceLeDiff, Nat.zero_le, Nat.reduceEqDiff, or_true, true_or, false_or, or_false, if_true, if_false, gI_0, gI_1, gI_2, gI_3, gI_4, gI_5, gI_6, gI_7, gI_8, gI_9, gI_10, gI_11, gI_12, gI_13, gI_14, gI_15, gL_0, gL_1, gL_2, gL_3, gL_4, gL_5, gL_6, gL_7, gL_8, gL_9, gL_10, gL_11, gL_12, gL_13, gL_14, gL_15, gA_0, gA_1, gA_2, gA_3, gA_4, gA_5, gA_6, gA_7, gA_8, gA_9, gA_10, gA_11, gA_12, gA_13, gA_14, gA_15, p1_0, p1_1, p1_2, p1_3, p1_4, p1_5, p1_6, p1_7, p1_8, p1_9, p1_10, p1_11, p1_12, p1_13, p1_14, p1_15, p2_0, p2_1, p2_2, p2_3, p2_4, p2_5, p2_6, p2_7, p2_8, p2_9, p2_10, p2_11, p2_12, p2_13, p2_14, p2_15, b01_ok, b_ft, b_tf, b01_e0, b01_e1, lgc_0, not_true_eq_false, not_false_eq_true, maxN (show l < 2 ^ 31 by omega) (show r1 < 2 ^ 31 by omega), nI_1]
        exact ih (i + 1) h2 _ r1 (max l r1) _ (by omega) (m1.tr m2) q2 k1.1 f2 (by rw [k1.2.2]; omega) r1i (Nat.max_le.mpr ⟨by omega, r1i⟩) e1
      by_cases e : knAll (day1 0 false false T) = knAll T
      · rw [if_neg (not_not_intro e)]
        exact step (r + 1) (by rw [if_pos e])
      · rw [if_pos e]
        exact step 0 (by rw [if_neg e])
  have x0 := x.1
  simp only [e237, s237_0, s237_1, s237_2, s237_3, s237_4, s237_5, oB_some, cl2_i, cl2_r, cl2_l, cl2_u, cl2_s, wd_0, wd_i, wd_r, wd_l, wd_f, ct_i, ct_r, ct_n, ct_f, rf_s, rf_n, tl_s, tl_n, true_and, and_true, eq_self, and_self, Nat.reduceAdd, Nat.reduceLeDiff, Nat.zero_le, Nat.reduceEqDiff, or_true, true_or, false_or, or_false, if_true, if_false, gI_0, gI_1, gI_2, gI_3, gI_4, gI_5, gI_6, gI_7, gI_8, gI_9, gI_10, gI_11, gI_12, gI_13, gI_14, gI_15, gL_0, gL_1, gL_2, gL_3, gL_4, gL_5, gL_6, gL_7, gL_8, gL_9, gL_10, gL_11, gL_12, gL_13, gL_14, gL_15, gA_0, gA_1, gA_2, gA_3, gA_4, gA_5, gA_6, gA_7, gA_8, gA_9, gA_10, gA_11, gA_12, gA_13, gA_14, gA_15, p1_0, p1_1, p1_2, p1_3, p1_4, p1_5, p1_6, p1_7, p1_8, p1_9, p1_10, p1_11, p1_12, p1_13, p1_14, p1_15, p2_0, p2_1, p2_2, p2_3, p2_4, p2_5, p2_6, p2_7, p2_8, p2_9, p2_10, p2_11, p2_12, p2_13, p2_14, p2_15, b01_ok, b_ft, b_tf, b01_e0, b01_e1, lgc_0, not_true_eq_false, not_false_eq_true, x0]
  refine v_asItIs x g fun h1 m1 q1 f1 => ?_
  have K1 := q1.k
  unfold VK at K1
  have ke : together S + nb (vs S) = knAll S := rfl
  simp only [s237_8, s237_11, s237_12, s237_13, oB_some, cl2_i, cl2_r, cl2_l, cl2_u, cl2_s, wd_0, wd_i, wd_r, wd_l, wd_f, ct_i, ct_r, ct_n, ct_f, rf_s, rf_n, tl_s, tl_n, true_and, and_true, eq_self, and_self, Nat.reduceAdd, Nat.reduceLeDiff, Nat.zero_le, Nat.reduceEqDiff, or_true, true_or, false_or, or_false, if_true, if_false, gI_0, gI_1, gI_2, gI_3, gI_4, gI_5, gI_6, gI_7, gI_8, gI_9, gI_10, gI_11, gI_12, gI_13, gI_14, gI_15, gL_0, gL_1, gL_2, gL_3, gL_4, gL_5, gL_6, gL_7, gL_8, gL_9, gL_10, gL_11, gL_12, gL_13, gL_14, gL_15, gA_0, gA_1, gA_2, gA_3, gA_4, gA_5, gA_6, gA_7, gA_8, gA_9, gA_10, gA_11, gA_12, gA_13, gA_14, gA_15, p1_0, p1_1, p1_2, p1_3, p1_4, p1_5, p1_6, p1_7, p1_8, p1_9, p1_10, p1_11, p1_12, p1_13, p1_14, p1_15, p2_0, p2_1, p2_2, p2_3, p2_4, p2_5, p2_6, p2_7, p2_8, p2_9, p2_10, p2_11, p2_12, p2_13, p2_14, p2_15, b01_ok, b_ft, b_tf, b01_e0, b01_e1, lgc_0, not_true_eq_false, not_false_eq_true, K1, v_knownInAll q1 g, ke]
  exact loop 60 0 h1 S 0 0 _ (by omega) m1 q1 g f1 (by omega) (Nat.le_refl _) (Nat.le_refl _) rfl
