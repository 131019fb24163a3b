-- the other side reads a text
def sgI (tp : Nat → Nat) (tl i : Nat) : Int32 := if i < tl then nI (tp i) else -1
def okD (tp : Nat → Nat) (tl i : Nat) : Bool := decide (i < tl) && isDg (tp i)
theorem sg_dig {tp : Nat → Nat} {tl i : Nat} (hb : i < tl → tp i < 256) : decide ((48 : Int32) ≤ sgI tp tl i ∧ sgI tp tl i ≤ 57) = okD tp tl i := by
  unfold sgI okD
  by_cases hl : i < tl
  · have b := hb hl
    rw [if_pos hl]
    have e1 : ((48 : Int32) ≤ nI (tp i)) = (48 ≤ tp i) := propext (nI_leI (a := 48) (by decide) (by omega))
    have e2 : (nI (tp i) ≤ (57 : Int32)) = (tp i ≤ 57) := propext (nI_leI (b := 57) (by omega) (by decide))
    simp only [e1, e2, hl, decide_true, Bool.true_and]
    unfold isDg
    by_cases c : tp i < 48
    · simp [c, Nat.not_le.mpr c]
    · by_cases c2 : 57 < tp i
      · simp [c2, Nat.not_le.mpr c2]
      · simp [c, c2, Nat.not_lt.mp c, Nat.not_lt.mp c2]
  · rw [if_neg hl]
    simp only [hl, decide_false, Bool.false_and]
    decide
theorem okD_t {tp : Nat → Nat} {tl i : Nat} (h : okD tp tl i = true) : i < tl ∧ isDg (tp i) = true := by
  unfold okD at h
  simp only [Bool.and_eq_true, decide_eq_true_eq] at h
  exact h
theorem fw_dig {tp : Nat → Nat} {n j l tl : Nat} (hj : j + n = tl) (hl : 2 ≤ l) : fw tp n j l = if okD tp tl j = true then fw tp (n - 1) (j + 1) (l - 1) else some j := by
  cases n with
  | zero =>
    have : okD tp tl j = false := by
      unfold okD
      rw [show decide (j < tl) = false from decide_eq_false (by omega)]
      rfl
    rw [fw_0 (by omega), if_neg (by rw [this]; decide)]
  | succ n =>
    have : okD tp tl j = isDg (tp j) := by
      unfold okD
      rw [show decide (j < tl) = true from decide_eq_true (by omega)]
      rfl
    have f1 : fits l (tp j) = isDg (tp j) := by unfold fits; rw [if_neg (by omega)]
    rw [this]
    conv => lhs; unfold fw
    rw [if_neg (show ¬ l = 0 by omega), f1]
    rfl
theorem fw_semi {tp : Nat → Nat} {n j tl : Nat} (hj : j + n = tl) : fw tp n j 1 = if j < tl ∧ tp j = 59 then fw tp (n - 1) (j + 1) 0 else some j := by
  cases n with
  | zero => rw [fw_0 (by decide), if_neg (by omega)]
  | succ n =>
    conv => lhs; unfold fw
    rw [if_neg (by omega)]
    unfold fits
    rw [if_pos rfl]
    by_cases e : tp j = 59
    · rw [if_pos (decide_eq_true e), if_pos ⟨by omega, e⟩]
      rfl
    · rw [if_neg (by simp [e]), if_neg (fun z => e z.2)]
theorem m_sign {d i tl : Nat} {tp : Nat → Nat} {Q : PQ} {h : HP} {m : Nat} (K : MK h m) (T : MT h m tp tl) (e : hI h m 28 = nI i) (hi : i ≤ 96) : Ev (d + 1) 69 [.ref m] h Q = Q (some (.int (sgI tp tl i))) h := by
  unfold MK at K
  obtain ⟨t1, t2, t3⟩ := T
  have i31 : i < 2 ^ 31 := by omega
  unfold sgI
  by_cases hl : i < tl
  · have i96 : i < 96 := by omega
    have ge : (nI tl ≤ nI i) = False := eq_false (nI_ge hl (by omega))
    simp only [e69, s69_0, s69_1, s69_4, s69_5, s69_8, s69_11, s69_12, s69_15, s69_16, s69_19, s69_20, s69_23, s69_24, oB_some, cl2_i, cl2_r, cl2_l, cl2_u, cl2_s, wd_0, wd_i, wd_r, wd_l, wd_f, ct_i, ct_r, ct_n, ct_f, rf_s, rf_n, tl_s, tl_n, true_and, and_true, eq_self, and_self, Nat.reduceAdd, Nat.reduceLeDiff, Nat.zero_le, Nat.reduceEqDiff, or_true, true_or, false_or, or_false, if_true, if_false, gI_0, gI_1, gI_2, gI_3, gI_4, gI_5, gI_6, gI_7, gI_8, gI_9, gI_10, gI_11, gI_12, gI_13, gI_14, gI_15, gL_0, gL_1, gL_2, gL_3, gL_4, gL_5, gL_6, gL_7, gL_8, gL_9, gL_10, gL_11, gL_12, gL_13, gL_14, gL_15, gA_0, gA_1, gA_2, gA_3, gA_4, gA_5, gA_6, gA_7, gA_8, gA_9, gA_10, gA_11, gA_12, gA_13, gA_14, gA_15, p1_0, p1_1, p1_2, p1_3, p1_4, p1_5, p1_6, p1_7, p1_8, p1_9, p1_10, p1_11, p1_12, p1_13, p1_14, p1_15, p2_0, p2_1, p2_2, p2_3, p2_4, p2_5, p2_6, p2_7, p2_8, p2_9, p2_10, p2_11, p2_12, p2_13, p2_14, p2_15, K, e, t1, ge, ix_nI i31, nI_pos' i31, i96, (t3 i hl).1, hl]
  · have ge : (nI tl ≤ nI i) = True := eq_true ((nI_leI (by omega) i31).mpr (by omega))
    simp only [e69, s69_0, s69_1, s69_4, s69_5, s69_8, s69_11, s69_12, s69_15, s69_16, s69_19, s69_20, s69_23, s69_24, oB_some, cl2_i, cl2_r, cl2_l, cl2_u, cl2_s, wd_0, wd_i, wd_r, wd_l, wd_f, ct_i, ct_r, ct_n, ct_f, rf_s, rf_n, tl_s, tl_n, true_and, and_true, eq_self, and_self, Nat.reduceAdd, Nat.reduceLeDiff, Nat.zero_le, Nat.reduceEqDiff, or_true, true_or, false_or, or_false, if_true, if_false, gI_0, gI_1, gI_2, gI_3, gI_4, gI_5, gI_6, gI_7, gI_8, gI_9, gI_10, gI_11, gI_12, gI_13, gI_14, gI_15, gL_0, gL_1, gL_2, gL_3, gL_4, gL_5, gL_6, gL_7, gL_8, gL_9, gL_10, gL_11, gL_12, gL_13, gL_14, gL_15, gA_0, gA_1, gA_2, gA_3, gA_4, gA_5, gA_6, gA_7, gA_8, gA_9, gA_10, gA_11, gA_12, gA_13, gA_14, gA_15, p1_0, p1_1, p1_2, p1_3, p1_4, p1_5, p1_6, p1_7, p1_8, p1_9, p1_10, p1_11, p1_12, p1_13, p1_14, p1_15, p2_0, p2_1, p2_2, p2_3, p2_4, p2_5, p2_6, p2_7, p2_8, p2_9, p2_10, p2_11, p2_12, p2_13, p2_14, p2_15, K, e, t1, ge, hl]
set_option maxHeartbeats 4000000 in
theorem m_digit1 {d i te tl : Nat} {tp : Nat → Nat} {Q : PQ} {h : HP} {m : Nat} (K : MK h m) (T : MT h m tp tl) (e : hI h m 28 = nI i) (hi : i ≤ 96) (e2 : hI h m 30 = nI te) (ht : te < 66) :
    Ev (d + 3) 71 [.ref m, .int 1] h Q = if okD tp tl i = true then Q (some (.int 1)) (sI (sI (sI h m 28 (nI (i + 1))) (m + 15) te (nI (dg tp i))) m 30 (nI (te + 1))) else Q (some (.int 0)) h := by
  have K0 := K
  unfold MK at K
  have te31 : te < 2 ^ 31 := by omega
  have T3 := T.2.2
  have sd := sg_dig (tp := tp) (tl := tl) (i := i) (fun z => (T3 i z).2)
  have ne : ((1 : Int32) ≤ 0) = False := eq_false (by decide)
  simp only [e71, s71_0, s71_1, s71_2, s71_3, oB_some, cl2_i, cl2_r, cl2_l, cl2_u, cl2_s, wd_0, wd_i, wd_r, wd_l, wd_f, ct_i, ct_r, ct_n, ct_f, rf_s, rf_n, tl_s, tl_n, true_and, and_true, eq_self, and_self, Nat.reduceAdd, Nat.reduceLeDiff, Nat.zero_le, Nat.reduceEqDiff, or_true, true_or, false_or, or_false, if_true, if_false, gI_0, gI_1, gI_2, gI_3, gI_4, gI_5, gI_6, gI_7, gI_8, gI_9, gI_10, gI_11, gI_12, gI_13, gI_14, gI_15, gL_0, gL_1, gL_2, gL_3, gL_4, gL_5, gL_6, gL_7, gL_8, gL_9, gL_10, gL_11, gL_12, gL_13, gL_14, gL_15, gA_0, gA_1, gA_2, gA_3, gA_4, gA_5, gA_6, gA_7, gA_8, gA_9, gA_10, gA_11, gA_12, gA_13, gA_14, gA_15, p1_0, p1_1, p1_2, p1_3, p1_4, p1_5, p1_6, p1_7, p1_8, p1_9, p1_10, p1_11, p1_12, p1_13, p1_14, p1_15, p2_0, p2_1, p2_2, p2_3, p2_4, p2_5, p2_6, p2_7, p2_8, p2_9, p2_10, p2_11, p2_12, p2_13, p2_14, p2_15]
  rw [s71_4]
  simp only [s71_0, s71_1, s71_2, s71_3, s71_5, s71_6, s71_9, s71_10, s71_13, s71_15, s71_17, s71_20, s71_23, s71_24, s71_25, s71_27, s71_28, s71_29, s71_30, s71_33, s71_34, s71_36, s71_37, s71_38, s71_39, s71_40, s71_43, s71_44, s71_45, s71_48, oB_some, cl2_i, cl2_r, cl2_l, cl2_u, cl2_s, wd_0, wd_i, wd_r, wd_l, wd_f, ct_i, ct_r, ct_n, ct_f, rf_s, rf_n, tl_s, tl_n, true_and, and_true, eq_self, and_self, Nat.reduceAdd, Nat.reduceLeDiff, Nat.zero_le, Nat.reduceEqDiff, or_true, true_or, false_or, or_false, if_true, if_false, gI_0, gI_1, gI_2, gI_3, gI_4, gI_5, gI_6, gI_7, gI_8, gI_9, gI_10, gI_11, gI_12, gI_13, gI_14, gI_15, gL_0, gL_1, gL_2, gL_3, gL_4, gL_5, gL_6, gL_7, gL_8, gL_9, gL_10, gL_11, gL_12, gL_13, gL_14, gL_15, gA_0, gA_1, gA_2, gA_3, gA_4, gA_5, gA_6, gA_7, gA_8, gA_9, gA_10, gA_11, gA_12, gA_13, gA_14, gA_15, p1_0, p1_1, p1_2, p1_3, p1_4, p1_5, p1_6, p1_7, p1_8, p1_9, p1_10, p1_11, p1_12, p1_13, p1_14, p1_15, p2_0, p2_1, p2_2, p2_3, p2_4, p2_5, p2_6, p2_7, p2_8, p2_9, p2_10, p2_11, p2_12, p2_13, p2_14, p2_15, b01_ok, b_ft, b_tf, b01_e0, b01_e1, lgc_0, not_true_eq_false, not_false_eq_true, K, ne, m_sign K0 T e hi, m_isIn, sd]
  cases ok : okD tp tl i with
  | false => simp only [b01_f, Bool.false_eq_true, not_true_eq_false, if_false]
  | true =>
    obtain ⟨o1, o2⟩ := okD_t ok
    have b := isDg_b o2
    have sv : sgI tp tl i = nI (tp i) := by unfold sgI; rw [if_pos o1]
    have e3 : 10 * (0 : Int32) + nI (tp i) - 48 = nI (dg tp i) := by
      rw [show (10 : Int32) * 0 = nI 0 from by decide, nI_add, Nat.zero_add]
      exact pk_sub (b := 48) (by omega)
    have z1 : (0 : Int32) + 1 = 1 := by decide
    have w1 : hI (sI h m 28 (nI (i + 1))) m 30 = nI te := by rw [hI_sI, if_neg (by omega)]; exact e2
    have w2 : hI (sI (sI h m 28 (nI (i + 1))) (m + 15) te (nI (dg tp i))) m 30 = nI te := by rw [hI_sI_ne (by omega)]; exact w1
    simp only [b01_t, Bool.true_eq_false, not_false_eq_true, if_true, sv, e3, e, nI_1, z1, s71_51, oB_some, cl2_i, cl2_r, cl2_l, cl2_u, cl2_s, wd_0, wd_i, wd_r, wd_l, wd_f, ct_i, ct_r, ct_n, ct_f, rf_s, rf_n, tl_s, tl_n, true_and, and_true, eq_self, and_self, Nat.reduceAdd, Nat.reduceLeDiff, Nat.zero_le, Nat.reduceEqDiff, or_true, true_or, false_or, or_false, if_true, if_false, gI_0, gI_1, gI_2, gI_3, gI_4, gI_5, gI_6, gI_7, gI_8, gI_9, gI_10, gI_11, gI_12, gI_13, gI_14, gI_15, gL_0, gL_1, gL_2, gL_3, gL_4, gL_5, gL_6, gL_7, gL_8, gL_9, gL_10, gL_11, gL_12, gL_13, gL_14, gL_15, gA_0, gA_1, gA_2, gA_3, gA_4, gA_5, gA_6, gA_7, gA_8, gA_9, gA_10, gA_11, gA_12, gA_13, gA_14, gA_15, p1_0, p1_1, p1_2, p1_3, p1_4, p1_5, p1_6, p1_7, p1_8, p1_9, p1_10, p1_11, p1_12, p1_13, p1_14, p1_15, p2_0, p2_1, p2_2, p2_3, p2_4, p2_5, p2_6, p2_7, p2_8, p2_9, p2_10, p2_11, p2_12, p2_13, p2_14, p2_15]
    rw [s71_4]
    simp only [s71_5, s71_6, s71_9, s71_10, s71_13, s71_15, s71_17, s71_20, s71_23, s71_24, s71_25, s71_27, s71_28, s71_29, s71_30, s71_33, s71_34, s71_36, s71_37, s71_38, s71_39, s71_40, s71_43, s71_44, s71_45, s71_48, s71_54, s71_55, s71_58, s71_59, s71_62, s71_63, s71_64, s71_65, s71_66, s71_69, s71_70, s71_71, s71_74, s71_75, oB_some, cl2_i, cl2_r, cl2_l, cl2_u, cl2_s, wd_0, wd_i, wd_r, wd_l, wd_f, ct_i, ct_r, ct_n, ct_f, rf_s, rf_n, tl_s, tl_n, true_and, and_true, eq_self, and_self, Nat.reduceAdd, Nat.reduceLeDiff, Nat.zero_le, Nat.reduceEqDiff, or_true, true_or, false_or, or_false, if_true, if_false, gI_0, gI_1, gI_2, gI_3, gI_4, gI_5, gI_6, gI_7, gI_8, gI_9, gI_10, gI_11, gI_12, gI_13, gI_14, gI_15, gL_0, gL_1, gL_2, gL_3, gL_4, gL_5, gL_6, gL_7, gL_8, gL_9, gL_10, gL_11, gL_12, gL_13, gL_14, gL_15, gA_0, gA_1, gA_2, gA_3, gA_4, gA_5, gA_6, gA_7, gA_8, gA_9, gA_10, gA_11, gA_12, gA_13, gA_14, gA_15, p1_0, p1_1, p1_2, p1_3, p1_4, p1_5, p1_6, p1_7, p1_8, p1_9, p1_10, p1_11, p1_12, p1_13, p1_14, p1_15, p2_0, p2_1, p2_2, p2_3, p2_4, p2_5, p2_6, p2_7, p2_8, p2_9, p2_10, p2_11, p2_12, p2_13, p2_14, p2_15, z_hkd_sI, z_hln_sI, z_hL_sI, z_hR_sI, z_hnx_sI, z_hkd_sL, z_hln_sL, z_hI_sL, z_hR_sL, z_hnx_sL, z_hkd_sR, z_hln_sR, z_hI_sR, z_hL_sR, z_hnx_sR, z_hkd_cI, z_hln_cI, z_hL_cI, z_hR_cI, z_hnx_cI, z_hkd_cLg, z_hln_cLg, z_hI_cLg, z_hR_cLg, z_hnx_cLg, K, Int32.le_refl, w1, w2, ix_nI te31, nI_pos' te31, ht, nI_1]
theorem MT.cong {h h' : HP} {m tl : Nat} {tp : Nat → Nat} (a : MT h m tp tl) (e1 : hI h' m 27 = hI h m 27) (e2 : hI h' (m + 12) = hI h (m + 12)) : MT h' m tp tl := by
  unfold MT
  rw [e1, e2]
  exact a
set_option maxHeartbeats 4000000 in
theorem m_digit2 {d i te tl : Nat} {tp : Nat → Nat} {Q : PQ} {h : HP} {m : Nat} (K : MK h m) (T : MT h m tp tl) (e : hI h m 28 = nI i) (hi : i ≤ 96) (e2 : hI h m 30 = nI te) (ht : te < 66) :
    Ev (d + 3) 71 [.ref m, .int 2] h Q = if okD tp tl i = true then (if okD tp tl (i + 1) = true then Q (some (.int 1)) (sI (sI (sI (sI h m 28 (nI (i + 1))) m 28 (nI (i + 2))) (m + 15) te (nI (dd tp i))) m 30 (nI (te + 1))) else Q (some (.int 0)) (sI h m 28 (nI (i + 1)))) else Q (some (.int 0)) h := by
  have K0 := K
  unfold MK at K
  have te31 : te < 2 ^ 31 := by omega
  have T3 := T.2.2
  have sd := sg_dig (tp := tp) (tl := tl) (i := i) (fun z => (T3 i z).2)
  have sd2 := sg_dig (tp := tp) (tl := tl) (i := i + 1) (fun z => (T3 (i + 1) z).2)
  have ne : ((2 : Int32) ≤ 0) = False := eq_false (by decide)
  have ne1 : ((2 : Int32) ≤ 1) = False := eq_false (by decide)
  simp only [e71, s71_0, s71_1, s71_2, s71_3, oB_some, cl2_i, cl2_r, cl2_l, cl2_u, cl2_s, wd_0, wd_i, wd_r, wd_l, wd_f, ct_i, ct_r, ct_n, ct_f, rf_s, rf_n, tl_s, tl_n, true_and, and_true, eq_self, and_self, Nat.reduceAdd, Nat.reduceLeDiff, Nat.zero_le, Nat.reduceEqDiff, or_true, true_or, false_or, or_false, if_true, if_false, gI_0, gI_1, gI_2, gI_3, gI_4, gI_5, gI_6, gI_7, gI_8, gI_9, gI_10, gI_11, gI_12, gI_13, gI_14, gI_15, gL_0, gL_1, gL_2, gL_3, gL_4, gL_5, gL_6, gL_7, gL_8, gL_9, gL_10, gL_11, gL_12, gL_13, gL_14, gL_15, gA_0, gA_1, gA_2, gA_3, gA_4, gA_5, gA_6, gA_7, gA_8, gA_9, gA_10, gA_11, gA_12, gA_13, gA_14, gA_15, p1_0, p1_1, p1_2, p1_3, p1_4, p1_5, p1_6, p1_7, p1_8, p1_9, p1_10, p1_11, p1_12, p1_13, p1_14, p1_15, p2_0, p2_1, p2_2, p2_3, p2_4, p2_5, p2_6, p2_7, p2_8, p2_9, p2_10, p2_11, p2_12, p2_13, p2_14, p2_15]
  rw [s71_4]
  simp only [s71_0, s71_1, s71_2, s71_3, s71_5, s71_6, s71_9, s71_10, s71_13, s71_15, s71_17, s71_20, s71_23, s71_24, s71_25, s71_27, s71_28, s71_29, s71_30, s71_33, s71_34, s71_36, s71_37, s71_38, s71_39, s71_40, s71_43, s71_44, s71_45, s71_48, s71_51, oB_some, cl2_i, cl2_r, cl2_l, cl2_u, cl2_s, wd_0, wd_i, wd_r, wd_l, wd_f, ct_i, ct_r, ct_n, ct_f, rf_s, rf_n, tl_s, tl_n, true_and, and_true, eq_self, and_self, Nat.reduceAdd, Nat.reduceLeDiff, Nat.zero_le, Nat.reduceEqDiff, or_true, true_or, false_or, or_false, if_true, if_false, gI_0, gI_1, gI_2, gI_3, gI_4, gI_5, gI_6, gI_7, gI_8, gI_9, gI_10, gI_11, gI_12, gI_13, gI_14, gI_15, gL_0, gL_1, gL_2, gL_3, gL_4, gL_5, gL_6, gL_7, gL_8, gL_9, gL_10, gL_11, gL_12, gL_13, gL_14, gL_15, gA_0, gA_1, gA_2, gA_3, gA_4, gA_5, gA_6, gA_7, gA_8, gA_9, gA_10, gA_11, gA_12, gA_13, gA_14, gA_15, p1_0, p1_1, p1_2, p1_3, p1_4, p1_5, p1_6, p1_7, p1_8, p1_9, p1_10, p1_11, p1_12, p1_13, p1_14, p1_15, p2_0, p2_1, p2_2, p2_3, p2_4, p2_5, p2_6, p2_7, p2_8, p2_9, p2_10, p2_11, p2_12, p2_13, p2_14, p2_15, b01_ok, b_ft, b_tf, b01_e0, b01_e1, lgc_0, not_true_eq_false, not_false_eq_true, K, ne, m_sign K0 T e hi, m_isIn, sd]
  cases ok : okD tp tl i with
  | false => simp only [b01_f, Bool.false_eq_true, not_true_eq_false, if_false]
  | true =>
    obtain ⟨o1, o2⟩ := okD_t ok
    have b := isDg_b o2
    have sv : sgI tp tl i = nI (tp i) := by unfold sgI; rw [if_pos o1]
    have e3 : 10 * (0 : Int32) + nI (tp i) - 48 = nI (dg tp i) := by
      rw [show (10 : Int32) * 0 = nI 0 from by decide, nI_add, Nat.zero_add]
      exact pk_sub (b := 48) (by omega)
    have z1 : (0 : Int32) + 1 = 1 := by decide
    have z2 : (1 : Int32) + 1 = 2 := by decide
    have w0 : hI (sI h m 28 (nI (i + 1))) m 28 = nI (i + 1) := by rw [hI_sI, if_pos ⟨rfl, rfl⟩]
    have K1 : MK (sI h m 28 (nI (i + 1))) m := K0
    have T1 : MT (sI h m 28 (nI (i + 1))) m tp tl := T.cong (by rw [hI_sI, if_neg (by omega)]) (by rw [hI_sI_ne (by omega)])
    simp only [b01_t, Bool.true_eq_false, not_false_eq_true, if_true, sv, e3, e, nI_1, z1]
    rw [s71_4]
    simp only [s71_5, s71_6, s71_9, s71_10, s71_13, s71_15, s71_17, s71_20, s71_23, s71_24, s71_25, s71_27, s71_28, s71_29, s71_30, s71_33, s71_34, s71_36, s71_37, s71_38, s71_39, s71_40, s71_43, s71_44, s71_45, s71_48, s71_51, oB_some, cl2_i, cl2_r, cl2_l, cl2_u, cl2_s, wd_0, wd_i, wd_r, wd_l, wd_f, ct_i, ct_r, ct_n, ct_f, rf_s, rf_n, tl_s, tl_n, true_and, and_true, eq_self, and_self, Nat.reduceAdd, Nat.reduceLeDiff, Nat.zero_le, Nat.reduceEqDiff, or_true, true_or, false_or, or_false, if_true, if_false, gI_0, gI_1, gI_2, gI_3, gI_4, gI_5, gI_6, gI_7, gI_8, gI_9, gI_10, gI_11, gI_12, gI_13, gI_14, gI_15, gL_0, gL_1, gL_2, gL_3, gL_4, gL_5, gL_6, gL_7, gL_8, gL_9, gL_10, gL_11, gL_12, gL_13, gL_14, gL_15, gA_0, gA_1, gA_2, gA_3, gA_4, gA_5, gA_6, gA_7, gA_8, gA_9, gA_10, gA_11, gA_12, gA_13, gA_14, gA_15, p1_0, p1_1, p1_2, p1_3, p1_4, p1_5, p1_6, p1_7, p1_8, p1_9, p1_10, p1_11, p1_12, p1_13, p1_14, p1_15, p2_0, p2_1, p2_2, p2_3, p2_4, p2_5, p2_6, p2_7, p2_8, p2_9, p2_10, p2_11, p2_12, p2_13, p2_14, p2_15, b01_ok, b_ft, b_tf, b01_e0, b01_e1, lgc_0, not_true_eq_false, not_false_eq_true, z_hkd_sI, z_hln_sI, z_hL_sI, z_hR_sI, z_hnx_sI, z_hkd_sL, z_hln_sL, z_hI_sL, z_hR_sL, z_hnx_sL, z_hkd_sR, z_hln_sR, z_hI_sR, z_hL_sR, z_hnx_sR, z_hkd_cI, z_hln_cI, z_hL_cI, z_hR_cI, z_hnx_cI, z_hkd_cLg, z_hln_cLg, z_hI_cLg, z_hR_cLg, z_hnx_cLg, K, ne1, m_sign K1 T1 w0 (show i + 1 ≤ 96 by have := T.2.1; omega), m_isIn, sd2]
    cases ok2 : okD tp tl (i + 1) with
    | false => simp only [b01_f, Bool.false_eq_true, not_true_eq_false, if_false]
    | true =>
      obtain ⟨p1, p2⟩ := okD_t ok2
      have b2 := isDg_b p2
      have sv2 : sgI tp tl (i + 1) = nI (tp (i + 1)) := by unfold sgI; rw [if_pos p1]
      have e4 : 10 * nI (dg tp i) + nI (tp (i + 1)) - 48 = nI (dd tp i) := by
        rw [mulTen _ (dg_le o2), nI_add]
        unfold dd dg
        rw [show 10 * (tp i - 48) + (tp (i + 1) - 48) = 10 * (tp i - 48) + tp (i + 1) - 48 by omega]
        exact pk_sub (b := 48) (by omega)
      have w1 : hI (sI (sI h m 28 (nI (i + 1))) m 28 (nI (i + 2))) m 30 = nI te := by rw [hI_sI, if_neg (by omega), hI_sI, if_neg (by omega)]; exact e2
      have w2 : hI (sI (sI (sI h m 28 (nI (i + 1))) m 28 (nI (i + 2))) (m + 15) te (nI (dd tp i))) m 30 = nI te := by rw [hI_sI_ne (by omega)]; exact w1
      simp only [b01_t, Bool.true_eq_false, not_false_eq_true, if_true, sv2, e4, w0, nI_1, z2]
      rw [s71_4]
      simp only [s71_5, s71_6, s71_9, s71_10, s71_13, s71_15, s71_17, s71_20, s71_23, s71_24, s71_25, s71_27, s71_28, s71_29, s71_30, s71_33, s71_34, s71_36, s71_37, s71_38, s71_39, s71_40, s71_43, s71_44, s71_45, s71_48, s71_54, s71_55, s71_58, s71_59, s71_62, s71_63, s71_64, s71_65, s71_66, s71_69, s71_70, s71_71, s71_74, s71_75, oB_some, cl2_i, cl2_r, cl2_l, cl2_u, cl2_s, wd_0, wd_i, wd_r, wd_l, wd_f, ct_i, ct_r, ct_n, ct_f, rf_s, rf_n, tl_s, tl_n, true_and, and_true, eq_self, and_self, Nat.reduceAdd, Nat.reduceLeDiff, Nat.zero_le, Nat.reduceEqDiff, or_true, true_or, false_or, or_false, if_true, if_false, gI_0, gI_1, gI_2, gI_3, gI_4, gI_5, gI_6, gI_7, gI_8, gI_9, gI_10, gI_11, gI_12, gI_13, gI_14, gI_15, gL_0, gL_1, gL_2, gL_3, gL_4, gL_5, gL_6, gL_7, gL_8, gL_9, gL_10, gL_11, gL_12, gL_13, gL_14, gL_15, gA_0, gA_1, gA_2, gA_3, gA_4, gA_5, gA_6, gA_7, gA_8, gA_9, gA_10, gA_11, gA_12, gA_13, gA_14, gA_15, p1_0, p1_1, p1_2, p1_3, p1_4, p1_5, p1_6, p1_7, p1_8, p1_9, p1_10, p1_11, p1_12, p1_13, p1_14, p1_15, p2_0, p2_1, p2_2, p2_3, p2_4, p2_5, p2_6, p2_7, p2_8, p2_9, p2_10, p2_11, p2_12, p2_13, p2_14, p2_15, z_hkd_sI, z_hln_sI, z_hL_sI, z_hR_sI, z_hnx_sI, z_hkd_sL, z_hln_sL, z_hI_sL, z_hR_sL, z_hnx_sL, z_hkd_sR, z_hln_sR, z_hI_sR, z_hL_sR, z_hnx_sR, z_hkd_cI, z_hln_cI, z_hL_cI, z_hR_cI, z_hnx_cI, z_hkd_cLg, z_hln_cLg, z_hI_cLg, z_hR_cLg, z_hnx_cLg, K, Int32.le_refl, w1, w2, ix_nI te31, nI_pos' te31, ht, nI_1]
