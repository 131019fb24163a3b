-- the other side reads one statement
def TF (m : Nat) (h h' : HP) : Prop := Sm4 h h' ∧ (∀ b, ¬ b = m → ¬ (m + 13 ≤ b ∧ b ≤ m + 15) → hI h' b = hI h b) ∧ (∀ k, (k < 27 ∨ 30 < k) → hI h' m k = hI h m k) ∧ hL h' = hL h
theorem TF.rf {m : Nat} {h : HP} : TF m h h := ⟨Sm4.rf, fun _ _ _ => rfl, fun _ _ => rfl, rfl⟩
theorem TF.tr {m : Nat} {h h1 h2 : HP} (a : TF m h h1) (b : TF m h1 h2) : TF m h h2 := ⟨a.1.tr b.1, fun q z1 z2 => (b.2.1 q z1 z2).trans (a.2.1 q z1 z2), fun k hk => (b.2.2.1 k hk).trans (a.2.2.1 k hk), b.2.2.2.trans a.2.2.2⟩
theorem TF.sI {m a k : Nat} {x : Int32} {h h1 : HP} (f : TF m h h1) (c : (a = m ∧ 27 ≤ k ∧ k ≤ 30) ∨ (m + 13 ≤ a ∧ a ≤ m + 15)) : TF m h (sI h1 a k x) :=
  ⟨f.1, fun b z1 z2 => by rw [hI_sI_ne (by omega)]; exact f.2.1 b z1 z2, fun j hj => by rw [hI_sI, if_neg (by omega)]; exact f.2.2.1 j hj, f.2.2.2⟩
theorem TF.mk {m : Nat} {h h1 : HP} (f : TF m h h1) (K : MK h m) : MK h1 m := K.kept f.1.1 f.1.2.1 f.1.2.2.1
theorem TF.mt {m tl : Nat} {tp : Nat → Nat} {h h1 : HP} (f : TF m h h1) (T : MT h m tp tl) (e : hI h1 m 27 = hI h m 27) : MT h1 m tp tl := T.cong e (f.2.1 (m + 12) (by omega) (by omega))
def TLD (h : HP) (m : Nat) (tp : Nat → Nat) (c te j : Nat) : Prop := ((c = 112 ∨ c = 102) → hI h (m + 15) te = nI (dg tp j) ∧ hI h (m + 15) (te + 1) = nI (dg tp (j + 1))) ∧ (c = 107 → hI h (m + 15) te = nI (dg tp j) ∧ hI h (m + 15) (te + 1) = nI (dd tp (j + 1))) ∧ (¬ c = 112 → ¬ c = 102 → ¬ c = 107 → hI h (m + 15) te = nI (dd tp j))
theorem tsr_112 {d : Nat} {Q : PQ} {al : List Slot} {st : List Value} {h : HP} {c s : Nat} : WP d 70 Q (1, al, .int (nI 112) :: st, h, c, s) = WP d 70 Q (36, al, st, h, c, s) := s70_1.trans rfl
theorem tsr_102 {d : Nat} {Q : PQ} {al : List Slot} {st : List Value} {h : HP} {c s : Nat} : WP d 70 Q (1, al, .int (nI 102) :: st, h, c, s) = WP d 70 Q (36, al, st, h, c, s) := s70_1.trans rfl
theorem tsr_107 {d : Nat} {Q : PQ} {al : List Slot} {st : List Value} {h : HP} {c s : Nat} : WP d 70 Q (1, al, .int (nI 107) :: st, h, c, s) = WP d 70 Q (58, al, st, h, c, s) := s70_1.trans rfl
theorem tsr_115 {d : Nat} {Q : PQ} {al : List Slot} {st : List Value} {h : HP} {c s : Nat} : WP d 70 Q (1, al, .int (nI 115) :: st, h, c, s) = WP d 70 Q (80, al, st, h, c, s) := s70_1.trans rfl
theorem tsr_120 {d : Nat} {Q : PQ} {al : List Slot} {st : List Value} {h : HP} {c s : Nat} : WP d 70 Q (1, al, .int (nI 120) :: st, h, c, s) = WP d 70 Q (80, al, st, h, c, s) := s70_1.trans rfl
theorem tsr_114 {d : Nat} {Q : PQ} {al : List Slot} {st : List Value} {h : HP} {c s : Nat} : WP d 70 Q (1, al, .int (nI 114) :: st, h, c, s) = WP d 70 Q (80, al, st, h, c, s) := s70_1.trans rfl
theorem tsr_100 {d : Nat} {Q : PQ} {al : List Slot} {st : List Value} {h : HP} {c s : Nat} : WP d 70 Q (1, al, .int (nI 100) :: st, h, c, s) = WP d 70 Q (80, al, st, h, c, s) := s70_1.trans rfl

set_option maxHeartbeats 8000000 in
theorem m_readsAll {d c j te tl : Nat} {tp : Nat → Nat} {Q : PQ} {h : HP} {m : Nat} (K : MK h m) (T : MT h m tp tl) (e : hI h m 28 = nI j) (hj : j ≤ 96) (e2 : hI h m 30 = nI te) (ht : te + 1 < 66) (hl : ¬ lbN c = 0)
    (kb : ∀ w h', (∀ n, j + n = tl → fw tp n j (lbN c) = some w) → TF m h h' → hI h' m 28 = nI w → Q (some (.int 0)) h')
    (kg : ∀ h', (∀ n, j + n = tl → lbN c - 1 ≤ n ∧ fw tp n j (lbN c) = fw tp (n - (lbN c - 1)) (j + (lbN c - 1)) 1) → TF m h h' → hI h' m 28 = nI (j + (lbN c - 1)) → (∀ k, ¬ k = te → ¬ k = te + 1 → hI h' (m + 15) k = hI h (m + 15) k) → hI h' (m + 13) = hI h (m + 13) → hI h' (m + 14) = hI h (m + 14) → hI h' m 29 = hI h m 29 → hI h' m 27 = hI h m 27 → TLD h' m tp c te j → Q (some (.int 1)) h') : Ev (d + 4) 70 [.ref m, .int (nI c)] h Q := by
  have K0 := K
  unfold MK at K
  have t96 := T.2.1
  -- one digit, then what follows
  have one : ∀ (Q2 : PQ), okD tp tl j = true → Ev (d + 3) 71 [.ref m, .int 1] h Q2 = Q2 (some (.int 1)) (sI (sI (sI h m 28 (nI (j + 1))) (m + 15) te (nI (dg tp j))) m 30 (nI (te + 1))) := fun Q2 ok => by
    rw [m_digit1 K0 T e hj e2 (by omega), if_pos ok]
  have one0 : ∀ (Q2 : PQ), okD tp tl j = false → Ev (d + 3) 71 [.ref m, .int 1] h Q2 = Q2 (some (.int 0)) h := fun Q2 ok => by
    rw [m_digit1 K0 T e hj e2 (by omega), if_neg (by rw [ok]; decide)]
  have f1 : TF m h (sI (sI (sI h m 28 (nI (j + 1))) (m + 15) te (nI (dg tp j))) m 30 (nI (te + 1))) := ((TF.rf.sI (Or.inl ⟨rfl, by omega, by omega⟩)).sI (Or.inr (by omega))).sI (Or.inl ⟨rfl, by omega, by omega⟩)
  have a27 : hI (sI (sI (sI h m 28 (nI (j + 1))) (m + 15) te (nI (dg tp j))) m 30 (nI (te + 1))) m 27 = hI h m 27 := by rw [hI_sI, if_neg (by omega), hI_sI_ne (by omega), hI_sI, if_neg (by omega)]
  have a28 : hI (sI (sI (sI h m 28 (nI (j + 1))) (m + 15) te (nI (dg tp j))) m 30 (nI (te + 1))) m 28 = nI (j + 1) := by rw [hI_sI, if_neg (by omega), hI_sI_ne (by omega), hI_sI, if_pos ⟨rfl, rfl⟩]
  have a29 : hI (sI (sI (sI h m 28 (nI (j + 1))) (m + 15) te (nI (dg tp j))) m 30 (nI (te + 1))) m 29 = hI h m 29 := by rw [hI_sI, if_neg (by omega), hI_sI_ne (by omega), hI_sI, if_neg (by omega)]
  have a30 : hI (sI (sI (sI h m 28 (nI (j + 1))) (m + 15) te (nI (dg tp j))) m 30 (nI (te + 1))) m 30 = nI (te + 1) := by rw [hI_sI, if_pos ⟨rfl, rfl⟩]
  have a15 : ∀ k, hI (sI (sI (sI h m 28 (nI (j + 1))) (m + 15) te (nI (dg tp j))) m 30 (nI (te + 1))) (m + 15) k = if k = te then nI (dg tp j) else hI h (m + 15) k := fun k => by
    rw [hI_sI_ne (by omega), hI_sI]
    by_cases z : k = te
    · rw [if_pos ⟨rfl, z⟩, if_pos z]
    · rw [if_neg (fun y => z y.2), if_neg z, hI_sI_ne (by omega)]
  have a13 : ∀ b, (b = m + 13 ∨ b = m + 14) → hI (sI (sI (sI h m 28 (nI (j + 1))) (m + 15) te (nI (dg tp j))) m 30 (nI (te + 1))) b = hI h b := fun b hb => by rw [hI_sI_ne (by omega), hI_sI_ne (by omega), hI_sI_ne (by omega)]
  generalize sI (sI (sI h m 28 (nI (j + 1))) (m + 15) te (nI (dg tp j))) m 30 (nI (te + 1)) = h1 at one f1 a27 a28 a29 a30 a15 a13
  have K1 := f1.mk K0
  have T1 := f1.mt T a27
  have two : (c = 112 ∨ c = 102) → WP (d + 3) 70 Q (36, [.val (.ref m), .val (.int (nI c))], [], h, 0, 0) := fun hc => by
    have l3 : lbN c = 3 := by rcases hc with rfl | rfl <;> rfl
    rw [l3] at kb kg
    cases ok : okD tp tl j with
    | false =>
      simp only [s70_36, s70_37, s70_38, s70_41, s70_44, s70_45, s70_46, s70_49, s70_52, s70_53, s70_56, s70_57, oB_some, cl2_i, cl2_r, cl2_l, cl2_u, cl2_s, wd_0, wd_i, wd_r, wd_l, wd_f, ct_i, ct_r, ct_n, ct_f, rf_s, rf_n, tl_s, tl_n, true_and, and_true, eq_self, and_self, Nat.reduceAdd, Nat.reduceLeDiff, Nat.zero_le, Nat.reduceEqDiff, or_true, true_or, false_or, or_false, if_true, if_false, gI_0, gI_1, gI_2, gI_3, gI_4, gI_5, gI_6, gI_7, gI_8, gI_9, gI_10, gI_11, gI_12, gI_13, gI_14, gI_15, gL_0, gL_1, gL_2, gL_3, gL_4, gL_5, gL_6, gL_7, gL_8, gL_9, gL_10, gL_11, gL_12, gL_13, gL_14, gL_15, gA_0, gA_1, gA_2, gA_3, gA_4, gA_5, gA_6, gA_7, gA_8, gA_9, gA_10, gA_11, gA_12, gA_13, gA_14, gA_15, p1_0, p1_1, p1_2, p1_3, p1_4, p1_5, p1_6, p1_7, p1_8, p1_9, p1_10, p1_11, p1_12, p1_13, p1_14, p1_15, p2_0, p2_1, p2_2, p2_3, p2_4, p2_5, p2_6, p2_7, p2_8, p2_9, p2_10, p2_11, p2_12, p2_13, p2_14, p2_15, b01_ok, b_ft, b_tf, b01_e0, b01_e1, lgc_0, not_true_eq_false, not_false_eq_true, K, one0 _ ok]
      exact kb j h (fun n hn => by rw [fw_dig hn (by omega), if_neg (by rw [ok]; decide)]) TF.rf e
    | true =>
      have K1' := K1
      unfold MK at K1'
      have jt := (okD_t ok).1
      simp only [s70_36, s70_37, s70_38, s70_41, s70_44, s70_45, s70_46, s70_49, s70_52, s70_53, s70_56, s70_57, oB_some, cl2_i, cl2_r, cl2_l, cl2_u, cl2_s, wd_0, wd_i, wd_r, wd_l, wd_f, ct_i, ct_r, ct_n, ct_f, rf_s, rf_n, tl_s, tl_n, true_and, and_true, eq_self, and_self, Nat.reduceAdd, Nat.reduceLeDiff, Nat.zero_le, Nat.reduceEqDiff, or_true, true_or, false_or, or_false, if_true, if_false, gI_0, gI_1, gI_2, gI_3, gI_4, gI_5, gI_6, gI_7, gI_8, gI_9, gI_10, gI_11, gI_12, gI_13, gI_14, gI_15, gL_0, gL_1, gL_2, gL_3, gL_4, gL_5, gL_6, gL_7, gL_8, gL_9, gL_10, gL_11, gL_12, gL_13, gL_14, gL_15, gA_0, gA_1, gA_2, gA_3, gA_4, gA_5, gA_6, gA_7, gA_8, gA_9, gA_10, gA_11, gA_12, gA_13, gA_14, gA_15, p1_0, p1_1, p1_2, p1_3, p1_4, p1_5, p1_6, p1_7, p1_8, p1_9, p1_10, p1_11, p1_12, p1_13, p1_14, p1_15, p2_0, p2_1, p2_2, p2_3, p2_4, p2_5, p2_6, p2_7, p2_8, p2_9, p2_10, p2_11, p2_12, p2_13, p2_14, p2_15, b01_ok, b_ft, b_tf, b01_e0, b01_e1, lgc_0, not_true_eq_false, not_false_eq_true, K, K1', one _ ok, Bool.true_eq_false, m_digit1 K1 T1 a28 (show j + 1 ≤ 96 by omega) a30 (by omega), z10]
      cases ok2 : okD tp tl (j + 1) with
      | false =>
        simp only [Bool.false_eq_true, if_false]
        exact kb (j + 1) h1 (fun n hn => by rw [fw_dig hn (by omega), if_pos ok, fw_dig (n := n - 1) (j := j + 1) (tl := tl) (by omega) (by omega), if_neg (by rw [ok2]; decide)]) f1 a28
      | true =>
        simp only [if_true]
        have jt2 := (okD_t ok2).1
        refine kg _ (fun n hn => ⟨by omega, ?_⟩) (((f1.sI (Or.inl ⟨rfl, by omega, by omega⟩)).sI (Or.inr (by omega))).sI (Or.inl ⟨rfl, by omega, by omega⟩)) ?_ (fun k h1 h2 => ?_) ?_ ?_ ?_ ?_ ⟨fun _ => ⟨?_, ?_⟩, fun z => by omega, fun z1 z2 z3 => by omega⟩
        · rw [fw_dig hn (by omega), if_pos ok, fw_dig (n := n - 1) (j := j + 1) (tl := tl) (by omega) (by omega), if_pos ok2]
          rfl
        · rw [hI_sI, if_neg (by omega), hI_sI_ne (by omega), hI_sI, if_pos ⟨rfl, rfl⟩]
        · rw [hI_sI_ne (by omega), hI_sI, if_neg (by omega), hI_sI_ne (by omega), a15, if_neg h1]
        · rw [hI_sI_ne (by omega), hI_sI_ne (by omega), hI_sI_ne (by omega), a13 _ (Or.inl rfl)]
        · rw [hI_sI_ne (by omega), hI_sI_ne (by omega), hI_sI_ne (by omega), a13 _ (Or.inr rfl)]
        · rw [hI_sI, if_neg (by omega), hI_sI_ne (by omega), hI_sI, if_neg (by omega), a29]
        · rw [hI_sI, if_neg (by omega), hI_sI_ne (by omega), hI_sI, if_neg (by omega), a27]
        · rw [hI_sI_ne (by omega), hI_sI, if_neg (by omega), hI_sI_ne (by omega), a15, if_pos rfl]
        · rw [hI_sI_ne (by omega), hI_sI, if_pos ⟨rfl, rfl⟩]
  have three : c = 107 → WP (d + 3) 70 Q (58, [.val (.ref m), .val (.int (nI c))], [], h, 0, 0) := fun hc => by
    have l3 : lbN c = 4 := by rw [hc]; rfl
    rw [l3] at kb kg
    cases ok : okD tp tl j with
    | false =>
      simp only [s70_58, s70_59, s70_60, s70_63, s70_66, s70_67, s70_68, s70_71, s70_74, s70_75, s70_78, s70_79, oB_some, cl2_i, cl2_r, cl2_l, cl2_u, cl2_s, wd_0, wd_i, wd_r, wd_l, wd_f, ct_i, ct_r, ct_n, ct_f, rf_s, rf_n, tl_s, tl_n, true_and, and_true, eq_self, and_self, Nat.reduceAdd, Nat.reduceLeDiff, Nat.zero_le, Nat.reduceEqDiff, or_true, true_or, false_or, or_false, if_true, if_false, gI_0, gI_1, gI_2, gI_3, gI_4, gI_5, gI_6, gI_7, gI_8, gI_9, gI_10, gI_11, gI_12, gI_13, gI_14, gI_15, gL_0, gL_1, gL_2, gL_3, gL_4, gL_5, gL_6, gL_7, gL_8, gL_9, gL_10, gL_11, gL_12, gL_13, gL_14, gL_15, gA_0, gA_1, gA_2, gA_3, gA_4, gA_5, gA_6, gA_7, gA_8, gA_9, gA_10, gA_11, gA_12, gA_13, gA_14, gA_15, p1_0, p1_1, p1_2, p1_3, p1_4, p1_5, p1_6, p1_7, p1_8, p1_9, p1_10, p1_11, p1_12, p1_13, p1_14, p1_15, p2_0, p2_1, p2_2, p2_3, p2_4, p2_5, p2_6, p2_7, p2_8, p2_9, p2_10, p2_11, p2_12, p2_13, p2_14, p2_15, b01_ok, b_ft, b_tf, b01_e0, b01_e1, lgc_0, not_true_eq_false, not_false_eq_true, K, one0 _ ok]
      exact kb j h (fun n hn => by rw [fw_dig hn (by omega), if_neg (by rw [ok]; decide)]) TF.rf e
    | true =>
      have K1' := K1
      unfold MK at K1'
      have jt := (okD_t ok).1
      simp only [s70_58, s70_59, s70_60, s70_63, s70_66, s70_67, s70_68, s70_71, s70_74, s70_75, s70_78, s70_79, oB_some, cl2_i, cl2_r, cl2_l, cl2_u, cl2_s, wd_0, wd_i, wd_r, wd_l, wd_f, ct_i, ct_r, ct_n, ct_f, rf_s, rf_n, tl_s, tl_n, true_and, and_true, eq_self, and_self, Nat.reduceAdd, Nat.reduceLeDiff, Nat.zero_le, Nat.reduceEqDiff, or_true, true_or, false_or, or_false, if_true, if_false, gI_0, gI_1, gI_2, gI_3, gI_4, gI_5, gI_6, gI_7, gI_8, gI_9, gI_10, gI_11, gI_12, gI_13, gI_14, gI_15, gL_0, gL_1, gL_2, gL_3, gL_4, gL_5, gL_6, gL_7, gL_8, gL_9, gL_10, gL_11, gL_12, gL_13, gL_14, gL_15, gA_0, gA_1, gA_2, gA_3, gA_4, gA_5, gA_6, gA_7, gA_8, gA_9, gA_10, gA_11, gA_12, gA_13, gA_14, gA_15, p1_0, p1_1, p1_2, p1_3, p1_4, p1_5, p1_6, p1_7, p1_8, p1_9, p1_10, p1_11, p1_12, p1_13, p1_14, p1_15, p2_0, p2_1, p2_2, p2_3, p2_4, p2_5, p2_6, p2_7, p2_8, p2_9, p2_10, p2_11, p2_12, p2_13, p2_14, p2_15, b01_ok, b_ft, b_tf, b01_e0, b01_e1, lgc_0, not_true_eq_false, not_false_eq_true, K, K1', one _ ok, Bool.true_eq_false, m_digit2 K1 T1 a28 (show j + 1 ≤ 96 by omega) a30 (by omega), z10]
      cases ok2 : okD tp tl (j + 1) with
      | false =>
        simp only [Bool.false_eq_true, if_false]
        exact kb (j + 1) h1 (fun n hn => by rw [fw_dig hn (by omega), if_pos ok, fw_dig (n := n - 1) (j := j + 1) (tl := tl) (by omega) (by omega), if_neg (by rw [ok2]; decide)]) f1 a28
      | true =>
        have jt2 := (okD_t ok2).1
        cases ok3 : okD tp tl (j + 1 + 1) with
        | false =>
          simp only [Bool.false_eq_true, if_false, if_true]
          refine kb (j + 1 + 1) _ (fun n hn => ?_) (f1.sI (Or.inl ⟨rfl, by omega, by omega⟩)) ?_
          · rw [fw_dig hn (by omega), if_pos ok, fw_dig (n := n - 1) (j := j + 1) (tl := tl) (by omega) (by omega), if_pos ok2, fw_dig (n := n - 1 - 1) (j := j + 1 + 1) (tl := tl) (by omega) (by omega), if_neg (by rw [ok3]; decide)]
          · rw [hI_sI, if_pos ⟨rfl, rfl⟩]
        | true =>
          simp only [if_true]
          have jt3 := (okD_t ok3).1
          refine kg _ (fun n hn => ⟨by omega, ?_⟩) ((((f1.sI (Or.inl ⟨rfl, by omega, by omega⟩)).sI (Or.inl ⟨rfl, by omega, by omega⟩)).sI (Or.inr (by omega))).sI (Or.inl ⟨rfl, by omega, by omega⟩)) ?_ (fun k h1 h2 => ?_) ?_ ?_ ?_ ?_ ⟨fun z => by omega, fun _ => ⟨?_, ?_⟩, fun z1 z2 z3 => by omega⟩
          · rw [fw_dig hn (by omega), if_pos ok, fw_dig (n := n - 1) (j := j + 1) (tl := tl) (by omega) (by omega), if_pos ok2, fw_dig (n := n - 1 - 1) (j := j + 1 + 1) (tl := tl) (by omega) (by omega), if_pos ok3]
            rfl
          · rw [hI_sI, if_neg (by omega), hI_sI_ne (by omega), hI_sI, if_pos ⟨rfl, rfl⟩]
          · rw [hI_sI_ne (by omega), hI_sI, if_neg (by omega), hI_sI_ne (by omega), hI_sI_ne (by omega), a15, if_neg h1]
          · rw [hI_sI_ne (by omega), hI_sI_ne (by omega), hI_sI_ne (by omega), hI_sI_ne (by omega), a13 _ (Or.inl rfl)]
          · rw [hI_sI_ne (by omega), hI_sI_ne (by omega), hI_sI_ne (by omega), hI_sI_ne (by omega), a13 _ (Or.inr rfl)]
          · rw [hI_sI, if_neg (by omega), hI_sI_ne (by omega), hI_sI, if_neg (by omega), hI_sI, if_neg (by omega), a29]
          · rw [hI_sI, if_neg (by omega), hI_sI_ne (by omega), hI_sI, if_neg (by omega), hI_sI, if_neg (by omega), a27]
          · rw [hI_sI_ne (by omega), hI_sI, if_neg (by omega), hI_sI_ne (by omega), hI_sI_ne (by omega), a15, if_pos rfl]
          · rw [hI_sI_ne (by omega), hI_sI, if_pos ⟨rfl, rfl⟩]
  have other2 : ¬ c = 112 → ¬ c = 102 → ¬ c = 107 → WP (d + 3) 70 Q (80, [.val (.ref m), .val (.int (nI c))], [], h, 0, 0) := fun c1 c2 c3 => by
    have l3 : lbN c = 3 := by rcases lb34 c with z | z | z <;> omega
    rw [l3] at kb kg
    simp only [s70_80, s70_81, s70_82, s70_85, oB_some, cl2_i, cl2_r, cl2_l, cl2_u, cl2_s, wd_0, wd_i, wd_r, wd_l, wd_f, ct_i, ct_r, ct_n, ct_f, rf_s, rf_n, tl_s, tl_n, true_and, and_true, eq_self, and_self, Nat.reduceAdd, Nat.reduceLeDiff, Nat.zero_le, Nat.reduceEqDiff, or_true, true_or, false_or, or_false, if_true, if_false, gI_0, gI_1, gI_2, gI_3, gI_4, gI_5, gI_6, gI_7, gI_8, gI_9, gI_10, gI_11, gI_12, gI_13, gI_14, gI_15, gL_0, gL_1, gL_2, gL_3, gL_4, gL_5, gL_6, gL_7, gL_8, gL_9, gL_10, gL_11, gL_12, gL_13, gL_14, gL_15, gA_0, gA_1, gA_2, gA_3, gA_4, gA_5, gA_6, gA_7, gA_8, gA_9, gA_10, gA_11, gA_12, gA_13, gA_14, gA_15, p1_0, p1_1, p1_2, p1_3, p1_4, p1_5, p1_6, p1_7, p1_8, p1_9, p1_10, p1_11, p1_12, p1_13, p1_14, p1_15, p2_0, p2_1, p2_2, p2_3, p2_4, p2_5, p2_6, p2_7, p2_8, p2_9, p2_10, p2_11, p2_12, p2_13, p2_14, p2_15, b01_ok, b_ft, b_tf, b01_e0, b01_e1, lgc_0, not_true_eq_false, not_false_eq_true, K, m_digit2 K0 T e hj e2 (show te < 66 by omega)]
    cases ok : okD tp tl j with
    | false =>
      simp only [Bool.false_eq_true, if_false]
      exact kb j h (fun n hn => by rw [fw_dig hn (by omega), if_neg (by rw [ok]; decide)]) TF.rf e
    | true =>
      have jt := (okD_t ok).1
      cases ok2 : okD tp tl (j + 1) with
      | false =>
        simp only [Bool.false_eq_true, if_false, if_true]
        refine kb (j + 1) _ (fun n hn => ?_) (TF.rf.sI (Or.inl ⟨rfl, by omega, by omega⟩)) ?_
        · rw [fw_dig hn (by omega), if_pos ok, fw_dig (n := n - 1) (j := j + 1) (tl := tl) (by omega) (by omega), if_neg (by rw [ok2]; decide)]
        · rw [hI_sI, if_pos ⟨rfl, rfl⟩]
      | true =>
        simp only [if_true]
        have jt2 := (okD_t ok2).1
        refine kg _ (fun n hn => ⟨by omega, ?_⟩) ((((TF.rf.sI (Or.inl ⟨rfl, by omega, by omega⟩)).sI (Or.inl ⟨rfl, by omega, by omega⟩)).sI (Or.inr (by omega))).sI (Or.inl ⟨rfl, by omega, by omega⟩)) ?_ (fun k h1 h2 => ?_) ?_ ?_ ?_ ?_ ⟨fun z => by omega, fun z => by omega, fun _ _ _ => ?_⟩
        · rw [fw_dig hn (by omega), if_pos ok, fw_dig (n := n - 1) (j := j + 1) (tl := tl) (by omega) (by omega), if_pos ok2]
          rfl
        · rw [hI_sI, if_neg (by omega), hI_sI_ne (by omega), hI_sI, if_pos ⟨rfl, rfl⟩]
        · rw [hI_sI_ne (by omega), hI_sI, if_neg (by omega), hI_sI_ne (by omega), hI_sI_ne (by omega)]
        · rw [hI_sI_ne (by omega), hI_sI_ne (by omega), hI_sI_ne (by omega), hI_sI_ne (by omega)]
        · rw [hI_sI_ne (by omega), hI_sI_ne (by omega), hI_sI_ne (by omega), hI_sI_ne (by omega)]
        · rw [hI_sI, if_neg (by omega), hI_sI_ne (by omega), hI_sI, if_neg (by omega), hI_sI, if_neg (by omega)]
        · rw [hI_sI, if_neg (by omega), hI_sI_ne (by omega), hI_sI, if_neg (by omega), hI_sI, if_neg (by omega)]
        · rw [hI_sI_ne (by omega), hI_sI, if_pos ⟨rfl, rfl⟩]
  rcases lb7 hl with z | z | z | z | z | z | z
  · subst z
    simp only [e70, s70_0, tsr_112, oB_some, cl2_i, cl2_r, cl2_l, cl2_u, cl2_s, wd_0, wd_i, wd_r, wd_l, wd_f, ct_i, ct_r, ct_n, ct_f, rf_s, rf_n, tl_s, tl_n, true_and, and_true, eq_self, and_self, Nat.reduceAdd, Nat.reduceLeDiff, Nat.zero_le, Nat.reduceEqDiff, or_true, true_or, false_or, or_false, if_true, if_false, gI_0, gI_1, gI_2, gI_3, gI_4, gI_5, gI_6, gI_7, gI_8, gI_9, gI_10, gI_11, gI_12, gI_13, gI_14, gI_15, gL_0, gL_1, gL_2, gL_3, gL_4, gL_5, gL_6, gL_7, gL_8, gL_9, gL_10, gL_11, gL_12, gL_13, gL_14, gL_15, gA_0, gA_1, gA_2, gA_3, gA_4, gA_5, gA_6, gA_7, gA_8, gA_9, gA_10, gA_11, gA_12, gA_13, gA_14, gA_15, p1_0, p1_1, p1_2, p1_3, p1_4, p1_5, p1_6, p1_7, p1_8, p1_9, p1_10, p1_11, p1_12, p1_13, p1_14, p1_15, p2_0, p2_1, p2_2, p2_3, p2_4, p2_5, p2_6, p2_7, p2_8, p2_9, p2_10, p2_11, p2_12, p2_13, p2_14, p2_15]
    exact two (Or.inl rfl)
  · subst z
    simp only [e70, s70_0, tsr_102, oB_some, cl2_i, cl2_r, cl2_l, cl2_u, cl2_s, wd_0, wd_i, wd_r, wd_l, wd_f, ct_i, ct_r, ct_n, ct_f, rf_s, rf_n, tl_s, tl_n, true_and, and_true, eq_self, and_self, Nat.reduceAdd, Nat.reduceLeDiff, Nat.zero_le, Nat.reduceEqDiff, or_true, true_or, false_or, or_false, if_true, if_false, gI_0, gI_1, gI_2, gI_3, gI_4, gI_5, gI_6, gI_7, gI_8, gI_9, gI_10, gI_11, gI_12, gI_13, gI_14, gI_15, gL_0, gL_1, gL_2, gL_3, gL_4, gL_5, gL_6, gL_7, gL_8, gL_9, gL_10, gL_11, gL_12, gL_13, gL_14, gL_15, gA_0, gA_1, gA_2, gA_3, gA_4, gA_5, gA_6, gA_7, gA_8, gA_9, gA_10, gA_11, gA_12, gA_13, gA_14, gA_15, p1_0, p1_1, p1_2, p1_3, p1_4, p1_5, p1_6, p1_7, p1_8, p1_9, p1_10, p1_11, p1_12, p1_13, p1_14, p1_15, p2_0, p2_1, p2_2, p2_3, p2_4, p2_5, p2_6, p2_7, p2_8, p2_9, p2_10, p2_11, p2_12, p2_13, p2_14, p2_15]
    exact two (Or.inr rfl)
  · subst z
    simp only [e70, s70_0, tsr_107, oB_some, cl2_i, cl2_r, cl2_l, cl2_u, cl2_s, wd_0, wd_i, wd_r, wd_l, wd_f, ct_i, ct_r, ct_n, ct_f, rf_s, rf_n, tl_s, tl_n, true_and, and_true, eq_self, and_self, Nat.reduceAdd, Nat.reduceLeDiff, Nat.zero_le, Nat.reduceEqDiff, or_true, true_or, false_or, or_false, if_true, if_false, gI_0, gI_1, gI_2, gI_3, gI_4, gI_5, gI_6, gI_7, gI_8, gI_9, gI_10, gI_11, gI_12, gI_13, gI_14, gI_15, gL_0, gL_1, gL_2, gL_3, gL_4, gL_5, gL_6, gL_7, gL_8, gL_9, gL_10, gL_11, gL_12, gL_13, gL_14, gL_15, gA_0, gA_1, gA_2, gA_3, gA_4, gA_5, gA_6, gA_7, gA_8, gA_9, gA_10, gA_11, gA_12, gA_13, gA_14, gA_15, p1_0, p1_1, p1_2, p1_3, p1_4, p1_5, p1_6, p1_7, p1_8, p1_9, p1_10, p1_11, p1_12, p1_13, p1_14, p1_15, p2_0, p2_1, p2_2, p2_3, p2_4, p2_5, p2_6, p2_7, p2_8, p2_9, p2_10, p2_11, p2_12, p2_13, p2_14, p2_15]
    exact three rfl
  · subst z
    simp only [e70, s70_0, tsr_115, oB_some, cl2_i, cl2_r, cl2_l, cl2_u, cl2_s, wd_0, wd_i, wd_r, wd_l, wd_f, ct_i, ct_r, ct_n, ct_f, rf_s, rf_n, tl_s, tl_n, true_and, and_true, eq_self, and_self, Nat.reduceAdd, Nat.reduceLeDiff, Nat.zero_le, Nat.reduceEqDiff, or_true, true_or, false_or, or_false, if_true, if_false, gI_0, gI_1, gI_2, gI_3, gI_4, gI_5, gI_6, gI_7, gI_8, gI_9, gI_10, gI_11, gI_12, gI_13, gI_14, gI_15, gL_0, gL_1, gL_2, gL_3, gL_4, gL_5, gL_6, gL_7, gL_8, gL_9, gL_10, gL_11, gL_12, gL_13, gL_14, gL_15, gA_0, gA_1, gA_2, gA_3, gA_4, gA_5, gA_6, gA_7, gA_8, gA_9, gA_10, gA_11, gA_12, gA_13, gA_14, gA_15, p1_0, p1_1, p1_2, p1_3, p1_4, p1_5, p1_6, p1_7, p1_8, p1_9, p1_10, p1_11, p1_12, p1_13, p1_14, p1_15, p2_0, p2_1, p2_2, p2_3, p2_4, p2_5, p2_6, p2_7, p2_8, p2_9, p2_10, p2_11, p2_12, p2_13, p2_14, p2_15]
    exact other2 (by decide) (by decide) (by decide)
  · subst z
    simp only [e70, s70_0, tsr_120, oB_some, cl2_i, cl2_r, cl2_l, cl2_u, cl2_s, wd_0, wd_i, wd_r, wd_l, wd_f, ct_i, ct_r, ct_n, ct_f, rf_s, rf_n, tl_s, tl_n, true_and, and_true, eq_self, and_self, Nat.reduceAdd, Nat.reduceLeDiff, Nat.zero_le, Nat.reduceEqDiff, or_true, true_or, false_or, or_false, if_true, if_false, gI_0, gI_1, gI_2, gI_3, gI_4, gI_5, gI_6, gI_7, gI_8, gI_9, gI_10, gI_11, gI_12, gI_13, gI_14, gI_15, gL_0, gL_1, gL_2, gL_3, gL_4, gL_5, gL_6, gL_7, gL_8, gL_9, gL_10, gL_11, gL_12, gL_13, gL_14, gL_15, gA_0, gA_1, gA_2, gA_3, gA_4, gA_5, gA_6, gA_7, gA_8, gA_9, gA_10, gA_11, gA_12, gA_13, gA_14, gA_15, p1_0, p1_1, p1_2, p1_3, p1_4, p1_5, p1_6, p1_7, p1_8, p1_9, p1_10, p1_11, p1_12, p1_13, p1_14, p1_15, p2_0, p2_1, p2_2, p2_3, p2_4, p2_5, p2_6, p2_7, p2_8, p2_9, p2_10, p2_11, p2_12, p2_13, p2_14, p2_15]
    exact other2 (by decide) (by decide) (by decide)
  · subst z
    simp only [e70, s70_0, tsr_114, oB_some, cl2_i, cl2_r, cl2_l, cl2_u, cl2_s, wd_0, wd_i, wd_r, wd_l, wd_f, ct_i, ct_r, ct_n, ct_f, rf_s, rf_n, tl_s, tl_n, true_and, and_true, eq_self, and_self, Nat.reduceAdd, Nat.reduceLeDiff, Nat.zero_le, Nat.reduceEqDiff, or_true, true_or, false_or, or_false, if_true, if_false, gI_0, gI_1, gI_2, gI_3, gI_4, gI_5, gI_6, gI_7, gI_8, gI_9, gI_10, gI_11, gI_12, gI_13, gI_14, gI_15, gL_0, gL_1, gL_2, gL_3, gL_4, gL_5, gL_6, gL_7, gL_8, gL_9, gL_10, gL_11, gL_12, gL_13, gL_14, gL_15, gA_0, gA_1, gA_2, gA_3, gA_4, gA_5, gA_6, gA_7, gA_8, gA_9, gA_10, gA_11, gA_12, gA_13, gA_14, gA_15, p1_0, p1_1, p1_2, p1_3, p1_4, p1_5, p1_6, p1_7, p1_8, p1_9, p1_10, p1_11, p1_12, p1_13, p1_14, p1_15, p2_0, p2_1, p2_2, p2_3, p2_4, p2_5, p2_6, p2_7, p2_8, p2_9, p2_10, p2_11, p2_12, p2_13, p2_14, p2_15]
    exact other2 (by decide) (by decide) (by decide)
  · subst z
    simp only [e70, s70_0, tsr_100, oB_some, cl2_i, cl2_r, cl2_l, cl2_u, cl2_s, wd_0, wd_i, wd_r, wd_l, wd_f, ct_i, ct_r, ct_n, ct_f, rf_s, rf_n, tl_s, tl_n, true_and, and_true, eq_self, and_self, Nat.reduceAdd, Nat.reduceLeDiff, Nat.zero_le, Nat.reduceEqDiff, or_true, true_or, false_or, or_false, if_true, if_false, gI_0, gI_1, gI_2, gI_3, gI_4, gI_5, gI_6, gI_7, gI_8, gI_9, gI_10, gI_11, gI_12, gI_13, gI_14, gI_15, gL_0, gL_1, gL_2, gL_3, gL_4, gL_5, gL_6, gL_7, gL_8, gL_9, gL_10, gL_11, gL_12, gL_13, gL_14, gL_15, gA_0, gA_1, gA_2, gA_3, gA_4, gA_5, gA_6, gA_7, gA_8, gA_9, gA_10, gA_11, gA_12, gA_13, gA_14, gA_15, p1_0, p1_1, p1_2, p1_3, p1_4, p1_5, p1_6, p1_7, p1_8, p1_9, p1_10, p1_11, p1_12, p1_13, p1_14, p1_15, p2_0, p2_1, p2_2, p2_3, p2_4, p2_5, p2_6, p2_7, p2_8, p2_9, p2_10, p2_11, p2_12, p2_13, p2_14, p2_15]
    exact other2 (by decide) (by decide) (by decide)
