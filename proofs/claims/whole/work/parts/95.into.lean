-- a whole text: a common account of it, and the one side
def rn (tp : Nat → Nat) (tl : Nat) : Nat → Nat → Nat → VS → Int32 × Option VS
  | 0, _, k, S => (nI k, some S)
  | n + 1, i, k, S => if i < tl then (match tl1 tp S i with | none => (-2000 - nI i, none) | some S' => rn tp tl n (i + 1 + lbN (tp i)) (k + 1) S') else (nI k, some S)
def pst (tp : Nat → Nat) (tl : Nat) (S : VS) : Int32 × Option VS := match fw tp tl 0 0 with
  | some w => (-1000 - nI w, none)
  | none => rn tp tl 97 0 0 S
theorem lb34 (c : Nat) : lbN c = 0 ∨ (lbN c = 3 ∧ ¬ c = 107) ∨ (lbN c = 4 ∧ c = 107) := by
  unfold lbN
  split
  · omega
  · split <;> omega
theorem fw_0 {tp : Nat → Nat} {i l : Nat} (hl : ¬ l = 0) : fw tp 0 i l = some i := by
  unfold fw
  rw [if_neg (fun z => hl z.1)]
theorem fw_l {tp : Nat → Nat} {n i l : Nat} (hl : ¬ l = 0) (h : fw tp n i l = none) : ∃ n', n = n' + 1 ∧ fits l (tp i) = true ∧ fw tp n' (i + 1) (l - 1) = none := by
  cases n with
  | zero => rw [fw_0 hl] at h; cases h
  | succ n =>
    unfold fw at h
    rw [if_neg hl] at h
    by_cases e : fits l (tp i) = true
    · rw [if_pos e] at h
      exact ⟨n, rfl, e, h⟩
    · rw [if_neg e] at h
      cases h
theorem fw_ok {tp : Nat → Nat} {n i tl : Nat} (hi : i + (n + 1) = tl) (h : fw tp (n + 1) i 0 = none) : ¬ lbN (tp i) = 0 ∧ isDg (tp (i + 1)) = true ∧ isDg (tp (i + 2)) = true ∧ (tp i = 107 → isDg (tp (i + 3)) = true) ∧ tp (i + lbN (tp i)) = 59 ∧ ∃ n', i + 1 + lbN (tp i) + n' = tl ∧ fw tp n' (i + 1 + lbN (tp i)) 0 = none := by
  unfold fw at h
  rw [if_pos rfl] at h
  by_cases e : lbN (tp i) = 0
  · rw [if_pos e] at h; cases h
  · rw [if_neg e] at h
    refine ⟨e, ?_⟩
    rcases lb34 (tp i) with z | ⟨z, z2⟩ | ⟨z, z2⟩
    · exact absurd z e
    · rw [z] at h ⊢
      obtain ⟨n1, rfl, f1, h1⟩ := fw_l (by decide) h
      obtain ⟨n2, rfl, f2, h2⟩ := fw_l (by decide) h1
      obtain ⟨n3, rfl, f3, h3⟩ := fw_l (by decide) h2
      refine ⟨f1, f2, fun z3 => absurd z3 z2, of_decide_eq_true f3, n3, by omega, h3⟩
    · rw [z] at h ⊢
      obtain ⟨n1, rfl, f1, h1⟩ := fw_l (by decide) h
      obtain ⟨n2, rfl, f2, h2⟩ := fw_l (by decide) h1
      obtain ⟨n3, rfl, f3, h3⟩ := fw_l (by decide) h2
      obtain ⟨n4, rfl, f4, h4⟩ := fw_l (by decide) h3
      refine ⟨f1, f2, fun _ => f3, of_decide_eq_true f4, n4, by omega, h4⟩
theorem tl1_gv {tp : Nat → Nat} {S S' : VS} {i : Nat} (gS : GV S) (d1 : isDg (tp (i + 1)) = true) (d2 : isDg (tp (i + 2)) = true) (e : tl1 tp S i = some S') : GV S' := by
  have g := gS.1
  have hy := gS.2
  have a1 := dg_le d1
  have a2 := dg_le d2
  unfold tl1 at e
  split at e
  · split at e
    · cases e
    · cases e
      rename_i z
      have gn := g.n
      exact ⟨come_good g (by omega) (by omega) (by omega), hy⟩
  · split at e
    · split at e
      · cases e
      · cases e
        exact ⟨g.wR (by omega), hy⟩
    · split at e
      · split at e
        · cases e
        · cases e
          exact ⟨g.wW (sm_or (g.at (by omega)).2.2.2.1 (sm_bL (by omega))), hy⟩
      · split at e
        · split at e
          · cases e
          · cases e
            exact ⟨g.wS (sm_or g.s (sm_bL (by omega))), hy⟩
        · split at e
          · split at e
            · cases e
            · cases e
              exact ⟨g.wO (sm_xor g.o (sm_bL (by omega))), hy⟩
          · split at e
            · split at e
              · cases e
              · cases e
                exact ⟨g.wU (by omega), hy⟩
            · split at e
              · cases e
                rename_i z
                have kp := dayN_keep (ink := 0) (dm := false) (sh := false) (n := dd tp (i + 1)) g (by omega)
                exact ⟨kp.1, by rw [kp.2.2]; omega⟩
              · cases e
theorem fw_lt {tp : Nat → Nat} : ∀ {n i l w : Nat}, fw tp n i l = some w → w ≤ i + n := by
  intro n
  induction n with
  | zero =>
    intro i l w h
    unfold fw at h
    split at h
    · cases h
    · cases h; omega
  | succ n ih =>
    intro i l w h
    unfold fw at h
    split at h
    · split at h
      · cases h; omega
      · have := ih h; omega
    · split at h
      · have := ih h; omega
      · cases h; omega
theorem rn_sg {tp : Nat → Nat} {tl : Nat} (ht : tl ≤ 96) : ∀ {n i k : Nat} {S : VS}, k + n ≤ 97 → (∃ j, j ≤ 97 ∧ (rn tp tl n i k S).1 = nI j ∧ ∃ S', (rn tp tl n i k S).2 = some S') ∨ (∃ j, j ≤ 96 ∧ (rn tp tl n i k S).1 = -2000 - nI j ∧ (rn tp tl n i k S).2 = none) := by
  intro n
  induction n with
  | zero => exact fun {i k S} hk => Or.inl ⟨k, by omega, rfl, S, rfl⟩
  | succ n ih =>
    intro i k S hk
    unfold rn
    by_cases hl : i < tl
    · rw [if_pos hl]
      cases tl1 tp S i with
      | none => exact Or.inr ⟨i, by omega, rfl, rfl⟩
      | some S' => exact ih (by omega)
    · rw [if_neg hl]
      exact Or.inl ⟨k, by omega, rfl, S, rfl⟩
theorem neg1 : ∀ j, j ≤ 96 → (-1000 - nI j < 0) ∧ (-2000 - nI j < 0) := by decide +kernel
theorem pos97 {j : Nat} (h : j ≤ 97) : ¬ nI j < 0 := fun z => Nat.not_lt_zero _ ((nI_ltI (b := 0) (by omega) (by decide)).mp z)
theorem pst_sg {tp : Nat → Nat} {tl : Nat} (ht : tl ≤ 96) (S : VS) : ((¬ (pst tp tl S).1 < 0) ∧ ∃ S', (pst tp tl S).2 = some S') ∨ (((pst tp tl S).1 < 0) ∧ (pst tp tl S).2 = none) := by
  unfold pst
  cases hw : fw tp tl 0 0 with
  | some w =>
    have := fw_lt hw
    exact Or.inr ⟨(neg1 w (by omega)).1, rfl⟩
  | none =>
    rcases rn_sg ht (n := 97) (i := 0) (k := 0) (S := S) (by omega) with ⟨j, hj, e1, S', e2⟩ | ⟨j, hj, e1, e2⟩
    · exact Or.inl ⟨by show ¬ (rn tp tl 97 0 0 S).1 < 0; rw [e1]; exact pos97 hj, S', e2⟩
    · exact Or.inr ⟨by show (rn tp tl 97 0 0 S).1 < 0; rw [e1]; exact (neg1 j hj).2, e2⟩
set_option maxHeartbeats 8000000 in
theorem v_readInto {d tl : Nat} {tp : Nat → Nat} {Q : PQ} {h : HP} {x : Nat} {S : VS} (K : XK h x) (T : XT h x tp tl) (q : RV h (x + 20) S) (gS : GV S) (f : FV h (x + 20) 0 false false)
    (k : ∀ h', Fm (x + 20) 12 h h' → (∀ S', (pst tp tl S).2 = some S' → RV h' (x + 20) S' ∧ GV S') → Q (some (.int (pst tp tl S).1)) h') : Ev (d + 7) 22 [.ref (x + 3), .ref (x + 20)] h Q := by
  have K0 := K
  unfold XK at K0
  have loop : ∀ (fu n i j : Nat) (S1 : VS) (h1 : HP), i + n = tl → n ≤ fu → (0 < n → fw tp n i 0 = none) → j ≤ i → Fm (x + 20) 12 h h1 → RV h1 (x + 20) S1 → GV S1 → FV h1 (x + 20) 0 false false →
      (∀ h', Fm (x + 20) 12 h h' → (∀ S', (rn tp tl fu i j S1).2 = some S' → RV h' (x + 20) S' ∧ GV S') → Q (some (.int (rn tp tl fu i j S1).1)) h') →
      WP (d + 6) 22 Q (20, [.val (.ref (x + 3)), .val (.ref (x + 20)), .val (.int (-1)), .val (.int (nI i)), .val (.int (nI j))], [], h1, 0, 0) := by
    intro fu
    induction fu with
    | zero =>
      intro n i j S1 h1 hi hn hf hj m q1 g1 f1 kk
      have K1 := K.kept m.2.1 m.2.2.1 m.2.2.2.1
      unfold XK at K1
      obtain rfl : i = tl := by omega
      have t1 := (T.kept m (Or.inl (by omega))).1
      rw [s22_20]
      simp only [s22_0, s22_1, s22_4, s22_5, s22_6, s22_9, s22_12, s22_13, s22_14, s22_15, s22_16, s22_17, s22_18, s22_21, s22_22, s22_25, s22_28, s22_30, s22_32, s22_35, s22_36, s22_37, s22_38, s22_41, s22_44, s22_47, s22_48, s22_49, s22_50, s22_51, s22_52, s22_53, s22_56, s22_57, s22_58, s22_61, s22_62, s22_63, s22_64, s22_67, s22_70, s22_72, oB_some, cl2_i, cl2_r, cl2_l, cl2_u, cl2_s, wd_0, wd_i, wd_r, wd_l, wd_f, ct_i, ct_r, ct_n, ct_f, rf_s, rf_n, tl_s, tl_n, true_and, and_true, eq_self, and_self, Nat.reduceAdd, Nat.reduceLeDiff, Nat.zero_le, Nat.reduceEqDiff, or_true, true_or, false_or, or_false, if_true, if_false, gI_0, gI_1, gI_2, gI_3, gI_4, gI_5, gI_6, gI_7, gI_8, gI_9, gI_10, gI_11, gI_12, gI_13, gI_14, gI_15, gL_0, gL_1, gL_2, gL_3, gL_4, gL_5, gL_6, gL_7, gL_8, gL_9, gL_10, gL_11, gL_12, gL_13, gL_14, gL_15, gA_0, gA_1, gA_2, gA_3, gA_4, gA_5, gA_6, gA_7, gA_8, gA_9, gA_10, gA_11, gA_12, gA_13, gA_14, gA_15, p1_0, p1_1, p1_2, p1_3, p1_4, p1_5, p1_6, p1_7, p1_8, p1_9, p1_10, p1_11, p1_12, p1_13, p1_14, p1_15, p2_0, p2_1, p2_2, p2_3, p2_4, p2_5, p2_6, p2_7, p2_8, p2_9, p2_10, p2_11, p2_12, p2_13, p2_14, p2_15, b01_ok, b_ft, b_tf, b01_e0, b01_e1, lgc_0, not_true_eq_false, not_false_eq_true, K1, t1, Int32.le_refl]
      exact kk h1 m fun S' e => by cases e; exact ⟨q1, g1⟩
    | succ fu ih =>
      intro n i j S1 h1 hi hn hf hj m q1 g1 f1 kk
      have Ka := K.kept m.2.1 m.2.2.1 m.2.2.2.1
      have K1 := Ka
      unfold XK at K1
      have T1 := T.kept m (Or.inl (by omega))
      have t1 := T1.1
      have t96 := T1.2.1
      unfold rn at kk
      rw [s22_20]
      by_cases hlt : i < tl
      · obtain ⟨n0, rfl⟩ : ∃ n0, n = n0 + 1 := ⟨n - 1, by omega⟩
        obtain ⟨l0, d1, d2, d3, -, n', hn', hf'⟩ := fw_ok hi (hf (by omega))
        rw [if_pos hlt] at kk
        have i31 : i < 2 ^ 31 := by omega
        have i96 : i < 96 := by omega
        have j96 : ((96 : Int32) ≤ nI j) = False := eq_false (nI_ge (b := 96) (by omega) (by decide))
        have ge : (nI tl ≤ nI i) = False := eq_false (nI_ge hlt (by omega))
        have lbb := lb34 (tp i)
        simp only [s22_0, s22_1, s22_4, s22_5, s22_6, s22_9, s22_12, s22_13, s22_14, s22_15, s22_16, s22_17, s22_18, s22_21, s22_22, s22_25, s22_28, s22_30, s22_32, s22_35, s22_36, s22_37, s22_38, oB_some, cl2_i, cl2_r, cl2_l, cl2_u, cl2_s, wd_0, wd_i, wd_r, wd_l, wd_f, ct_i, ct_r, ct_n, ct_f, rf_s, rf_n, tl_s, tl_n, true_and, and_true, eq_self, and_self, Nat.reduceAdd, Nat.reduceLeDiff, Nat.zero_le, Nat.reduceEqDiff, or_true, true_or, false_or, or_false, if_true, if_false, gI_0, gI_1, gI_2, gI_3, gI_4, gI_5, gI_6, gI_7, gI_8, gI_9, gI_10, gI_11, gI_12, gI_13, gI_14, gI_15, gL_0, gL_1, gL_2, gL_3, gL_4, gL_5, gL_6, gL_7, gL_8, gL_9, gL_10, gL_11, gL_12, gL_13, gL_14, gL_15, gA_0, gA_1, gA_2, gA_3, gA_4, gA_5, gA_6, gA_7, gA_8, gA_9, gA_10, gA_11, gA_12, gA_13, gA_14, gA_15, p1_0, p1_1, p1_2, p1_3, p1_4, p1_5, p1_6, p1_7, p1_8, p1_9, p1_10, p1_11, p1_12, p1_13, p1_14, p1_15, p2_0, p2_1, p2_2, p2_3, p2_4, p2_5, p2_6, p2_7, p2_8, p2_9, p2_10, p2_11, p2_12, p2_13, p2_14, p2_15, b01_ok, b_ft, b_tf, b01_e0, b01_e1, lgc_0, not_true_eq_false, not_false_eq_true, K1, t1, ge, j96]
        refine v_tell Ka T1 (by omega) l0 d1 d2 d3 q1 g1 f1 (fun e0 => ?_) fun S2 e2 h2 m2 q2 f2 => ?_
        · simp only [s22_41, s22_44, s22_47, s22_48, s22_49, oB_some, cl2_i, cl2_r, cl2_l, cl2_u, cl2_s, wd_0, wd_i, wd_r, wd_l, wd_f, ct_i, ct_r, ct_n, ct_f, rf_s, rf_n, tl_s, tl_n, true_and, and_true, eq_self, and_self, Nat.reduceAdd, Nat.reduceLeDiff, Nat.zero_le, Nat.reduceEqDiff, or_true, true_or, false_or, or_false, if_true, if_false, gI_0, gI_1, gI_2, gI_3, gI_4, gI_5, gI_6, gI_7, gI_8, gI_9, gI_10, gI_11, gI_12, gI_13, gI_14, gI_15, gL_0, gL_1, gL_2, gL_3, gL_4, gL_5, gL_6, gL_7, gL_8, gL_9, gL_10, gL_11, gL_12, gL_13, gL_14, gL_15, gA_0, gA_1, gA_2, gA_3, gA_4, gA_5, gA_6, gA_7, gA_8, gA_9, gA_10, gA_11, gA_12, gA_13, gA_14, gA_15, p1_0, p1_1, p1_2, p1_3, p1_4, p1_5, p1_6, p1_7, p1_8, p1_9, p1_10, p1_11, p1_12, p1_13, p1_14, p1_15, p2_0, p2_1, p2_2, p2_3, p2_4, p2_5, p2_6, p2_7, p2_8, p2_9, p2_10, p2_11, p2_12, p2_13, p2_14, p2_15, b01_ok, b_ft, b_tf, b01_e0, b01_e1, lgc_0, not_true_eq_false, not_false_eq_true]
          rw [e0] at kk
          exact kk h1 m fun S' e => by cases e
        · rw [e2] at kk
          have mm := m.tr m2
          have Kb := K.kept mm.2.1 mm.2.2.1 mm.2.2.2.1
          unfold XK at Kb
          have T2 := T.kept mm (Or.inl (by omega))
          obtain ⟨ti, tb⟩ := T2.2.2 i hlt
          have e1 : nI i + (1 + nI (lbN (tp i))) = nI (i + 1 + lbN (tp i)) := by
            rw [show (1 : Int32) = nI 1 from rfl, nI_add, nI_add, Nat.add_assoc]
          simp only [s22_41, s22_50, s22_51, s22_52, s22_53, s22_56, s22_57, s22_58, s22_61, s22_62, s22_63, s22_64, s22_67, oB_some, cl2_i, cl2_r, cl2_l, cl2_u, cl2_s, wd_0, wd_i, wd_r, wd_l, wd_f, ct_i, ct_r, ct_n, ct_f, rf_s, rf_n, tl_s, tl_n, true_and, and_true, eq_self, and_self, Nat.reduceAdd, Nat.reduceLeDiff, Nat.zero_le, Nat.reduceEqDiff, or_true, true_or, false_or, or_false, if_true, if_false, gI_0, gI_1, gI_2, gI_3, gI_4, gI_5, gI_6, gI_7, gI_8, gI_9, gI_10, gI_11, gI_12, gI_13, gI_14, gI_15, gL_0, gL_1, gL_2, gL_3, gL_4, gL_5, gL_6, gL_7, gL_8, gL_9, gL_10, gL_11, gL_12, gL_13, gL_14, gL_15, gA_0, gA_1, gA_2, gA_3, gA_4, gA_5, gA_6, gA_7, gA_8, gA_9, gA_10, gA_11, gA_12, gA_13, gA_14, gA_15, p1_0, p1_1, p1_2, p1_3, p1_4, p1_5, p1_6, p1_7, p1_8, p1_9, p1_10, p1_11, p1_12, p1_13, p1_14, p1_15, p2_0, p2_1, p2_2, p2_3, p2_4, p2_5, p2_6, p2_7, p2_8, p2_9, p2_10, p2_11, p2_12, p2_13, p2_14, p2_15, b01_ok, b_ft, b_tf, b01_e0, b01_e1, lgc_0, not_true_eq_false, not_false_eq_true, Kb, z10, ix_nI i31, nI_pos' i31, i96, ti, v_lettersBehind tb, e1, nI_1]
          exact ih n' (i + 1 + lbN (tp i)) (j + 1) S2 h2 hn' (by omega) (fun _ => hf') (by omega) mm q2 (tl1_gv g1 d1 d2 e2) f2 kk
      · obtain rfl : i = tl := by omega
        rw [if_neg hlt] at kk
        simp only [s22_0, s22_1, s22_4, s22_5, s22_6, s22_9, s22_12, s22_13, s22_14, s22_15, s22_16, s22_17, s22_18, s22_21, s22_22, s22_25, s22_28, s22_30, s22_32, s22_35, s22_36, s22_37, s22_38, s22_41, s22_44, s22_47, s22_48, s22_49, s22_50, s22_51, s22_52, s22_53, s22_56, s22_57, s22_58, s22_61, s22_62, s22_63, s22_64, s22_67, s22_70, s22_72, oB_some, cl2_i, cl2_r, cl2_l, cl2_u, cl2_s, wd_0, wd_i, wd_r, wd_l, wd_f, ct_i, ct_r, ct_n, ct_f, rf_s, rf_n, tl_s, tl_n, true_and, and_true, eq_self, and_self, Nat.reduceAdd, Nat.reduceLeDiff, Nat.zero_le, Nat.reduceEqDiff, or_true, true_or, false_or, or_false, if_true, if_false, gI_0, gI_1, gI_2, gI_3, gI_4, gI_5, gI_6, gI_7, gI_8, gI_9, gI_10, gI_11, gI_12, gI_13, gI_14, gI_15, gL_0, gL_1, gL_2, gL_3, gL_4, gL_5, gL_6, gL_7, gL_8, gL_9, gL_10, gL_11, gL_12, gL_13, gL_14, gL_15, gA_0, gA_1, gA_2, gA_3, gA_4, gA_5, gA_6, gA_7, gA_8, gA_9, gA_10, gA_11, gA_12, gA_13, gA_14, gA_15, p1_0, p1_1, p1_2, p1_3, p1_4, p1_5, p1_6, p1_7, p1_8, p1_9, p1_10, p1_11, p1_12, p1_13, p1_14, p1_15, p2_0, p2_1, p2_2, p2_3, p2_4, p2_5, p2_6, p2_7, p2_8, p2_9, p2_10, p2_11, p2_12, p2_13, p2_14, p2_15, b01_ok, b_ft, b_tf, b01_e0, b01_e1, lgc_0, not_true_eq_false, not_false_eq_true, K1, t1, Int32.le_refl]
        exact kk h1 m fun S' e => by cases e; exact ⟨q1, g1⟩
  have t96 := T.2.1
  simp only [e22, s22_0, s22_1, s22_4, oB_some, cl2_i, cl2_r, cl2_l, cl2_u, cl2_s, wd_0, wd_i, wd_r, wd_l, wd_f, ct_i, ct_r, ct_n, ct_f, rf_s, rf_n, tl_s, tl_n, true_and, and_true, eq_self, and_self, Nat.reduceAdd, Nat.reduceLeDiff, Nat.zero_le, Nat.reduceEqDiff, or_true, true_or, false_or, or_false, if_true, if_false, gI_0, gI_1, gI_2, gI_3, gI_4, gI_5, gI_6, gI_7, gI_8, gI_9, gI_10, gI_11, gI_12, gI_13, gI_14, gI_15, gL_0, gL_1, gL_2, gL_3, gL_4, gL_5, gL_6, gL_7, gL_8, gL_9, gL_10, gL_11, gL_12, gL_13, gL_14, gL_15, gA_0, gA_1, gA_2, gA_3, gA_4, gA_5, gA_6, gA_7, gA_8, gA_9, gA_10, gA_11, gA_12, gA_13, gA_14, gA_15, p1_0, p1_1, p1_2, p1_3, p1_4, p1_5, p1_6, p1_7, p1_8, p1_9, p1_10, p1_11, p1_12, p1_13, p1_14, p1_15, p2_0, p2_1, p2_2, p2_3, p2_4, p2_5, p2_6, p2_7, p2_8, p2_9, p2_10, p2_11, p2_12, p2_13, p2_14, p2_15, b01_ok, b_ft, b_tf, b01_e0, b01_e1, lgc_0, not_true_eq_false, not_false_eq_true, K0, v_firstWrong K T]
  unfold pst at k
  cases hw : fw tp tl 0 0 with
  | some w =>
    have hw96 := fw_lt hw
    have w0 : (nI w < 0) = False := eq_false (fun z => Nat.not_lt_zero _ ((nI_ltI (b := 0) (by omega) (by decide)).mp z))
    rw [hw] at k
    simp only [oW, s22_5, s22_6, s22_9, s22_12, s22_13, s22_14, oB_some, cl2_i, cl2_r, cl2_l, cl2_u, cl2_s, wd_0, wd_i, wd_r, wd_l, wd_f, ct_i, ct_r, ct_n, ct_f, rf_s, rf_n, tl_s, tl_n, true_and, and_true, eq_self, and_self, Nat.reduceAdd, Nat.reduceLeDiff, Nat.zero_le, Nat.reduceEqDiff, or_true, true_or, false_or, or_false, if_true, if_false, gI_0, gI_1, gI_2, gI_3, gI_4, gI_5, gI_6, gI_7, gI_8, gI_9, gI_10, gI_11, gI_12, gI_13, gI_14, gI_15, gL_0, gL_1, gL_2, gL_3, gL_4, gL_5, gL_6, gL_7, gL_8, gL_9, gL_10, gL_11, gL_12, gL_13, gL_14, gL_15, gA_0, gA_1, gA_2, gA_3, gA_4, gA_5, gA_6, gA_7, gA_8, gA_9, gA_10, gA_11, gA_12, gA_13, gA_14, gA_15, p1_0, p1_1, p1_2, p1_3, p1_4, p1_5, p1_6, p1_7, p1_8, p1_9, p1_10, p1_11, p1_12, p1_13, p1_14, p1_15, p2_0, p2_1, p2_2, p2_3, p2_4, p2_5, p2_6, p2_7, p2_8, p2_9, p2_10, p2_11, p2_12, p2_13, p2_14, p2_15, b01_ok, b_ft, b_tf, b01_e0, b01_e1, lgc_0, not_true_eq_false, not_false_eq_true, w0]
    exact k h Fm.rf fun S' e => by cases e
  | none =>
    rw [hw] at k
    simp only [oW, s22_5, s22_6, s22_9, s22_12, s22_13, s22_14, s22_15, s22_16, s22_17, s22_18, oB_some, cl2_i, cl2_r, cl2_l, cl2_u, cl2_s, wd_0, wd_i, wd_r, wd_l, wd_f, ct_i, ct_r, ct_n, ct_f, rf_s, rf_n, tl_s, tl_n, true_and, and_true, eq_self, and_self, Nat.reduceAdd, Nat.reduceLeDiff, Nat.zero_le, Nat.reduceEqDiff, or_true, true_or, false_or, or_false, if_true, if_false, gI_0, gI_1, gI_2, gI_3, gI_4, gI_5, gI_6, gI_7, gI_8, gI_9, gI_10, gI_11, gI_12, gI_13, gI_14, gI_15, gL_0, gL_1, gL_2, gL_3, gL_4, gL_5, gL_6, gL_7, gL_8, gL_9, gL_10, gL_11, gL_12, gL_13, gL_14, gL_15, gA_0, gA_1, gA_2, gA_3, gA_4, gA_5, gA_6, gA_7, gA_8, gA_9, gA_10, gA_11, gA_12, gA_13, gA_14, gA_15, p1_0, p1_1, p1_2, p1_3, p1_4, p1_5, p1_6, p1_7, p1_8, p1_9, p1_10, p1_11, p1_12, p1_13, p1_14, p1_15, p2_0, p2_1, p2_2, p2_3, p2_4, p2_5, p2_6, p2_7, p2_8, p2_9, p2_10, p2_11, p2_12, p2_13, p2_14, p2_15, b01_ok, b_ft, b_tf, b01_e0, b01_e1, lgc_0, not_true_eq_false, not_false_eq_true, show ((-1 : Int32) < 0) = True from by decide]
    exact loop 97 tl 0 0 S h (by omega) (by omega) (fun _ => hw) (by omega) Fm.rf q gS f k
