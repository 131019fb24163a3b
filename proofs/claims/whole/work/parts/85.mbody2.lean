-- the other side's questions behind their refusals, on
def mnC (b : Option Nat) (j : Nat) : Bool := match b with
  | none => true
  | some x => decide (pc j < pc x)
def mnA (p : Nat → Bool) : Nat → Nat → Option Nat → Option Nat
  | 0, _, b => b
  | m + 1, j, b => mnA p m (j + 1) (if (mnC b j && p j) = true then some j else b)
theorem mnA_s (p : Nat → Bool) (m j : Nat) (b : Option Nat) : mnA p (m + 1) j b = mnA p m (j + 1) (if (mnC b j && p j) = true then some j else b) := rfl
def mnR (p : Nat → Bool) (M : Nat) (b : Option Nat) : Prop := match b with
  | none => ∀ i, i < M → p i = false
  | some x => x < M ∧ p x = true ∧ ∀ i, i < M → p i = true → (pc x < pc i ∨ (pc x = pc i ∧ x ≤ i))
theorem mnA_R {p : Nat → Bool} : ∀ (m j : Nat) (b : Option Nat), mnR p j b → mnR p (j + m) (mnA p m j b)
  | 0, j, b, h => h
  | m + 1, j, b, h => by
    rw [mnA_s, show j + (m + 1) = j + 1 + m by omega]
    refine mnA_R m (j + 1) _ ?_
    cases b with
    | none =>
      by_cases c : p j = true
      · rw [if_pos (by simp [mnC, c])]
        refine ⟨by omega, c, fun i hi hp => ?_⟩
        by_cases e : i = j
        · exact Or.inr ⟨by rw [e], by omega⟩
        · have := h i (by omega)
          rw [this] at hp
          cases hp
      · rw [if_neg (by simp [mnC, c])]
        intro i hi
        by_cases e : i = j
        · rw [e]; simpa using c
        · exact h i (by omega)
    | some x =>
      obtain ⟨h1, h2, h3⟩ := h
      by_cases c : (mnC (some x) j && p j) = true
      · rw [if_pos c]
        rw [Bool.and_eq_true] at c
        have c1 : pc j < pc x := by simpa [mnC] using c.1
        refine ⟨by omega, c.2, fun i hi hp => ?_⟩
        by_cases e : i = j
        · exact Or.inr ⟨by rw [e], by omega⟩
        · have := h3 i (by omega) hp
          exact Or.inl (by omega)
      · rw [if_neg c]
        refine ⟨by omega, h2, fun i hi hp => ?_⟩
        by_cases e : i = j
        · subst e
          have : ¬ pc i < pc x := fun z => c (by simp [mnC, z, hp])
          omega
        · exact h3 i (by omega) hp
theorem findA_some {f : Nat → Bool} : ∀ (m j : Nat) {b : Nat}, findA f m j = some b → j ≤ b ∧ b < j + m ∧ f b = true ∧ ∀ i, j ≤ i → i < b → f i = false
  | 0, j, b, h => by cases h
  | m + 1, j, b, h => by
    rw [findA_s] at h
    by_cases c : f j = true
    · rw [if_pos c] at h
      cases h
      exact ⟨Nat.le_refl _, by omega, c, fun i h1 h2 => by omega⟩
    · rw [if_neg c] at h
      obtain ⟨h1, h2, h3, h4⟩ := findA_some m (j + 1) h
      refine ⟨by omega, by omega, h3, fun i h5 h6 => ?_⟩
      by_cases e : i = j
      · rw [e]; simpa using c
      · exact h4 i (by omega) h6
theorem inkA_R {p : Nat → Bool} {M : Nat} : ∀ (m few : Nat), (∀ i, i < M → p i = true → few ≤ pc i ∧ pc i < few + m) → mnR p M (inkA p M m few)
  | 0, few, h => fun i hi => by
    cases e : p i with
    | false => rfl
    | true => have := h i hi e; omega
  | m + 1, few, h => by
    rw [inkA_s]
    cases e : findA (fun b => decide (pc b = few) && p b) M 0 with
    | some b =>
      obtain ⟨h1, h2, h3, h4⟩ := findA_some M 0 e
      have h3' : pc b = few ∧ p b = true := by simpa using h3
      refine ⟨by omega, h3'.2, fun i hi hp => ?_⟩
      have := h i hi hp
      by_cases c : pc i = few
      · refine Or.inr ⟨by omega, ?_⟩
        by_cases d : i < b
        · have := h4 i (Nat.zero_le _) d
          simp [c, hp] at this
        · omega
      · exact Or.inl (by omega)
    | none =>
      have hn := (findA_none M 0).mp e
      refine inkA_R m (few + 1) fun i hi hp => ?_
      have a := h i hi hp
      have b := hn i (Nat.zero_le _) (by omega)
      have c : ¬ pc i = few := fun z => by simp [z, hp] at b
      omega
theorem mnR_one {p : Nat → Bool} {M : Nat} {a b : Option Nat} (ha : mnR p M a) (hb : mnR p M b) : a = b := by
  cases a with
  | none =>
    cases b with
    | none => rfl
    | some y =>
      obtain ⟨h1, h2, -⟩ := hb
      have := ha y h1
      rw [this] at h2
      cases h2
  | some x =>
    obtain ⟨a1, a2, a3⟩ := ha
    cases b with
    | none =>
      have := hb x a1
      rw [this] at a2
      cases a2
    | some y =>
      obtain ⟨b1, b2, b3⟩ := hb
      have h1 := a3 y b1 b2
      have h2 := b3 x a1 a2
      congr 1
      omega
theorem ink_eq {p : Nat → Bool} {n : Nat} (hn : n ≤ 6) : mnA p (2 ^ n) 0 none = inkA p (2 ^ n) (n + 1) 0 := by
  have a := mnA_R (p := p) (2 ^ n) 0 none (fun i hi => by omega)
  rw [Nat.zero_add] at a
  exact mnR_one a (inkA_R (n + 1) 0 fun i hi hp => ⟨Nat.zero_le _, by have := pc_n n (by omega) i hi; omega⟩)
set_option maxHeartbeats 8000000 in
theorem b_ink {d n c : Nat} {Q : PQ} {h : HP} {m : Nat} {S : VS} (M : MO h m S) (g : Good S) (hy : vy S ≤ 999) (hn : n ≤ 30) (hc : c < 40)
    (k : ∀ h', FQ m h h' → MO h' m S → Q (some (.int (oN (inkA (inkN S c n) (2 ^ vn S) (vn S + 1) 0)))) h') : WP (d + 8) 176 Q (42, [.val (.ref m), .val (.int (nI c)), .val (.int (nI n)), .val (.int 0), .unset, .unset], [], h, 0, 0) := by
  have gn := g.n
  have M64 := two6 gn
  rw [← ink_eq gn] at k
  have loop : ∀ (v j : Nat) (h1 : HP) (b : Option Nat), j + v = 2 ^ vn S → FQ m h h1 → MO h1 m S → (∀ a, b = some a → a < 64) → mnA (inkN S c n) v j b = mnA (inkN S c n) (2 ^ vn S) 0 none →
      WP (d + 8) 176 Q (49, [.val (.ref m), .val (.int (nI c)), .val (.int (nI n)), .val (.int 0), .val (.int (oN b)), .val (.int (nI j))], [], h1, 0, 0) := by
    intro v
    induction v with
    | zero =>
      intro j h1 b hj f1 m1 b1 e1
      obtain rfl : j = 2 ^ vn S := by omega
      have K1 := m1.1.k
      unfold MK at K1
      rw [s176_49]
      simp only [s176_51, s176_52, s176_53, s176_56, s176_57, s176_122, s176_124, oB_some, cl2_i, cl2_r, cl2_l, cl2_u, cl2_s, wd_0, wd_i, wd_r, wd_l, wd_f, ct_i, ct_r, ct_n, ct_f, rf_s, rf_n, tl_s, tl_n, true_and, and_true, eq_self, and_self, Nat.reduceAdd, Nat.reduceLeDiff, Nat.zero_le, Nat.reduceEqDiff, or_true, true_or, false_or, or_false, if_true, if_false, gI_0, gI_1, gI_2, gI_3, gI_4, gI_5, gI_6, gI_7, gI_8, gI_9, gI_10, gI_11, gI_12, gI_13, gI_14, gI_15, gL_0, gL_1, gL_2, gL_3, gL_4, gL_5, gL_6, gL_7, gL_8, gL_9, gL_10, gL_11, gL_12, gL_13, gL_14, gL_15, gA_0, gA_1, gA_2, gA_3, gA_4, gA_5, gA_6, gA_7, gA_8, gA_9, gA_10, gA_11, gA_12, gA_13, gA_14, gA_15, p1_0, p1_1, p1_2, p1_3, p1_4, p1_5, p1_6, p1_7, p1_8, p1_9, p1_10, p1_11, p1_12, p1_13, p1_14, p1_15, p2_0, p2_1, p2_2, p2_3, p2_4, p2_5, p2_6, p2_7, p2_8, p2_9, p2_10, p2_11, p2_12, p2_13, p2_14, p2_15, b01_ok, b_ft, b_tf, b01_e0, b01_e1, lgc_0, not_true_eq_false, not_false_eq_true, K1, m1.1.n, shl1 (vn S) (by omega), Int32.le_refl]
      have kk := k h1 f1 m1
      rw [← e1] at kk
      exact kk
    | succ v ih =>
      intro j h1 b hj f1 m1 b1 e1
      have K1 := m1.1.k
      unfold MK at K1
      have z : ¬ nI (2 ^ vn S) ≤ nI j := nI_ge (by omega) (by omega)
      have j31 : j < 2 ^ 31 := by omega
      rw [mnA_s] at e1
      have skip : ∀ (h2 : HP), FQ m h h2 → MO h2 m S → (mnC b j && inkN S c n j) = false → WP (d + 8) 176 Q (116, [.val (.ref m), .val (.int (nI c)), .val (.int (nI n)), .val (.int 0), .val (.int (oN b)), .val (.int (nI j))], [], h2, 0, 0) := by
        intro h2 f2 m2 e
        rw [e, if_neg (by decide)] at e1
        simp only [s176_116, s176_119, oB_some, cl2_i, cl2_r, cl2_l, cl2_u, cl2_s, wd_0, wd_i, wd_r, wd_l, wd_f, ct_i, ct_r, ct_n, ct_f, rf_s, rf_n, tl_s, tl_n, true_and, and_true, eq_self, and_self, Nat.reduceAdd, Nat.reduceLeDiff, Nat.zero_le, Nat.reduceEqDiff, or_true, true_or, false_or, or_false, if_true, if_false, gI_0, gI_1, gI_2, gI_3, gI_4, gI_5, gI_6, gI_7, gI_8, gI_9, gI_10, gI_11, gI_12, gI_13, gI_14, gI_15, gL_0, gL_1, gL_2, gL_3, gL_4, gL_5, gL_6, gL_7, gL_8, gL_9, gL_10, gL_11, gL_12, gL_13, gL_14, gL_15, gA_0, gA_1, gA_2, gA_3, gA_4, gA_5, gA_6, gA_7, gA_8, gA_9, gA_10, gA_11, gA_12, gA_13, gA_14, gA_15, p1_0, p1_1, p1_2, p1_3, p1_4, p1_5, p1_6, p1_7, p1_8, p1_9, p1_10, p1_11, p1_12, p1_13, p1_14, p1_15, p2_0, p2_1, p2_2, p2_3, p2_4, p2_5, p2_6, p2_7, p2_8, p2_9, p2_10, p2_11, p2_12, p2_13, p2_14, p2_15, b01_ok, b_ft, b_tf, b01_e0, b01_e1, lgc_0, not_true_eq_false, not_false_eq_true, nI_1]
        exact ih (j + 1) h2 b (by omega) f2 m2 b1 e1
      have try_ : mnC b j = true → WP (d + 8) 176 Q (83, [.val (.ref m), .val (.int (nI c)), .val (.int (nI n)), .val (.int 0), .val (.int (oN b)), .val (.int (nI j))], [], h1, 0, 0) := by
        intro eb
        simp only [s176_83, s176_84, oB_some, cl2_i, cl2_r, cl2_l, cl2_u, cl2_s, wd_0, wd_i, wd_r, wd_l, wd_f, ct_i, ct_r, ct_n, ct_f, rf_s, rf_n, tl_s, tl_n, true_and, and_true, eq_self, and_self, Nat.reduceAdd, Nat.reduceLeDiff, Nat.zero_le, Nat.reduceEqDiff, or_true, true_or, false_or, or_false, if_true, if_false, gI_0, gI_1, gI_2, gI_3, gI_4, gI_5, gI_6, gI_7, gI_8, gI_9, gI_10, gI_11, gI_12, gI_13, gI_14, gI_15, gL_0, gL_1, gL_2, gL_3, gL_4, gL_5, gL_6, gL_7, gL_8, gL_9, gL_10, gL_11, gL_12, gL_13, gL_14, gL_15, gA_0, gA_1, gA_2, gA_3, gA_4, gA_5, gA_6, gA_7, gA_8, gA_9, gA_10, gA_11, gA_12, gA_13, gA_14, gA_15, p1_0, p1_1, p1_2, p1_3, p1_4, p1_5, p1_6, p1_7, p1_8, p1_9, p1_10, p1_11, p1_12, p1_13, p1_14, p1_15, p2_0, p2_1, p2_2, p2_3, p2_4, p2_5, p2_6, p2_7, p2_8, p2_9, p2_10, p2_11, p2_12, p2_13, p2_14, p2_15, b01_ok, b_ft, b_tf, b01_e0, b01_e1, lgc_0, not_true_eq_false, not_false_eq_true, K1]
        refine m_minds m1.1 g m1.2 fun h2 f2 q2 l2 p2 => ?_
        have K2 := q2.k
        unfold MK at K2
        have q3 : RM (sI h2 m 19 (nI j)) m S := RM_i q2 (by decide)
        simp only [s176_87, s176_88, s176_90, s176_93, s176_94, s176_95, s176_96, s176_97, oB_some, cl2_i, cl2_r, cl2_l, cl2_u, cl2_s, wd_0, wd_i, wd_r, wd_l, wd_f, ct_i, ct_r, ct_n, ct_f, rf_s, rf_n, tl_s, tl_n, true_and, and_true, eq_self, and_self, Nat.reduceAdd, Nat.reduceLeDiff, Nat.zero_le, Nat.reduceEqDiff, or_true, true_or, false_or, or_false, if_true, if_false, gI_0, gI_1, gI_2, gI_3, gI_4, gI_5, gI_6, gI_7, gI_8, gI_9, gI_10, gI_11, gI_12, gI_13, gI_14, gI_15, gL_0, gL_1, gL_2, gL_3, gL_4, gL_5, gL_6, gL_7, gL_8, gL_9, gL_10, gL_11, gL_12, gL_13, gL_14, gL_15, gA_0, gA_1, gA_2, gA_3, gA_4, gA_5, gA_6, gA_7, gA_8, gA_9, gA_10, gA_11, gA_12, gA_13, gA_14, gA_15, p1_0, p1_1, p1_2, p1_3, p1_4, p1_5, p1_6, p1_7, p1_8, p1_9, p1_10, p1_11, p1_12, p1_13, p1_14, p1_15, p2_0, p2_1, p2_2, p2_3, p2_4, p2_5, p2_6, p2_7, p2_8, p2_9, p2_10, p2_11, p2_12, p2_13, p2_14, p2_15, b01_ok, b_ft, b_tf, b01_e0, b01_e1, lgc_0, not_true_eq_false, not_false_eq_true, z_hkd_sI, z_hln_sI, z_hL_sI, z_hR_sI, z_hnx_sI, z_hkd_sL, z_hln_sL, z_hI_sL, z_hR_sL, z_hnx_sL, z_hkd_sR, z_hln_sR, z_hI_sR, z_hL_sR, z_hnx_sR, z_hkd_cI, z_hln_cI, z_hL_cI, z_hR_cI, z_hnx_cI, z_hkd_cLg, z_hln_cLg, z_hI_cLg, z_hR_cLg, z_hnx_cLg, K2]
        refine m_isKnownBehind (n := n) (p := -1) q3 g (FMl_ink l2) (show j < 64 by omega) (show vy S + n < 2 ^ 20 by omega) (by unfold isKI; rfl) (show c < 64 by omega) fun h4 f4 q4 => ?_
        have K4 := q4.k
        unfold MK at K4
        have p4 := (p2.w g (a := m) (k := 19) (x := nI j) (by omega)).fd g f4
        have ff : FQ m h h4 := f1.tr (f2.tr ((FQ.rf.sI (a := m) (k := 19) (Or.inl ⟨rfl, by omega⟩)).tr f4.fq))
        have ek : hb (knN (dayN j false false n S) (-1)) c = !inkN S c n j := by
          unfold inkN
          rw [knN_m1, Bool.not_not]
        rw [ek]
        by_cases e : inkN S c n j = true
        · rw [eb, e, if_pos (by decide)] at e1
          simp only [s176_100, s176_103, s176_105, s176_108, s176_110, s176_112, s176_113, oB_some, cl2_i, cl2_r, cl2_l, cl2_u, cl2_s, wd_0, wd_i, wd_r, wd_l, wd_f, ct_i, ct_r, ct_n, ct_f, rf_s, rf_n, tl_s, tl_n, true_and, and_true, eq_self, and_self, Nat.reduceAdd, Nat.reduceLeDiff, Nat.zero_le, Nat.reduceEqDiff, or_true, true_or, false_or, or_false, if_true, if_false, gI_0, gI_1, gI_2, gI_3, gI_4, gI_5, gI_6, gI_7, gI_8, gI_9, gI_10, gI_11, gI_12, gI_13, gI_14, gI_15, gL_0, gL_1, gL_2, gL_3, gL_4, gL_5, gL_6, gL_7, gL_8, gL_9, gL_10, gL_11, gL_12, gL_13, gL_14, gL_15, gA_0, gA_1, gA_2, gA_3, gA_4, gA_5, gA_6, gA_7, gA_8, gA_9, gA_10, gA_11, gA_12, gA_13, gA_14, gA_15, p1_0, p1_1, p1_2, p1_3, p1_4, p1_5, p1_6, p1_7, p1_8, p1_9, p1_10, p1_11, p1_12, p1_13, p1_14, p1_15, p2_0, p2_1, p2_2, p2_3, p2_4, p2_5, p2_6, p2_7, p2_8, p2_9, p2_10, p2_11, p2_12, p2_13, p2_14, p2_15, b01_ok, b_ft, b_tf, b01_e0, b01_e1, lgc_0, not_true_eq_false, not_false_eq_true, K4, e, Bool.not_true]
          refine m_forgets q4.k g p4 fun h5 f5 q5 l5 => ?_
          simp only [s176_116, s176_119, oB_some, cl2_i, cl2_r, cl2_l, cl2_u, cl2_s, wd_0, wd_i, wd_r, wd_l, wd_f, ct_i, ct_r, ct_n, ct_f, rf_s, rf_n, tl_s, tl_n, true_and, and_true, eq_self, and_self, Nat.reduceAdd, Nat.reduceLeDiff, Nat.zero_le, Nat.reduceEqDiff, or_true, true_or, false_or, or_false, if_true, if_false, gI_0, gI_1, gI_2, gI_3, gI_4, gI_5, gI_6, gI_7, gI_8, gI_9, gI_10, gI_11, gI_12, gI_13, gI_14, gI_15, gL_0, gL_1, gL_2, gL_3, gL_4, gL_5, gL_6, gL_7, gL_8, gL_9, gL_10, gL_11, gL_12, gL_13, gL_14, gL_15, gA_0, gA_1, gA_2, gA_3, gA_4, gA_5, gA_6, gA_7, gA_8, gA_9, gA_10, gA_11, gA_12, gA_13, gA_14, gA_15, p1_0, p1_1, p1_2, p1_3, p1_4, p1_5, p1_6, p1_7, p1_8, p1_9, p1_10, p1_11, p1_12, p1_13, p1_14, p1_15, p2_0, p2_1, p2_2, p2_3, p2_4, p2_5, p2_6, p2_7, p2_8, p2_9, p2_10, p2_11, p2_12, p2_13, p2_14, p2_15, b01_ok, b_ft, b_tf, b01_e0, b01_e1, lgc_0, not_true_eq_false, not_false_eq_true, nI_1]
          exact ih (j + 1) h5 (some j) (by omega) (ff.tr f5) ⟨q5, l5⟩ (fun a ha => by cases ha; omega) e1
        · simp only [s176_100, s176_103, s176_105, s176_108, s176_110, s176_112, s176_113, oB_some, cl2_i, cl2_r, cl2_l, cl2_u, cl2_s, wd_0, wd_i, wd_r, wd_l, wd_f, ct_i, ct_r, ct_n, ct_f, rf_s, rf_n, tl_s, tl_n, true_and, and_true, eq_self, and_self, Nat.reduceAdd, Nat.reduceLeDiff, Nat.zero_le, Nat.reduceEqDiff, or_true, true_or, false_or, or_false, if_true, if_false, gI_0, gI_1, gI_2, gI_3, gI_4, gI_5, gI_6, gI_7, gI_8, gI_9, gI_10, gI_11, gI_12, gI_13, gI_14, gI_15, gL_0, gL_1, gL_2, gL_3, gL_4, gL_5, gL_6, gL_7, gL_8, gL_9, gL_10, gL_11, gL_12, gL_13, gL_14, gL_15, gA_0, gA_1, gA_2, gA_3, gA_4, gA_5, gA_6, gA_7, gA_8, gA_9, gA_10, gA_11, gA_12, gA_13, gA_14, gA_15, p1_0, p1_1, p1_2, p1_3, p1_4, p1_5, p1_6, p1_7, p1_8, p1_9, p1_10, p1_11, p1_12, p1_13, p1_14, p1_15, p2_0, p2_1, p2_2, p2_3, p2_4, p2_5, p2_6, p2_7, p2_8, p2_9, p2_10, p2_11, p2_12, p2_13, p2_14, p2_15, b01_ok, b_ft, b_tf, b01_e0, b01_e1, lgc_0, not_true_eq_false, not_false_eq_true, K4, e, Bool.not_false, Bool.true_eq_false]
          refine m_forgets q4.k g p4 fun h5 f5 q5 l5 => ?_
          exact skip h5 (ff.tr f5) ⟨q5, l5⟩ (by rw [show inkN S c n j = false by simpa using e, Bool.and_false])
      have pe : nb (lN j) = pc j := rfl
      rw [s176_49]
      cases b with
      | none =>
        simp only [s176_51, s176_52, s176_53, s176_56, s176_57, s176_60, s176_62, s176_65, s176_67, s176_68, s176_71, s176_73, s176_74, s176_77, s176_80, oB_some, cl2_i, cl2_r, cl2_l, cl2_u, cl2_s, wd_0, wd_i, wd_r, wd_l, wd_f, ct_i, ct_r, ct_n, ct_f, rf_s, rf_n, tl_s, tl_n, true_and, and_true, eq_self, and_self, Nat.reduceAdd, Nat.reduceLeDiff, Nat.zero_le, Nat.reduceEqDiff, or_true, true_or, false_or, or_false, if_true, if_false, gI_0, gI_1, gI_2, gI_3, gI_4, gI_5, gI_6, gI_7, gI_8, gI_9, gI_10, gI_11, gI_12, gI_13, gI_14, gI_15, gL_0, gL_1, gL_2, gL_3, gL_4, gL_5, gL_6, gL_7, gL_8, gL_9, gL_10, gL_11, gL_12, gL_13, gL_14, gL_15, gA_0, gA_1, gA_2, gA_3, gA_4, gA_5, gA_6, gA_7, gA_8, gA_9, gA_10, gA_11, gA_12, gA_13, gA_14, gA_15, p1_0, p1_1, p1_2, p1_3, p1_4, p1_5, p1_6, p1_7, p1_8, p1_9, p1_10, p1_11, p1_12, p1_13, p1_14, p1_15, p2_0, p2_1, p2_2, p2_3, p2_4, p2_5, p2_6, p2_7, p2_8, p2_9, p2_10, p2_11, p2_12, p2_13, p2_14, p2_15, b01_ok, b_ft, b_tf, b01_e0, b01_e1, lgc_0, not_true_eq_false, not_false_eq_true, K1, m1.1.n, shl1 (vn S) (by omega), z, oN_none]
        rw [if_pos (by decide)]
        exact try_ rfl
      | some y =>
        have hy2 := b1 y rfl
        have y0 : ¬ nI y < 0 := nI_pos (by omega)
        have p1 := pc_le j
        have p2 := pc_le y
        have pe2 : nb (lN y) = pc y := rfl
        simp only [s176_51, s176_52, s176_53, s176_56, s176_57, s176_60, s176_62, s176_65, s176_67, s176_68, s176_71, s176_73, s176_74, s176_77, s176_80, oB_some, cl2_i, cl2_r, cl2_l, cl2_u, cl2_s, wd_0, wd_i, wd_r, wd_l, wd_f, ct_i, ct_r, ct_n, ct_f, rf_s, rf_n, tl_s, tl_n, true_and, and_true, eq_self, and_self, Nat.reduceAdd, Nat.reduceLeDiff, Nat.zero_le, Nat.reduceEqDiff, or_true, true_or, false_or, or_false, if_true, if_false, gI_0, gI_1, gI_2, gI_3, gI_4, gI_5, gI_6, gI_7, gI_8, gI_9, gI_10, gI_11, gI_12, gI_13, gI_14, gI_15, gL_0, gL_1, gL_2, gL_3, gL_4, gL_5, gL_6, gL_7, gL_8, gL_9, gL_10, gL_11, gL_12, gL_13, gL_14, gL_15, gA_0, gA_1, gA_2, gA_3, gA_4, gA_5, gA_6, gA_7, gA_8, gA_9, gA_10, gA_11, gA_12, gA_13, gA_14, gA_15, p1_0, p1_1, p1_2, p1_3, p1_4, p1_5, p1_6, p1_7, p1_8, p1_9, p1_10, p1_11, p1_12, p1_13, p1_14, p1_15, p2_0, p2_1, p2_2, p2_3, p2_4, p2_5, p2_6, p2_7, p2_8, p2_9, p2_10, p2_11, p2_12, p2_13, p2_14, p2_15, b01_ok, b_ft, b_tf, b01_e0, b01_e1, lgc_0, not_true_eq_false, not_false_eq_true, K1, m1.1.n, shl1 (vn S) (by omega), z, oN_some, y0, nI_l j31, nI_l (show y < 2 ^ 31 by omega), m_bits, pe, pe2, ltP (show pc j < 2 ^ 31 by omega) (show pc y < 2 ^ 31 by omega)]
        by_cases e : pc j < pc y
        · rw [if_pos e]
          exact try_ (by unfold mnC; exact decide_eq_true e)
        · rw [if_neg e]
          exact skip h1 f1 m1 (by rw [show mnC (some y) j = false from decide_eq_false e, Bool.false_and])
  simp only [s176_42, s176_44, s176_46, s176_47, oB_some, cl2_i, cl2_r, cl2_l, cl2_u, cl2_s, wd_0, wd_i, wd_r, wd_l, wd_f, ct_i, ct_r, ct_n, ct_f, rf_s, rf_n, tl_s, tl_n, true_and, and_true, eq_self, and_self, Nat.reduceAdd, Nat.reduceLeDiff, Nat.zero_le, Nat.reduceEqDiff, or_true, true_or, false_or, or_false, if_true, if_false, gI_0, gI_1, gI_2, gI_3, gI_4, gI_5, gI_6, gI_7, gI_8, gI_9, gI_10, gI_11, gI_12, gI_13, gI_14, gI_15, gL_0, gL_1, gL_2, gL_3, gL_4, gL_5, gL_6, gL_7, gL_8, gL_9, gL_10, gL_11, gL_12, gL_13, gL_14, gL_15, gA_0, gA_1, gA_2, gA_3, gA_4, gA_5, gA_6, gA_7, gA_8, gA_9, gA_10, gA_11, gA_12, gA_13, gA_14, gA_15, p1_0, p1_1, p1_2, p1_3, p1_4, p1_5, p1_6, p1_7, p1_8, p1_9, p1_10, p1_11, p1_12, p1_13, p1_14, p1_15, p2_0, p2_1, p2_2, p2_3, p2_4, p2_5, p2_6, p2_7, p2_8, p2_9, p2_10, p2_11, p2_12, p2_13, p2_14, p2_15, b01_ok, b_ft, b_tf, b01_e0, b01_e1, lgc_0, not_true_eq_false, not_false_eq_true]
  exact loop (2 ^ vn S) 0 h none (by omega) FQ.rf M (fun a ha => by cases ha) rfl
def soonI (b : Option Nat × Nat) : Int32 := if b.1 = none then -9 else nI b.2
set_option maxHeartbeats 8000000 in
theorem b_friendFor {d p t c : Nat} {what : Int32} {Q : PQ} {h : HP} {m : Nat} {S : VS} (M : MO h m S) (g : Good S) (hy : vy S ≤ 999) (hp : p < vn S) (ht : t < vn S) (hc : c < 40)
    (k : ∀ h', FQ m h h' → MO h' m S → Q (some (.int (ans2 what (friN S p t c)))) h') : WP (d + 8) 179 Q (60, [.val (.ref m), .val (.int (nI p)), .val (.int (nI t)), .val (.int (nI c)), .val (.int what), .val (.int 0), .unset, .unset, .unset, .unset], [], h, 0, 0) := by
  have gn := g.n
  have p6 : p < 6 := by omega
  have p31 : p < 2 ^ 31 := by omega
  have loop : ∀ (n j : Nat) (h1 : HP) (b : Option Nat × Nat) (y : Slot), j + n = vn S → FQ m h h1 → MO h1 m S → b.2 ≤ 61 → (b.1 = none → b.2 = 61) → (∀ a, b.1 = some a → a < 2 ^ 31) → lesA (frA S p t c) n j b = friN S p t c →
      WP (d + 8) 179 Q (71, [.val (.ref m), .val (.int (nI p)), .val (.int (nI t)), .val (.int (nI c)), .val (.int what), .val (.int 0), .val (.int (oN b.1)), .val (.int (soonI b)), .val (.int (nI j)), y], [], h1, 0, 0) := by
    intro n
    induction n with
    | zero =>
      intro j h1 b y hj f1 m1 b0 b2 b1 e1
      obtain rfl : j = vn S := by omega
      have K1 := m1.1.k
      unfold MK at K1
      have e2 : b = friN S p t c := e1
      rw [s179_71]
      simp only [s179_73, s179_74, s179_77, s179_149, s179_151, s179_154, s179_156, s179_159, s179_161, oB_some, cl2_i, cl2_r, cl2_l, cl2_u, cl2_s, wd_0, wd_i, wd_r, wd_l, wd_f, ct_i, ct_r, ct_n, ct_f, rf_s, rf_n, tl_s, tl_n, true_and, and_true, eq_self, and_self, Nat.reduceAdd, Nat.reduceLeDiff, Nat.zero_le, Nat.reduceEqDiff, or_true, true_or, false_or, or_false, if_true, if_false, gI_0, gI_1, gI_2, gI_3, gI_4, gI_5, gI_6, gI_7, gI_8, gI_9, gI_10, gI_11, gI_12, gI_13, gI_14, gI_15, gL_0, gL_1, gL_2, gL_3, gL_4, gL_5, gL_6, gL_7, gL_8, gL_9, gL_10, gL_11, gL_12, gL_13, gL_14, gL_15, gA_0, gA_1, gA_2, gA_3, gA_4, gA_5, gA_6, gA_7, gA_8, gA_9, gA_10, gA_11, gA_12, gA_13, gA_14, gA_15, p1_0, p1_1, p1_2, p1_3, p1_4, p1_5, p1_6, p1_7, p1_8, p1_9, p1_10, p1_11, p1_12, p1_13, p1_14, p1_15, p2_0, p2_1, p2_2, p2_3, p2_4, p2_5, p2_6, p2_7, p2_8, p2_9, p2_10, p2_11, p2_12, p2_13, p2_14, p2_15, b01_ok, b_ft, b_tf, b01_e0, b01_e1, lgc_0, not_true_eq_false, not_false_eq_true, K1, m1.1.n, Int32.le_refl]
      have kk := k h1 f1 m1
      rw [← e2] at kk
      unfold ans2 at kk
      unfold soonI
      by_cases z : what = 0
      · rw [if_neg (not_not_intro z)]
        rw [if_pos z] at kk
        exact kk
      · rw [if_pos z]
        rw [if_neg z] at kk
        exact kk
    | succ n ih =>
      intro j h1 b y hj f1 m1 b0 b2 b1 e1
      have K1 := m1.1.k
      unfold MK at K1
      have z : ¬ nI (vn S) ≤ nI j := nI_ge (by omega) (by omega)
      rw [lesA_s] at e1
      have next : ∀ (h2 : HP) (b3 : Option Nat × Nat) (y2 : Slot), FQ m h h2 → MO h2 m S → b3.2 ≤ 61 → (b3.1 = none → b3.2 = 61) → (∀ a, b3.1 = some a → a < 2 ^ 31) → lesA (frA S p t c) n (j + 1) b3 = friN S p t c →
          WP (d + 8) 179 Q (143, [.val (.ref m), .val (.int (nI p)), .val (.int (nI t)), .val (.int (nI c)), .val (.int what), .val (.int 0), .val (.int (oN b3.1)), .val (.int (soonI b3)), .val (.int (nI j)), y2], [], h2, 0, 0) := by
        intro h2 b3 y2 f2 m2 c0 c2 c1 e3
        simp only [s179_143, s179_146, oB_some, cl2_i, cl2_r, cl2_l, cl2_u, cl2_s, wd_0, wd_i, wd_r, wd_l, wd_f, ct_i, ct_r, ct_n, ct_f, rf_s, rf_n, tl_s, tl_n, true_and, and_true, eq_self, and_self, Nat.reduceAdd, Nat.reduceLeDiff, Nat.zero_le, Nat.reduceEqDiff, or_true, true_or, false_or, or_false, if_true, if_false, gI_0, gI_1, gI_2, gI_3, gI_4, gI_5, gI_6, gI_7, gI_8, gI_9, gI_10, gI_11, gI_12, gI_13, gI_14, gI_15, gL_0, gL_1, gL_2, gL_3, gL_4, gL_5, gL_6, gL_7, gL_8, gL_9, gL_10, gL_11, gL_12, gL_13, gL_14, gL_15, gA_0, gA_1, gA_2, gA_3, gA_4, gA_5, gA_6, gA_7, gA_8, gA_9, gA_10, gA_11, gA_12, gA_13, gA_14, gA_15, p1_0, p1_1, p1_2, p1_3, p1_4, p1_5, p1_6, p1_7, p1_8, p1_9, p1_10, p1_11, p1_12, p1_13, p1_14, p1_15, p2_0, p2_1, p2_2, p2_3, p2_4, p2_5, p2_6, p2_7, p2_8, p2_9, p2_10, p2_11, p2_12, p2_13, p2_14, p2_15, b01_ok, b_ft, b_tf, b01_e0, b01_e1, lgc_0, not_true_eq_false, not_false_eq_true, nI_1]
        exact ih (j + 1) h2 b3 _ (by omega) f2 m2 c0 c2 c1 e3
      rw [s179_71]
      simp only [s179_73, s179_74, s179_77, s179_80, s179_81, oB_some, cl2_i, cl2_r, cl2_l, cl2_u, cl2_s, wd_0, wd_i, wd_r, wd_l, wd_f, ct_i, ct_r, ct_n, ct_f, rf_s, rf_n, tl_s, tl_n, true_and, and_true, eq_self, and_self, Nat.reduceAdd, Nat.reduceLeDiff, Nat.zero_le, Nat.reduceEqDiff, or_true, true_or, false_or, or_false, if_true, if_false, gI_0, gI_1, gI_2, gI_3, gI_4, gI_5, gI_6, gI_7, gI_8, gI_9, gI_10, gI_11, gI_12, gI_13, gI_14, gI_15, gL_0, gL_1, gL_2, gL_3, gL_4, gL_5, gL_6, gL_7, gL_8, gL_9, gL_10, gL_11, gL_12, gL_13, gL_14, gL_15, gA_0, gA_1, gA_2, gA_3, gA_4, gA_5, gA_6, gA_7, gA_8, gA_9, gA_10, gA_11, gA_12, gA_13, gA_14, gA_15, p1_0, p1_1, p1_2, p1_3, p1_4, p1_5, p1_6, p1_7, p1_8, p1_9, p1_10, p1_11, p1_12, p1_13, p1_14, p1_15, p2_0, p2_1, p2_2, p2_3, p2_4, p2_5, p2_6, p2_7, p2_8, p2_9, p2_10, p2_11, p2_12, p2_13, p2_14, p2_15, b01_ok, b_ft, b_tf, b01_e0, b01_e1, lgc_0, not_true_eq_false, not_false_eq_true, K1, m1.1.n, z]
      refine m_minds m1.1 g m1.2 fun h2 f2 q2 l2 p2 => ?_
      have K2 := q2.k
      unfold MK at K2
      have q3 := RM_r q2 p j
      have g3 : Good (wR S p j) := g.wR (by omega)
      have p3 := p2.w g (a := m + 4) (k := p) (x := nI j) (by omega)
      have l3 := l2.w (a := m + 4) (k := p) (x := nI j) (Or.inl (by omega))
      have f3 : FQ m h (sI h2 (m + 4) p (nI j)) := f1.tr (f2.sI (Or.inr (Or.inl (by omega))))
      have K3 := q3.k
      unfold MK at K3
      simp only [s179_84, s179_85, s179_88, s179_89, s179_91, s179_92, s179_94, s179_95, s179_98, s179_100, oB_some, cl2_i, cl2_r, cl2_l, cl2_u, cl2_s, wd_0, wd_i, wd_r, wd_l, wd_f, ct_i, ct_r, ct_n, ct_f, rf_s, rf_n, tl_s, tl_n, true_and, and_true, eq_self, and_self, Nat.reduceAdd, Nat.reduceLeDiff, Nat.zero_le, Nat.reduceEqDiff, or_true, true_or, false_or, or_false, if_true, if_false, gI_0, gI_1, gI_2, gI_3, gI_4, gI_5, gI_6, gI_7, gI_8, gI_9, gI_10, gI_11, gI_12, gI_13, gI_14, gI_15, gL_0, gL_1, gL_2, gL_3, gL_4, gL_5, gL_6, gL_7, gL_8, gL_9, gL_10, gL_11, gL_12, gL_13, gL_14, gL_15, gA_0, gA_1, gA_2, gA_3, gA_4, gA_5, gA_6, gA_7, gA_8, gA_9, gA_10, gA_11, gA_12, gA_13, gA_14, gA_15, p1_0, p1_1, p1_2, p1_3, p1_4, p1_5, p1_6, p1_7, p1_8, p1_9, p1_10, p1_11, p1_12, p1_13, p1_14, p1_15, p2_0, p2_1, p2_2, p2_3, p2_4, p2_5, p2_6, p2_7, p2_8, p2_9, p2_10, p2_11, p2_12, p2_13, p2_14, p2_15, b01_ok, b_ft, b_tf, b01_e0, b01_e1, lgc_0, not_true_eq_false, not_false_eq_true, z_hkd_sI, z_hln_sI, z_hL_sI, z_hR_sI, z_hnx_sI, z_hkd_sL, z_hln_sL, z_hI_sL, z_hR_sL, z_hnx_sL, z_hkd_sR, z_hln_sR, z_hI_sR, z_hL_sR, z_hnx_sR, z_hkd_cI, z_hln_cI, z_hL_cI, z_hR_cI, z_hnx_cI, z_hkd_cLg, z_hln_cLg, z_hI_cLg, z_hR_cLg, z_hnx_cLg, K2, ix_nI p31, nI_pos' p31, p6, eqP (show j < 2 ^ 31 by omega) p31]
      by_cases e : j = p
      · rw [if_neg (not_not_intro e)]
        have ef : frA S p t c j = none := by unfold frA; rw [if_pos e]
        rw [ef] at e1
        simp only [s179_109, s179_111, s179_112, oB_some, cl2_i, cl2_r, cl2_l, cl2_u, cl2_s, wd_0, wd_i, wd_r, wd_l, wd_f, ct_i, ct_r, ct_n, ct_f, rf_s, rf_n, tl_s, tl_n, true_and, and_true, eq_self, and_self, Nat.reduceAdd, Nat.reduceLeDiff, Nat.zero_le, Nat.reduceEqDiff, or_true, true_or, false_or, or_false, if_true, if_false, gI_0, gI_1, gI_2, gI_3, gI_4, gI_5, gI_6, gI_7, gI_8, gI_9, gI_10, gI_11, gI_12, gI_13, gI_14, gI_15, gL_0, gL_1, gL_2, gL_3, gL_4, gL_5, gL_6, gL_7, gL_8, gL_9, gL_10, gL_11, gL_12, gL_13, gL_14, gL_15, gA_0, gA_1, gA_2, gA_3, gA_4, gA_5, gA_6, gA_7, gA_8, gA_9, gA_10, gA_11, gA_12, gA_13, gA_14, gA_15, p1_0, p1_1, p1_2, p1_3, p1_4, p1_5, p1_6, p1_7, p1_8, p1_9, p1_10, p1_11, p1_12, p1_13, p1_14, p1_15, p2_0, p2_1, p2_2, p2_3, p2_4, p2_5, p2_6, p2_7, p2_8, p2_9, p2_10, p2_11, p2_12, p2_13, p2_14, p2_15, b01_ok, b_ft, b_tf, b01_e0, b01_e1, lgc_0, not_true_eq_false, not_false_eq_true, z_hkd_sI, z_hln_sI, z_hL_sI, z_hR_sI, z_hnx_sI, z_hkd_sL, z_hln_sL, z_hI_sL, z_hR_sL, z_hnx_sL, z_hkd_sR, z_hln_sR, z_hI_sR, z_hL_sR, z_hnx_sR, z_hkd_cI, z_hln_cI, z_hL_cI, z_hR_cI, z_hnx_cI, z_hkd_cLg, z_hln_cLg, z_hI_cLg, z_hR_cLg, z_hnx_cLg, K2]
        refine m_forgets q3.k g p3 fun h4 f4 q4 l4 => ?_
        simp only [s179_115, s179_117, s179_120, s179_122, s179_125, s179_127, s179_129, s179_132, s179_135, s179_137, s179_139, s179_141, oB_some, cl2_i, cl2_r, cl2_l, cl2_u, cl2_s, wd_0, wd_i, wd_r, wd_l, wd_f, ct_i, ct_r, ct_n, ct_f, rf_s, rf_n, tl_s, tl_n, true_and, and_true, eq_self, and_self, Nat.reduceAdd, Nat.reduceLeDiff, Nat.zero_le, Nat.reduceEqDiff, or_true, true_or, false_or, or_false, if_true, if_false, gI_0, gI_1, gI_2, gI_3, gI_4, gI_5, gI_6, gI_7, gI_8, gI_9, gI_10, gI_11, gI_12, gI_13, gI_14, gI_15, gL_0, gL_1, gL_2, gL_3, gL_4, gL_5, gL_6, gL_7, gL_8, gL_9, gL_10, gL_11, gL_12, gL_13, gL_14, gL_15, gA_0, gA_1, gA_2, gA_3, gA_4, gA_5, gA_6, gA_7, gA_8, gA_9, gA_10, gA_11, gA_12, gA_13, gA_14, gA_15, p1_0, p1_1, p1_2, p1_3, p1_4, p1_5, p1_6, p1_7, p1_8, p1_9, p1_10, p1_11, p1_12, p1_13, p1_14, p1_15, p2_0, p2_1, p2_2, p2_3, p2_4, p2_5, p2_6, p2_7, p2_8, p2_9, p2_10, p2_11, p2_12, p2_13, p2_14, p2_15, b01_ok, b_ft, b_tf, b01_e0, b01_e1, lgc_0, not_true_eq_false, not_false_eq_true]
        rw [if_pos (by decide)]
        exact next h4 b _ (f3.tr f4) ⟨q4, l4⟩ b0 b2 b1 e1
      · rw [if_pos e]
        simp only [s179_103, s179_104, s179_105, s179_106, oB_some, cl2_i, cl2_r, cl2_l, cl2_u, cl2_s, wd_0, wd_i, wd_r, wd_l, wd_f, ct_i, ct_r, ct_n, ct_f, rf_s, rf_n, tl_s, tl_n, true_and, and_true, eq_self, and_self, Nat.reduceAdd, Nat.reduceLeDiff, Nat.zero_le, Nat.reduceEqDiff, or_true, true_or, false_or, or_false, if_true, if_false, gI_0, gI_1, gI_2, gI_3, gI_4, gI_5, gI_6, gI_7, gI_8, gI_9, gI_10, gI_11, gI_12, gI_13, gI_14, gI_15, gL_0, gL_1, gL_2, gL_3, gL_4, gL_5, gL_6, gL_7, gL_8, gL_9, gL_10, gL_11, gL_12, gL_13, gL_14, gL_15, gA_0, gA_1, gA_2, gA_3, gA_4, gA_5, gA_6, gA_7, gA_8, gA_9, gA_10, gA_11, gA_12, gA_13, gA_14, gA_15, p1_0, p1_1, p1_2, p1_3, p1_4, p1_5, p1_6, p1_7, p1_8, p1_9, p1_10, p1_11, p1_12, p1_13, p1_14, p1_15, p2_0, p2_1, p2_2, p2_3, p2_4, p2_5, p2_6, p2_7, p2_8, p2_9, p2_10, p2_11, p2_12, p2_13, p2_14, p2_15, b01_ok, b_ft, b_tf, b01_e0, b01_e1, lgc_0, not_true_eq_false, not_false_eq_true, z_hkd_sI, z_hln_sI, z_hL_sI, z_hR_sI, z_hnx_sI, z_hkd_sL, z_hln_sL, z_hI_sL, z_hR_sL, z_hnx_sL, z_hkd_sR, z_hln_sR, z_hI_sR, z_hL_sR, z_hnx_sR, z_hkd_cI, z_hln_cI, z_hL_cI, z_hR_cI, z_hnx_cI, z_hkd_cLg, z_hln_cLg, z_hI_cLg, z_hR_cLg, z_hnx_cLg, K2]
        refine m_whenFrom (p := nI t) q3 g3 l3 (by decide) (show vy S + 61 < 2 ^ 20 by omega) (isPI_K (by rw [isPI_nI g3 (by omega)]; exact decide_eq_true ht)) (show c < 64 by omega) fun h4 f4 k4 => ?_
        have K4 := k4
        unfold MK at K4
        have eu : untilN 0 false false (fun T => hb (knN T (nI t)) c) 61 0 (wR S p j) = frA S p t c j := by
          unfold frA
          rw [if_neg e]
          have ef : (fun T => hb (knN T (nI t)) c) = (fun T => hb (vw T t) c) := by
            funext T
            rw [knN_n (by omega)]
          rw [ef]
        rw [eu]
        have lt : ∀ a, frA S p t c j = some a → a < 61 := fun a ha => by
          rw [← eu] at ha
          have := untilN_lt _ _ _ ha
          omega
        have p4 := p3.fd g f4
        simp only [s179_109, s179_111, s179_112, oB_some, cl2_i, cl2_r, cl2_l, cl2_u, cl2_s, wd_0, wd_i, wd_r, wd_l, wd_f, ct_i, ct_r, ct_n, ct_f, rf_s, rf_n, tl_s, tl_n, true_and, and_true, eq_self, and_self, Nat.reduceAdd, Nat.reduceLeDiff, Nat.zero_le, Nat.reduceEqDiff, or_true, true_or, false_or, or_false, if_true, if_false, gI_0, gI_1, gI_2, gI_3, gI_4, gI_5, gI_6, gI_7, gI_8, gI_9, gI_10, gI_11, gI_12, gI_13, gI_14, gI_15, gL_0, gL_1, gL_2, gL_3, gL_4, gL_5, gL_6, gL_7, gL_8, gL_9, gL_10, gL_11, gL_12, gL_13, gL_14, gL_15, gA_0, gA_1, gA_2, gA_3, gA_4, gA_5, gA_6, gA_7, gA_8, gA_9, gA_10, gA_11, gA_12, gA_13, gA_14, gA_15, p1_0, p1_1, p1_2, p1_3, p1_4, p1_5, p1_6, p1_7, p1_8, p1_9, p1_10, p1_11, p1_12, p1_13, p1_14, p1_15, p2_0, p2_1, p2_2, p2_3, p2_4, p2_5, p2_6, p2_7, p2_8, p2_9, p2_10, p2_11, p2_12, p2_13, p2_14, p2_15, b01_ok, b_ft, b_tf, b01_e0, b01_e1, lgc_0, not_true_eq_false, not_false_eq_true, K4]
        refine m_forgets k4 g p4 fun h5 f5 q5 l5 => ?_
        have ff := f3.tr (f4.fq.tr f5)
        cases ea : frA S p t c j with
        | none =>
          rw [ea] at e1
          simp only [s179_115, s179_117, s179_120, s179_122, s179_125, s179_127, s179_129, s179_132, s179_135, s179_137, s179_139, s179_141, oB_some, cl2_i, cl2_r, cl2_l, cl2_u, cl2_s, wd_0, wd_i, wd_r, wd_l, wd_f, ct_i, ct_r, ct_n, ct_f, rf_s, rf_n, tl_s, tl_n, true_and, and_true, eq_self, and_self, Nat.reduceAdd, Nat.reduceLeDiff, Nat.zero_le, Nat.reduceEqDiff, or_true, true_or, false_or, or_false, if_true, if_false, gI_0, gI_1, gI_2, gI_3, gI_4, gI_5, gI_6, gI_7, gI_8, gI_9, gI_10, gI_11, gI_12, gI_13, gI_14, gI_15, gL_0, gL_1, gL_2, gL_3, gL_4, gL_5, gL_6, gL_7, gL_8, gL_9, gL_10, gL_11, gL_12, gL_13, gL_14, gL_15, gA_0, gA_1, gA_2, gA_3, gA_4, gA_5, gA_6, gA_7, gA_8, gA_9, gA_10, gA_11, gA_12, gA_13, gA_14, gA_15, p1_0, p1_1, p1_2, p1_3, p1_4, p1_5, p1_6, p1_7, p1_8, p1_9, p1_10, p1_11, p1_12, p1_13, p1_14, p1_15, p2_0, p2_1, p2_2, p2_3, p2_4, p2_5, p2_6, p2_7, p2_8, p2_9, p2_10, p2_11, p2_12, p2_13, p2_14, p2_15, b01_ok, b_ft, b_tf, b01_e0, b01_e1, lgc_0, not_true_eq_false, not_false_eq_true, oN_none]
          rw [if_pos (by decide)]
          exact next h5 b _ ff ⟨q5, l5⟩ b0 b2 b1 e1
        | some a =>
          have la := lt a ea
          rw [ea] at e1
          have e1' : lesA (frA S p t c) n (j + 1) (if a < b.2 then (some j, a) else b) = friN S p t c := e1
          have a0 : ¬ nI a < 0 := nI_pos (by omega)
          have s2 : soonI (some j, a) = nI a := rfl
          have take : a < b.2 → WP (d + 8) 179 Q (143, [.val (.ref m), .val (.int (nI p)), .val (.int (nI t)), .val (.int (nI c)), .val (.int what), .val (.int 0), .val (.int (nI j)), .val (.int (nI a)), .val (.int (nI j)), .val (.int (nI a))], [], h5, 0, 0) := by
            intro hl
            rw [if_pos hl] at e1'
            exact next h5 (some j, a) _ ff ⟨q5, l5⟩ (show a ≤ 61 by omega) (fun q => by cases q) (fun q hq => by cases hq; omega) e1'
          simp only [s179_115, s179_117, s179_120, s179_122, s179_125, s179_127, s179_129, s179_132, s179_135, s179_137, s179_139, s179_141, oB_some, cl2_i, cl2_r, cl2_l, cl2_u, cl2_s, wd_0, wd_i, wd_r, wd_l, wd_f, ct_i, ct_r, ct_n, ct_f, rf_s, rf_n, tl_s, tl_n, true_and, and_true, eq_self, and_self, Nat.reduceAdd, Nat.reduceLeDiff, Nat.zero_le, Nat.reduceEqDiff, or_true, true_or, false_or, or_false, if_true, if_false, gI_0, gI_1, gI_2, gI_3, gI_4, gI_5, gI_6, gI_7, gI_8, gI_9, gI_10, gI_11, gI_12, gI_13, gI_14, gI_15, gL_0, gL_1, gL_2, gL_3, gL_4, gL_5, gL_6, gL_7, gL_8, gL_9, gL_10, gL_11, gL_12, gL_13, gL_14, gL_15, gA_0, gA_1, gA_2, gA_3, gA_4, gA_5, gA_6, gA_7, gA_8, gA_9, gA_10, gA_11, gA_12, gA_13, gA_14, gA_15, p1_0, p1_1, p1_2, p1_3, p1_4, p1_5, p1_6, p1_7, p1_8, p1_9, p1_10, p1_11, p1_12, p1_13, p1_14, p1_15, p2_0, p2_1, p2_2, p2_3, p2_4, p2_5, p2_6, p2_7, p2_8, p2_9, p2_10, p2_11, p2_12, p2_13, p2_14, p2_15, b01_ok, b_ft, b_tf, b01_e0, b01_e1, lgc_0, not_true_eq_false, not_false_eq_true, oN_some, a0, oN_lt0 b1]
          by_cases e5 : b.1 = none
          · rw [if_pos e5]
            exact take (by rw [b2 e5]; exact la)
          · rw [if_neg e5]
            have sb : soonI b = nI b.2 := if_neg e5
            rw [sb]
            simp only [ltP (show a < 2 ^ 31 by omega) (show b.2 < 2 ^ 31 by omega)]
            by_cases e6 : a < b.2
            · rw [if_pos e6]
              exact take e6
            · rw [if_neg e6]
              rw [if_neg e6] at e1'
              have nx := next h5 b (.val (.int (nI a))) ff ⟨q5, l5⟩ b0 b2 b1 e1'
              rw [sb] at nx
              exact nx
  simp only [s179_60, s179_62, s179_64, s179_66, s179_68, s179_69, oB_some, cl2_i, cl2_r, cl2_l, cl2_u, cl2_s, wd_0, wd_i, wd_r, wd_l, wd_f, ct_i, ct_r, ct_n, ct_f, rf_s, rf_n, tl_s, tl_n, true_and, and_true, eq_self, and_self, Nat.reduceAdd, Nat.reduceLeDiff, Nat.zero_le, Nat.reduceEqDiff, or_true, true_or, false_or, or_false, if_true, if_false, gI_0, gI_1, gI_2, gI_3, gI_4, gI_5, gI_6, gI_7, gI_8, gI_9, gI_10, gI_11, gI_12, gI_13, gI_14, gI_15, gL_0, gL_1, gL_2, gL_3, gL_4, gL_5, gL_6, gL_7, gL_8, gL_9, gL_10, gL_11, gL_12, gL_13, gL_14, gL_15, gA_0, gA_1, gA_2, gA_3, gA_4, gA_5, gA_6, gA_7, gA_8, gA_9, gA_10, gA_11, gA_12, gA_13, gA_14, gA_15, p1_0, p1_1, p1_2, p1_3, p1_4, p1_5, p1_6, p1_7, p1_8, p1_9, p1_10, p1_11, p1_12, p1_13, p1_14, p1_15, p2_0, p2_1, p2_2, p2_3, p2_4, p2_5, p2_6, p2_7, p2_8, p2_9, p2_10, p2_11, p2_12, p2_13, p2_14, p2_15, b01_ok, b_ft, b_tf, b01_e0, b01_e1, lgc_0, not_true_eq_false, not_false_eq_true]
  exact loop (vn S) 0 h (none, 61) _ (by omega) FQ.rf M (Nat.le_refl _) (fun _ => rfl) (fun a ha => by cases ha) rfl
