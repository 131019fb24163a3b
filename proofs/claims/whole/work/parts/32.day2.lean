theorem Good.wS {S : VS} (g : Good S) {s : Int64} (hs : sm s) : Good (wS S s) := ⟨g.1, g.2.1, g.2.2.1, g.2.2.2.1, hs, g.2.2.2.2.2⟩
theorem Good.wO {S : VS} (g : Good S) {s : Int64} (hs : sm s) : Good (wO S s) := ⟨g.1, g.2.1, g.2.2.1, g.2.2.2.1, g.s, hs, g.2.2.2.2.2.2⟩
theorem Good.wU {S : VS} (g : Good S) {u : Nat} (hu : u ≤ 18) : Good (wU S u) := ⟨g.1, g.2.1, g.2.2.1, g.2.2.2.1, g.s, g.o, hu, g.2.2.2.2.2.2.2⟩
theorem Good.wD {S : VS} (g : Good S) {u : Nat} (hu : u ≤ 999) : Good (wD S u) := ⟨g.1, g.2.1, g.2.2.1, g.2.2.2.1, g.s, g.o, g.u, hu, g.2.2.2.2.2.2.2.2⟩
theorem Good.wT {S : VS} (g : Good S) {u : Nat} (hu : u ≤ 9999) : Good (wT S u) := ⟨g.1, g.2.1, g.2.2.1, g.2.2.2.1, g.s, g.o, g.u, g.d, hu, g.y⟩
theorem Good.wY {S : VS} (g : Good S) {u : Nat} (hu : u < 2 ^ 20) : Good (wY S u) := ⟨g.1, g.2.1, g.2.2.1, g.2.2.2.1, g.s, g.o, g.u, g.d, g.t, hu⟩
theorem Good.wB {S : VS} (g : Good S) {b : List Ltr} (hl : b.length ≤ 24) (hb : ∀ l, l ∈ b → Gl (vn S) l) : Good (wB S b) := ⟨g.1, g.2.1, hl, hb, g.s, g.o, g.u, g.d, g.t, g.y⟩
theorem Good.wW {S : VS} (g : Good S) {i : Nat} {x : Int64} (hx : sm x) : Good (wW S i x) := ⟨g.1, fun j hj => by
  obtain ⟨a1, a2, a3, a4, a5⟩ := g.at hj
  refine ⟨a1, a2, a3, ?_, a5⟩
  show sm (va_up (vw S) i x j)
  unfold va_up
  split
  · exact hx
  · exact a4, g.2.2⟩
theorem Good.wX {S : VS} (g : Good S) {i : Nat} {x : Int64} (hx : sm x) : Good (wX S i x) := ⟨g.1, fun j hj => by
  obtain ⟨a1, a2, a3, a4, a5⟩ := g.at hj
  refine ⟨a1, a2, a3, a4, ?_⟩
  show sm (va_up (vx S) i x j)
  unfold va_up
  split
  · exact hx
  · exact a5, g.2.2⟩
theorem Good.wR {S : VS} (g : Good S) {i x : Nat} (hx : x < 6) : Good (wR S i x) := ⟨g.1, fun j hj => by
  obtain ⟨a1, a2, a3, a4, a5⟩ := g.at hj
  refine ⟨a1, a2, ?_, a4, a5⟩
  show va_up (vr S) i x j < 6
  unfold va_up
  split
  · exact hx
  · exact a3, g.2.2⟩
theorem had1_vn {dm sh : Bool} {S : VS} {l : Ltr} : vn (had1 dm sh S l) = vn S := by
  unfold had1 left1
  dsimp only
  split <;> split <;> rfl
theorem had1_vb {dm sh : Bool} {S : VS} {l : Ltr} : vb (had1 dm sh S l) = vb S := by
  unfold had1 left1
  dsimp only
  split <;> split <;> rfl
theorem had1_vy {dm sh : Bool} {S : VS} {l : Ltr} : vy (had1 dm sh S l) = vy S := by
  unfold had1 left1
  dsimp only
  split <;> split <;> rfl
theorem she1_sm {sh : Bool} {S : VS} {l : Ltr} (g : Good S) (gl : Gl (vn S) l) : sm (she1 sh S l) := by
  unfold she1
  split
  · exact g.s
  · exact sm_or g.s gl.2.2.2.2.2
theorem left1_good {dm sh : Bool} {S : VS} {l : Ltr} (g : Good S) (gl : Gl (vn S) l) : Good (left1 dm sh S l) := by
  unfold left1
  dsimp only
  split
  · exact (g.wS (she1_sm g gl)).wT (Nat.min_le_left _ _)
  · exact g.wS (she1_sm g gl)
theorem word1_sm {dm sh : Bool} {S : VS} {l : Ltr} (g : Good S) (gl : Gl (vn S) l) : sm (word1 dm sh S l) := by
  unfold word1
  split
  · split
    · exact sm_putIn (g.wS (she1_sm g gl)) _
    · exact sm_and gl.2.2.2.2.2
  · exact gl.2.2.2.2.2
theorem had1_good {dm sh : Bool} {S : VS} {l : Ltr} (g : Good S) (gl : Gl (vn S) l) : Good (had1 dm sh S l) := by
  unfold had1
  dsimp only
  split
  · exact (left1_good g gl).wD (Nat.min_le_left _ _)
  · exact (left1_good g gl).wW (sm_or (g.at gl.2.1).2.2.2.1 (word1_sm g gl))
theorem hadAll_keep {dm sh : Bool} : ∀ {b : List Ltr} {S : VS}, Good S → (∀ l, l ∈ b → Gl (vn S) l) → Good (hadAll dm sh b S) ∧ vn (hadAll dm sh b S) = vn S ∧ vb (hadAll dm sh b S) = vb S ∧ vy (hadAll dm sh b S) = vy S
  | [], S, g, _ => ⟨g, rfl, rfl, rfl⟩
  | l :: t, S, g, hb => by
    obtain ⟨a, b, c, e⟩ := hadAll_keep (b := t) (had1_good (dm := dm) (sh := sh) g (hb l (List.mem_cons_self))) (fun m hm => by rw [had1_vn]; exact hb m (List.mem_cons_of_mem _ hm))
    exact ⟨a, b.trans had1_vn, c.trans had1_vb, e.trans had1_vy⟩
theorem take_min (b : List Ltr) : (b.drop 0).take (min 3 b.length) = b.take 3 := by
  rw [List.drop_zero]
  by_cases h : 3 ≤ b.length
  · rw [Nat.min_eq_left h]
  · rw [Nat.min_eq_right (by omega), List.take_length, List.take_of_length_le (by omega)]
theorem drop_min (b : List Ltr) : b.drop (min 3 b.length) = b.drop 3 := by
  by_cases h : 3 ≤ b.length
  · rw [Nat.min_eq_left h]
  · rw [Nat.min_eq_right (by omega), List.drop_length, List.drop_of_length_le (by omega)]
set_option maxHeartbeats 4000000 in
theorem v_haveFirst {d : Nat} {Q : PQ} {h : HP} {v ink : Nat} {dm sh : Bool} {S : VS} (q : RV h v S) (g : Good S) (f : FV h v ink dm sh)
    (k : ∀ h', Fm v 12 h h' → RV h' v (wB (hadAll dm sh ((vb S).take 3) S) ((vb S).drop 3)) → FV h' v ink dm sh → Q none h') : Ev (d + 4) 42 [.ref v] h Q := by
  have gl := g.l
  have loop : ∀ (n i : Nat) (h1 : HP) (S1 : VS), i + n = min 3 (vb S).length → vb S1 = vb S → RV h1 v S1 → Good S1 → FV h1 v ink dm sh → Fm v 12 h h1 → hadAll dm sh (((vb S).drop i).take n) S1 = hadAll dm sh ((vb S).take 3) S →
      WP (d + 3) 42 Q (14, [.val (.ref v), .val (.int (nI (min 3 (vb S).length))), .val (.int (nI i))], [], h1, 0, 0) := by
    intro n
    induction n with
    | zero =>
      intro i h1 S1 hi eb q1 g1 f1 m1 e1
      have K := q1.k
      unfold VK at K
      rw [s42_14]
      have z : nI (min 3 (vb S).length) ≤ nI i := nI_le (by omega) (by omega)
      simp only [s42_0, s42_1, s42_2, s42_5, s42_8, s42_11, s42_12, s42_13, s42_15, s42_16, s42_19, s42_20, s42_21, s42_24, s42_25, s42_28, s42_31, s42_32, s42_35, s42_36, s42_39, oB_some, cl2_i, cl2_r, cl2_l, cl2_u, cl2_s, wd_0, wd_i, wd_r, wd_l, wd_f, ct_i, ct_r, ct_n, ct_f, rf_s, rf_n, tl_s, tl_n, true_and, and_true, eq_self, and_self, Nat.reduceAdd, Nat.reduceLeDiff, Nat.zero_le, Nat.reduceEqDiff, or_true, true_or, false_or, or_false, if_true, if_false, gI_0, gI_1, gI_2, gI_3, gI_4, gI_5, gI_6, gI_7, gI_8, gI_9, gI_10, gI_11, gI_12, gI_13, gI_14, gI_15, gL_0, gL_1, gL_2, gL_3, gL_4, gL_5, gL_6, gL_7, gL_8, gL_9, gL_10, gL_11, gL_12, gL_13, gL_14, gL_15, gA_0, gA_1, gA_2, gA_3, gA_4, gA_5, gA_6, gA_7, gA_8, gA_9, gA_10, gA_11, gA_12, gA_13, gA_14, gA_15, p1_0, p1_1, p1_2, p1_3, p1_4, p1_5, p1_6, p1_7, p1_8, p1_9, p1_10, p1_11, p1_12, p1_13, p1_14, p1_15, p2_0, p2_1, p2_2, p2_3, p2_4, p2_5, p2_6, p2_7, p2_8, p2_9, p2_10, p2_11, p2_12, p2_13, p2_14, p2_15, b01_ok, b_ft, b_tf, b01_e0, b01_e1, lgc_0, not_true_eq_false, not_false_eq_true, K, z]
      have el : min 3 (vb S).length ≤ (vb S1).length := by rw [eb]; omega
      refine v_dropFirst q1.k.bag q1.m g1.l el q1.b fun h2 m2 n2 b2 => ?_
      have q2 := RV_b q1 m2 n2 b2
      have e2 : S1 = hadAll dm sh ((vb S).take 3) S := by rw [← e1, List.take_zero]; rfl
      simp only [s42_0, s42_1, s42_2, s42_5, s42_8, s42_11, s42_12, s42_13, s42_15, s42_16, s42_19, s42_20, s42_21, s42_24, s42_25, s42_28, s42_31, s42_32, s42_35, s42_36, s42_39, oB_some, cl2_i, cl2_r, cl2_l, cl2_u, cl2_s, wd_0, wd_i, wd_r, wd_l, wd_f, ct_i, ct_r, ct_n, ct_f, rf_s, rf_n, tl_s, tl_n, true_and, and_true, eq_self, and_self, Nat.reduceAdd, Nat.reduceLeDiff, Nat.zero_le, Nat.reduceEqDiff, or_true, true_or, false_or, or_false, if_true, if_false, gI_0, gI_1, gI_2, gI_3, gI_4, gI_5, gI_6, gI_7, gI_8, gI_9, gI_10, gI_11, gI_12, gI_13, gI_14, gI_15, gL_0, gL_1, gL_2, gL_3, gL_4, gL_5, gL_6, gL_7, gL_8, gL_9, gL_10, gL_11, gL_12, gL_13, gL_14, gL_15, gA_0, gA_1, gA_2, gA_3, gA_4, gA_5, gA_6, gA_7, gA_8, gA_9, gA_10, gA_11, gA_12, gA_13, gA_14, gA_15, p1_0, p1_1, p1_2, p1_3, p1_4, p1_5, p1_6, p1_7, p1_8, p1_9, p1_10, p1_11, p1_12, p1_13, p1_14, p1_15, p2_0, p2_1, p2_2, p2_3, p2_4, p2_5, p2_6, p2_7, p2_8, p2_9, p2_10, p2_11, p2_12, p2_13, p2_14, p2_15]
      refine k h2 (m1.tr (m2.wide (by omega) (by omega))) ?_ (f1.kept m2 (by omega))
      rw [e2, hadAll_keep g (fun l hl => g.b (List.mem_of_mem_take hl)) |>.2.2.1, drop_min] at q2
      exact q2
    | succ n ih =>
      intro i h1 S1 hi eb q1 g1 f1 m1 e1
      have K := q1.k
      unfold VK at K
      rw [s42_14]
      have il : i < (vb S).length := by omega
      have z : ¬ nI (min 3 (vb S).length) ≤ nI i := nI_ge (by omega) (by omega)
      simp only [s42_0, s42_1, s42_2, s42_5, s42_8, s42_11, s42_12, s42_13, s42_15, s42_16, s42_19, s42_20, s42_21, s42_24, s42_25, s42_28, s42_31, s42_32, s42_35, s42_36, s42_39, oB_some, cl2_i, cl2_r, cl2_l, cl2_u, cl2_s, wd_0, wd_i, wd_r, wd_l, wd_f, ct_i, ct_r, ct_n, ct_f, rf_s, rf_n, tl_s, tl_n, true_and, and_true, eq_self, and_self, Nat.reduceAdd, Nat.reduceLeDiff, Nat.zero_le, Nat.reduceEqDiff, or_true, true_or, false_or, or_false, if_true, if_false, gI_0, gI_1, gI_2, gI_3, gI_4, gI_5, gI_6, gI_7, gI_8, gI_9, gI_10, gI_11, gI_12, gI_13, gI_14, gI_15, gL_0, gL_1, gL_2, gL_3, gL_4, gL_5, gL_6, gL_7, gL_8, gL_9, gL_10, gL_11, gL_12, gL_13, gL_14, gL_15, gA_0, gA_1, gA_2, gA_3, gA_4, gA_5, gA_6, gA_7, gA_8, gA_9, gA_10, gA_11, gA_12, gA_13, gA_14, gA_15, p1_0, p1_1, p1_2, p1_3, p1_4, p1_5, p1_6, p1_7, p1_8, p1_9, p1_10, p1_11, p1_12, p1_13, p1_14, p1_15, p2_0, p2_1, p2_2, p2_3, p2_4, p2_5, p2_6, p2_7, p2_8, p2_9, p2_10, p2_11, p2_12, p2_13, p2_14, p2_15, b01_ok, b_ft, b_tf, b01_e0, b01_e1, lgc_0, not_true_eq_false, not_false_eq_true, K, z]
      have hj : (vb S1)[i]? = some ((vb S)[i]) := by rw [eb]; exact List.getElem?_eq_getElem il
      refine v_haveLetter q1 g1 f1 hj fun h2 m2 q2 f2 => ?_
      simp only [s42_0, s42_1, s42_2, s42_5, s42_8, s42_11, s42_12, s42_13, s42_15, s42_16, s42_19, s42_20, s42_21, s42_24, s42_25, s42_28, s42_31, s42_32, s42_35, s42_36, s42_39, oB_some, cl2_i, cl2_r, cl2_l, cl2_u, cl2_s, wd_0, wd_i, wd_r, wd_l, wd_f, ct_i, ct_r, ct_n, ct_f, rf_s, rf_n, tl_s, tl_n, true_and, and_true, eq_self, and_self, Nat.reduceAdd, Nat.reduceLeDiff, Nat.zero_le, Nat.reduceEqDiff, or_true, true_or, false_or, or_false, if_true, if_false, gI_0, gI_1, gI_2, gI_3, gI_4, gI_5, gI_6, gI_7, gI_8, gI_9, gI_10, gI_11, gI_12, gI_13, gI_14, gI_15, gL_0, gL_1, gL_2, gL_3, gL_4, gL_5, gL_6, gL_7, gL_8, gL_9, gL_10, gL_11, gL_12, gL_13, gL_14, gL_15, gA_0, gA_1, gA_2, gA_3, gA_4, gA_5, gA_6, gA_7, gA_8, gA_9, gA_10, gA_11, gA_12, gA_13, gA_14, gA_15, p1_0, p1_1, p1_2, p1_3, p1_4, p1_5, p1_6, p1_7, p1_8, p1_9, p1_10, p1_11, p1_12, p1_13, p1_14, p1_15, p2_0, p2_1, p2_2, p2_3, p2_4, p2_5, p2_6, p2_7, p2_8, p2_9, p2_10, p2_11, p2_12, p2_13, p2_14, p2_15, b01_ok, b_ft, b_tf, b01_e0, b01_e1, lgc_0, not_true_eq_false, not_false_eq_true, nI_1]
      rw [List.drop_eq_getElem_cons il, List.take_succ_cons] at e1
      exact ih (i + 1) h2 _ (by omega) (had1_vb.trans eb) q2 (had1_good g1 (g1.b (List.mem_of_getElem? hj))) f2 (m1.tr m2) e1
  have K := q.k
  unfold VK at K
  have hm : (if nI (vb S).length < 3 then nI (vb S).length else 3) = nI (min 3 (vb S).length) := minN (b := 3) (by omega) (by omega)
  simp only [e42, s42_0, s42_1, s42_2, s42_5, s42_8, s42_11, s42_12, s42_13, s42_15, s42_16, s42_19, s42_20, s42_21, s42_24, s42_25, s42_28, s42_31, s42_32, s42_35, s42_36, s42_39, oB_some, cl2_i, cl2_r, cl2_l, cl2_u, cl2_s, wd_0, wd_i, wd_r, wd_l, wd_f, ct_i, ct_r, ct_n, ct_f, rf_s, rf_n, tl_s, tl_n, true_and, and_true, eq_self, and_self, Nat.reduceAdd, Nat.reduceLeDiff, Nat.zero_le, Nat.reduceEqDiff, or_true, true_or, false_or, or_false, if_true, if_false, gI_0, gI_1, gI_2, gI_3, gI_4, gI_5, gI_6, gI_7, gI_8, gI_9, gI_10, gI_11, gI_12, gI_13, gI_14, gI_15, gL_0, gL_1, gL_2, gL_3, gL_4, gL_5, gL_6, gL_7, gL_8, gL_9, gL_10, gL_11, gL_12, gL_13, gL_14, gL_15, gA_0, gA_1, gA_2, gA_3, gA_4, gA_5, gA_6, gA_7, gA_8, gA_9, gA_10, gA_11, gA_12, gA_13, gA_14, gA_15, p1_0, p1_1, p1_2, p1_3, p1_4, p1_5, p1_6, p1_7, p1_8, p1_9, p1_10, p1_11, p1_12, p1_13, p1_14, p1_15, p2_0, p2_1, p2_2, p2_3, p2_4, p2_5, p2_6, p2_7, p2_8, p2_9, p2_10, p2_11, p2_12, p2_13, p2_14, p2_15, b01_ok, b_ft, b_tf, b01_e0, b01_e1, lgc_0, not_true_eq_false, not_false_eq_true, K, q.m, hm]
  exact loop (min 3 (vb S).length) 0 h S (by omega) rfl q g f Fm.rf (by rw [take_min])
theorem oneOf_some {b : Bool} {x : Int64} (hx : sm x) (h0 : ¬ x = 0) : oneOf b x < 40 ∧ (b = true → grt x = some (oneOf b x)) ∧ (b = false → lst x 0 = some (oneOf b x)) := by
  cases b with
  | true =>
    unfold oneOf
    cases e : grt x with
    | none => exact absurd (grt_none_0 hx e) h0
    | some k => exact ⟨(grA_some 40 k e).1, fun _ => by simp, fun z => by cases z⟩
  | false =>
    unfold oneOf
    cases e : lst x 0 with
    | none => exact absurd (lst_none_0 hx e) h0
    | some k => exact ⟨(lst_0 e).1, fun z => (by cases z), fun _ => by simp⟩
theorem rmv_sm {b : Bool} : ∀ {n : Nat} {x : Int64}, sm x → sm (rmv b n x)
  | 0, x, h => h
  | n + 1, x, h => by
    unfold rmv
    split
    · exact h
    · exact rmv_sm (sm_and h)
theorem picked_sm {b : Bool} {n : Nat} {x : Int64} (h : sm x) : sm (picked b n x) := sm_and h
set_option maxHeartbeats 4000000 in
theorem v_firstFew {d : Nat} {Q : PQ} {h : HP} {x : Int64} {n : Nat} {b : Bool} (hx : sm x) (hn : n < 2 ^ 20) : Ev (d + 2) 55 [.long x, .int (nI n), .int (b01 b)] h Q = Q (some (.long (picked b n x))) h := by
  have loop : ∀ (m i : Nat) (y : Int64), i + m = n → sm y → WP (d + 1) 55 Q (6, [.val (.long x), .second, .val (.int (nI n)), .val (.int (b01 b)), .val (.long y), .second, .val (.int (nI i))], [], h, 0, 0) = Q (some (.long (x &&& (rmv b m y ^^^ -1)))) h := by
    intro m
    induction m with
    | zero =>
      intro i y hi hy
      obtain rfl : i = n := by omega
      rw [s55_6]
      simp only [s55_0, s55_1, s55_3, s55_4, s55_8, s55_9, s55_12, s55_14, s55_15, s55_16, s55_19, s55_21, s55_22, s55_25, s55_27, s55_30, s55_33, s55_36, s55_37, s55_40, s55_42, s55_43, s55_44, s55_45, s55_47, s55_50, s55_53, s55_54, s55_56, s55_59, s55_60, s55_61, oB_some, cl2_i, cl2_r, cl2_l, cl2_u, cl2_s, wd_0, wd_i, wd_r, wd_l, wd_f, ct_i, ct_r, ct_n, ct_f, rf_s, rf_n, tl_s, tl_n, true_and, and_true, eq_self, and_self, Nat.reduceAdd, Nat.reduceLeDiff, Nat.zero_le, Nat.reduceEqDiff, or_true, true_or, false_or, or_false, if_true, if_false, gI_0, gI_1, gI_2, gI_3, gI_4, gI_5, gI_6, gI_7, gI_8, gI_9, gI_10, gI_11, gI_12, gI_13, gI_14, gI_15, gL_0, gL_1, gL_2, gL_3, gL_4, gL_5, gL_6, gL_7, gL_8, gL_9, gL_10, gL_11, gL_12, gL_13, gL_14, gL_15, gA_0, gA_1, gA_2, gA_3, gA_4, gA_5, gA_6, gA_7, gA_8, gA_9, gA_10, gA_11, gA_12, gA_13, gA_14, gA_15, p1_0, p1_1, p1_2, p1_3, p1_4, p1_5, p1_6, p1_7, p1_8, p1_9, p1_10, p1_11, p1_12, p1_13, p1_14, p1_15, p2_0, p2_1, p2_2, p2_3, p2_4, p2_5, p2_6, p2_7, p2_8, p2_9, p2_10, p2_11, p2_12, p2_13, p2_14, p2_15, b01_ok, b_ft, b_tf, b01_e0, b01_e1, lgc_0, not_true_eq_false, not_false_eq_true, Int32.le_refl]
      rfl
    | succ m ih =>
      intro i y hi hy
      rw [s55_6]
      have z : ¬ nI n ≤ nI i := nI_ge (by omega) (by omega)
      by_cases h0 : y = 0
      · subst h0
        simp only [s55_0, s55_1, s55_3, s55_4, s55_8, s55_9, s55_12, s55_14, s55_15, s55_16, s55_19, s55_21, s55_22, s55_25, s55_27, s55_30, s55_33, s55_36, s55_37, s55_40, s55_42, s55_43, s55_44, s55_45, s55_47, s55_50, s55_53, s55_54, s55_56, s55_59, s55_60, s55_61, oB_some, cl2_i, cl2_r, cl2_l, cl2_u, cl2_s, wd_0, wd_i, wd_r, wd_l, wd_f, ct_i, ct_r, ct_n, ct_f, rf_s, rf_n, tl_s, tl_n, true_and, and_true, eq_self, and_self, Nat.reduceAdd, Nat.reduceLeDiff, Nat.zero_le, Nat.reduceEqDiff, or_true, true_or, false_or, or_false, if_true, if_false, gI_0, gI_1, gI_2, gI_3, gI_4, gI_5, gI_6, gI_7, gI_8, gI_9, gI_10, gI_11, gI_12, gI_13, gI_14, gI_15, gL_0, gL_1, gL_2, gL_3, gL_4, gL_5, gL_6, gL_7, gL_8, gL_9, gL_10, gL_11, gL_12, gL_13, gL_14, gL_15, gA_0, gA_1, gA_2, gA_3, gA_4, gA_5, gA_6, gA_7, gA_8, gA_9, gA_10, gA_11, gA_12, gA_13, gA_14, gA_15, p1_0, p1_1, p1_2, p1_3, p1_4, p1_5, p1_6, p1_7, p1_8, p1_9, p1_10, p1_11, p1_12, p1_13, p1_14, p1_15, p2_0, p2_1, p2_2, p2_3, p2_4, p2_5, p2_6, p2_7, p2_8, p2_9, p2_10, p2_11, p2_12, p2_13, p2_14, p2_15, b01_ok, b_ft, b_tf, b01_e0, b01_e1, lgc_0, not_true_eq_false, not_false_eq_true, z]
        rfl
      · obtain ⟨o1, o2, o3⟩ := oneOf_some (b := b) hy h0
        have e : rmv b (m + 1) y = rmv b m (y &&& (bL (oneOf b y) ^^^ -1)) := by
          rw [rmv, if_neg h0]
        rw [e]
        cases b with
        | true =>
          have g1 := o2 rfl
          have e2 : oN (some (oneOf true y)) = nI (oneOf true y) := rfl
          simp only [s55_0, s55_1, s55_3, s55_4, s55_8, s55_9, s55_12, s55_14, s55_15, s55_16, s55_19, s55_21, s55_22, s55_25, s55_27, s55_30, s55_33, s55_36, s55_37, s55_40, s55_42, s55_43, s55_44, s55_45, s55_47, s55_50, s55_53, s55_54, s55_56, s55_59, s55_60, s55_61, oB_some, cl2_i, cl2_r, cl2_l, cl2_u, cl2_s, wd_0, wd_i, wd_r, wd_l, wd_f, ct_i, ct_r, ct_n, ct_f, rf_s, rf_n, tl_s, tl_n, true_and, and_true, eq_self, and_self, Nat.reduceAdd, Nat.reduceLeDiff, Nat.zero_le, Nat.reduceEqDiff, or_true, true_or, false_or, or_false, if_true, if_false, gI_0, gI_1, gI_2, gI_3, gI_4, gI_5, gI_6, gI_7, gI_8, gI_9, gI_10, gI_11, gI_12, gI_13, gI_14, gI_15, gL_0, gL_1, gL_2, gL_3, gL_4, gL_5, gL_6, gL_7, gL_8, gL_9, gL_10, gL_11, gL_12, gL_13, gL_14, gL_15, gA_0, gA_1, gA_2, gA_3, gA_4, gA_5, gA_6, gA_7, gA_8, gA_9, gA_10, gA_11, gA_12, gA_13, gA_14, gA_15, p1_0, p1_1, p1_2, p1_3, p1_4, p1_5, p1_6, p1_7, p1_8, p1_9, p1_10, p1_11, p1_12, p1_13, p1_14, p1_15, p2_0, p2_1, p2_2, p2_3, p2_4, p2_5, p2_6, p2_7, p2_8, p2_9, p2_10, p2_11, p2_12, p2_13, p2_14, p2_15, b01_ok, b_ft, b_tf, b01_e0, b01_e1, lgc_0, not_true_eq_false, not_false_eq_true, z, h0, v_greatest, g1, e2, v_only (show oneOf true y < 64 by omega), nI_1, b01_t, Bool.true_eq_false]
          exact ih (i + 1) _ (by omega) (sm_and hy)
        | false =>
          have g1 := o3 rfl
          simp only [s55_0, s55_1, s55_3, s55_4, s55_8, s55_9, s55_12, s55_14, s55_15, s55_16, s55_19, s55_21, s55_22, s55_25, s55_27, s55_30, s55_33, s55_36, s55_37, s55_40, s55_42, s55_43, s55_44, s55_45, s55_47, s55_50, s55_53, s55_54, s55_56, s55_59, s55_60, s55_61, oB_some, cl2_i, cl2_r, cl2_l, cl2_u, cl2_s, wd_0, wd_i, wd_r, wd_l, wd_f, ct_i, ct_r, ct_n, ct_f, rf_s, rf_n, tl_s, tl_n, true_and, and_true, eq_self, and_self, Nat.reduceAdd, Nat.reduceLeDiff, Nat.zero_le, Nat.reduceEqDiff, or_true, true_or, false_or, or_false, if_true, if_false, gI_0, gI_1, gI_2, gI_3, gI_4, gI_5, gI_6, gI_7, gI_8, gI_9, gI_10, gI_11, gI_12, gI_13, gI_14, gI_15, gL_0, gL_1, gL_2, gL_3, gL_4, gL_5, gL_6, gL_7, gL_8, gL_9, gL_10, gL_11, gL_12, gL_13, gL_14, gL_15, gA_0, gA_1, gA_2, gA_3, gA_4, gA_5, gA_6, gA_7, gA_8, gA_9, gA_10, gA_11, gA_12, gA_13, gA_14, gA_15, p1_0, p1_1, p1_2, p1_3, p1_4, p1_5, p1_6, p1_7, p1_8, p1_9, p1_10, p1_11, p1_12, p1_13, p1_14, p1_15, p2_0, p2_1, p2_2, p2_3, p2_4, p2_5, p2_6, p2_7, p2_8, p2_9, p2_10, p2_11, p2_12, p2_13, p2_14, p2_15, b01_ok, b_ft, b_tf, b01_e0, b01_e1, lgc_0, not_true_eq_false, not_false_eq_true, z, h0, and_pred g1, nI_1]
          exact ih (i + 1) _ (by omega) (sm_and hy)
  simp only [e55, s55_0, s55_1, s55_3, s55_4, s55_8, s55_9, s55_12, s55_14, s55_15, s55_16, s55_19, s55_21, s55_22, s55_25, s55_27, s55_30, s55_33, s55_36, s55_37, s55_40, s55_42, s55_43, s55_44, s55_45, s55_47, s55_50, s55_53, s55_54, s55_56, s55_59, s55_60, s55_61, oB_some, cl2_i, cl2_r, cl2_l, cl2_u, cl2_s, wd_0, wd_i, wd_r, wd_l, wd_f, ct_i, ct_r, ct_n, ct_f, rf_s, rf_n, tl_s, tl_n, true_and, and_true, eq_self, and_self, Nat.reduceAdd, Nat.reduceLeDiff, Nat.zero_le, Nat.reduceEqDiff, or_true, true_or, false_or, or_false, if_true, if_false, gI_0, gI_1, gI_2, gI_3, gI_4, gI_5, gI_6, gI_7, gI_8, gI_9, gI_10, gI_11, gI_12, gI_13, gI_14, gI_15, gL_0, gL_1, gL_2, gL_3, gL_4, gL_5, gL_6, gL_7, gL_8, gL_9, gL_10, gL_11, gL_12, gL_13, gL_14, gL_15, gA_0, gA_1, gA_2, gA_3, gA_4, gA_5, gA_6, gA_7, gA_8, gA_9, gA_10, gA_11, gA_12, gA_13, gA_14, gA_15, p1_0, p1_1, p1_2, p1_3, p1_4, p1_5, p1_6, p1_7, p1_8, p1_9, p1_10, p1_11, p1_12, p1_13, p1_14, p1_15, p2_0, p2_1, p2_2, p2_3, p2_4, p2_5, p2_6, p2_7, p2_8, p2_9, p2_10, p2_11, p2_12, p2_13, p2_14, p2_15, b01_ok, b_ft, b_tf, b01_e0, b01_e1, lgc_0, not_true_eq_false, not_false_eq_true]
  exact loop n 0 x (by omega) hx
