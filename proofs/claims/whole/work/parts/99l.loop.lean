-- written by gen99l.py: the law's loop, the law
theorem lw_in {L i : Nat} (h : i + 6 ≤ L) (hL : L ≤ 3072) : ¬ nI L - 6 < nI i := by
  rw [show nI L - 6 = nI (L - 6) from pk_sub (b := 6) (by omega)]
  exact nI_nlt (by omega) (by omega)
theorem lw_out {L i : Nat} (h : L < i + 6) (hi : i ≤ 4000) : nI L - 6 < nI i := by
  by_cases h6 : 6 ≤ L
  · rw [show nI L - 6 = nI (L - 6) from pk_sub (b := 6) (by omega)]
    exact nI_lt (by omega) (by omega)
  · have p : 0 ≤ nI i := nI_pos' (by omega)
    have q : nI L - 6 < 0 := by
      rcases (show L = 0 ∨ L = 1 ∨ L = 2 ∨ L = 3 ∨ L = 4 ∨ L = 5 by omega) with rfl | rfl | rfl | rfl | rfl | rfl
      all_goals decide
    exact Int32.lt_of_lt_of_le q p
theorem ifc {p : Prop} [Decidable p] {A B : Prop} (a : A) (b : B) : if p then A else B := by
  by_cases z : p
  · rw [if_pos z]; exact a
  · rw [if_neg z]; exact b
set_option maxHeartbeats 4000000 in
theorem lw_turn {b L x tl len i c s : Nat} {xs : Nat → Int32} {h : HP} {tp r : Nat → Nat} {S : VS} {H : HS} {Q : PQ} {w : Int32} (a : LI b L xs h x S H tp tl r len) (hi : i + 6 ≤ L) (hL : L ≤ 3072) (hc : 12 ≤ c) (hs : 172 ≤ s)
    (nx : ∀ h' S' H' tp' tl' r' len' c' s', c ≤ c' + 12 → s ≤ s' + 172 → LI b L xs h' x S' H' tp' tl' r' len' → WP 11 270 Q (1434, [.val (.ref b), .val (.ref x), .val (.ref (x + 34)), .val (.int (nI i))], [], h', c', s')) : WP 11 270 Q (33, [.val (.ref b), .val (.ref x), .val (.ref (x + 34)), .val (.int (nI i))], [.int w], h, c, s) := by
  rw [s270_33]
  exact ifc (lc_feed a hi hL hc hs nx) <| ifc (lc_post a hi hL hc hs nx) <| ifc (lc_person a hi hL hc hs nx) <| ifc (lc_knows a hi hL hc hs nx) <| ifc (lc_above a hi hL hc hs nx) <| ifc (lc_letter a hi hL hc hs nx) <| ifc (lc_comes a hi hL hc hs nx) <| ifc (lc_friend a hi hL hc hs nx) <| ifc (lc_tells a hi hL hc hs nx) <| ifc (lc_forbids a hi hL hc hs nx) <| ifc (lc_rubber a hi hL hc hs nx) <| ifc (lc_recalls a hi hL hc hs nx) <| ifc (lc_days a hi hL hc hs nx) <| ifc (lc_back a hi hL hc hs nx) <| ifc (lc_knownIn a hi hL hc hs nx) <| ifc (lc_then a hi hL hc hs nx) <| ifc (lc_when a hi hL hc hs nx) <| ifc (lc_first a hi hL hc hs nx) <| ifc (lc_letHer a hi hL hc hs nx) <| ifc (lc_rubberFor a hi hL hc hs nx) <| ifc (lc_ink a hi hL hc hs nx) <| ifc (lc_friendFor a hi hL hc hs nx) <| ifc (lc_swap a hi hL hc hs nx) <| ifc (lc_shade a hi hL hc hs nx) <| ifc (lc_whatKind a hi hL hc hs nx) <| ifc (lc_toWhom a hi hL hc hs nx) <| ifc (lc_two a hi hL hc hs nx) <| ifc (lc_damp a hi hL hc hs nx) <| ifc (lc_reach a hi hL hc hs nx) <| ifc (lc_common a hi hL hc hs nx) <| ifc (lc_rarest a hi hL hc hs nx) <| ifc (lc_share a hi hL hc hs nx) <| ifc (lc_lamp a hi hL hc hs nx) <| ifc (lc_bag a hi hL hc hs nx) <| ifc (lc_kinds a hi hL hc hs nx) <| ifc (lc_row a hi hL hc hs nx) <| ifc (lc_judge a hi hL hc hs nx) <| ifc (lc_clear a hi hL hc hs nx) <| ifc (lc_lots a hi hL hc hs nx) <| ifc (lc_image a hi hL hc hs nx) <| ifc (lc_restore a hi hL hc hs nx) <| ifc (lc_count a hi hL hc hs nx) <| nx _ _ _ _ _ _ _ _ _ (by omega) (by omega) a
theorem lw_exit {b L x tl len i c s : Nat} {xs : Nat → Int32} {h : HP} {tp r : Nat → Nat} {S : VS} {H : HS} (a : LI b L xs h x S H tp tl r len) (z : L < i + 6) (hi : i ≤ 4000) :
    WP 11 270 (fun r _ => r = some (.int 1)) (18, [.val (.ref b), .val (.ref x), .val (.ref (x + 34)), .val (.int (nI i))], [], h, c, s) := by
  obtain ⟨-, -, -, -, -, kb, lb, -⟩ := a
  have eL : Int32.ofNat L = nI L := rfl
  have cm := lw_out z hi
  simp only [s270_18, s270_19, s270_20, s270_21, s270_23, s270_24, oB_some, cl2_i, cl2_r, cl2_l, cl2_u, cl2_s, wd_0, wd_i, wd_r, wd_l, wd_f, ct_i, ct_r, ct_n, ct_f, rf_s, rf_n, tl_s, tl_n, true_and, and_true, eq_self, and_self, Nat.reduceAdd, Nat.reduceLeDiff, Nat.zero_le, Nat.reduceEqDiff, or_true, true_or, false_or, or_false, if_true, if_false, gI_0, gI_1, gI_2, gI_3, gI_4, gI_5, gI_6, gI_7, gI_8, gI_9, gI_10, gI_11, gI_12, gI_13, gI_14, gI_15, gL_0, gL_1, gL_2, gL_3, gL_4, gL_5, gL_6, gL_7, gL_8, gL_9, gL_10, gL_11, gL_12, gL_13, gL_14, gL_15, gA_0, gA_1, gA_2, gA_3, gA_4, gA_5, gA_6, gA_7, gA_8, gA_9, gA_10, gA_11, gA_12, gA_13, gA_14, gA_15, p1_0, p1_1, p1_2, p1_3, p1_4, p1_5, p1_6, p1_7, p1_8, p1_9, p1_10, p1_11, p1_12, p1_13, p1_14, p1_15, p2_0, p2_1, p2_2, p2_3, p2_4, p2_5, p2_6, p2_7, p2_8, p2_9, p2_10, p2_11, p2_12, p2_13, p2_14, p2_15, kb, lb, eL, cm]
  simp only [s270_1440, s270_1441, oB_some, cl2_i, cl2_r, cl2_l, cl2_u, cl2_s, wd_0, wd_i, wd_r, wd_l, wd_f, ct_i, ct_r, ct_n, ct_f, rf_s, rf_n, tl_s, tl_n, true_and, and_true, eq_self, and_self, Nat.reduceAdd, Nat.reduceLeDiff, Nat.zero_le, Nat.reduceEqDiff, or_true, true_or, false_or, or_false, if_true, if_false, gI_0, gI_1, gI_2, gI_3, gI_4, gI_5, gI_6, gI_7, gI_8, gI_9, gI_10, gI_11, gI_12, gI_13, gI_14, gI_15, gL_0, gL_1, gL_2, gL_3, gL_4, gL_5, gL_6, gL_7, gL_8, gL_9, gL_10, gL_11, gL_12, gL_13, gL_14, gL_15, gA_0, gA_1, gA_2, gA_3, gA_4, gA_5, gA_6, gA_7, gA_8, gA_9, gA_10, gA_11, gA_12, gA_13, gA_14, gA_15, p1_0, p1_1, p1_2, p1_3, p1_4, p1_5, p1_6, p1_7, p1_8, p1_9, p1_10, p1_11, p1_12, p1_13, p1_14, p1_15, p2_0, p2_1, p2_2, p2_3, p2_4, p2_5, p2_6, p2_7, p2_8, p2_9, p2_10, p2_11, p2_12, p2_13, p2_14, p2_15]
set_option maxHeartbeats 4000000 in
theorem lw_loop {b L x : Nat} {xs : Nat → Int32} (hL : L ≤ 3072) (n : Nat) : ∀ {i tl len c s : Nat} {h : HP} {tp r : Nat → Nat} {S : VS} {H : HS}, LI b L xs h x S H tp tl r len → i ≤ 4000 → L < i + 6 * n → 12 * n ≤ c → 172 * n ≤ s →
    WP 11 270 (fun r _ => r = some (.int 1)) (18, [.val (.ref b), .val (.ref x), .val (.ref (x + 34)), .val (.int (nI i))], [], h, c, s) := by
  induction n with
  | zero =>
    intro i tl len c s h tp r S H a hi hn hc hs
    exact lw_exit a (by omega) hi
  | succ n ih =>
    intro i tl len c s h tp r S H a hi hn hc hs
    by_cases z : L < i + 6
    · exact lw_exit a z hi
    · obtain ⟨C, M, g, rf, hb, kb, lb, ib⟩ := id a
      have eL : Int32.ofNat L = nI L := rfl
      have cm := lw_in (L := L) (i := i) (by omega) hL
      have i31 : i < 2 ^ 31 := by omega
      have iL : i < L := by omega
      simp only [s270_18, s270_19, s270_20, s270_21, s270_23, s270_24, oB_some, cl2_i, cl2_r, cl2_l, cl2_u, cl2_s, wd_0, wd_i, wd_r, wd_l, wd_f, ct_i, ct_r, ct_n, ct_f, rf_s, rf_n, tl_s, tl_n, true_and, and_true, eq_self, and_self, Nat.reduceAdd, Nat.reduceLeDiff, Nat.zero_le, Nat.reduceEqDiff, or_true, true_or, false_or, or_false, if_true, if_false, gI_0, gI_1, gI_2, gI_3, gI_4, gI_5, gI_6, gI_7, gI_8, gI_9, gI_10, gI_11, gI_12, gI_13, gI_14, gI_15, gL_0, gL_1, gL_2, gL_3, gL_4, gL_5, gL_6, gL_7, gL_8, gL_9, gL_10, gL_11, gL_12, gL_13, gL_14, gL_15, gA_0, gA_1, gA_2, gA_3, gA_4, gA_5, gA_6, gA_7, gA_8, gA_9, gA_10, gA_11, gA_12, gA_13, gA_14, gA_15, p1_0, p1_1, p1_2, p1_3, p1_4, p1_5, p1_6, p1_7, p1_8, p1_9, p1_10, p1_11, p1_12, p1_13, p1_14, p1_15, p2_0, p2_1, p2_2, p2_3, p2_4, p2_5, p2_6, p2_7, p2_8, p2_9, p2_10, p2_11, p2_12, p2_13, p2_14, p2_15, kb, lb, eL, cm]
      simp only [s270_27, s270_28, s270_29, s270_30, s270_32, oB_some, cl2_i, cl2_r, cl2_l, cl2_u, cl2_s, wd_0, wd_i, wd_r, wd_l, wd_f, ct_i, ct_r, ct_n, ct_f, rf_s, rf_n, tl_s, tl_n, true_and, and_true, eq_self, and_self, Nat.reduceAdd, Nat.reduceLeDiff, Nat.zero_le, Nat.reduceEqDiff, or_true, true_or, false_or, or_false, if_true, if_false, gI_0, gI_1, gI_2, gI_3, gI_4, gI_5, gI_6, gI_7, gI_8, gI_9, gI_10, gI_11, gI_12, gI_13, gI_14, gI_15, gL_0, gL_1, gL_2, gL_3, gL_4, gL_5, gL_6, gL_7, gL_8, gL_9, gL_10, gL_11, gL_12, gL_13, gL_14, gL_15, gA_0, gA_1, gA_2, gA_3, gA_4, gA_5, gA_6, gA_7, gA_8, gA_9, gA_10, gA_11, gA_12, gA_13, gA_14, gA_15, p1_0, p1_1, p1_2, p1_3, p1_4, p1_5, p1_6, p1_7, p1_8, p1_9, p1_10, p1_11, p1_12, p1_13, p1_14, p1_15, p2_0, p2_1, p2_2, p2_3, p2_4, p2_5, p2_6, p2_7, p2_8, p2_9, p2_10, p2_11, p2_12, p2_13, p2_14, p2_15, kb, lb, ix_nI i31, nI_pos' i31, iL, ib]
      refine lw_turn a (by omega) hL (by omega) (by omega) fun h' S' H' tp' tl' r' len' c' s' hc' hs' a' => ?_
      have e6 : nI i + 6 = nI (i + 6) := nI_add i 6
      simp only [s270_1434, s270_1437, oB_some, cl2_i, cl2_r, cl2_l, cl2_u, cl2_s, wd_0, wd_i, wd_r, wd_l, wd_f, ct_i, ct_r, ct_n, ct_f, rf_s, rf_n, tl_s, tl_n, true_and, and_true, eq_self, and_self, Nat.reduceAdd, Nat.reduceLeDiff, Nat.zero_le, Nat.reduceEqDiff, or_true, true_or, false_or, or_false, if_true, if_false, gI_0, gI_1, gI_2, gI_3, gI_4, gI_5, gI_6, gI_7, gI_8, gI_9, gI_10, gI_11, gI_12, gI_13, gI_14, gI_15, gL_0, gL_1, gL_2, gL_3, gL_4, gL_5, gL_6, gL_7, gL_8, gL_9, gL_10, gL_11, gL_12, gL_13, gL_14, gL_15, gA_0, gA_1, gA_2, gA_3, gA_4, gA_5, gA_6, gA_7, gA_8, gA_9, gA_10, gA_11, gA_12, gA_13, gA_14, gA_15, p1_0, p1_1, p1_2, p1_3, p1_4, p1_5, p1_6, p1_7, p1_8, p1_9, p1_10, p1_11, p1_12, p1_13, p1_14, p1_15, p2_0, p2_1, p2_2, p2_3, p2_4, p2_5, p2_6, p2_7, p2_8, p2_9, p2_10, p2_11, p2_12, p2_13, p2_14, p2_15, e6]
      exact ih a' (by omega) (by omega) (by omega) (by omega)
set_option maxHeartbeats 4000000 in
theorem law_pure : LawPure := by
  intro b L z xs hb hL
  show WP 11 270 _ (0, [.val (.ref b), .unset, .unset, .unset], [], lawH0 b L z xs, 600000, 7302250)
  obtain ⟨h0, y0⟩ : ∃ w, w = lawH0 b L z xs := ⟨_, rfl⟩
  have n0 : hnx h0 = z := by rw [y0]; rfl
  have kb : hkd h0 b = 1 := by rw [y0]; exact if_pos rfl
  have lb : hln h0 b = L := by rw [y0]; exact if_pos rfl
  have ib : ∀ j, hI h0 b j = xs j := fun j => by rw [y0]; exact if_pos rfl
  rw [← y0]
  have k0 : hkd (snw h0 15 0) z = 15 := if_pos n0.symm
  simp only [s270_0, s270_3, s270_4, oB_some, cl2_i, cl2_r, cl2_l, cl2_u, cl2_s, wd_0, wd_i, wd_r, wd_l, wd_f, ct_i, ct_r, ct_n, ct_f, rf_s, rf_n, tl_s, tl_n, true_and, and_true, eq_self, and_self, Nat.reduceAdd, Nat.reduceLeDiff, Nat.zero_le, Nat.reduceEqDiff, or_true, true_or, false_or, or_false, if_true, if_false, gI_0, gI_1, gI_2, gI_3, gI_4, gI_5, gI_6, gI_7, gI_8, gI_9, gI_10, gI_11, gI_12, gI_13, gI_14, gI_15, gL_0, gL_1, gL_2, gL_3, gL_4, gL_5, gL_6, gL_7, gL_8, gL_9, gL_10, gL_11, gL_12, gL_13, gL_14, gL_15, gA_0, gA_1, gA_2, gA_3, gA_4, gA_5, gA_6, gA_7, gA_8, gA_9, gA_10, gA_11, gA_12, gA_13, gA_14, gA_15, p1_0, p1_1, p1_2, p1_3, p1_4, p1_5, p1_6, p1_7, p1_8, p1_9, p1_10, p1_11, p1_12, p1_13, p1_14, p1_15, p2_0, p2_1, p2_2, p2_3, p2_4, p2_5, p2_6, p2_7, p2_8, p2_9, p2_10, p2_11, p2_12, p2_13, p2_14, p2_15, Nat.reduceSub, n0, k0]
  refine v_oneInit n0 fun hA f => ?_
  have nA := f.1
  obtain ⟨h1, y1⟩ : ∃ w, w = snw hA 16 0 := ⟨_, rfl⟩
  have k1 : hkd h1 (z + 34) = 16 := by rw [y1]; exact if_pos nA.symm
  have g1 : z + 34 < hnx h1 := by rw [y1, hnx_snw]; omega
  obtain ⟨hD, yD⟩ : ∃ w, w = sI (bld (z + 34) LM h1) (z + 34) 13 6 := ⟨_, rfl⟩
  simp only [s270_7, s270_8, s270_11, s270_12, s270_15, s270_16, s270_17, oB_some, cl2_i, cl2_r, cl2_l, cl2_u, cl2_s, wd_0, wd_i, wd_r, wd_l, wd_f, ct_i, ct_r, ct_n, ct_f, rf_s, rf_n, tl_s, tl_n, true_and, and_true, eq_self, and_self, Nat.reduceAdd, Nat.reduceLeDiff, Nat.zero_le, Nat.reduceEqDiff, or_true, true_or, false_or, or_false, if_true, if_false, gI_0, gI_1, gI_2, gI_3, gI_4, gI_5, gI_6, gI_7, gI_8, gI_9, gI_10, gI_11, gI_12, gI_13, gI_14, gI_15, gL_0, gL_1, gL_2, gL_3, gL_4, gL_5, gL_6, gL_7, gL_8, gL_9, gL_10, gL_11, gL_12, gL_13, gL_14, gL_15, gA_0, gA_1, gA_2, gA_3, gA_4, gA_5, gA_6, gA_7, gA_8, gA_9, gA_10, gA_11, gA_12, gA_13, gA_14, gA_15, p1_0, p1_1, p1_2, p1_3, p1_4, p1_5, p1_6, p1_7, p1_8, p1_9, p1_10, p1_11, p1_12, p1_13, p1_14, p1_15, p2_0, p2_1, p2_2, p2_3, p2_4, p2_5, p2_6, p2_7, p2_8, p2_9, p2_10, p2_11, p2_12, p2_13, p2_14, p2_15, Nat.reduceSub, nA, ← y1, k1, v_mInit k1 g1, ← yD]
  have e0 : (0 : Int32) = nI 0 := rfl
  rw [e0]
  exact lw_loop hL 513 (li_new hb kb lb ib f y1 yD) (by omega) (by omega) (by omega) (by omega)
