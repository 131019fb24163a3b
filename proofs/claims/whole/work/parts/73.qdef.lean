-- the answers of questions, of arguments as they come
def ledA (r : Nat → Nat) (k f y : Nat) : Nat → Nat → Bool
  | 0, _ => true
  | m + 1, i => if r i = leadN k f (y + 1 + i) then ledA r k f y m (i + 1) else false
theorem ledA_s (r : Nat → Nat) (k f y m i : Nat) : ledA r k f y (m + 1) i = if r i = leadN k f (y + 1 + i) then ledA r k f y m (i + 1) else false := rfl
def aKnows (S : VS) (p s : Int32) : Int32 := b01 (hb (knN S p) (tc s))
def aAbove (S : VS) (p s : Int32) : Int32 := oN (lst (knN S p) (tc s))
def aPerson (S : VS) (p w : Int32) : Int32 := nI (if tc w = 8 then picksN (vk S (tc p)) else ofP S (tc p) (tc w))
def aLetter (S : VS) (p w : Int32) : Int32 := match (vb S)[tc p]? with
  | some l => ofL l (tc w)
  | none => 0
def aKnownIn (S : VS) (p n : Int32) : Int32 := nI (nb (knN (dayN 0 false false (tc n) S) p))
def aThen (S : VS) (n w : Int32) : Int32 := nI (inAllN (dayN 0 false false (tc n) S) (tc w))
def aWhen (S : VS) (p s : Int32) : Int32 := oN (untilN 0 false false (fun T => hb (knN T p) (tc s)) 61 0 S)
def aFirst (S : VS) (s : Int32) : Int32 := oN (firA S (tc s) 60 S)
def aLetHer (S : VS) (p n w : Int32) : Int32 := ans2 w (letHerN S (tc p) (tc n))
def aRubberFor (S : VS) (p s n : Int32) : Int32 := oN (findA (rubN S (tc p) (tc s) (tc n)) 19 0)
def aInk (S : VS) (s n : Int32) : Int32 := oN (inkA (inkN S (tc s) (tc n)) (2 ^ vn S) (vn S + 1) 0)
def aFriendFor (S : VS) (p t s w : Int32) : Int32 := ans2 w (friN S (tc p) (tc t) (tc s))
def aSwap (S : VS) (n : Int32) : Int32 := oN (swapN S (tc n))
def aShade (S : VS) (n : Int32) : Int32 := nI (nb (vs (dayN 0 false false (tc n) S))) - nI (nb (vs (dayN 0 false true (tc n) S)))
def aWhatKind (S : VS) (r : Nat → Nat) (len : Nat) (p w : Int32) : Int32 := nI (if w = 0 then bitN (fun k => ledA r k (vf S (tc p)) (vy S) len 0) 8 else bitN (fun f => ledA r (vk S (tc p)) f (vy S) len 0) 10)
def aToWhom (S : VS) (r : Nat → Nat) (len : Nat) (p t : Int32) : Int32 := nI (bitN (fun f => goR r (tc p) len 0 (wR S (tc t) f)) 6)
def aTwo (S : VS) (a b n : Int32) : Int32 := oN (twoN S (tc a) (tc b) (tc n))
def aDamp (S : VS) (p s n t part : Int32) : Int64 := lN (fracN (waysN S (tc p) (tc s) (tc n) (tc t)) (tc t ^ tc n) part)
def aReach (S : VS) (p w : Int32) : Int32 := if w = 0 then nI (rchN S 6 (tc p) (2 ^ tc p)) else oN (ringV S (tc p))
def aCommon (S : VS) (a b w : Int32) : Int32 := nI (nb (if w = 0 then vw S (tc a) &&& vw S (tc b) else if w = 1 then vw S (tc a) ||| vw S (tc b) else vw S (tc a) &&& (vw S (tc b) ^^^ -1)))
def aRarest (S : VS) (w : Int32) : Int32 := if w = 0 then oN (rareA S 40 (none, 7)).1 else if w = 1 then (match (rareA S 40 (none, 7)).1 with | none => 0 | some c => nI (howKnow S c)) else 40 - nI (nb (anyW S))
def aShare (S : VS) (part : Int32) : Int64 := lN (fracN (nb (vs S)) (nb (vs S ||| anyW S)) part)
def aBag (S : VS) (w : Int32) : Int32 := if w = 0 then nI (spoilV false false (vb S) S) else if w = 1 then nI (stA 60 S (knAll S) 0 0) else oN (busyN S)
def aKinds (S : VS) (k : Int32) : Int32 := nI (howOf S (tc k))
def aLots (S : VS) (n z w : Int32) : Int32 := lotsA S w (tc n) z 0
theorem arg1 {x M : Int32} {n : Nat} (hM : M = nI n) (hn : n < 2 ^ 31) (h0 : ¬ x < 1) (h1 : ¬ M < x) : ∃ j, 1 ≤ j ∧ j ≤ n ∧ x = nI j := by
  have h2 : ¬ x < 0 := fun c => h0 (Int32.lt_iff_toInt_lt.mpr (by
    have := Int32.lt_iff_toInt_lt.mp c
    rw [show ((0 : Int32)).toInt = 0 from by decide] at this
    rw [show ((1 : Int32)).toInt = 1 from by decide]
    omega))
  obtain ⟨j, hj, rfl⟩ := arg_of hM hn h2 h1
  refine ⟨j, ?_, hj, rfl⟩
  cases j with
  | zero => exact absurd (show nI 0 < 1 by decide) h0
  | succ j => omega
theorem v_ref1 {d : Nat} {Q : PQ} {h : HP} {x : Nat} {S : VS} (X : XQ h x S) : Ev (d + 1) 12 [.ref x, .int (-1)] h Q = Q (some (.int (-1))) (RfC h x (-1)) := v_refuse X.1 (by decide)
theorem v_ref2 {d : Nat} {Q : PQ} {h : HP} {x : Nat} {S : VS} (X : XQ h x S) : Ev (d + 1) 12 [.ref x, .int (-2)] h Q = Q (some (.int (-2))) (RfC h x (-2)) := v_refuse X.1 (by decide)
theorem v_ref3 {d : Nat} {Q : PQ} {h : HP} {x : Nat} {S : VS} (X : XQ h x S) : Ev (d + 1) 12 [.ref x, .int (-3)] h Q = Q (some (.int (-3))) (RfC h x (-3)) := v_refuse X.1 (by decide)
theorem v_ref4 {d : Nat} {Q : PQ} {h : HP} {x : Nat} {S : VS} (X : XQ h x S) : Ev (d + 1) 12 [.ref x, .int (-4)] h Q = Q (some (.int (-4))) (RfC h x (-4)) := v_refuse X.1 (by decide)
theorem v_ref6 {d : Nat} {Q : PQ} {h : HP} {x : Nat} {S : VS} (X : XQ h x S) : Ev (d + 1) 12 [.ref x, .int (-6)] h Q = Q (some (.int (-6))) (RfC h x (-6)) := v_refuse X.1 (by decide)
set_option maxHeartbeats 4000000 in
theorem v_ofPerson8 {d : Nat} {Q : PQ} {h : HP} {v p : Nat} {S : VS} (q : RV h v S) (g : Good S) (hp : p < vn S) : Ev (d + 3) 108 [.ref v, .int (nI p), .int (nI 8)] h Q = Q (some (.int (nI (picksN (vk S p))))) h := by
  have k := q.k
  unfold VK at k
  have gn := g.n
  obtain ⟨g1, g2, g3, g4, g5⟩ := g.at hp
  obtain ⟨a1, a2, a3, a4, a5⟩ := q.at hp
  have p6 : p < 6 := by omega
  have p31 : p < 2 ^ 31 := by omega
  simp only [e108, s108_0, s108_1, s108_4, s108_5, s108_6, s108_7, s108_8, s108_11, s108_12, s108_13, s108_15, s108_16, s108_64, s108_65, s108_66, s108_68, s108_69, s108_70, s108_73, s108_74, s108_75, s108_76, s108_77, s108_80, s108_81, s108_82, s108_85, s108_86, s108_87, s108_90, s108_91, s108_92, s108_95, s108_96, s108_97, s108_99, s108_100, s108_103, s108_104, s108_105, s108_108, s108_109, s108_110, s108_112, s108_115, s108_116, s108_117, s108_119, s108_122, s108_123, s108_124, s108_127, oB_some, cl2_i, cl2_r, cl2_l, cl2_u, cl2_s, wd_0, wd_i, wd_r, wd_l, wd_f, ct_i, ct_r, ct_n, ct_f, rf_s, rf_n, tl_s, tl_n, true_and, and_true, eq_self, and_self, Nat.reduceAdd, Nat.reduceLeDiff, Nat.zero_le, Nat.reduceEqDiff, or_true, true_or, false_or, or_false, if_true, if_false, gI_0, gI_1, gI_2, gI_3, gI_4, gI_5, gI_6, gI_7, gI_8, gI_9, gI_10, gI_11, gI_12, gI_13, gI_14, gI_15, gL_0, gL_1, gL_2, gL_3, gL_4, gL_5, gL_6, gL_7, gL_8, gL_9, gL_10, gL_11, gL_12, gL_13, gL_14, gL_15, gA_0, gA_1, gA_2, gA_3, gA_4, gA_5, gA_6, gA_7, gA_8, gA_9, gA_10, gA_11, gA_12, gA_13, gA_14, gA_15, p1_0, p1_1, p1_2, p1_3, p1_4, p1_5, p1_6, p1_7, p1_8, p1_9, p1_10, p1_11, p1_12, p1_13, p1_14, p1_15, p2_0, p2_1, p2_2, p2_3, p2_4, p2_5, p2_6, p2_7, p2_8, p2_9, p2_10, p2_11, p2_12, p2_13, p2_14, p2_15, b01_ok, b_ft, b_tf, b01_e0, b01_e1, lgc_0, not_true_eq_false, not_false_eq_true, k, a1, a2, a3, a4, a5, q.y, ix_nI p31, nI_pos' p31, p6, v_picksOf g1]
  rfl
theorem v_howManyKnow9 {d : Nat} {Q : PQ} {h : HP} {v : Nat} {S : VS} (q : RV h v S) (g : Good S) : Ev (d + 4) 229 [.ref v, .int (-9)] h Q = Q (some (.int 0)) h := by
  have k := q.k
  unfold VK at k
  have z : (-9 : Int32) < 0 := by decide
  simp only [e229, s229_0, s229_1, s229_2, s229_3, s229_4, s229_5, s229_6, s229_9, s229_12, s229_13, s229_16, s229_17, s229_18, s229_19, s229_22, s229_25, s229_28, s229_31, s229_34, s229_35, oB_some, cl2_i, cl2_r, cl2_l, cl2_u, cl2_s, wd_0, wd_i, wd_r, wd_l, wd_f, ct_i, ct_r, ct_n, ct_f, rf_s, rf_n, tl_s, tl_n, true_and, and_true, eq_self, and_self, Nat.reduceAdd, Nat.reduceLeDiff, Nat.zero_le, Nat.reduceEqDiff, or_true, true_or, false_or, or_false, if_true, if_false, gI_0, gI_1, gI_2, gI_3, gI_4, gI_5, gI_6, gI_7, gI_8, gI_9, gI_10, gI_11, gI_12, gI_13, gI_14, gI_15, gL_0, gL_1, gL_2, gL_3, gL_4, gL_5, gL_6, gL_7, gL_8, gL_9, gL_10, gL_11, gL_12, gL_13, gL_14, gL_15, gA_0, gA_1, gA_2, gA_3, gA_4, gA_5, gA_6, gA_7, gA_8, gA_9, gA_10, gA_11, gA_12, gA_13, gA_14, gA_15, p1_0, p1_1, p1_2, p1_3, p1_4, p1_5, p1_6, p1_7, p1_8, p1_9, p1_10, p1_11, p1_12, p1_13, p1_14, p1_15, p2_0, p2_1, p2_2, p2_3, p2_4, p2_5, p2_6, p2_7, p2_8, p2_9, p2_10, p2_11, p2_12, p2_13, p2_14, p2_15, b01_ok, b_ft, b_tf, b01_e0, b01_e1, lgc_0, not_true_eq_false, not_false_eq_true, k, q.n, z, ite_self]
theorem v_isOne {d : Nat} {Q : PQ} {h : HP} {k : Int32} : Ev (d + 1) 30 [.int k] h Q = Q (some (.int (b01 (!(decide (k < 0) || decide (7 < k)))))) h := by
  have e : (8 ≤ k) = (7 < k) := by
    apply propext
    rw [Int32.le_iff_toInt_le, Int32.lt_iff_toInt_lt, show ((8 : Int32)).toInt = 8 from by decide, show ((7 : Int32)).toInt = 7 from by decide]
    omega
  simp only [e30, s30_0, s30_1, s30_4, s30_5, s30_7, s30_10, s30_11, s30_14, s30_15, oB_some, cl2_i, cl2_r, cl2_l, cl2_u, cl2_s, wd_0, wd_i, wd_r, wd_l, wd_f, ct_i, ct_r, ct_n, ct_f, rf_s, rf_n, tl_s, tl_n, true_and, and_true, eq_self, and_self, Nat.reduceAdd, Nat.reduceLeDiff, Nat.zero_le, Nat.reduceEqDiff, or_true, true_or, false_or, or_false, if_true, if_false, gI_0, gI_1, gI_2, gI_3, gI_4, gI_5, gI_6, gI_7, gI_8, gI_9, gI_10, gI_11, gI_12, gI_13, gI_14, gI_15, gL_0, gL_1, gL_2, gL_3, gL_4, gL_5, gL_6, gL_7, gL_8, gL_9, gL_10, gL_11, gL_12, gL_13, gL_14, gL_15, gA_0, gA_1, gA_2, gA_3, gA_4, gA_5, gA_6, gA_7, gA_8, gA_9, gA_10, gA_11, gA_12, gA_13, gA_14, gA_15, p1_0, p1_1, p1_2, p1_3, p1_4, p1_5, p1_6, p1_7, p1_8, p1_9, p1_10, p1_11, p1_12, p1_13, p1_14, p1_15, p2_0, p2_1, p2_2, p2_3, p2_4, p2_5, p2_6, p2_7, p2_8, p2_9, p2_10, p2_11, p2_12, p2_13, p2_14, p2_15, b01_ok, b_ft, b_tf, b01_e0, b01_e1, lgc_0, not_true_eq_false, not_false_eq_true, e]
  by_cases h0 : k < 0 <;> by_cases h1 : 7 < k <;> simp [h0, h1, b01]
/-- the row of numbers of the one side -/
def XR (h : HP) (x : Nat) (r : Nat → Nat) (len : Nat) : Prop := RW h (x + 5) r len ∧ hI h x 6 = nI len
