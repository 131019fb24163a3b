-- what comes out is again as it must be
theorem why_0 {a b c e : Bool} (h : why a b c e = 0) : a = false ∧ b = false ∧ c = false ∧ e = false := by
  revert h
  cases a <;> cases b <;> cases c <;> cases e <;> decide
theorem whyK_0 {a b c : Bool} (h : whyK a b c = 0) : a = false ∧ b = false ∧ c = false := by
  revert h
  cases a <;> cases b <;> cases c <;> decide
theorem not_of {p : Prop} [Decidable p] (h : decide p = false) : ¬ p := of_decide_eq_false h
theorem gv_friend {S : VS} {p f : Int32} (gS : GV S) (h : why (!isPI S p) (decide (f < 0)) (decide (5 < f)) false = 0) : GV (wR S (tc p) (tc f)) := by
  obtain ⟨-, h1, h2, -⟩ := why_0 h
  obtain ⟨j, hj, rfl⟩ := arg_of (n := 5) (M := 5) rfl (by decide) (not_of h1) (not_of h2)
  rw [tc_n (show j < 2 ^ 31 by omega)]
  exact ⟨gS.1.wR (by omega), gS.2⟩
theorem gv_tells {S : VS} {p s : Int32} (gS : GV S) (h : why (!isKI S p) (decide (s < 0)) (decide (39 < s)) false = 0) : GV (lrn S p (bL (tc s))) := by
  obtain ⟨h0, h1, h2, -⟩ := why_0 h
  obtain ⟨j, hj, rfl⟩ := arg_of (n := 39) (M := 39) rfl (by decide) (not_of h1) (not_of h2)
  rw [tc_n (show j < 2 ^ 31 by omega)]
  exact ⟨lrn_good gS.1 (by simpa using h0) (sm_bL (by omega)), by rw [lrn_vy]; exact gS.2⟩
theorem gv_forbids {S : VS} {s : Int32} (gS : GV S) (h : why false (decide (s < 0)) (decide (39 < s)) false = 0) : GV (wO S (vo S ^^^ bL (tc s))) := by
  obtain ⟨-, h1, h2, -⟩ := why_0 h
  obtain ⟨j, hj, rfl⟩ := arg_of (n := 39) (M := 39) rfl (by decide) (not_of h1) (not_of h2)
  rw [tc_n (show j < 2 ^ 31 by omega)]
  exact ⟨gS.1.wO (sm_xor gS.1.o (sm_bL (by omega))), gS.2⟩
theorem gv_rubber {S : VS} {v : Int32} (gS : GV S) (h : why false (decide (v < 0)) (decide (18 < v)) false = 0) : GV (wU S (tc v)) := by
  obtain ⟨-, h1, h2, -⟩ := why_0 h
  obtain ⟨j, hj, rfl⟩ := arg_of (n := 18) (M := 18) rfl (by decide) (not_of h1) (not_of h2)
  rw [tc_n (show j < 2 ^ 31 by omega)]
  exact ⟨gS.1.wU (by omega), gS.2⟩
theorem gv_days {S : VS} {n : Int32} (gS : GV S) (h : why false (decide (n < 1)) (decide (60 < n) || decide (999 < nI (vy S) + n)) false = 0) : GV (dayN 0 false false (tc n) S) := by
  obtain ⟨-, h1, h2, -⟩ := why_0 h
  rw [Bool.or_eq_false_iff] at h2
  have n0 : ¬ n < 0 := fun z => not_of h1 (Int32.lt_iff_toInt_lt.mpr (by
    have := Int32.lt_iff_toInt_lt.mp z
    rw [show ((0 : Int32)).toInt = 0 from by decide] at this
    rw [show ((1 : Int32)).toInt = 1 from by decide]
    omega))
  obtain ⟨j, hj, rfl⟩ := arg_of (n := 60) (M := 60) rfl (by decide) n0 (not_of h2.1)
  have hy := gS.2
  have h3 := not_of h2.2
  rw [nI_add] at h3
  have h4 : ¬ 999 < vy S + j := fun z => h3 ((nI_ltI (a := 999) (by decide) (by omega)).mpr z)
  rw [tc_n (show j < 2 ^ 31 by omega)]
  have kp := dayN_keep (ink := 0) (dm := false) (sh := false) (n := j) gS.1 (by omega)
  exact ⟨kp.1, by rw [kp.2.2]; omega⟩
theorem gv_comes {S : VS} {c f : Int32} (gS : GV S) (h : whyK (decide (c < 0) || decide (7 < c)) (decide (f < 0)) (decide (9 < f) || decide (vn S = 6)) = 0) : GV (come S (tc c) (tc f)) := by
  obtain ⟨h0, h1, h2⟩ := whyK_0 h
  rw [Bool.or_eq_false_iff] at h0 h2
  obtain ⟨j, hj, rfl⟩ := arg_of (n := 9) (M := 9) rfl (by decide) (not_of h1) (not_of h2.1)
  obtain ⟨i, hi, rfl⟩ := arg_of (n := 7) (M := 7) rfl (by decide) (not_of h0.1) (not_of h0.2)
  rw [tc_n (show j < 2 ^ 31 by omega), tc_n (show i < 2 ^ 31 by omega)]
  have gn := gS.1.n
  have h6 := not_of h2.2
  exact ⟨come_good gS.1 (by omega) (by omega) (by omega), gS.2⟩
theorem gv_recalls {S : VS} {p : Nat} (gS : GV S) : GV (wB S (notOf p (vb S))) := ⟨gS.1.wB (Nat.le_trans notOf_len gS.1.l) (fun l hl => gS.1.2.2.2.1 l (List.mem_filter.mp hl).1), gS.2⟩
theorem gh_drop {H : HS} (gH : GH H) : GH (dropH H) := ⟨⟨gH.1.1, Nat.zero_le _⟩, gH.2.1, fun j hj => absurd hj (Nat.not_lt_zero j)⟩
theorem gv_top {H : HS} (gH : GH H) (h0 : ¬ hc H = 0) : GV (topH H) := gH.2.2 (hc H - 1) (by omega)
theorem gh_pop {H : HS} (gH : GH H) : GH (popH H) := by
  obtain ⟨⟨a, b⟩, c, e⟩ := gH
  refine ⟨⟨a, ?_⟩, c, fun j hj => ?_⟩
  · show hc H - 1 ≤ 8
    omega
  · have hj2 : j < hc H - 1 := hj
    exact e j (by omega)
theorem gh_img {H : HS} {S : VS} (gH : GH H) (gS : GV S) : GH (imgH H S) := ⟨gH.1, fun I hI => by
  have : some S = some I := hI
  cases this
  exact gS, gH.2.2⟩
