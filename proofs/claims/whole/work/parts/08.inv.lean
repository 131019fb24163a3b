section MJI
variable {E : Nat → List Value → HP → PQ → Prop} {Q : PQ} {K : Fr → Prop} {y pc i : Nat} {al : List Slot} {st : List Value} {h : HP} {c s : Nat}
theorem oI1_inv {F : Int32 → Value} (hs : stO E Q K (oI1 pc al st h c s F)) : ∃ a r, st = .int a :: r ∧ K (pc + 1, al, F a :: r, h, c, s) := by
  unfold oI1 at hs
  split at hs
  · exact ⟨_, _, rfl, hs⟩
  · exact hs.elim
theorem oL1_inv {F : Int64 → Value} (hs : stO E Q K (oL1 pc al st h c s F)) : ∃ a r, st = .long a :: r ∧ K (pc + 1, al, F a :: r, h, c, s) := by
  unfold oL1 at hs
  split at hs
  · exact ⟨_, _, rfl, hs⟩
  · exact hs.elim
theorem oII_inv {F : Int32 → Int32 → Value} (hs : stO E Q K (oII pc al st h c s F)) : ∃ b a r, st = .int b :: .int a :: r ∧ K (pc + 1, al, F a b :: r, h, c, s) := by
  unfold oII at hs
  split at hs
  · exact ⟨_, _, _, rfl, hs⟩
  · exact hs.elim
theorem oLL_inv {F : Int64 → Int64 → Value} (hs : stO E Q K (oLL pc al st h c s F)) : ∃ b a r, st = .long b :: .long a :: r ∧ K (pc + 1, al, F a b :: r, h, c, s) := by
  unfold oLL at hs
  split at hs
  · exact ⟨_, _, _, rfl, hs⟩
  · exact hs.elim
theorem oLI_inv {F : Int64 → Int32 → Value} (hs : stO E Q K (oLI pc al st h c s F)) : ∃ b a r, st = .int b :: .long a :: r ∧ K (pc + 1, al, F a b :: r, h, c, s) := by
  unfold oLI at hs
  split at hs
  · exact ⟨_, _, _, rfl, hs⟩
  · exact hs.elim
theorem oLdI_inv (hs : stO E Q K (oLdI pc i al st h c s)) : ∃ x, gI al i = some x ∧ K (pc, al, .int x :: st, h, c, s) := by
  unfold oLdI at hs
  split at hs
  · rename_i x hx
    exact ⟨x, hx, hs⟩
  · exact hs.elim
theorem oLdL_inv (hs : stO E Q K (oLdL pc i al st h c s)) : ∃ x, gL al i = some x ∧ K (pc, al, .long x :: st, h, c, s) := by
  unfold oLdL at hs
  split at hs
  · rename_i x hx
    exact ⟨x, hx, hs⟩
  · exact hs.elim
theorem oLdA_inv (hs : stO E Q K (oLdA pc i al st h c s)) : ∃ x, gA al i = some x ∧ K (pc, al, x :: st, h, c, s) := by
  unfold oLdA at hs
  split at hs
  · rename_i x hx
    exact ⟨x, hx, hs⟩
  · exact hs.elim
theorem oStI_inv (hs : stO E Q K (oStI y pc i al st h c s)) : ∃ x r, st = .int x :: r ∧ i < mL y ∧ K (pc, p1 (.int x) i al, r, h, c, s) := by
  unfold oStI at hs
  split at hs
  · split at hs
    · rename_i hlt
      exact ⟨_, _, rfl, hlt, hs⟩
    · exact hs.elim
  · exact hs.elim
theorem oStL_inv (hs : stO E Q K (oStL y pc i al st h c s)) : ∃ x r, st = .long x :: r ∧ i + 1 < mL y ∧ K (pc, p2 (.long x) i al, r, h, c, s) := by
  unfold oStL at hs
  split at hs
  · split at hs
    · rename_i hlt
      exact ⟨_, _, rfl, hlt, hs⟩
    · exact hs.elim
  · exact hs.elim
theorem oStA_inv (hs : stO E Q K (oStA y pc i al st h c s)) : ∃ x r, st = .ref x :: r ∧ i < mL y ∧ K (pc, p1 (.ref x) i al, r, h, c, s) := by
  unfold oStA at hs
  split at hs
  · split at hs
    · rename_i hlt
      exact ⟨_, _, rfl, hlt, hs⟩
    · exact hs.elim
  · exact hs.elim
theorem tgt_inv {off : Int} {t : Nat} (h : tgt pc off = some t) : (pc : Int) + off = (t : Int) := by
  unfold tgt at h
  split at h
  · rename_i hp
    have e := Option.some.inj h
    omega
  · cases h
theorem oBr_inv {b : Prop} [Decidable b] {off : Int} (hs : stO E Q K (oBr b pc off al st h c s)) : ∃ t : Nat, (pc : Int) + off = (t : Int) ∧ (b → K (t, al, st, h, c, s)) ∧ (¬ b → K (pc + 3, al, st, h, c, s)) := by
  unfold oBr at hs
  split at hs
  · rename_i t ht
    refine ⟨t, tgt_inv ht, ?_⟩
    split at hs
    · rename_i hb
      exact ⟨fun _ => hs, fun z => absurd hb z⟩
    · rename_i hb
      exact ⟨fun z => absurd z hb, fun _ => hs⟩
  · exact hs.elim
theorem oIf_inv {off : Int} {F : Int32 → Bool} (hs : stO E Q K (oIf pc off al st h c s F)) : ∃ x r, st = .int x :: r ∧ ∃ t : Nat, (pc : Int) + off = (t : Int) ∧ (F x = true → K (t, al, r, h, c, s)) ∧ (¬ F x = true → K (pc + 3, al, r, h, c, s)) := by
  unfold oIf at hs
  split at hs
  · exact ⟨_, _, rfl, oBr_inv hs⟩
  · exact hs.elim
theorem oCm_inv {off : Int} {F : Int32 → Int32 → Bool} (hs : stO E Q K (oCm pc off al st h c s F)) : ∃ b a r, st = .int b :: .int a :: r ∧ ∃ t : Nat, (pc : Int) + off = (t : Int) ∧ (F a b = true → K (t, al, r, h, c, s)) ∧ (¬ F a b = true → K (pc + 3, al, r, h, c, s)) := by
  unfold oCm at hs
  split at hs
  · exact ⟨_, _, _, rfl, oBr_inv hs⟩
  · exact hs.elim
theorem oJmp_inv {off : Int} (hs : stO E Q K (oJmp pc off al st h c s)) : ∃ t : Nat, (pc : Int) + off = (t : Int) ∧ K (t, al, st, h, c, s) := by
  unfold oJmp at hs
  split at hs
  · rename_i t ht
    exact ⟨t, tgt_inv ht, hs⟩
  · exact hs.elim
theorem oNul_inv {off : Int} {w : Bool} (hs : stO E Q K (oNul pc off al st h c s w)) : ∃ v r b, st = v :: r ∧ isN v = some b ∧ ∃ t : Nat, (pc : Int) + off = (t : Int) ∧ (b = w → K (t, al, r, h, c, s)) ∧ (¬ b = w → K (pc + 3, al, r, h, c, s)) := by
  unfold oNul at hs
  split at hs
  · split at hs
    · rename_i b hb
      exact ⟨_, _, b, rfl, hb, oBr_inv hs⟩
    · exact hs.elim
  · exact hs.elim
theorem oTab_inv {dd lo hi : Int} {offs : Array Int} (hs : stO E Q K (oTab pc dd lo hi offs al st h c s)) : ∃ x r, st = .int x :: r ∧ okT lo hi offs = true ∧ ∃ t : Nat, (pc : Int) + swT x (Int32.ofInt lo) offs.toList dd = (t : Int) ∧ K (t, al, r, h, c, s) := by
  unfold oTab at hs
  split at hs
  · split at hs
    · rename_i hk
      exact ⟨_, _, rfl, hk, oJmp_inv hs⟩
    · exact hs.elim
  · exact hs.elim
theorem oLok_inv {dd : Int} {ps : Array (Int × Int)} (hs : stO E Q K (oLok pc dd ps al st h c s)) : ∃ x r, st = .int x :: r ∧ okK ps.toList = true ∧ ∃ t : Nat, (pc : Int) + swL x ps.toList dd = (t : Int) ∧ K (t, al, r, h, c, s) := by
  unfold oLok at hs
  split at hs
  · split at hs
    · rename_i hk
      exact ⟨_, _, rfl, hk, oJmp_inv hs⟩
    · exact hs.elim
  · exact hs.elim
theorem oGet_inv (hs : stO E Q K (oGet y pc i al st h c s)) : ∃ ci k ty fin a r, fk (mO y) i = some (ci, k, ty, fin) ∧ st = .ref a :: r ∧ hkd h a = 10 + ci ∧ K (pc + 3, al, fget ty h a k :: r, h, c, s) := by
  unfold oGet at hs
  split at hs
  · rename_i ci k ty fin a r hf
    split at hs
    · rename_i hk
      exact ⟨ci, k, ty, fin, a, r, hf, rfl, hk, hs⟩
    · exact hs.elim
  · exact hs.elim
theorem oPut_inv (hs : stO E Q K (oPut y pc i al st h c s)) : ∃ ci k ty fin v a r h', fk (mO y) i = some (ci, k, ty, fin) ∧ st = v :: .ref a :: r ∧ hkd h a = 10 + ci ∧ okF fin y ci = true ∧ K (pc + 3, al, r, h', c, s) ∧
    ((ty = 0 ∧ (∃ x, v = .int x ∧ h' = sI h a k x)) ∨ (ty = 3 ∧ (∃ x, v = .int x ∧ (x = 0 ∨ x = 1) ∧ h' = sI h a k x)) ∨ (ty = 1 ∧ (∃ x, v = .long x ∧ h' = sL h a k x)) ∨ (ty = 2 ∧ (∃ x, v = .ref x ∧ h' = sR h a k (some x)))) := by
  unfold oPut at hs
  split at hs
  · rename_i ci k fin x a r hf
    split at hs
    · rename_i hk
      exact ⟨ci, k, _, fin, _, a, r, _, hf, rfl, hk.1, hk.2, hs, Or.inl ⟨rfl, _, rfl, rfl⟩⟩
    · exact hs.elim
  · rename_i ci k fin x a r hf
    split at hs
    · rename_i hk
      exact ⟨ci, k, _, fin, _, a, r, _, hf, rfl, hk.1.1, hk.1.2, hs, Or.inr (Or.inl ⟨rfl, _, rfl, hk.2, rfl⟩)⟩
    · exact hs.elim
  · rename_i ci k fin x a r hf
    split at hs
    · rename_i hk
      exact ⟨ci, k, _, fin, _, a, r, _, hf, rfl, hk.1, hk.2, hs, Or.inr (Or.inr (Or.inl ⟨rfl, _, rfl, rfl⟩))⟩
    · exact hs.elim
  · rename_i ci k fin x a r hf
    split at hs
    · rename_i hk
      exact ⟨ci, k, _, fin, _, a, r, _, hf, rfl, hk.1, hk.2, hs, Or.inr (Or.inr (Or.inr ⟨rfl, _, rfl, rfl⟩))⟩
    · exact hs.elim
  · exact hs.elim

theorem oIal_inv (hs : stO E Q K (oIal pc al st h c s)) : ∃ i a r, st = .int i :: .ref a :: r ∧ ((hkd h a = 1 ∨ hkd h a = 2) ∧ (0 ≤ i ∧ ix i < hln h a)) ∧ K (pc + 1, al, .int (hI h a (ix i)) :: r, h, c, s) := by
  unfold oIal at hs
  split at hs
  · split at hs
    · rename_i hk
      exact ⟨_, _, _, rfl, hk, hs⟩
    · exact hs.elim
  · exact hs.elim
theorem oLal_inv (hs : stO E Q K (oLal pc al st h c s)) : ∃ i a r, st = .int i :: .ref a :: r ∧ (hkd h a = 3 ∧ (0 ≤ i ∧ ix i < hln h a)) ∧ K (pc + 1, al, .long (hL h a (ix i)) :: r, h, c, s) := by
  unfold oLal at hs
  split at hs
  · split at hs
    · rename_i hk
      exact ⟨_, _, _, rfl, hk, hs⟩
    · exact hs.elim
  · exact hs.elim
theorem oAal_inv (hs : stO E Q K (oAal pc al st h c s)) : ∃ i a r, st = .int i :: .ref a :: r ∧ (hkd h a = 4 ∧ (0 ≤ i ∧ ix i < hln h a)) ∧ K (pc + 1, al, va_rf (hR h a (ix i)) :: r, h, c, s) := by
  unfold oAal at hs
  split at hs
  · split at hs
    · rename_i hk
      exact ⟨_, _, _, rfl, hk, hs⟩
    · exact hs.elim
  · exact hs.elim
theorem oIas_inv (hs : stO E Q K (oIas pc al st h c s)) : ∃ x i a r, st = .int x :: .int i :: .ref a :: r ∧ (hkd h a = 2 ∧ (0 ≤ i ∧ ix i < hln h a)) ∧ K (pc + 1, al, r, sI h a (ix i) x, c, s) := by
  unfold oIas at hs
  split at hs
  · split at hs
    · rename_i hk
      exact ⟨_, _, _, _, rfl, hk, hs⟩
    · exact hs.elim
  · exact hs.elim
theorem oLas_inv (hs : stO E Q K (oLas pc al st h c s)) : ∃ x i a r, st = .long x :: .int i :: .ref a :: r ∧ (hkd h a = 3 ∧ (0 ≤ i ∧ ix i < hln h a)) ∧ K (pc + 1, al, r, sL h a (ix i) x, c, s) := by
  unfold oLas at hs
  split at hs
  · split at hs
    · rename_i hk
      exact ⟨_, _, _, _, rfl, hk, hs⟩
    · exact hs.elim
  · exact hs.elim
theorem oAas_inv (hs : stO E Q K (oAas pc al st h c s)) : ∃ x i a r, st = .ref x :: .int i :: .ref a :: r ∧ ((hkd h a = 4 ∧ hkd h x = 14) ∧ (0 ≤ i ∧ ix i < hln h a)) ∧ K (pc + 1, al, r, sR h a (ix i) (some x), c, s) := by
  unfold oAas at hs
  split at hs
  · split at hs
    · rename_i hk
      exact ⟨_, _, _, _, rfl, hk, hs⟩
    · exact hs.elim
  · exact hs.elim
theorem oAln_inv (hs : stO E Q K (oAln pc al st h c s)) : ∃ a r, st = .ref a :: r ∧ (hkd h a = 1 ∨ hkd h a = 2 ∨ hkd h a = 3) ∧ K (pc + 1, al, .int (Int32.ofNat (hln h a)) :: r, h, c, s) := by
  unfold oAln at hs
  split at hs
  · split at hs
    · rename_i hk
      exact ⟨_, _, rfl, hk, hs⟩
    · exact hs.elim
  · exact hs.elim
theorem oNew_inv (hs : stO E Q K (oNew y pc i al st h c s)) : ∃ ci N, nk (mO y) i = some (ci, N) ∧ (1 ≤ c ∧ N ≤ s) ∧ K (pc + 3, al, .ref (hnx h) :: st, snw h (10 + ci) 0, c - 1, s - N) := by
  unfold oNew at hs
  split at hs
  · rename_i ci N hn
    split at hs
    · rename_i hk
      exact ⟨ci, N, hn, hk, hs⟩
    · exact hs.elim
  · exact hs.elim
theorem oNwA_inv {t : Nat} (hs : stO E Q K (oNwA pc t al st h c s)) : ∃ n r, st = .int n :: r ∧ ((0 ≤ n ∧ ix n ≤ 4096) ∧ (1 ≤ c ∧ ix n ≤ s)) ∧ K (pc, al, .ref (hnx h) :: r, snw h t (ix n), c - 1, s - ix n) := by
  unfold oNwA at hs
  split at hs
  · split at hs
    · rename_i hk
      exact ⟨_, _, rfl, hk, hs⟩
    · exact hs.elim
  · exact hs.elim
theorem oInv_inv {y' : Nat} (hs : stO E Q K (oInv y' pc al st h c s)) : ∃ as o r, st = as.reverse ++ .ref o :: r ∧ as.length = mN y' ∧ ((hkd h o = 10 + mci y' ∧ wd r ≤ 8) ∧ (mA y' ≤ c ∧ mS y' ≤ s) ∧ (sl (.ref o :: as)).length ≤ mL y') ∧ E y' (.ref o :: as) h (fun x h' => K (pc + 3, al, x.toList ++ r, h', c - mA y', s - mS y')) := by
  unfold oInv at hs
  split at hs
  · rename_i as o r hp
    obtain ⟨q, h1, h2, h3⟩ := popN_eq _ _ _ _ _ hp
    split at hs
    · rename_i hk
      simp only [List.append_nil] at h1
      subst h1
      exact ⟨as, o, r, h3, h2, hk, hs⟩
    · exact hs.elim
  · exact hs.elim
theorem oInS_inv {y' : Nat} (hs : stO E Q K (oInS y' pc al st h c s)) : ∃ as r, st = as.reverse ++ r ∧ as.length = mN y' ∧ (wd r ≤ 8 ∧ (mA y' ≤ c ∧ mS y' ≤ s) ∧ (sl as).length ≤ mL y') ∧ E y' as h (fun x h' => K (pc + 3, al, x.toList ++ r, h', c - mA y', s - mS y')) := by
  unfold oInS at hs
  split at hs
  · rename_i as r hp
    obtain ⟨q, h1, h2, h3⟩ := popN_eq _ _ _ _ _ hp
    split at hs
    · rename_i hk
      simp only [List.append_nil] at h1
      subst h1
      exact ⟨as, r, h3, h2, hk, hs⟩
    · exact hs.elim
  · exact hs.elim
theorem oCpy_inv (hs : stO E Q K (oCpy pc al st h c s)) : ∃ n dp b sp a r, st = .int n :: .int dp :: .ref b :: .int sp :: .ref a :: r ∧ ((0 ≤ sp ∧ 0 ≤ dp ∧ 0 ≤ n) ∧ (ix sp + ix n ≤ hln h a ∧ ix dp + ix n ≤ hln h b) ∧ wd r ≤ 8) ∧
    ((hkd h a = 2 ∧ hkd h b = 2 ∧ K (pc + 3, al, r, cI h a b (ix sp) (ix dp) (ix n), c, s)) ∨ (hkd h a = 3 ∧ hkd h b = 3 ∧ K (pc + 3, al, r, cLg h a b (ix sp) (ix dp) (ix n), c, s))) := by
  unfold oCpy at hs
  split at hs
  · split at hs
    · rename_i hk
      split at hs
      · rename_i h2
        exact ⟨_, _, _, _, _, _, rfl, hk, Or.inl ⟨h2.1, h2.2, hs⟩⟩
      · split at hs
        · rename_i h2
          exact ⟨_, _, _, _, _, _, rfl, hk, Or.inr ⟨h2.1, h2.2, hs⟩⟩
        · exact hs.elim
    · exact hs.elim
  · exact hs.elim
theorem oRtI_inv (hs : stO E Q K (oRtI y st h)) : ∃ x, st = [.int x] ∧ ((mR y = some .int) ∨ (mR y = some .boolean ∧ (x = 0 ∨ x = 1))) ∧ Q (some (.int x)) h := by
  unfold oRtI at hs
  split at hs
  · rename_i x hr
    exact ⟨x, rfl, Or.inl hr, hs⟩
  · rename_i x hr
    split at hs
    · rename_i hk
      exact ⟨x, rfl, Or.inr ⟨hr, hk⟩, hs⟩
    · exact hs.elim
  · exact hs.elim
theorem oRtL_inv (hs : stO E Q K (oRtL y st h)) : ∃ x, st = [.long x] ∧ mR y = some .long ∧ Q (some (.long x)) h := by
  unfold oRtL at hs
  split at hs
  · rename_i x hr
    exact ⟨x, rfl, hr, hs⟩
  · exact hs.elim
theorem oRtA_inv (hs : stO E Q K (oRtA y st h)) : ∃ x n, st = [.ref x] ∧ mR y = some (.object n) ∧ Q (some (.ref x)) h := by
  unfold oRtA at hs
  split at hs
  · rename_i x n hr
    exact ⟨x, n, rfl, hr, hs⟩
  · exact hs.elim
theorem oRtV_inv (hs : stO E Q K (oRtV y st h)) : st = [] ∧ mR y = none ∧ Q none h := by
  unfold oRtV at hs
  split at hs
  · rename_i hr
    exact ⟨rfl, hr, hs⟩
  · exact hs.elim
theorem oMx_inv {F : Int32 → Int32 → Value} (hs : stO E Q K (oMx pc al st h c s F)) : ∃ b a r, st = .int b :: .int a :: r ∧ wd r ≤ 8 ∧ K (pc + 3, al, F a b :: r, h, c, s) := by
  unfold oMx at hs
  split at hs
  · split at hs
    · rename_i hk
      exact ⟨_, _, _, rfl, hk, hs⟩
    · exact hs.elim
  · exact hs.elim
end MJI
theorem swT_spec (x : Int32) (d : Int) : ∀ (offs : List Int) (lo : Nat), lo + offs.length < 2 ^ 31 → swT x (Int32.ofNat lo) offs d = if x.toInt < lo ∨ (lo : Int) + offs.length - 1 < x.toInt then d else offs.getD (x.toInt - lo).toNat d
  | [], lo, h => by
    have : x.toInt < lo ∨ (lo : Int) + ([] : List Int).length - 1 < x.toInt := by simp only [List.length_nil]; omega
    rw [if_pos this]; rfl
  | o :: os, lo, h => by
    have hl : (Int32.ofNat lo).toInt = (lo : Int) := nI_toInt (by simp only [List.length_cons] at h; omega)
    have e1 : Int32.ofNat lo + 1 = Int32.ofNat (lo + 1) := nI_1 lo
    unfold swT
    by_cases hx : x = Int32.ofNat lo
    · rw [if_pos hx, if_neg (by rw [hx, hl]; simp only [List.length_cons]; omega)]
      have e : (x.toInt - lo).toNat = 0 := by rw [hx, hl]; omega
      rw [e]; rfl
    · have hne : x.toInt ≠ lo := fun q => hx (Int32.toInt_inj.mp (q.trans hl.symm))
      rw [if_neg hx, e1, swT_spec x d os (lo + 1) (by simp only [List.length_cons] at h; omega)]
      by_cases h1 : x.toInt < lo ∨ (lo : Int) + (o :: os).length - 1 < x.toInt
      · rw [if_pos h1, if_pos (by simp only [List.length_cons] at h1; omega)]
      · rw [if_neg h1, if_neg (by simp only [List.length_cons] at h1; omega)]
        have e : (x.toInt - lo).toNat = (x.toInt - ((lo + 1 : Nat) : Int)).toNat + 1 := by simp only [List.length_cons] at h1; omega
        rw [e, List.getD_cons_succ]
