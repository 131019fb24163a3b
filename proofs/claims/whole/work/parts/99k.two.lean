-- the other side as it is made, what it is
def HS0 : HS := (none, 0, 0, fun _ => S0)
theorem lm_ne : ∀ j, j < 19 → ∀ i, i < 19 → j < i → ¬ (LM.getD i (0, 0, 0)).1 = (LM.getD j (0, 0, 0)).1 := by decide
theorem lm_get {j : Nat} {e : Nat × Nat × Nat} (he : LM[j]? = some e) : j < 19 ∧ LM.getD j (0, 0, 0) = e := by
  obtain ⟨a, b⟩ := List.getElem?_eq_some_iff.mp he
  refine ⟨a, ?_⟩
  rw [List.getD_eq_getElem?_getD, he]
  rfl
theorem lm_R {h : HP} {m j : Nat} {e : Nat × Nat × Nat} (hv : m < hnx h) (he : LM[j]? = some e) : hR (bld m LM h) m e.1 = some (hnx h + j) := bld_Rn hv he fun i f hi hf z => by
  obtain ⟨a1, a2⟩ := lm_get he
  obtain ⟨b1, b2⟩ := lm_get hf
  exact lm_ne j a1 i b1 hi (by rw [a2, b2]; exact z)
/-- the other side's cells, one by one -/
theorem mk_of {h : HP} {m : Nat} (k0 : hkd h m = 16) (c : ∀ j e, LM[j]? = some e → hkd h (m + (j + 1)) = e.2.1 ∧ hln h (m + (j + 1)) = e.2.2) (r : ∀ j e, LM[j]? = some e → hR h m e.1 = some (m + (j + 1))) : MK h m :=
  ⟨⟨k0, (c 0 _ rfl).1, (c 1 _ rfl).1, (c 2 _ rfl).1, (c 3 _ rfl).1, (c 4 _ rfl).1, (c 5 _ rfl).1, (c 6 _ rfl).1, (c 7 _ rfl).1, (c 8 _ rfl).1, (c 9 _ rfl).1, (c 10 _ rfl).1, (c 11 _ rfl).1, (c 12 _ rfl).1, (c 13 _ rfl).1, (c 14 _ rfl).1, (c 15 _ rfl).1, (c 16 _ rfl).1, (c 17 _ rfl).1, (c 18 _ rfl).1⟩, ⟨(c 0 _ rfl).2, (c 1 _ rfl).2, (c 2 _ rfl).2, (c 3 _ rfl).2, (c 4 _ rfl).2, (c 5 _ rfl).2, (c 6 _ rfl).2, (c 7 _ rfl).2, (c 8 _ rfl).2, (c 9 _ rfl).2, (c 10 _ rfl).2, (c 11 _ rfl).2, (c 12 _ rfl).2, (c 13 _ rfl).2, (c 14 _ rfl).2, (c 15 _ rfl).2, (c 16 _ rfl).2, (c 17 _ rfl).2, (c 18 _ rfl).2⟩, r 0 _ rfl, r 1 _ rfl, r 2 _ rfl, r 3 _ rfl, r 4 _ rfl, r 5 _ rfl, r 6 _ rfl, r 7 _ rfl, r 8 _ rfl, r 9 _ rfl, r 10 _ rfl, r 11 _ rfl, r 12 _ rfl, r 13 _ rfl, r 14 _ rfl, r 15 _ rfl, r 16 _ rfl, r 17 _ rfl, r 18 _ rfl⟩
theorem lm_len : LM.length = 19 := rfl
/-- what the making leaves, over a heap of its own -/
def NB (m : Nat) (h1 hB : HP) : Prop := hnx hB = m + 20 ∧ (hkd hB m = hkd h1 m ∧ hI hB m = hI h1 m ∧ hL hB m = hL h1 m) ∧ (∀ j e, LM[j]? = some e → hkd hB (m + (j + 1)) = e.2.1 ∧ hln hB (m + (j + 1)) = e.2.2 ∧ hI hB (m + (j + 1)) = (fun _ => 0)) ∧ (∀ j e, LM[j]? = some e → hR hB m e.1 = some (m + (j + 1))) ∧ ∀ b, b < m → Eqc b h1 hB
theorem nb_of {h1 : HP} {m : Nat} (n1 : hnx h1 = m + 1) : NB m h1 (bld m LM h1) := by
  have hv : m < hnx h1 := by omega
  obtain ⟨o1, -, o3, o4⟩ := bld_old (v := m) (L := LM) (h := h1) (b := m) hv
  refine ⟨?_, ⟨o1, o3, o4⟩, fun j e he => ?_, fun j e he => ?_, fun b hb => ?_⟩
  · rw [bld_nx, n1, lm_len]
  · have z := bld_new (v := m) (h := h1) hv he
    rw [n1, show m + 1 + j = m + (j + 1) by omega] at z
    exact ⟨z.1, z.2.1, z.2.2.1⟩
  · have z := lm_R (m := m) hv he
    rw [n1, show m + 1 + j = m + (j + 1) by omega] at z
    exact z
  · obtain ⟨z1, z2, z3, z4⟩ := bld_old (v := m) (L := LM) (h := h1) (b := b) (by omega)
    exact ⟨z1, z2, z3, z4, funext fun j => bld_R (by omega) (Or.inl (by omega))⟩
def NM (m : Nat) (hA hD : HP) : Prop := hnx hD = m + 20 ∧ (hkd hD m = 16 ∧ hL hD m = (fun _ => 0) ∧ (∀ j, ¬ j = 13 → hI hD m j = 0) ∧ hI hD m 13 = 6) ∧ (∀ j e, LM[j]? = some e → hkd hD (m + (j + 1)) = e.2.1 ∧ hln hD (m + (j + 1)) = e.2.2 ∧ hI hD (m + (j + 1)) = (fun _ => 0)) ∧ (∀ j e, LM[j]? = some e → hR hD m e.1 = some (m + (j + 1))) ∧ ∀ b, b < m → Eqc b hA hD
theorem nm_of {hA h1 hB hD : HP} {m : Nat} (hm : hnx hA = m) (e1_ : h1 = snw hA 16 0) (f : NB m h1 hB) (eD_ : hD = sI hB m 13 6) : NM m hA hD := by
  have i1 : hI h1 m = fun _ => 0 := by rw [e1_]; funext j; exact if_pos hm.symm
  have l1 : hL h1 m = fun _ => 0 := by rw [e1_]; funext j; exact if_pos hm.symm
  have k1 : hkd h1 m = 16 := by rw [e1_]; exact if_pos hm.symm
  obtain ⟨f1, ⟨f2, f3, f4⟩, f5, f6, f7⟩ := f
  have zk : hkd hD = hkd hB := by rw [eD_]; rfl
  have zl : hln hD = hln hB := by rw [eD_]; rfl
  have zL : hL hD = hL hB := by rw [eD_]; rfl
  have zR : hR hD = hR hB := by rw [eD_]; rfl
  have zn : hnx hD = hnx hB := by rw [eD_]; rfl
  have zI : ∀ b, ¬ b = m → hI hD b = hI hB b := fun b hb => by rw [eD_, hI_sI_ne hb]
  refine ⟨zn.trans f1, ⟨by rw [zk, f2, k1], by rw [zL, f4, l1], fun j hj => ?_, ?_⟩, fun j e he => ?_, fun j e he => ?_, fun b hb => ?_⟩
  · rw [eD_, hI_sI, if_neg (fun z => hj z.2), f3, i1]
  · rw [eD_, hI_sI, if_pos ⟨rfl, rfl⟩]
  · rw [zk, zl, zI _ (by omega)]
    exact f5 j e he
  · rw [zR]
    exact f6 j e he
  · have a : Eqc b hA h1 := by rw [e1_]; exact eqc_snw (by omega)
    refine a.tr ?_
    obtain ⟨z1, z2, z3, z4, z5⟩ := f7 b hb
    exact ⟨by rw [zk, z1], by rw [zl, z2], by rw [zI b (by omega), z3], by rw [zL, z4], by rw [zR, z5]⟩
theorem rm_new {hA hD : HP} {m : Nat} (f : NM m hA hD) : RMr hD m S0 := by
  obtain ⟨-, ⟨-, lD, iD, i13⟩, -, -, -⟩ := f
  refine ⟨?_, fun i hi => absurd hi (Nat.not_lt_zero i), ?_, RL5.nil, ?_, ?_, ?_, ?_, ?_, ?_⟩
  · exact iD 11 (by decide)
  · exact iD 12 (by decide)
  · exact congrFun lD 17
  · exact congrFun lD 18
  · exact i13
  · exact iD 14 (by decide)
  · exact iD 15 (by decide)
  · exact iD 16 (by decide)
theorem mi_new {hA hD : HP} {m : Nat} (f : NM m hA hD) : MI hD m S0 HS0 (fun _ => 0) 0 (fun _ => 0) 0 := by
  have rm := rm_new f
  obtain ⟨-, ⟨kD, lD, iD, i13⟩, c, r, -⟩ := f
  refine ⟨⟨⟨mk_of kD (fun j e he => ⟨(c j e he).1, (c j e he).2.1⟩) r, rm⟩, ?_, ?_, ?_⟩, ⟨⟨?_, ?_⟩, fun _ => ?_, fun I z => ?_, fun j hj => ?_⟩, ⟨?_, ?_, fun j hj => ?_⟩, ⟨?_, ?_, fun j hj => ?_⟩⟩
  · exact iD 19 (by decide)
  · exact iD 22 (by decide)
  · exact iD 21 (by decide)
  · exact iD 37 (by decide)
  · exact iD 38 (by decide)
  · exact iD 33 (by decide)
  · exact absurd z (by simp [HS0, him])
  · exact absurd hj (Nat.not_lt_zero j)
  · exact iD 27 (by decide)
  · exact Nat.zero_le _
  · exact absurd hj (Nat.not_lt_zero j)
  · exact iD 40 (by decide)
  · exact Nat.zero_le _
  · exact absurd hj (Nat.not_lt_zero j)
theorem gv_S0 : GV S0 := ⟨S0_good, by decide⟩
theorem gh_HS0 : GH HS0 := ⟨⟨by decide, by decide⟩, fun I z => absurd z (by simp [HS0, him]), fun j hj => absurd hj (Nat.not_lt_zero j)⟩
/-- both, put together -/
theorem li_new {b L x : Nat} {xs : Nat → Int32} {h0 hA h1 hD : HP} (hb : b < x) (kb : hkd h0 b = 1) (lb : hln h0 b = L) (ib : ∀ j, hI h0 b j = xs j) (f : X0f x h0 hA) (e1_ : h1 = snw hA 16 0) (eD_ : hD = sI (bld (x + 34) LM h1) (x + 34) 13 6) : LI b L xs hD x S0 HS0 (fun _ => 0) 0 (fun _ => 0) 0 := by
  obtain ⟨f1, f2, f3, f4, f5, f6⟩ := f
  have n1 : hnx h1 = x + 34 + 1 := by rw [e1_, hnx_snw, f1]
  have N := nm_of f1 e1_ (nb_of n1) eD_
  have M := mi_new N
  obtain ⟨n, -, c, -, o⟩ := N
  have z : ∀ j, hI hD (x + 34 + 1) j = 0 := fun j => congrFun (c 0 _ rfl).2.2 j
  have ox : ∀ j, j < 34 → Eqc (x + j) hA hD := fun j hj => o _ (by omega)
  have X := f2.eqc ox
  have zx : ∀ j, j < 7 → ∀ i, hI hD (x + j) i = 0 := fun j hj i => by rw [(ox j (by omega)).2.2.1]; exact f5 j hj i
  have ob : Eqc b h0 hD := (f6 b hb).tr (o b (by omega))
  have X1 := X.1
  refine ⟨⟨X, ⟨⟨?_, ?_⟩, by omega, fun _ => none, ⟨fun i _ => ?_, ?_⟩, fun i a _ q => (by cases q), fun i j a c _ _ _ q => (by cases q), fun j hj => absurd hj (Nat.not_lt_zero j), fun _ => rfl, fun I q => absurd q (by simp [HS0, him])⟩, ⟨?_, by decide, fun i hi => absurd hi (Nat.not_lt_zero i)⟩, ⟨⟨?_, ?_, by decide, fun i hi => absurd hi (Nat.not_lt_zero i)⟩, ?_⟩⟩, M, ⟨gv_S0, gh_HS0⟩, fun j hj => ?_, hb, ?_, ?_, fun j => ?_⟩
  · rw [zx 1 (by decide)]; rfl
  · rw [zx 1 (by decide)]; rfl
  · rw [(ox 2 (by decide)).2.2.2.2]; exact f4 i
  · rw [show hR hD x 7 = hR hA x 7 from congrFun (ox 0 (by decide)).2.2.2.2 7]; exact f3
  · rw [zx 3 (by decide)]; rfl
  · exact X1.1.2.2.2.2.2.1
  · exact X1.2.1.2.2.1
  · rw [show hI hD x 6 = 0 from zx 0 (by decide) 6]; rfl
  · rw [zx 6 (by decide), z]
  · rw [ob.1]; exact kb
  · rw [ob.2.1]; exact lb
  · rw [ob.2.2.1]; exact ib j
