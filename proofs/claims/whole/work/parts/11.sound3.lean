section MJU
variable {p : Program} {l : Launch} {e : Env} {R : Room} {s : State} {m : MethodId} {args : Array Value} {below : List Frame} {meth : Method} {c : Code} {Qf : State → Prop} {D : va_G} {z d y TC TS : Nat} {Q : PQ} {pc i : Nat} {al : List Slot} {st : List Value} {h : HP} {cc ss : Nat}
theorem mjW_eq (y : Nat) : mjW y = Cond.code (mY y) (mC y) (mL y) (mR y) :: mjB := rfl
theorem mjW_good {y : Nat} (hy : mOK y) : GoodIn mjB (mjW y) := by
  intro w hw
  have h : w ∈ mjB := by
    rcases List.mem_cons.mp hw with rfl | hw
    · exact hy.1
    · exact hw
  exact ⟨h, mj_Bgood h⟩
theorem mj_room {y y' : Nat} (hy : mOK y') (hR : d + 1 ≤ R.frames ∧ 37 * d + 35 ≤ R.locals) : (rmj d y').frames + 1 ≤ R.frames ∧ 8 + (mL y' + 11) + (rmj d y').locals ≤ R.locals := by
  have h1 : mL y' ≤ 16 := hy.2.2.2.2.2.2.2.2.2.2
  exact ⟨hR.1, by show 8 + (mL y' + 11) + 37 * d ≤ R.locals; omega⟩
theorem mj_sum {st : List Value} (h : wd st ≤ 8) : (st.map fun v => v.category).sum ≤ 8 := by rw [wd_eq]; exact h
def IH (l : Launch) (D : va_G) (z d : Nat) : Prop := ∀ (y : Nat) (as : List Value) (h : HP) (Q : PQ), mOK y → (sl as).length ≤ mL y → Ev d y as h Q → MetJ l D z d y as h Q
set_option maxHeartbeats 4000000 in
theorem sj_invokevirtual (F : FX p R s m args meth c D z d y TC TS) (ih : IH l D z d) (hd : decode (mC y) pc = .ok (.invokevirtual i, 3)) (hst : stO (Ev d) Q (KJ p l e R s m args below meth c Qf D z y TC TS) (nxI y pc al st h cc ss (.invokevirtual i))) : KJ p l e R s m args below meth c Qf D z y TC TS (pc, al, st, h, cc, ss) := by
  intro H locs ls cells slots hl hh hS hc hs
  obtain ⟨hx, hb, hml, hown, hts, hcf, hin, hz, hRm, hTC, hTS⟩ := F
  simp only [nxI] at hst
  split at hst
  · rename_i y' hlk
    split at hst
    · rename_i hk1
      obtain ⟨as, o, r, rfl, hn, ⟨⟨hko, hw⟩, ⟨hA, hSl⟩, hsl⟩, hE⟩ := oInv_inv hst
      have hlk2 : lk1 (mO y) i = some y' := by
        unfold lk at hlk
        split at hlk
        · rename_i y2 h2
          rw [← hlk]; exact h2
        · obtain ⟨q, hq, hq2⟩ := Option.map_eq_some_iff.mp hlk
          have h3 := (mj_ln1 hq).2.2
          rw [hq2] at h3
          omega
      obtain ⟨hlink, hy⟩ := mj_lk1 hlk2
      obtain ⟨hcode, hini, hpn, hcls, hdesc, -, him, hse, -⟩ := id hy
      obtain ⟨him1, q, hq1, hq2⟩ := him (Or.inl hk1)
      have hse1 := hse hk1
      have hM := ih y' (.ref o :: as) h _ hy hsl hE
      obtain ⟨hz2, q', hq', cell, g1, g2, g3, -⟩ := (hh.2.2 o).2.2.2.2 _ hko
      have hqq : q' = q := Option.some.inj (hq'.symm.trans hq1)
      subst hqq
      dsimp only at hc hs
      have hT : GoodIn mjB (wsV (clsN (mO y)) i (mY y').cls (mY y') (mjW y')) := by
        intro w hw
        unfold wsV at hw
        rcases List.mem_append.mp hw with hw | hw
        · have hB : w ∈ mjB := by
            simp only [List.mem_cons, List.not_mem_nil, or_false] at hw
            rcases hw with rfl | rfl | rfl | rfl
            · exact hlink
            · exact him1
            · exact hse1
            · exact hini
          exact ⟨hB, mj_Bgood hB⟩
        · exact mjW_good hy w hw
      refine mj_call (va_runV (As := as) (rest := r) (C := (mY y').cls) ⟨hx, hb, hml, hown, hts⟩ hM (cwV (mN y') hts hT (mjW_eq y') rfl rfl ⟨rfl, hdesc⟩ (mj_room (y := y) hy hRm)) ⟨Pcj_blind D z _ h, ⟨cell, g1, by rw [g3]; rfl, by rw [g2, ← hq2]; exact (hcf.1.1 _ _ hq1).2.1⟩, fun U hU hW => ⟨rfl, hcf.warm hW, by rw [hU]; exact hh.moved hW.alike⟩⟩ rfl hn hl.1 rfl (lv_room (mj_sum hw)) hd ⟨by omega, by omega⟩) hS ?_
      intro x h' H1 locs1 hK hh1 hS1
      exact hK H1 locs1 ls (cells + mA y') (slots + mS y') hl hh1 hS1 (by show cells + mA y' + (cc - mA y') = TC; omega) (by show slots + mS y' + (ss - mS y') = TS; omega)
    · exact hst.elim
  · exact hst.elim
set_option maxHeartbeats 4000000 in
theorem sj_invokestatic (F : FX p R s m args meth c D z d y TC TS) (ih : IH l D z d) (hd : decode (mC y) pc = .ok (.invokestatic i, 3)) (hst : stO (Ev d) Q (KJ p l e R s m args below meth c Qf D z y TC TS) (match lk (mO y) i with | some y' => if mK y' = 0 then oInS y' pc al st h cc ss else none | none => none)) : KJ p l e R s m args below meth c Qf D z y TC TS (pc, al, st, h, cc, ss) := by
  intro H locs ls cells slots hl hh hS hc hs
  obtain ⟨hx, hb, hml, hown, hts, hcf, hin, hz, hRm, hTC, hTS⟩ := F
  split at hst
  · rename_i y' hlk
    split at hst
    · rename_i hk1
      obtain ⟨as, r, rfl, hn, ⟨hw, ⟨hA, hSl⟩, hsl⟩, hE⟩ := oInS_inv hst
      have hlk2 : lk1 (mO y) i = some y' := by
        unfold lk at hlk
        split at hlk
        · rename_i y2 h2
          rw [← hlk]; exact h2
        · obtain ⟨q, hq, hq2⟩ := Option.map_eq_some_iff.mp hlk
          have h3 := (mj_ln1 hq).2.2
          rw [hq2] at h3
          omega
      obtain ⟨hlink, hy⟩ := mj_lk1 hlk2
      obtain ⟨hcode, hini, hpn, hcls, hdesc, hsta, -⟩ := id hy
      have hM := ih y' as h _ hy hsl hE
      dsimp only at hc hs
      refine mj_call (va_runS (As := as) (rest := r) ⟨hx, hb, hml, hown, hts⟩ hM ⟨callB_of (mN y') hts (mjW_good hy) (mjW_eq y') rfl rfl (hts _ hini) (hts _ hlink) hdesc (mj_room (y := y) hy hRm), hts _ (hsta hk1)⟩ ⟨Pcj_blind D z _ h, fun U hU hW => ⟨rfl, hcf.warm hW, by rw [hU]; exact hh.moved hW.alike⟩⟩ rfl hn hl.1 rfl (lv_room (mj_sum hw)) hd ⟨by omega, by omega⟩) hS ?_
      intro x h' H1 locs1 hK hh1 hS1
      exact hK H1 locs1 ls (cells + mA y') (slots + mS y') hl hh1 hS1 (by show cells + mA y' + (cc - mA y') = TC; omega) (by show slots + mS y' + (ss - mS y') = TS; omega)
    · exact hst.elim
  · exact hst.elim
set_option maxHeartbeats 4000000 in
theorem sj_invokespecial (F : FX p R s m args meth c D z d y TC TS) (ih : IH l D z d) (hd : decode (mC y) pc = .ok (.invokespecial i, 3)) (hst : stO (Ev d) Q (KJ p l e R s m args below meth c Qf D z y TC TS) (match lk (mO y) i with | some y' => if mK y' = 2 then oInv y' pc al st h cc ss else none | none => none)) : KJ p l e R s m args below meth c Qf D z y TC TS (pc, al, st, h, cc, ss) := by
  intro H locs ls cells slots hl hh hS hc hs
  obtain ⟨hx, hb, hml, hown, hts, hcf, hin, hz, hRm, hTC, hTS⟩ := F
  split at hst
  · rename_i y' hlk
    split at hst
    · rename_i hk1
      obtain ⟨as, o, r, rfl, hn, ⟨⟨hko, hw⟩, ⟨hA, hSl⟩, hsl⟩, hE⟩ := oInv_inv hst
      dsimp only at hc hs
      have main : mOK y' → (mOK y' → ((∃ g, Cond.methodLinkNest (clsN (mO y)) i (mY y') g ∈ lw_tbl) ∨ Cond.methodLink (clsN (mO y)) i (mY y') ∈ mjB)) → W p l e R s m args below meth c H locs cells slots Qf (F0 m pc ls (as.reverse ++ .ref o :: r)) := by
        intro hy hlinks
        obtain ⟨hcode, hini, hpn, hcls, hdesc, -, him, -, hi2, -⟩ := id hy
        obtain ⟨him1, q, hq1, hq2⟩ := him (Or.inr hk1)
        obtain ⟨hnm, hrt⟩ := hi2 hk1
        have hM := ih y' (.ref o :: as) h _ hy hsl hE
        have hwq : mjW y' = Cond.code (mY y') (mC y') (mL y') none :: mjB := by unfold mjW; rw [hrt]
        have fin : va_Run p l e R s m args below meth c H locs cells slots (mA y') (mS y') (F0 m pc ls (as.reverse ++ .ref o :: r)) r (Qcj D z (fun x h' => KJ p l e R s m args below meth c Qf D z y TC TS (pc + 3, al, x.toList ++ r, h', cc - mA y', ss - mS y')) (Value.ref o :: as).toArray) (fun q => z ≤ q) := by
          rcases hlinks hy with ⟨g, hlink⟩ | hlink
          · exact va_runIN (As := as) (rest := r) ⟨hx, hb, hml, hown, hts⟩ hM ⟨va_cnB (mN y') hts (mjW_good hy) hwq rfl rfl (hcf.2.1 _ _ _ _ hlink) (hts _ hini) hdesc (mj_room (y := y) hy hRm), hnm, hts _ him1⟩ ⟨Pcj_blind D z _ h, fun U hU hW => ⟨rfl, hcf.warm hW, by rw [hU]; exact hh.moved hW.alike⟩⟩ rfl hn hl.1 rfl (lv_room (mj_sum hw)) hd ⟨by omega, by omega⟩
          · exact va_runI (As := as) (rest := r) ⟨hx, hb, hml, hown, hts⟩ hM (cwI (mN y') hts (mjW_good hy) hwq rfl rfl (hts _ hini) (hts _ hlink) (hts _ him1) hnm hdesc (mj_room (y := y) hy hRm)) ⟨Pcj_blind D z _ h, fun U hU hW => ⟨rfl, hcf.warm hW, by rw [hU]; exact hh.moved hW.alike⟩⟩ rfl hn hl.1 rfl (lv_room (mj_sum hw)) hd ⟨by omega, by omega⟩
        refine mj_call fin hS ?_
        intro x h' H1 locs1 hK hh1 hS1
        exact hK H1 locs1 ls (cells + mA y') (slots + mS y') hl hh1 hS1 (by show cells + mA y' + (cc - mA y') = TC; omega) (by show slots + mS y' + (ss - mS y') = TS; omega)
      unfold lk at hlk
      split at hlk
      · rename_i y2 h2
        have hlk2 : lk1 (mO y) i = some y' := by rw [← hlk]; exact h2
        exact main (mj_lk1 hlk2).2 (fun _ => Or.inr (mj_lk1 hlk2).1)
      · obtain ⟨q, hq, hq2⟩ := Option.map_eq_some_iff.mp hlk
        subst hq2
        exact main (mj_ln1 hq).2.1 (fun _ => Or.inl ⟨_, (mj_ln1 hq).1⟩)
    · exact hst.elim
  · exact hst.elim
set_option maxHeartbeats 4000000 in
theorem sj_objInit (F : FX p R s m args meth c D z d y TC TS) (hok : ok (mO y) i = true) (hd : decode (mC y) pc = .ok (.invokespecial i, 3)) (hst : stO (Ev d) Q (KJ p l e R s m args below meth c Qf D z y TC TS) (match st with | .ref _ :: r => if wd r ≤ 8 then oGo (pc + 3, al, r, h, cc, ss) else none | _ => none)) : KJ p l e R s m args below meth c Qf D z y TC TS (pc, al, st, h, cc, ss) := by
  intro H locs ls cells slots hl hh hS hc hs
  obtain ⟨hx, hb, hml, hown, hts, hcf, hin, hz, hRm, hTC, hTS⟩ := F
  split at hst
  · split at hst
    · rename_i a r hw
      have hk := hst
      have h8 := mj_sum hw
      exact W.objInit hx hb hown (hts _ (mj_ok1 hok)) (hts _ mj_oi.1) (hts _ mj_oi.2) rfl (by rw [hml]; exact hl.1) rfl hd (by omega) (by show 2 * 0 + _ + 12 ≤ _; omega) (hk H locs ls cells slots hl hh hS hc hs)
    · exact hst.elim
  · exact hst.elim
set_option maxHeartbeats 4000000 in
theorem sj_mmax (F : FX p R s m args meth c D z d y TC TS) (hok : mx (mO y) i = 1) (hd : decode (mC y) pc = .ok (.invokestatic i, 3)) (hst : stO (Ev d) Q (KJ p l e R s m args below meth c Qf D z y TC TS) (oMx pc al st h cc ss (fun a b => .int (if a < b then b else a)))) : KJ p l e R s m args below meth c Qf D z y TC TS (pc, al, st, h, cc, ss) := by
  intro H locs ls cells slots hl hh hS hc hs
  obtain ⟨hx, hb, hml, hown, hts, hcf, hin, hz, hRm, hTC, hTS⟩ := F
  obtain ⟨b, a, r, rfl, hw, hk⟩ := oMx_inv hst
  have h8 := mj_sum hw
  dsimp only at hc hs
  exact va_mmax hx hb (by rw [hml]; exact hl.1.symm) hown (hts _ ((mj_mx1 (by decide) hok).1 rfl)) (hts _ mj_mmax.1) (hts _ mj_mmax.2.1) (hts _ mj_mmax.2.2) (by omega) (by omega) (by omega) (by omega) hd (hk H locs ls cells slots hl hh hS hc hs)
set_option maxHeartbeats 4000000 in
theorem sj_mmin (F : FX p R s m args meth c D z d y TC TS) (hok : mx (mO y) i = 2) (hd : decode (mC y) pc = .ok (.invokestatic i, 3)) (hst : stO (Ev d) Q (KJ p l e R s m args below meth c Qf D z y TC TS) (oMx pc al st h cc ss (fun a b => .int (if b < a then b else a)))) : KJ p l e R s m args below meth c Qf D z y TC TS (pc, al, st, h, cc, ss) := by
  intro H locs ls cells slots hl hh hS hc hs
  obtain ⟨hx, hb, hml, hown, hts, hcf, hin, hz, hRm, hTC, hTS⟩ := F
  obtain ⟨b, a, r, rfl, hw, hk⟩ := oMx_inv hst
  have h8 := mj_sum hw
  dsimp only at hc hs
  exact va_mmin hx hb (by rw [hml]; exact hl.1.symm) hown (hts _ ((mj_mx1 (by decide) hok).2 rfl)) (hts _ mj_mmin.1) (hts _ mj_mmin.2.1) (hts _ mj_mmin.2.2) (by omega) (by omega) (by omega) (by omega) hd (hk H locs ls cells slots hl hh hS hc hs)
/-- System.arraycopy between two rows of one kind of number -/
theorem mj_copy {α : Type} {mk : α → Value} {ty : FieldType} (F : FX p R s m args meth c D z d y TC TS) (hyk : yk (mO y) i = true) {H : Heap} {locs : List Loc} {ls : Array Slot} {cells slots : Nat} {r : List Value} {a b n0 n1 : Nat} {c0 c1 : ClassId} {f g : Nat → α} {sp dp n : Int32} (hl : ls.size = mL y)
    (hc0 : H[a]? = some (arrV c0 n0 (fun j => mk (f j)))) (hc1 : H[b]? = some (arrV c1 n1 (fun j => mk (g j)))) (ht0 : ArrOfT s c0 ty) (ht1 : ArrOfT s c1 ty) (hprim : refKind ty = false) (hft : ∀ x, fits ty (mk x) = true) (htk : ∀ (U : State) (q : ClassId) (x : α), U.takes q (mk x)) (h1 : 0 ≤ sp) (h2 : 0 ≤ dp) (h3 : 0 ≤ n) (h4 : ix sp + ix n ≤ n0) (h5 : ix dp + ix n ≤ n1) (hw : wd r ≤ 8) (hd : decode (mC y) pc = .ok (.invokestatic i, 3))
    (kk : ∀ (H1 : Heap) (L : List Loc), H1[b]? = some (arrV c1 n1 (fun j => mk (va_cpy f g (ix sp) (ix dp) (ix n) j))) → H1.size = H.size → (∀ q, q ≠ b → H1[q]? = H[q]?) → (∀ q ∈ L, q.base = b) → W p l e R s m args below meth c H1 (locs ++ L) cells slots Qf (F0 m (pc + 3) ls r)) : W p l e R s m args below meth c H locs cells slots Qf (F0 m pc ls (.int n :: .int dp :: .ref b :: .int sp :: .ref a :: r)) := by
  obtain ⟨hx, hb, hml, hown, hts, hcf, hin, hz, hRm, hTC, hTS⟩ := F
  have nn : ∀ w : Int32, 0 ≤ w → w.toInt = (ix w : Int) := by
    intro w hw0
    have h0 : (0 : Int) ≤ w.toInt := by simpa using Int32.le_iff_toInt_le.mp hw0
    show w.toInt = ((w.toInt.toNat : Nat) : Int)
    omega
  intro T hT X
  obtain ⟨-, k0, hk0, cm0, hkk0⟩ := ht0 n0 (fun j => mk (f j))
  obtain ⟨-, k1, hk1, cm1, hkk1⟩ := ht1 n1 (fun j => mk (g j))
  have h8 := mj_sum hw
  have hnw : nativeFrameWords "java/lang/System" "arraycopy" 5 = 7 := by decide +kernel
  obtain ⟨vm', X', step⟩ := X.arraycopy hx hown (hts _ (mj_yk1 hyk)) (hts _ mj_yk2.1) (hts _ mj_yk2.2.1) (hts _ mj_yk2.2.2) (src := a) (dst := b) (cs := arrV c0 n0 (fun j => mk (f j))) (cd := arrV c1 n1 (fun j => mk (g j))) (srcPos := sp) (destPos := dp) (n := n) (by rw [hT]; exact hc0) (by rw [hT]; exact hc1)
    (fun _ h => by cases h) (fun _ h => by cases h) (fun h => by cases h) (fun h => by cases h) hk0 hk1 hkk0 hkk1 (by simp [hprim]) (Int32.not_lt.mpr h1) (Int32.not_lt.mpr h2) (Int32.not_lt.mpr h3)
    (by rw [nn sp h1, nn n h3, arrV_size]; omega)
    (by rw [nn dp h2, nn n h3, arrV_size]; omega)
    (fun vm₁ _ j hj => by
      have hj2 : j < ix n := hj
      have e : (arrV c0 n0 (fun j => mk (f j))).slots.getD (sp.toNatClampNeg + j) .null = mk (f (sp.toNatClampNeg + j)) := by
        rw [Array.getD_eq_getD_getElem?, arrV_read _ _ (show sp.toNatClampNeg + j < n0 by have : ix sp = sp.toNatClampNeg := rfl; omega)]
        rfl
      exact ⟨by rw [e]; exact hft _, by rw [e]; exact htk _ _ _⟩)
    (g := F0 m pc ls (.int n :: .int dp :: .ref b :: .int sp :: .ref a :: r)) rfl (by rw [hml]; exact hl) (rest := r) rfl (by rw [hb]; exact hd) (by omega) (by show 2 * 0 + _ + _ ≤ _; rw [hnw]; omega)
  have e1 : copied (arrV c0 n0 (fun j => mk (f j))) (arrV c1 n1 (fun j => mk (g j))) sp dp n = arrV c1 n1 (fun j => mk (va_cpy f g (ix sp) (ix dp) (ix n) j)) := va_copied mk c0 c1 f g h4
  rw [e1] at X' step
  have hbl : b < H.size := (Array.getElem?_eq_some_iff.mp hc1).1
  have hheap : ((T.setVm vm').setCell b (arrV c1 n1 (fun j => mk (va_cpy f g (ix sp) (ix dp) (ix n) j)))).heap = H.setIfInBounds b (arrV c1 n1 (fun j => mk (va_cpy f g (ix sp) (ix dp) (ix n) j))) := by rw [← hT]; rfl
  obtain ⟨t, a1, b1⟩ := kk _ _ (show (H.setIfInBounds b _)[b]? = some _ by simp [Array.getElem?_setIfInBounds, hbl]) (by simp) (fun q hq => by simp [Array.getElem?_setIfInBounds, Ne.symm hq]) (fun q hq => by
      obtain ⟨w, -, hw2⟩ := List.mem_map.mp hq
      rw [← hw2]) _ hheap X'
  exact ⟨t, step t a1, b1⟩
theorem va_S.puts {A : Nat → Prop} {H0 H H1 : Heap} {locs L : List Loc} {a : Nat} (h : va_S A H0 H locs) (z : H1.size = H.size) (oq : ∀ q : Nat, q ≠ a → H1[q]? = H[q]?) (ha : A a) (hL : ∀ q ∈ L, q.base = a) : va_S A H0 H1 (locs ++ L) := by
  refine ⟨by rw [z]; exact h.1, fun q h1 h2 => ?_, fun q hq => ?_⟩
  · rw [oq q (fun e => h2 (by rw [e]; exact ha))]
    exact h.2.1 q h1 h2
  · rcases List.mem_append.mp hq with h1 | h1
    · exact h.2.2 q h1
    · rw [hL q h1]
      exact ha
set_option maxHeartbeats 4000000 in
theorem sj_copy (F : FX p R s m args meth c D z d y TC TS) (hyk : yk (mO y) i = true) (hd : decode (mC y) pc = .ok (.invokestatic i, 3)) (hst : stO (Ev d) Q (KJ p l e R s m args below meth c Qf D z y TC TS) (oCpy pc al st h cc ss)) : KJ p l e R s m args below meth c Qf D z y TC TS (pc, al, st, h, cc, ss) := by
  intro H locs ls cells slots hl hh hS hc hs
  obtain ⟨n, dp, b, sp, a, r, rfl, ⟨⟨g1, g2, g3⟩, ⟨g4, g5⟩, hw⟩, hk⟩ := oCpy_inv hst
  rcases hk with ⟨ka, kb, hk⟩ | ⟨ka, kb, hk⟩
  · obtain ⟨-, cA, q1, q2, q3⟩ := (hh.2.2 a).2.1 ka
    obtain ⟨hz1, cB, r1, r2, r3⟩ := (hh.2.2 b).2.1 kb
    refine mj_copy (mk := fun x => .int x) F hyk hl.1 q3 r3 q1 r1 rfl (fun _ => rfl) (fun _ _ _ => trivial) g1 g2 g3 g4 g5 hw hd fun H1 L e1 e2 e3 e4 => ?_
    refine hk H1 _ ls cells slots hl (hh.put e2 e3 rfl rfl rfl (fun w hwb => ⟨by funext j; rw [hI_cI, if_neg hwb], rfl, rfl⟩) (CR_arI kb hz1 r1 r2 ?_)) (hS.puts e2 e3 hz1 e4) hc hs
    rw [e1]
    congr 2
    funext j
    rw [hI_cI, if_pos rfl]
  · obtain ⟨-, cA, q1, q2, q3⟩ := (hh.2.2 a).2.2.1 ka
    obtain ⟨hz1, cB, r1, r2, r3⟩ := (hh.2.2 b).2.2.1 kb
    refine mj_copy (mk := fun x => .long x) F hyk hl.1 q3 r3 q1 r1 rfl (fun _ => rfl) (fun _ _ _ => trivial) g1 g2 g3 g4 g5 hw hd fun H1 L e1 e2 e3 e4 => ?_
    refine hk H1 _ ls cells slots hl (hh.put e2 e3 rfl rfl rfl (fun w hwb => ⟨rfl, by funext j; rw [hL_cLg, if_neg hwb], rfl⟩) (CR_arL kb hz1 r1 r2 ?_)) (hS.puts e2 e3 hz1 e4) hc hs
    rw [e1]
    congr 2
    funext j
    rw [hL_cLg, if_pos rfl]
end MJU
