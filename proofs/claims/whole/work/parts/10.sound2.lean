theorem swL_spec (x : Int32) (d : Int) : ∀ ps : List (Int × Int), ps.all (fun q => decide (0 ≤ q.1 ∧ q.1 < 1000)) = true → swL x ps d = Op.lookupswitch.offset ps d x.toInt
  | [], _ => rfl
  | (k, o) :: os, h => by
    simp only [List.all_cons, Bool.and_eq_true, decide_eq_true_eq] at h
    obtain ⟨n, rfl⟩ : ∃ n : Nat, k = (n : Int) := ⟨k.toNat, by omega⟩
    have e : (Int32.ofInt (n : Int)).toInt = (n : Int) := nI_toInt (n := n) (by omega)
    unfold swL
    rw [Op.lookupswitch.offset_cons]
    by_cases hx : x = Int32.ofInt (n : Int)
    · rw [if_pos hx, if_pos (by rw [hx, e])]
    · rw [if_neg hx, if_neg (fun q => hx (Int32.toInt_inj.mp (by rw [e]; exact q.symm))), swL_spec x d os h.2]
theorem mj_fk2 {o i ci k ty : Nat} {fin : Bool} (h : fk o i = some (ci, k, ty, fin)) : ∃ (C : String) (T : u_T) (N : Nat) (tf : Nat → FieldType), CLok ci C T N tf ∧ k < N ∧ Cond.fieldLink (clsN o) i (T k).1 (T k).2.1 (T k).2.2.1 ∈ mjB ∧ (T k).2.2.2 = fin ∧ (T k).1 = C ∧ tyOK ty (tf k) ∧ fty ci k = ty := mj_fk1 h
theorem mj_nk2 {o i ci N : Nat} (h : nk o i = some (ci, N)) : ∃ (C : String) (T : u_T) (tf : Nat → FieldType), CLok ci C T N tf ∧ Cond.classLink (clsN o) i C ∈ mjB := mj_nk1 h
theorem CR_obj {D : va_G} {z : Nat} {h : HP} {U : State} {H : Heap} {a ci : Nat} {q : vw_C} (hka : hkd h a = 10 + ci) (hz : z ≤ a) (hq : mjCl[ci]? = some q) (ht : t_OB a (D.1 ci) q.2.2 (D.2 ci) H (fv h ci a)) : CR D z h U H a :=
  ⟨fun k => by omega, fun k => by omega, fun k => by omega, fun k => by omega, fun ci' k => by
    have e : ci' = ci := by omega
    subst e
    exact ⟨hz, q, hq, ht⟩⟩
theorem CR_arI {D : va_G} {z : Nat} {h : HP} {U : State} {H : Heap} {a : Nat} {cA : ClassId} (hka : hkd h a = 2) (hz : z ≤ a) (h1 : ArrOfT U cA .int) (h2 : va_RA U cA .int) (h3 : H[a]? = some (arrV cA (hln h a) (fun j => .int (hI h a j)))) : CR D z h U H a :=
  ⟨fun k => by omega, fun _ => ⟨hz, cA, h1, h2, h3⟩, fun k => by omega, fun k => by omega, fun ci' k => by omega⟩
theorem CR_arL {D : va_G} {z : Nat} {h : HP} {U : State} {H : Heap} {a : Nat} {cA : ClassId} (hka : hkd h a = 3) (hz : z ≤ a) (h1 : ArrOfT U cA .long) (h2 : va_RA U cA .long) (h3 : H[a]? = some (arrV cA (hln h a) (fun j => .long (hL h a j)))) : CR D z h U H a :=
  ⟨fun k => by omega, fun k => by omega, fun _ => ⟨hz, cA, h1, h2, h3⟩, fun k => by omega, fun ci' k => by omega⟩
theorem CR_arR {D : va_G} {z : Nat} {h : HP} {U : State} {H : Heap} {a : Nat} {cA : ClassId} (hka : hkd h a = 4) (hz : z ≤ a) (h1 : ArrOfT U cA (.object "MayReadPencil$Village")) (h2 : va_RA U cA (.object "MayReadPencil$Village")) (h3 : H[a]? = some (arrV cA (hln h a) (fun j => va_rf (hR h a j)))) : CR D z h U H a :=
  ⟨fun k => by omega, fun k => by omega, fun k => by omega, fun _ => ⟨hz, cA, h1, h2, h3⟩, fun ci' k => by omega⟩
theorem Pcj_blind (D : va_G) (z : Nat) (as : List Value) (h : HP) : FrameBlind (Pcj D z as h) := fun a U g mk q => by
  obtain ⟨q0, ⟨k1, k2, k3⟩, q2⟩ := q
  exact ⟨q0, ⟨va_K.moved (u := U) (U := U.calling g mk a) (Vm.Alike.refl U.vm) k1, fun b i x f hm => va_Nw.same rfl (u := U) (U := U.calling g mk a) rfl (k2 b i x f hm), va_AO.moved (u := U) (U := U.calling g mk a) (Vm.Alike.refl U.vm) k3⟩, HH.moved (u := U) (U := U.calling g mk a) (Vm.Alike.refl U.vm) q2⟩
section MJT
variable {p : Program} {l : Launch} {e : Env} {R : Room} {s : State} {m : MethodId} {args : Array Value} {below : List Frame} {meth : Method} {c : Code} {Qf : State → Prop} {D : va_G} {z d y TC TS : Nat} {E : Nat → List Value → HP → PQ → Prop} {Q : PQ} {pc i : Nat} {al : List Slot} {st : List Value} {h : HP} {cc ss : Nat}
theorem mj_call {H : Heap} {locs : List Loc} {cells slots mc ms : Nat} {Q' : PQ} {rest st0 : List Value} {ls : Array Slot} {a : Array Value} (hr : va_Run p l e R s m args below meth c H locs cells slots mc ms (F0 m pc ls st0) rest (Qcj D z Q' a) (fun q => z ≤ q)) (hS : va_S (fun q => z ≤ q) s.heap H locs)
    (kk : ∀ (r : Option Value) (h' : HP) (H1 : Heap) (locs1 : List Loc), Q' r h' → HH D z h' s H1 → va_S (fun q => z ≤ q) s.heap H1 locs1 → W p l e R s m args below meth c H1 locs1 (cells + mc) (slots + ms) Qf (F0 m (pc + 3) ls (r.toList ++ rest))) : W p l e R s m args below meth c H locs cells slots Qf (F0 m pc ls st0) := by
  intro T hT X
  obtain ⟨v, st₀, t, T', L, h0, X', hL, e1, e2, ⟨⟨r, h', hp, hv, hb⟩, hz, hk⟩, st⟩ := hr T hT X
  cases hv
  rw [h0] at hz hk
  have hal : s.vm.Alike t.vm := by rw [← e2]; exact X'.warmed.alike
  obtain ⟨t2, a1, b1⟩ := kk v h' T'.heap (locs ++ L) hp (by rw [e1]; exact HH.moved hal.symm hb)
    ⟨Nat.le_trans hS.1 (by rw [e1]; exact hz), fun q h1 h2 => by rw [e1, hk q (Nat.lt_of_lt_of_le h1 hS.1) h2]; exact hS.2.1 q h1 h2, fun q hq => by
      rcases List.mem_append.mp hq with h | h
      · exact hS.2.2 q h
      · exact hL q h⟩ T' rfl X'
  exact ⟨t2, st t2 a1, b1⟩
set_option maxHeartbeats 4000000 in
theorem sj_lookupswitch (F : FX p R s m args meth c D z d y TC TS) {dd : Int} {ps : Array (Int × Int)} {len : Nat} (hd : decode (mC y) pc = .ok (.lookupswitch dd ps, len)) (hst : stO E Q (KJ p l e R s m args below meth c Qf D z y TC TS) (nxI y pc al st h cc ss (.lookupswitch dd ps))) : KJ p l e R s m args below meth c Qf D z y TC TS (pc, al, st, h, cc, ss) := by
  intro H locs ls cells slots hl hh hS hc hs
  obtain ⟨hx, hb, hml, hown, hts, hcf, hin, hz, hRm, hTC, hTS⟩ := F
  obtain ⟨x, r, rfl, ho, t, ht, hk⟩ := oLok_inv hst
  unfold okK at ho
  rw [Bool.and_eq_true] at ho
  rw [swL_spec x dd _ ho.1] at ht
  exact lv_lookup hx hb hd ho.2 rfl ht (hk H locs ls cells slots hl hh hS hc hs)
set_option maxHeartbeats 4000000 in
theorem sj_getfield (F : FX p R s m args meth c D z d y TC TS) (hd : decode (mC y) pc = .ok (.getfield i, 3)) (hst : stO E Q (KJ p l e R s m args below meth c Qf D z y TC TS) (nxI y pc al st h cc ss (.getfield i))) : KJ p l e R s m args below meth c Qf D z y TC TS (pc, al, st, h, cc, ss) := by
  intro H locs ls cells slots hl hh hS hc hs
  obtain ⟨hx, hb, hml, hown, hts, hcf, hin, hz, hRm, hTC, hTS⟩ := F
  obtain ⟨ci, k, ty, fin, a, r, hf, rfl, hka, hk⟩ := oGet_inv hst
  obtain ⟨C, T, N, tf, ⟨hcl, hlw, hty, hnm, -⟩, hkN, hlink, hfin, hown2, hto, hfk⟩ := mj_fk2 hf
  obtain ⟨hz1, q, hq, cell, q1, q2, q3, q4⟩ := (hh.2.2 a).2.2.2.2 ci hka
  have hr : q = (C, T, N) := Option.some.inj (hq.symm.trans hcl)
  subst hr
  obtain ⟨hS1, hfc, kC, hkC, hkind⟩ := hcf.1.1 ci _ hcl
  obtain ⟨cf, kf, fi, f, hi, hsl⟩ := hS1 k hkN
  refine W.getf hx hb hown (hts _ hlink) hi (u_facts hfc hkC (u_lays hts hlw hkN) hi).1 q1 (by rw [q3]; exact fun h => by cases h) (v := fget ty h a k) ?_ rfl rfl hd (hk H locs ls cells slots hl hh hS hc hs)
  rw [hsl, q4 k hkN]
  unfold fv
  rw [hfk]
set_option maxHeartbeats 4000000 in
theorem mj_put (F : FX p R s m args meth c D z d y TC TS) {H : Heap} {locs : List Loc} {ls : Array Slot} {cells slots ci k a N : Nat} {fin : Bool} {v : Value} {r : List Value} {C : String} {T : u_T} {tf : Nat → FieldType} (hd : decode (mC y) pc = .ok (.putfield i, 3))
    (hcl : CLok ci C T N tf) (hkN : k < N) (hlink : Cond.fieldLink (clsN (mO y)) i (T k).1 (T k).2.1 (T k).2.2.1 ∈ mjB) (hfin : (T k).2.2.2 = fin) (hC : (T k).1 = C) (hof : okF fin y ci = true) (hn : narrow (tf k) v = v) (hfit : fits (tf k) v = true) {V : Nat → Value} (ht : t_OB a (D.1 ci) N (D.2 ci) H V)
    (kk : ∀ (H1 : Heap) (j : Nat), t_OB a (D.1 ci) N (D.2 ci) H1 (updV V k v) → H1.size = H.size → (∀ q, q ≠ a → H1[q]? = H[q]?) → W p l e R s m args below meth c H1 (locs ++ [⟨a, j⟩]) cells slots Qf (F0 m (pc + 3) ls r)) : W p l e R s m args below meth c H locs cells slots Qf (F0 m pc ls (v :: .ref a :: r)) := by
  obtain ⟨hx, hb, hml, hown, hts, hcf, hin, hz, hRm, hTC, hTS⟩ := F
  obtain ⟨hclq, hlw, hty, hnm, -⟩ := hcl
  have hap := va_apart (s := s) (own := C) (D := D) (cl := mjCl) (tys := []) hts hlw tf hty hnm hcf.1 hclq
  obtain ⟨cell, q1, q2, q3, q4⟩ := ht
  obtain ⟨hS1, hfc, kC, hkC, hkind⟩ := hcf.1.1 ci _ hclq
  obtain ⟨cf, kf, fi, f, hi, hsl⟩ := hS1 k hkN
  have hlay := hts _ (hlw _ (u_in_lay hkN))
  unfold u_lay at hlay
  have hst := (u_facts hfc hkC (u_lays hts hlw hkN) hi).1
  cases fin with
  | false =>
    rw [if_neg (by rw [hfin]; decide)] at hlay
    have h6 := u_store hfc hkC hkind hlay hi (hty k hkN) hn hfit
    refine W.putK hx hb (f := f) ⟨hown, hts _ hlink, ⟨_, _, _, hi⟩, hst⟩ (by rw [q2]; exact h6) q1 q3 (by rw [hsl]; exact k2_hasslot (q4 k hkN)) rfl rfl hd fun H' e1 e2 e3 => ?_
    rw [hsl] at e1 ⊢
    exact kk H' _ ⟨_, e1, q2, q3, t_set q4 hap hkN v⟩ e2 e3
  | true =>
    rw [if_pos hfin] at hlay
    have hof2 : mK y = 2 ∧ mci y = ci := by simpa [okF] using hof
    obtain ⟨hnm2, hm⟩ := hin hof2.1
    have hcls : clsN (mO y) = C := by
      obtain ⟨-, -, -, o1, -, -, o2, -⟩ := hm
      obtain ⟨-, q, o3, o4⟩ := o2 (Or.inr hof2.1)
      rw [hof2.2, hclq] at o3
      cases o3
      rw [← o1, ← o4]
    have hcf2 : m.cls = cf := by
      obtain ⟨_, _, c', _, _, _, -, -, hf', -, -, -, hown2, -⟩ := Cond.laysFinal_spec hlay
      have e1 : c' = cf := by have := hi.symm.trans hf'; simp at this; exact this.1.symm
      rw [hC, ← hcls] at hown2
      rw [← e1]; exact Option.some.inj (hown.symm.trans hown2)
    have h6 := u_fits hfc hkC hkind (Or.inr hlay) hi (hty k hkN) hn hfit
    refine W.putFinK hx hb hown (hts _ hlink) hi hst hcf2 hnm2 (by rw [q2]; exact h6) q1 q3 (by rw [hsl]; exact k2_hasslot (q4 k hkN)) rfl rfl hd fun H' e1 e2 e3 => ?_
    rw [hsl] at e1 ⊢
    exact kk H' _ ⟨_, e1, q2, q3, t_set q4 hap hkN v⟩ e2 e3
theorem fv_sI {ci a k : Nat} {x : Int32} (ht : fty ci k = 0 ∨ fty ci k = 3) (j : Nat) : updV (fv h ci a) k (.int x) j = fv (sI h a k x) ci a j := by
  unfold updV fv fget
  by_cases hj : j = k
  · subst hj
    rw [if_pos rfl]
    rcases ht with ht | ht <;> rw [ht] <;> simp [hI_sI]
  · rw [if_neg hj]
    split <;> simp [hI_sI, hL_sI, hR_sI, hj]
theorem fv_sL {ci a k : Nat} {x : Int64} (ht : fty ci k = 1) (j : Nat) : updV (fv h ci a) k (.long x) j = fv (sL h a k x) ci a j := by
  unfold updV fv fget
  by_cases hj : j = k
  · subst hj
    rw [if_pos rfl, ht]
    simp [hL_sL]
  · rw [if_neg hj]
    split <;> simp [hI_sL, hL_sL, hR_sL, hj]
theorem fv_sR {ci a k x : Nat} (ht : fty ci k = 2) (j : Nat) : updV (fv h ci a) k (.ref x) j = fv (sR h a k (some x)) ci a j := by
  unfold updV fv fget
  by_cases hj : j = k
  · subst hj
    rw [if_pos rfl, ht]
    simp [hR_sR, va_rf]
  · rw [if_neg hj]
    split <;> simp [hI_sR, hL_sR, hR_sR, hj]
theorem nar_bool {x : Int32} (h : x = 0 ∨ x = 1) : narrow .boolean (.int x) = .int x ∧ fits .boolean (.int x) = true := by
  rcases h with rfl | rfl <;> decide
set_option maxHeartbeats 4000000 in
theorem sj_putfield (F : FX p R s m args meth c D z d y TC TS) (hd : decode (mC y) pc = .ok (.putfield i, 3)) (hst : stO E Q (KJ p l e R s m args below meth c Qf D z y TC TS) (nxI y pc al st h cc ss (.putfield i))) : KJ p l e R s m args below meth c Qf D z y TC TS (pc, al, st, h, cc, ss) := by
  intro H locs ls cells slots hl hh hS hc hs
  obtain ⟨ci, k, ty, fin, v, a, r, h', hf, rfl, hka, hof, hk, hty⟩ := oPut_inv hst
  obtain ⟨C, T, N, tf, hcl, hkN, hlink, hfin, hC, hto, hfk⟩ := mj_fk2 hf
  obtain ⟨hz1, q, hq, hob⟩ := (hh.2.2 a).2.2.2.2 ci hka
  have hr : q = (C, T, N) := Option.some.inj (hq.symm.trans hcl.1)
  subst hr
  have go : ∀ (H1 : Heap) (j : Nat), hkd h' = hkd h → hln h' = hln h → hnx h' = hnx h → (∀ b, b ≠ a → hI h' b = hI h b ∧ hL h' b = hL h b ∧ hR h' b = hR h b) → (∀ j, updV (fv h ci a) k v j = fv h' ci a j) → t_OB a (D.1 ci) N (D.2 ci) H1 (updV (fv h ci a) k v) → H1.size = H.size → (∀ q, q ≠ a → H1[q]? = H[q]?) → W p l e R s m args below meth c H1 (locs ++ [⟨a, j⟩]) cells slots Qf (F0 m (pc + 3) ls r) := by
    intro H1 j k1 k2 k3 kb kf g1 g2 g3
    exact hk H1 _ ls cells slots hl (hh.put g2 g3 k1 k2 k3 kb (CR_obj (by rw [k1]; exact hka) hz1 hcl.1 (g1.to fun j _ => kf j))) (hS.put g2 g3 hz1) hc hs
  rcases hty with ⟨rfl, x, rfl, rfl⟩ | ⟨rfl, x, rfl, hx01, rfl⟩ | ⟨rfl, x, rfl, rfl⟩ | ⟨rfl, x, rfl, rfl⟩
  · have et : tf k = .int := by rcases hto with ⟨-, q⟩ | ⟨q, -⟩ | ⟨q, -⟩ | ⟨q, -⟩ <;> first | exact q | omega
    exact mj_put F hd hcl hkN hlink hfin hC hof (by rw [et]; rfl) (by rw [et]; rfl) hob (fun H1 j => go H1 j rfl rfl rfl (fun b hb => ⟨by funext w; rw [hI_sI, if_neg (fun z => hb z.1)], rfl, rfl⟩) (fv_sI (Or.inl hfk)))
  · have et : tf k = .boolean := by rcases hto with ⟨q, -⟩ | ⟨q, -⟩ | ⟨-, q⟩ | ⟨q, -⟩ <;> first | exact q | omega
    exact mj_put F hd hcl hkN hlink hfin hC hof (by rw [et]; exact (nar_bool hx01).1) (by rw [et]; exact (nar_bool hx01).2) hob (fun H1 j => go H1 j rfl rfl rfl (fun b hb => ⟨by funext w; rw [hI_sI, if_neg (fun z => hb z.1)], rfl, rfl⟩) (fv_sI (Or.inr hfk)))
  · have et : tf k = .long := by rcases hto with ⟨q, -⟩ | ⟨-, q⟩ | ⟨q, -⟩ | ⟨q, -⟩ <;> first | exact q | omega
    exact mj_put F hd hcl hkN hlink hfin hC hof (by rw [et]; rfl) (by rw [et]; rfl) hob (fun H1 j => go H1 j rfl rfl rfl (fun b hb => ⟨rfl, by funext w; rw [hL_sL, if_neg (fun z => hb z.1)], rfl⟩) (fv_sL hfk))
  · have et : (∃ c, tf k = .object c) ∨ ∃ c, tf k = .array c := by rcases hto with ⟨q, -⟩ | ⟨q, -⟩ | ⟨q, -⟩ | ⟨-, q⟩ <;> first | exact q | omega
    have e2 : narrow (tf k) (.ref x) = .ref x ∧ fits (tf k) (.ref x) = true := by rcases et with ⟨w, et⟩ | ⟨w, et⟩ <;> rw [et] <;> exact ⟨rfl, rfl⟩
    exact mj_put F hd hcl hkN hlink hfin hC hof e2.1 e2.2 hob (fun H1 j => go H1 j rfl rfl rfl (fun b hb => ⟨rfl, rfl, by funext w; rw [hR_sR, if_neg (fun z => hb z.1)]⟩) (fv_sR hfk))
theorem ix_in {i : Int32} {n : Nat} (h : 0 ≤ i ∧ ix i < n) : ¬ (i < 0 ∨ n ≤ i.toNatClampNeg) := by
  rintro (q | q)
  · exact absurd h.1 (Int32.not_le.mpr q)
  · have := h.2
    unfold ix at this
    omega
set_option maxHeartbeats 4000000 in
theorem sj_iaload (F : FX p R s m args meth c D z d y TC TS) (hd : decode (mC y) pc = .ok (.iaload, 1)) (hst : stO E Q (KJ p l e R s m args below meth c Qf D z y TC TS) (nxI y pc al st h cc ss .iaload)) : KJ p l e R s m args below meth c Qf D z y TC TS (pc, al, st, h, cc, ss) := by
  intro H locs ls cells slots hl hh hS hc hs
  obtain ⟨hx, hb, hml, hown, hts, hcf, hin, hz, hRm, hTC, hTS⟩ := F
  obtain ⟨i, a, r, rfl, ⟨hka, hi⟩, hk⟩ := oIal_inv hst
  rcases hka with hka | hka
  · obtain ⟨cell, q1, q2, q3, q4, q5⟩ := (hh.2.2 a).1 hka
    exact W.iald (v := .int (hI h a (ix i))) hx hb q1 q2 q3 (by rw [q4]; exact ix_in hi) (q5 _ hi.2) rfl rfl hd (hk H locs ls cells slots hl hh hS hc hs)
  · obtain ⟨hz1, cA, q1, q2, q3⟩ := (hh.2.2 a).2.1 hka
    exact W.iald (v := .int (hI h a (ix i))) hx hb q3 (q1 _ _) (fun q => by cases q) (by rw [arrV_size]; exact ix_in hi) (arrV_read _ _ hi.2) rfl rfl hd (hk H locs ls cells slots hl hh hS hc hs)
set_option maxHeartbeats 4000000 in
theorem sj_laload (F : FX p R s m args meth c D z d y TC TS) (hd : decode (mC y) pc = .ok (.laload, 1)) (hst : stO E Q (KJ p l e R s m args below meth c Qf D z y TC TS) (nxI y pc al st h cc ss .laload)) : KJ p l e R s m args below meth c Qf D z y TC TS (pc, al, st, h, cc, ss) := by
  intro H locs ls cells slots hl hh hS hc hs
  obtain ⟨hx, hb, hml, hown, hts, hcf, hin, hz, hRm, hTC, hTS⟩ := F
  obtain ⟨i, a, r, rfl, ⟨hka, hi⟩, hk⟩ := oLal_inv hst
  obtain ⟨hz1, cA, q1, q2, q3⟩ := (hh.2.2 a).2.2.1 hka
  exact W.lald (v := .long (hL h a (ix i))) hx hb q3 (q1 _ _) (fun q => by cases q) (by rw [arrV_size]; exact ix_in hi) (arrV_read _ _ hi.2) rfl rfl hd (hk H locs ls cells slots hl hh hS hc hs)
set_option maxHeartbeats 4000000 in
theorem sj_aaload (F : FX p R s m args meth c D z d y TC TS) (hd : decode (mC y) pc = .ok (.aaload, 1)) (hst : stO E Q (KJ p l e R s m args below meth c Qf D z y TC TS) (nxI y pc al st h cc ss .aaload)) : KJ p l e R s m args below meth c Qf D z y TC TS (pc, al, st, h, cc, ss) := by
  intro H locs ls cells slots hl hh hS hc hs
  obtain ⟨hx, hb, hml, hown, hts, hcf, hin, hz, hRm, hTC, hTS⟩ := F
  obtain ⟨i, a, r, rfl, ⟨hka, hi⟩, hk⟩ := oAal_inv hst
  obtain ⟨hz1, cA, q1, q2, q3⟩ := (hh.2.2 a).2.2.2.1 hka
  exact W.aald (v := va_rf (hR h a (ix i))) (ty := .object "MayReadPencil$Village") hx hb q3 (q1 _ _) rfl (fun q => by cases q) (by rw [arrV_size]; exact ix_in hi) (arrV_read _ (fun j => va_rf (hR h a j)) hi.2) rfl rfl hd (hk H locs ls cells slots hl hh hS hc hs)
set_option maxHeartbeats 4000000 in
theorem sj_arraylength (F : FX p R s m args meth c D z d y TC TS) (hd : decode (mC y) pc = .ok (.arraylength, 1)) (hst : stO E Q (KJ p l e R s m args below meth c Qf D z y TC TS) (nxI y pc al st h cc ss .arraylength)) : KJ p l e R s m args below meth c Qf D z y TC TS (pc, al, st, h, cc, ss) := by
  intro H locs ls cells slots hl hh hS hc hs
  obtain ⟨hx, hb, hml, hown, hts, hcf, hin, hz, hRm, hTC, hTS⟩ := F
  obtain ⟨a, r, rfl, hka, hk⟩ := oAln_inv hst
  rcases hka with hka | hka | hka
  · obtain ⟨cell, q1, q2, q3, q4, q5⟩ := (hh.2.2 a).1 hka
    exact W.alen (n := Int32.ofNat (hln h a)) hx hb q1 q2 (by rw [q4] <;> rfl) rfl rfl hd (hk H locs ls cells slots hl hh hS hc hs)
  · obtain ⟨hz1, cA, q1, q2, q3⟩ := (hh.2.2 a).2.1 hka
    exact W.alen (n := Int32.ofNat (hln h a)) hx hb q3 (q1 _ _) (by rw [arrV_size] <;> rfl) rfl rfl hd (hk H locs ls cells slots hl hh hS hc hs)
  · obtain ⟨hz1, cA, q1, q2, q3⟩ := (hh.2.2 a).2.2.1 hka
    exact W.alen (n := Int32.ofNat (hln h a)) hx hb q3 (q1 _ _) (by rw [arrV_size] <;> rfl) rfl rfl hd (hk H locs ls cells slots hl hh hS hc hs)
set_option maxHeartbeats 4000000 in
theorem sj_iastore (F : FX p R s m args meth c D z d y TC TS) (hd : decode (mC y) pc = .ok (.iastore, 1)) (hst : stO E Q (KJ p l e R s m args below meth c Qf D z y TC TS) (nxI y pc al st h cc ss .iastore)) : KJ p l e R s m args below meth c Qf D z y TC TS (pc, al, st, h, cc, ss) := by
  intro H locs ls cells slots hl hh hS hc hs
  obtain ⟨hx, hb, hml, hown, hts, hcf, hin, hz, hRm, hTC, hTS⟩ := F
  obtain ⟨x, i, a, r, rfl, ⟨hka, hi⟩, hk⟩ := oIas_inv hst
  obtain ⟨hz1, cA, q1, q2, q3⟩ := (hh.2.2 a).2.1 hka
  refine W.iast hx hb q3 (q1 _ _) (fun q => by cases q) (by rw [arrV_size]; exact ix_in hi) rfl rfl hd fun H1 e1 e2 e3 => ?_
  refine hk H1 _ ls cells slots hl (hh.put e2 e3 rfl rfl rfl (fun b hb => ⟨by funext w; rw [hI_sI, if_neg (fun z => hb z.1)], rfl, rfl⟩) (CR_arI hka hz1 q1 q2 ?_)) (hS.put e2 e3 hz1) hc hs
  rw [e1, arrV_store]
  congr 2
  funext w
  unfold updV
  rw [hI_sI]
  by_cases hw : w = ix i
  · rw [if_pos (show w = i.toNatClampNeg from hw), if_pos ⟨rfl, hw⟩]
  · rw [if_neg (show ¬ w = i.toNatClampNeg from hw), if_neg (fun z => hw z.2)]
set_option maxHeartbeats 4000000 in
theorem sj_lastore (F : FX p R s m args meth c D z d y TC TS) (hd : decode (mC y) pc = .ok (.lastore, 1)) (hst : stO E Q (KJ p l e R s m args below meth c Qf D z y TC TS) (nxI y pc al st h cc ss .lastore)) : KJ p l e R s m args below meth c Qf D z y TC TS (pc, al, st, h, cc, ss) := by
  intro H locs ls cells slots hl hh hS hc hs
  obtain ⟨hx, hb, hml, hown, hts, hcf, hin, hz, hRm, hTC, hTS⟩ := F
  obtain ⟨x, i, a, r, rfl, ⟨hka, hi⟩, hk⟩ := oLas_inv hst
  obtain ⟨hz1, cA, q1, q2, q3⟩ := (hh.2.2 a).2.2.1 hka
  refine W.last hx hb q3 (q1 _ _) (fun q => by cases q) (by rw [arrV_size]; exact ix_in hi) rfl rfl hd fun H1 e1 e2 e3 => ?_
  refine hk H1 _ ls cells slots hl (hh.put e2 e3 rfl rfl rfl (fun b hb => ⟨rfl, by funext w; rw [hL_sL, if_neg (fun z => hb z.1)], rfl⟩) (CR_arL hka hz1 q1 q2 ?_)) (hS.put e2 e3 hz1) hc hs
  rw [e1, arrV_store]
  congr 2
  funext w
  unfold updV
  rw [hL_sL]
  by_cases hw : w = ix i
  · rw [if_pos (show w = i.toNatClampNeg from hw), if_pos ⟨rfl, hw⟩]
  · rw [if_neg (show ¬ w = i.toNatClampNeg from hw), if_neg (fun z => hw z.2)]
set_option maxHeartbeats 4000000 in
theorem sj_aastore (F : FX p R s m args meth c D z d y TC TS) (hd : decode (mC y) pc = .ok (.aastore, 1)) (hst : stO E Q (KJ p l e R s m args below meth c Qf D z y TC TS) (nxI y pc al st h cc ss .aastore)) : KJ p l e R s m args below meth c Qf D z y TC TS (pc, al, st, h, cc, ss) := by
  intro H locs ls cells slots hl hh hS hc hs
  obtain ⟨hx, hb, hml, hown, hts, hcf, hin, hz, hRm, hTC, hTS⟩ := F
  obtain ⟨x, i, a, r, rfl, ⟨⟨hka, hkx⟩, hi⟩, hk⟩ := oAas_inv hst
  obtain ⟨hz1, cA, q1, q2, q3⟩ := (hh.2.2 a).2.2.2.1 hka
  obtain ⟨hz2, q, hq, cellV, g1, g2, g3, -⟩ := (hh.2.2 x).2.2.2.2 4 hkx
  have hq2 : q = (RX7, TX7, 16) := Option.some.inj (hq.symm.trans rfl)
  subst hq2
  have hcls := (hcf.1.1 4 _ rfl).2
  obtain ⟨kA, comp, k1, k2, k3, -⟩ := id q2
  have hcomp : comp = D.1 4 := Option.some.inj (k3.symm.trans hcls.1)
  subst hcomp
  obtain ⟨kC, hkC, -⟩ := hcls.2
  refine W.aast hx hb q3 (fun q h => by cases h) (fun h => by cases h) k1 k2 rfl hkC ⟨Int32.not_lt.mpr hi.1, by rw [arrV_size]; exact hi.2⟩ g1 (fun q h => by rw [g3] at h; cases h) (by rw [g2]; exact hkC) (by rw [g2]; exact va_assign hcls) rfl rfl hd fun H1 e1 e2 e3 => ?_
  refine hk H1 _ ls cells slots hl (hh.put e2 e3 rfl rfl rfl (fun b hb => ⟨rfl, rfl, by funext w; rw [hR_sR, if_neg (fun z => hb z.1)]⟩) (CR_arR hka hz1 q1 q2 ?_)) (hS.put e2 e3 hz1) hc hs
  rw [e1, arrV_store]
  congr 2
  funext w
  unfold updV
  rw [hR_sR]
  by_cases hw : w = ix i
  · rw [if_pos (show w = i.toNatClampNeg from hw), if_pos ⟨rfl, hw⟩]; rfl
  · rw [if_neg (show ¬ w = i.toNatClampNeg from hw), if_neg (fun z => hw z.2)]
theorem va_S.pushed {A : Nat → Prop} {H0 H H1 : Heap} {locs : List Loc} (hS : va_S A H0 H locs) (z1 : H1.size = H.size + 1) (o1 : ∀ q, q < H.size → H1[q]? = H[q]?) : va_S A H0 H1 locs := ⟨Nat.le_trans hS.1 (by omega), fun x h1 h2 => (o1 x (Nat.lt_of_lt_of_le h1 hS.1)).trans (hS.2.1 x h1 h2), hS.2.2⟩
set_option maxHeartbeats 4000000 in
theorem sj_new (F : FX p R s m args meth c D z d y TC TS) (hd : decode (mC y) pc = .ok (.new i, 3)) (hst : stO E Q (KJ p l e R s m args below meth c Qf D z y TC TS) (nxI y pc al st h cc ss (.new i))) : KJ p l e R s m args below meth c Qf D z y TC TS (pc, al, st, h, cc, ss) := by
  intro H locs ls cells slots hl hh hS hc hs
  obtain ⟨hx, hb, hml, hown, hts, hcf, hin, hz, hRm, hTC, hTS⟩ := F
  obtain ⟨ci, N, hn, hlt, hk⟩ := oNew_inv hst
  obtain ⟨C, T, tf, ⟨hcl, hlw, hty, hnm, hinst, hini, hdv⟩, hlink⟩ := mj_nk2 hn
  have hKn := hcf.1.1 ci _ hcl
  dsimp only at hc hs
  refine W.newcK hx hb hown (hts _ hlink) (hts _ hinst) (hts _ hini) rfl hd (by omega) (by omega) hKn.2.1 hh.1 fun H1 kC hkC e1 z1 o1 => ?_
  rw [← hh.1] at z1 o1
  refine hk H1 locs ls (cells + 1) (slots + N) hl (hh.push z1 o1 (CR_obj (q := (C, T, N)) (by rw [hkd_snw, if_pos rfl]) hh.2.1 hcl ?_)) (hS.pushed z1 o1) (by show cells + 1 + (cc - 1) = TC; omega) (by show slots + N + (ss - N) = TS; omega)
  refine (u_born tf hts hlw hKn hkC e1 hty).to fun j hj => ?_
  rw [hdv j hj]
  unfold fv fget dv
  generalize fty ci j = t
  rcases t with _ | _ | _ | t <;> simp [hI_snw, hL_snw, hR_snw, va_rf]
set_option maxHeartbeats 4000000 in
theorem sj_newarrayI (F : FX p R s m args meth c D z d y TC TS) (hd : decode (mC y) pc = .ok (.newarray .int, 2)) (hst : stO E Q (KJ p l e R s m args below meth c Qf D z y TC TS) (nxI y pc al st h cc ss (.newarray .int))) : KJ p l e R s m args below meth c Qf D z y TC TS (pc, al, st, h, cc, ss) := by
  intro H locs ls cells slots hl hh hS hc hs
  obtain ⟨hx, hb, hml, hown, hts, hcf, hin, hz, hRm, hTC, hTS⟩ := F
  obtain ⟨n, r, rfl, ⟨⟨h0, h1⟩, h2, h3⟩, hk⟩ := oNwA_inv hst
  dsimp only at hc hs
  refine va_newaK (atype := .int) hx hb (hts _ mj_arrI) rfl hd rfl (Int32.not_lt.mpr h0) (N := ix n) rfl (by show ix n * 4 ≤ _; omega) (by omega) (by omega) hh.1 fun H1 cA e1 z1 o1 hAr hNm => ?_
  rw [← hh.1] at z1 o1
  refine hk H1 locs ls (cells + 1) (slots + ix n) hl (hh.push z1 o1 (CR_arI (by rw [hkd_snw, if_pos rfl]) hh.2.1 hAr hNm ?_)) (hS.pushed z1 o1) (by show cells + 1 + (cc - 1) = TC; omega) (by show slots + ix n + (ss - ix n) = TS; omega)
  rw [e1, hln_snw, if_pos rfl]
  congr 2
  funext w
  rw [hI_snw, if_pos rfl]
  rfl
set_option maxHeartbeats 4000000 in
theorem sj_newarrayL (F : FX p R s m args meth c D z d y TC TS) (hd : decode (mC y) pc = .ok (.newarray .long, 2)) (hst : stO E Q (KJ p l e R s m args below meth c Qf D z y TC TS) (nxI y pc al st h cc ss (.newarray .long))) : KJ p l e R s m args below meth c Qf D z y TC TS (pc, al, st, h, cc, ss) := by
  intro H locs ls cells slots hl hh hS hc hs
  obtain ⟨hx, hb, hml, hown, hts, hcf, hin, hz, hRm, hTC, hTS⟩ := F
  obtain ⟨n, r, rfl, ⟨⟨h0, h1⟩, h2, h3⟩, hk⟩ := oNwA_inv hst
  dsimp only at hc hs
  refine va_newaK (atype := .long) hx hb (hts _ mj_arrL) rfl hd rfl (Int32.not_lt.mpr h0) (N := ix n) rfl (by show ix n * 8 ≤ _; omega) (by omega) (by omega) hh.1 fun H1 cA e1 z1 o1 hAr hNm => ?_
  rw [← hh.1] at z1 o1
  refine hk H1 locs ls (cells + 1) (slots + ix n) hl (hh.push z1 o1 (CR_arL (by rw [hkd_snw, if_pos rfl]) hh.2.1 hAr hNm ?_)) (hS.pushed z1 o1) (by show cells + 1 + (cc - 1) = TC; omega) (by show slots + ix n + (ss - ix n) = TS; omega)
  rw [e1, hln_snw, if_pos rfl]
  congr 2
  funext w
  rw [hL_snw, if_pos rfl]
  rfl
set_option maxHeartbeats 4000000 in
theorem sj_anewarray (F : FX p R s m args meth c D z d y TC TS) (hd : decode (mC y) pc = .ok (.anewarray i, 3)) (hst : stO E Q (KJ p l e R s m args below meth c Qf D z y TC TS) (nxI y pc al st h cc ss (.anewarray i))) : KJ p l e R s m args below meth c Qf D z y TC TS (pc, al, st, h, cc, ss) := by
  intro H locs ls cells slots hl hh hS hc hs
  obtain ⟨hx, hb, hml, hown, hts, hcf, hin, hz, hRm, hTC, hTS⟩ := F
  simp only [nxI] at hst
  split at hst
  · rename_i hak
    obtain ⟨n, r, rfl, ⟨⟨h0, h1⟩, h2, h3⟩, hk⟩ := oNwA_inv hst
    dsimp only at hc hs
    have hn : n.toNatClampNeg = ix n := rfl
    refine W.anew hx hb hown (hts _ (mj_ak1 hak)) (va_AO.use hcf.2.2) rfl hd rfl (Int32.not_lt.mpr h0) (by rw [hn]; omega) (by omega) (by rw [hn]; omega) fun cA kA comp f1 f2 f3 f4 => ?_
    rw [hn]
    generalize hH1 : H.push ({ cls := cA, slots := Array.replicate (ix n) .null, vm := .none } : Cell) = H1
    have z1 : H1.size = H.size + 1 := by rw [← hH1, Array.size_push]
    have e1 : H1[hnx h]? = some (arrV cA (ix n) (fun _ => .null)) := by rw [← hh.1, ← hH1, Array.getElem?_push_size, ← arrV_new]
    have o1 : ∀ q : Nat, q < H.size → H1[q]? = H[q]? := fun q hq => by rw [← hH1, Array.getElem?_push, if_neg (Nat.ne_of_lt hq)]
    have hAr : ArrOfT s cA (.object "MayReadPencil$Village") := fun N z => ⟨(fun k h => by cases h), kA, f2, comp, f3⟩
    refine W.eq (g2 := F0 m (pc + 3) ls (.ref (hnx h) :: r)) (by rw [← hh.1]) ?_
    refine hk H1 locs ls (cells + 1) (slots + ix n) hl (hh.push z1 o1 (CR_arR (by rw [hkd_snw, if_pos rfl]) hh.2.1 hAr ⟨kA, comp, f2, f3, f4, f1⟩ ?_)) (hS.pushed z1 o1) (by show cells + 1 + (cc - 1) = TC; omega) (by show slots + ix n + (ss - ix n) = TS; omega)
    rw [e1, hln_snw, if_pos rfl]
    congr 2
    funext w
    rw [hR_snw, if_pos rfl]
    rfl
  · exact hst.elim
end MJT
