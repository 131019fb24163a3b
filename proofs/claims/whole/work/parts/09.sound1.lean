def CF (D : va_G) (U : State) : Prop := va_K D mjCl [] U ∧ (∀ (a : String) (i : Nat) (x : MethodName) (g : String), Cond.methodLinkNest a i x g ∈ lw_tbl → va_Nw (.methodLinkNest a i x g) U) ∧ va_AO "MayReadPencil$Village" U
theorem CF.warm {D : va_G} {s U : State} (hW : s.WarmedH U.vm) (h : CF D s) : CF D U := ⟨va_K.moved hW.alike h.1, fun a i x g hm => va_Nw.warmM hW (h.2.1 a i x g hm), h.2.2.moved hW.alike⟩
def FX (p : Program) (R : Room) (s : State) (m : MethodId) (args : Array Value) (meth : Method) (c : Code) (D : va_G) (z d y TC TS : Nat) : Prop :=
  p.tables.exec = Jvm.exec ∧ c.code = mC y ∧ c.maxLocals = mL y ∧ s.vm.findClass (clsN (mO y)) = some m.cls ∧ (∀ w ∈ mjB, w.before args s = true) ∧ CF D s ∧ (mK y = 2 → meth.name = "<init>" ∧ mOK y) ∧ z ≤ s.heap.size ∧ (d + 1 ≤ R.frames ∧ 37 * d + 35 ≤ R.locals) ∧ TC ≤ R.cells ∧ TS ≤ R.slots
def KJ (p : Program) (l : Launch) (e : Env) (R : Room) (s : State) (m : MethodId) (args : Array Value) (below : List Frame) (meth : Method) (c : Code) (Qf : State → Prop) (D : va_G) (z y TC TS : Nat) (f : Fr) : Prop :=
  ∀ (H : Heap) (locs : List Loc) (ls : Array Slot) (cells slots : Nat), lv_has ls (mL y) (lvl 0 f.2.1) → HH D z f.2.2.2.1 s H → va_S (fun q => z ≤ q) s.heap H locs → cells + f.2.2.2.2.1 = TC → slots + f.2.2.2.2.2 = TS →
    W p l e R s m args below meth c H locs cells slots Qf (F0 m f.1 ls f.2.2.1)
def Pcj (D : va_G) (z : Nat) (as : List Value) (h : HP) : Array Value → State → Prop := va_Pc as (fun U => CF D U ∧ HH D z h U U.heap)
def Qcj (D : va_G) (z : Nat) (Q : PQ) : Array Value → State → Outcome → State → Prop := fun _ st oc t => (∃ r h', Q r h' ∧ oc = .returned r ∧ HH D z h' t t.heap) ∧ va_F (fun q => z ≤ q) st t
def rmj (d y : Nat) : Room := { frames := d, cells := mA y, slots := mS y, locals := 37 * d }
def mjW (y : Nat) : List Cond := Cond.code (mY y) (mC y) (mL y) (mR y) :: mjB
def MetJ (l : Launch) (D : va_G) (z d y : Nat) (as : List Value) (h : HP) (Q : PQ) : Prop := Met l (mY y) (mjW y) (rmj d y) (Pcj D z as h) (Qcj D z Q) (mA y) (mS y) (fun q => z ≤ q)
section MJS
variable {p : Program} {l : Launch} {e : Env} {R : Room} {s : State} {m : MethodId} {args : Array Value} {below : List Frame} {meth : Method} {c : Code} {Qf : State → Prop} {D : va_G} {z d y TC TS : Nat} {E : Nat → List Value → HP → PQ → Prop} {Q : PQ} {pc i : Nat} {al : List Slot} {st : List Value} {h : HP} {cc ss : Nat}
set_option maxHeartbeats 4000000 in
theorem sj_iadd (F : FX p R s m args meth c D z d y TC TS) (hd : decode (mC y) pc = .ok (.iadd, 1)) (hst : stO E Q (KJ p l e R s m args below meth c Qf D z y TC TS) (nxI y pc al st h cc ss (.iadd))) : KJ p l e R s m args below meth c Qf D z y TC TS (pc, al, st, h, cc, ss) := by
  intro H locs ls cells slots hl hh hS hc hs
  obtain ⟨hx, hb, hml, hown, hts, hcf, hin, hz, hR, hTC, hTS⟩ := F
  obtain ⟨b, a, r, rfl, hk⟩ := oII_inv hst
  exact lv_iadd hx hb hd (hk H locs ls cells slots hl hh hS hc hs)
set_option maxHeartbeats 4000000 in
theorem sj_isub (F : FX p R s m args meth c D z d y TC TS) (hd : decode (mC y) pc = .ok (.isub, 1)) (hst : stO E Q (KJ p l e R s m args below meth c Qf D z y TC TS) (nxI y pc al st h cc ss (.isub))) : KJ p l e R s m args below meth c Qf D z y TC TS (pc, al, st, h, cc, ss) := by
  intro H locs ls cells slots hl hh hS hc hs
  obtain ⟨hx, hb, hml, hown, hts, hcf, hin, hz, hR, hTC, hTS⟩ := F
  obtain ⟨b, a, r, rfl, hk⟩ := oII_inv hst
  exact lv_isub hx hb hd (hk H locs ls cells slots hl hh hS hc hs)
set_option maxHeartbeats 4000000 in
theorem sj_imul (F : FX p R s m args meth c D z d y TC TS) (hd : decode (mC y) pc = .ok (.imul, 1)) (hst : stO E Q (KJ p l e R s m args below meth c Qf D z y TC TS) (nxI y pc al st h cc ss (.imul))) : KJ p l e R s m args below meth c Qf D z y TC TS (pc, al, st, h, cc, ss) := by
  intro H locs ls cells slots hl hh hS hc hs
  obtain ⟨hx, hb, hml, hown, hts, hcf, hin, hz, hR, hTC, hTS⟩ := F
  obtain ⟨b, a, r, rfl, hk⟩ := oII_inv hst
  exact lv_imul hx hb hd (hk H locs ls cells slots hl hh hS hc hs)
set_option maxHeartbeats 4000000 in
theorem sj_iand (F : FX p R s m args meth c D z d y TC TS) (hd : decode (mC y) pc = .ok (.iand, 1)) (hst : stO E Q (KJ p l e R s m args below meth c Qf D z y TC TS) (nxI y pc al st h cc ss (.iand))) : KJ p l e R s m args below meth c Qf D z y TC TS (pc, al, st, h, cc, ss) := by
  intro H locs ls cells slots hl hh hS hc hs
  obtain ⟨hx, hb, hml, hown, hts, hcf, hin, hz, hR, hTC, hTS⟩ := F
  obtain ⟨b, a, r, rfl, hk⟩ := oII_inv hst
  exact lv_iand hx hb hd (hk H locs ls cells slots hl hh hS hc hs)
set_option maxHeartbeats 4000000 in
theorem sj_ior (F : FX p R s m args meth c D z d y TC TS) (hd : decode (mC y) pc = .ok (.ior, 1)) (hst : stO E Q (KJ p l e R s m args below meth c Qf D z y TC TS) (nxI y pc al st h cc ss (.ior))) : KJ p l e R s m args below meth c Qf D z y TC TS (pc, al, st, h, cc, ss) := by
  intro H locs ls cells slots hl hh hS hc hs
  obtain ⟨hx, hb, hml, hown, hts, hcf, hin, hz, hR, hTC, hTS⟩ := F
  obtain ⟨b, a, r, rfl, hk⟩ := oII_inv hst
  exact lv_ior hx hb hd (hk H locs ls cells slots hl hh hS hc hs)
set_option maxHeartbeats 4000000 in
theorem sj_ixor (F : FX p R s m args meth c D z d y TC TS) (hd : decode (mC y) pc = .ok (.ixor, 1)) (hst : stO E Q (KJ p l e R s m args below meth c Qf D z y TC TS) (nxI y pc al st h cc ss (.ixor))) : KJ p l e R s m args below meth c Qf D z y TC TS (pc, al, st, h, cc, ss) := by
  intro H locs ls cells slots hl hh hS hc hs
  obtain ⟨hx, hb, hml, hown, hts, hcf, hin, hz, hR, hTC, hTS⟩ := F
  obtain ⟨b, a, r, rfl, hk⟩ := oII_inv hst
  exact lv_ixor hx hb hd (hk H locs ls cells slots hl hh hS hc hs)
set_option maxHeartbeats 4000000 in
theorem sj_ishl (F : FX p R s m args meth c D z d y TC TS) (hd : decode (mC y) pc = .ok (.ishl, 1)) (hst : stO E Q (KJ p l e R s m args below meth c Qf D z y TC TS) (nxI y pc al st h cc ss (.ishl))) : KJ p l e R s m args below meth c Qf D z y TC TS (pc, al, st, h, cc, ss) := by
  intro H locs ls cells slots hl hh hS hc hs
  obtain ⟨hx, hb, hml, hown, hts, hcf, hin, hz, hR, hTC, hTS⟩ := F
  obtain ⟨b, a, r, rfl, hk⟩ := oII_inv hst
  exact lv_ishl hx hb hd (hk H locs ls cells slots hl hh hS hc hs)
set_option maxHeartbeats 4000000 in
theorem sj_ishr (F : FX p R s m args meth c D z d y TC TS) (hd : decode (mC y) pc = .ok (.ishr, 1)) (hst : stO E Q (KJ p l e R s m args below meth c Qf D z y TC TS) (nxI y pc al st h cc ss (.ishr))) : KJ p l e R s m args below meth c Qf D z y TC TS (pc, al, st, h, cc, ss) := by
  intro H locs ls cells slots hl hh hS hc hs
  obtain ⟨hx, hb, hml, hown, hts, hcf, hin, hz, hR, hTC, hTS⟩ := F
  obtain ⟨b, a, r, rfl, hk⟩ := oII_inv hst
  exact lv_ishr hx hb hd (hk H locs ls cells slots hl hh hS hc hs)
set_option maxHeartbeats 4000000 in
theorem sj_iushr (F : FX p R s m args meth c D z d y TC TS) (hd : decode (mC y) pc = .ok (.iushr, 1)) (hst : stO E Q (KJ p l e R s m args below meth c Qf D z y TC TS) (nxI y pc al st h cc ss (.iushr))) : KJ p l e R s m args below meth c Qf D z y TC TS (pc, al, st, h, cc, ss) := by
  intro H locs ls cells slots hl hh hS hc hs
  obtain ⟨hx, hb, hml, hown, hts, hcf, hin, hz, hR, hTC, hTS⟩ := F
  obtain ⟨b, a, r, rfl, hk⟩ := oII_inv hst
  exact lv_iushr hx hb hd rfl (hk H locs ls cells slots hl hh hS hc hs)
set_option maxHeartbeats 4000000 in
theorem sj_ladd (F : FX p R s m args meth c D z d y TC TS) (hd : decode (mC y) pc = .ok (.ladd, 1)) (hst : stO E Q (KJ p l e R s m args below meth c Qf D z y TC TS) (nxI y pc al st h cc ss (.ladd))) : KJ p l e R s m args below meth c Qf D z y TC TS (pc, al, st, h, cc, ss) := by
  intro H locs ls cells slots hl hh hS hc hs
  obtain ⟨hx, hb, hml, hown, hts, hcf, hin, hz, hR, hTC, hTS⟩ := F
  obtain ⟨b, a, r, rfl, hk⟩ := oLL_inv hst
  exact lv_ladd hx hb hd (hk H locs ls cells slots hl hh hS hc hs)
set_option maxHeartbeats 4000000 in
theorem sj_lsub (F : FX p R s m args meth c D z d y TC TS) (hd : decode (mC y) pc = .ok (.lsub, 1)) (hst : stO E Q (KJ p l e R s m args below meth c Qf D z y TC TS) (nxI y pc al st h cc ss (.lsub))) : KJ p l e R s m args below meth c Qf D z y TC TS (pc, al, st, h, cc, ss) := by
  intro H locs ls cells slots hl hh hS hc hs
  obtain ⟨hx, hb, hml, hown, hts, hcf, hin, hz, hR, hTC, hTS⟩ := F
  obtain ⟨b, a, r, rfl, hk⟩ := oLL_inv hst
  exact lv_lsub hx hb hd (hk H locs ls cells slots hl hh hS hc hs)
set_option maxHeartbeats 4000000 in
theorem sj_lmul (F : FX p R s m args meth c D z d y TC TS) (hd : decode (mC y) pc = .ok (.lmul, 1)) (hst : stO E Q (KJ p l e R s m args below meth c Qf D z y TC TS) (nxI y pc al st h cc ss (.lmul))) : KJ p l e R s m args below meth c Qf D z y TC TS (pc, al, st, h, cc, ss) := by
  intro H locs ls cells slots hl hh hS hc hs
  obtain ⟨hx, hb, hml, hown, hts, hcf, hin, hz, hR, hTC, hTS⟩ := F
  obtain ⟨b, a, r, rfl, hk⟩ := oLL_inv hst
  exact lv_lmul hx hb hd (hk H locs ls cells slots hl hh hS hc hs)
set_option maxHeartbeats 4000000 in
theorem sj_land (F : FX p R s m args meth c D z d y TC TS) (hd : decode (mC y) pc = .ok (.land, 1)) (hst : stO E Q (KJ p l e R s m args below meth c Qf D z y TC TS) (nxI y pc al st h cc ss (.land))) : KJ p l e R s m args below meth c Qf D z y TC TS (pc, al, st, h, cc, ss) := by
  intro H locs ls cells slots hl hh hS hc hs
  obtain ⟨hx, hb, hml, hown, hts, hcf, hin, hz, hR, hTC, hTS⟩ := F
  obtain ⟨b, a, r, rfl, hk⟩ := oLL_inv hst
  exact lv_land hx hb hd (hk H locs ls cells slots hl hh hS hc hs)
set_option maxHeartbeats 4000000 in
theorem sj_lor (F : FX p R s m args meth c D z d y TC TS) (hd : decode (mC y) pc = .ok (.lor, 1)) (hst : stO E Q (KJ p l e R s m args below meth c Qf D z y TC TS) (nxI y pc al st h cc ss (.lor))) : KJ p l e R s m args below meth c Qf D z y TC TS (pc, al, st, h, cc, ss) := by
  intro H locs ls cells slots hl hh hS hc hs
  obtain ⟨hx, hb, hml, hown, hts, hcf, hin, hz, hR, hTC, hTS⟩ := F
  obtain ⟨b, a, r, rfl, hk⟩ := oLL_inv hst
  exact lv_lor hx hb hd (hk H locs ls cells slots hl hh hS hc hs)
set_option maxHeartbeats 4000000 in
theorem sj_lxor (F : FX p R s m args meth c D z d y TC TS) (hd : decode (mC y) pc = .ok (.lxor, 1)) (hst : stO E Q (KJ p l e R s m args below meth c Qf D z y TC TS) (nxI y pc al st h cc ss (.lxor))) : KJ p l e R s m args below meth c Qf D z y TC TS (pc, al, st, h, cc, ss) := by
  intro H locs ls cells slots hl hh hS hc hs
  obtain ⟨hx, hb, hml, hown, hts, hcf, hin, hz, hR, hTC, hTS⟩ := F
  obtain ⟨b, a, r, rfl, hk⟩ := oLL_inv hst
  exact lv_lxor hx hb hd (hk H locs ls cells slots hl hh hS hc hs)
set_option maxHeartbeats 4000000 in
theorem sj_lcmp (F : FX p R s m args meth c D z d y TC TS) (hd : decode (mC y) pc = .ok (.lcmp, 1)) (hst : stO E Q (KJ p l e R s m args below meth c Qf D z y TC TS) (nxI y pc al st h cc ss (.lcmp))) : KJ p l e R s m args below meth c Qf D z y TC TS (pc, al, st, h, cc, ss) := by
  intro H locs ls cells slots hl hh hS hc hs
  obtain ⟨hx, hb, hml, hown, hts, hcf, hin, hz, hR, hTC, hTS⟩ := F
  obtain ⟨b, a, r, rfl, hk⟩ := oLL_inv hst
  exact W.lcmp hx hb hd (hk H locs ls cells slots hl hh hS hc hs)
set_option maxHeartbeats 4000000 in
theorem sj_lshl (F : FX p R s m args meth c D z d y TC TS) (hd : decode (mC y) pc = .ok (.lshl, 1)) (hst : stO E Q (KJ p l e R s m args below meth c Qf D z y TC TS) (nxI y pc al st h cc ss (.lshl))) : KJ p l e R s m args below meth c Qf D z y TC TS (pc, al, st, h, cc, ss) := by
  intro H locs ls cells slots hl hh hS hc hs
  obtain ⟨hx, hb, hml, hown, hts, hcf, hin, hz, hR, hTC, hTS⟩ := F
  obtain ⟨b, a, r, rfl, hk⟩ := oLI_inv hst
  exact lv_lshl hx hb hd rfl (hk H locs ls cells slots hl hh hS hc hs)
set_option maxHeartbeats 4000000 in
theorem sj_lshr (F : FX p R s m args meth c D z d y TC TS) (hd : decode (mC y) pc = .ok (.lshr, 1)) (hst : stO E Q (KJ p l e R s m args below meth c Qf D z y TC TS) (nxI y pc al st h cc ss (.lshr))) : KJ p l e R s m args below meth c Qf D z y TC TS (pc, al, st, h, cc, ss) := by
  intro H locs ls cells slots hl hh hS hc hs
  obtain ⟨hx, hb, hml, hown, hts, hcf, hin, hz, hR, hTC, hTS⟩ := F
  obtain ⟨b, a, r, rfl, hk⟩ := oLI_inv hst
  exact lv_lshr hx hb hd rfl (hk H locs ls cells slots hl hh hS hc hs)
set_option maxHeartbeats 4000000 in
theorem sj_lushr (F : FX p R s m args meth c D z d y TC TS) (hd : decode (mC y) pc = .ok (.lushr, 1)) (hst : stO E Q (KJ p l e R s m args below meth c Qf D z y TC TS) (nxI y pc al st h cc ss (.lushr))) : KJ p l e R s m args below meth c Qf D z y TC TS (pc, al, st, h, cc, ss) := by
  intro H locs ls cells slots hl hh hS hc hs
  obtain ⟨hx, hb, hml, hown, hts, hcf, hin, hz, hR, hTC, hTS⟩ := F
  obtain ⟨b, a, r, rfl, hk⟩ := oLI_inv hst
  exact lv_lushr hx hb hd rfl (hk H locs ls cells slots hl hh hS hc hs)
set_option maxHeartbeats 4000000 in
theorem sj_ineg (F : FX p R s m args meth c D z d y TC TS) (hd : decode (mC y) pc = .ok (.ineg, 1)) (hst : stO E Q (KJ p l e R s m args below meth c Qf D z y TC TS) (nxI y pc al st h cc ss (.ineg))) : KJ p l e R s m args below meth c Qf D z y TC TS (pc, al, st, h, cc, ss) := by
  intro H locs ls cells slots hl hh hS hc hs
  obtain ⟨hx, hb, hml, hown, hts, hcf, hin, hz, hR, hTC, hTS⟩ := F
  obtain ⟨a, r, rfl, hk⟩ := oI1_inv hst
  exact lv_ineg hx hb hd (hk H locs ls cells slots hl hh hS hc hs)
set_option maxHeartbeats 4000000 in
theorem sj_lneg (F : FX p R s m args meth c D z d y TC TS) (hd : decode (mC y) pc = .ok (.lneg, 1)) (hst : stO E Q (KJ p l e R s m args below meth c Qf D z y TC TS) (nxI y pc al st h cc ss (.lneg))) : KJ p l e R s m args below meth c Qf D z y TC TS (pc, al, st, h, cc, ss) := by
  intro H locs ls cells slots hl hh hS hc hs
  obtain ⟨hx, hb, hml, hown, hts, hcf, hin, hz, hR, hTC, hTS⟩ := F
  obtain ⟨a, r, rfl, hk⟩ := oL1_inv hst
  exact lv_lneg hx hb hd (hk H locs ls cells slots hl hh hS hc hs)
set_option maxHeartbeats 4000000 in
theorem sj_i2l (F : FX p R s m args meth c D z d y TC TS) (hd : decode (mC y) pc = .ok (.i2l, 1)) (hst : stO E Q (KJ p l e R s m args below meth c Qf D z y TC TS) (nxI y pc al st h cc ss (.i2l))) : KJ p l e R s m args below meth c Qf D z y TC TS (pc, al, st, h, cc, ss) := by
  intro H locs ls cells slots hl hh hS hc hs
  obtain ⟨hx, hb, hml, hown, hts, hcf, hin, hz, hR, hTC, hTS⟩ := F
  obtain ⟨a, r, rfl, hk⟩ := oI1_inv hst
  exact lv_i2l hx hb hd rfl (hk H locs ls cells slots hl hh hS hc hs)
set_option maxHeartbeats 4000000 in
theorem sj_l2i (F : FX p R s m args meth c D z d y TC TS) (hd : decode (mC y) pc = .ok (.l2i, 1)) (hst : stO E Q (KJ p l e R s m args below meth c Qf D z y TC TS) (nxI y pc al st h cc ss (.l2i))) : KJ p l e R s m args below meth c Qf D z y TC TS (pc, al, st, h, cc, ss) := by
  intro H locs ls cells slots hl hh hS hc hs
  obtain ⟨hx, hb, hml, hown, hts, hcf, hin, hz, hR, hTC, hTS⟩ := F
  obtain ⟨a, r, rfl, hk⟩ := oL1_inv hst
  exact lv_l2i hx hb hd rfl (hk H locs ls cells slots hl hh hS hc hs)
set_option maxHeartbeats 4000000 in
theorem sj_idiv (F : FX p R s m args meth c D z d y TC TS) (hd : decode (mC y) pc = .ok (.idiv, 1)) (hst : stO E Q (KJ p l e R s m args below meth c Qf D z y TC TS) (nxI y pc al st h cc ss (.idiv))) : KJ p l e R s m args below meth c Qf D z y TC TS (pc, al, st, h, cc, ss) := by
  intro H locs ls cells slots hl hh hS hc hs
  obtain ⟨hx, hb, hml, hown, hts, hcf, hin, hz, hR, hTC, hTS⟩ := F
  simp only [nxI] at hst
  split at hst
  · split at hst
    · exact hst.elim
    · rename_i hne
      have hk := hst
      exact lv_idiv hx hb hd hne (hk H locs ls cells slots hl hh hS hc hs)
  · exact hst.elim
set_option maxHeartbeats 4000000 in
theorem sj_irem (F : FX p R s m args meth c D z d y TC TS) (hd : decode (mC y) pc = .ok (.irem, 1)) (hst : stO E Q (KJ p l e R s m args below meth c Qf D z y TC TS) (nxI y pc al st h cc ss (.irem))) : KJ p l e R s m args below meth c Qf D z y TC TS (pc, al, st, h, cc, ss) := by
  intro H locs ls cells slots hl hh hS hc hs
  obtain ⟨hx, hb, hml, hown, hts, hcf, hin, hz, hR, hTC, hTS⟩ := F
  simp only [nxI] at hst
  split at hst
  · split at hst
    · exact hst.elim
    · rename_i hne
      have hk := hst
      exact lv_irem hx hb hd hne (hk H locs ls cells slots hl hh hS hc hs)
  · exact hst.elim
set_option maxHeartbeats 4000000 in
theorem sj_ldiv (F : FX p R s m args meth c D z d y TC TS) (hd : decode (mC y) pc = .ok (.ldiv, 1)) (hst : stO E Q (KJ p l e R s m args below meth c Qf D z y TC TS) (nxI y pc al st h cc ss (.ldiv))) : KJ p l e R s m args below meth c Qf D z y TC TS (pc, al, st, h, cc, ss) := by
  intro H locs ls cells slots hl hh hS hc hs
  obtain ⟨hx, hb, hml, hown, hts, hcf, hin, hz, hR, hTC, hTS⟩ := F
  simp only [nxI] at hst
  split at hst
  · split at hst
    · exact hst.elim
    · rename_i hne
      have hk := hst
      exact lv_ldiv hx hb hd hne (hk H locs ls cells slots hl hh hS hc hs)
  · exact hst.elim
set_option maxHeartbeats 4000000 in
theorem sj_lrem (F : FX p R s m args meth c D z d y TC TS) (hd : decode (mC y) pc = .ok (.lrem, 1)) (hst : stO E Q (KJ p l e R s m args below meth c Qf D z y TC TS) (nxI y pc al st h cc ss (.lrem))) : KJ p l e R s m args below meth c Qf D z y TC TS (pc, al, st, h, cc, ss) := by
  intro H locs ls cells slots hl hh hS hc hs
  obtain ⟨hx, hb, hml, hown, hts, hcf, hin, hz, hR, hTC, hTS⟩ := F
  simp only [nxI] at hst
  split at hst
  · split at hst
    · exact hst.elim
    · rename_i hne
      have hk := hst
      exact lv_lrem hx hb hd hne (hk H locs ls cells slots hl hh hS hc hs)
  · exact hst.elim
set_option maxHeartbeats 4000000 in
theorem sj_iconst (F : FX p R s m args meth c D z d y TC TS) {n : Int} (hd : decode (mC y) pc = .ok (.iconst n, 1)) (hst : stO E Q (KJ p l e R s m args below meth c Qf D z y TC TS) (nxI y pc al st h cc ss (.iconst n))) : KJ p l e R s m args below meth c Qf D z y TC TS (pc, al, st, h, cc, ss) := by
  intro H locs ls cells slots hl hh hS hc hs
  obtain ⟨hx, hb, hml, hown, hts, hcf, hin, hz, hR, hTC, hTS⟩ := F
  have hk := hst
  exact lv_iconst hx hb hd rfl (hk H locs ls cells slots hl hh hS hc hs)
set_option maxHeartbeats 4000000 in
theorem sj_lconst (F : FX p R s m args meth c D z d y TC TS) {n : Fin 2} (hd : decode (mC y) pc = .ok (.lconst n, 1)) (hst : stO E Q (KJ p l e R s m args below meth c Qf D z y TC TS) (nxI y pc al st h cc ss (.lconst n))) : KJ p l e R s m args below meth c Qf D z y TC TS (pc, al, st, h, cc, ss) := by
  intro H locs ls cells slots hl hh hS hc hs
  obtain ⟨hx, hb, hml, hown, hts, hcf, hin, hz, hR, hTC, hTS⟩ := F
  have hk := hst
  exact lv_lconst hx hb hd rfl (hk H locs ls cells slots hl hh hS hc hs)
set_option maxHeartbeats 4000000 in
theorem sj_bipush (F : FX p R s m args meth c D z d y TC TS) {n : Int} (hd : decode (mC y) pc = .ok (.bipush n, 2)) (hst : stO E Q (KJ p l e R s m args below meth c Qf D z y TC TS) (nxI y pc al st h cc ss (.bipush n))) : KJ p l e R s m args below meth c Qf D z y TC TS (pc, al, st, h, cc, ss) := by
  intro H locs ls cells slots hl hh hS hc hs
  obtain ⟨hx, hb, hml, hown, hts, hcf, hin, hz, hR, hTC, hTS⟩ := F
  have hk := hst
  exact lv_bipush hx hb hd rfl (hk H locs ls cells slots hl hh hS hc hs)
set_option maxHeartbeats 4000000 in
theorem sj_sipush (F : FX p R s m args meth c D z d y TC TS) {n : Int} (hd : decode (mC y) pc = .ok (.sipush n, 3)) (hst : stO E Q (KJ p l e R s m args below meth c Qf D z y TC TS) (nxI y pc al st h cc ss (.sipush n))) : KJ p l e R s m args below meth c Qf D z y TC TS (pc, al, st, h, cc, ss) := by
  intro H locs ls cells slots hl hh hS hc hs
  obtain ⟨hx, hb, hml, hown, hts, hcf, hin, hz, hR, hTC, hTS⟩ := F
  have hk := hst
  exact lv_sipush hx hb hd rfl (hk H locs ls cells slots hl hh hS hc hs)
set_option maxHeartbeats 4000000 in
theorem sj_ldc (F : FX p R s m args meth c D z d y TC TS) (hd : decode (mC y) pc = .ok (.ldc i, 2)) (hst : stO E Q (KJ p l e R s m args below meth c Qf D z y TC TS) (nxI y pc al st h cc ss (.ldc i))) : KJ p l e R s m args below meth c Qf D z y TC TS (pc, al, st, h, cc, ss) := by
  intro H locs ls cells slots hl hh hS hc hs
  obtain ⟨hx, hb, hml, hown, hts, hcf, hin, hz, hR, hTC, hTS⟩ := F
  simp only [nxI] at hst
  split at hst
  · rename_i v hv
    have hk := hst
    exact lv_ldc hx hb hown (hts _ (mj_kI1 hv)) hd (hk H locs ls cells slots hl hh hS hc hs)
  · exact hst.elim
set_option maxHeartbeats 4000000 in
theorem sj_ldc_w (F : FX p R s m args meth c D z d y TC TS) (hd : decode (mC y) pc = .ok (.ldc_w i, 3)) (hst : stO E Q (KJ p l e R s m args below meth c Qf D z y TC TS) (nxI y pc al st h cc ss (.ldc_w i))) : KJ p l e R s m args below meth c Qf D z y TC TS (pc, al, st, h, cc, ss) := by
  intro H locs ls cells slots hl hh hS hc hs
  obtain ⟨hx, hb, hml, hown, hts, hcf, hin, hz, hR, hTC, hTS⟩ := F
  simp only [nxI] at hst
  split at hst
  · rename_i v hv
    have hk := hst
    exact lv_ldcw hx hb hown (hts _ (mj_kI1 hv)) hd (hk H locs ls cells slots hl hh hS hc hs)
  · exact hst.elim
set_option maxHeartbeats 4000000 in
theorem sj_ldc2_w (F : FX p R s m args meth c D z d y TC TS) (hd : decode (mC y) pc = .ok (.ldc2_w i, 3)) (hst : stO E Q (KJ p l e R s m args below meth c Qf D z y TC TS) (nxI y pc al st h cc ss (.ldc2_w i))) : KJ p l e R s m args below meth c Qf D z y TC TS (pc, al, st, h, cc, ss) := by
  intro H locs ls cells slots hl hh hS hc hs
  obtain ⟨hx, hb, hml, hown, hts, hcf, hin, hz, hR, hTC, hTS⟩ := F
  simp only [nxI] at hst
  split at hst
  · rename_i v hv
    have hk := hst
    exact lv_ldc2 hx hb hown (hts _ (mj_kL1 hv)) hd (hk H locs ls cells slots hl hh hS hc hs)
  · exact hst.elim
set_option maxHeartbeats 4000000 in
theorem sj_iload (F : FX p R s m args meth c D z d y TC TS) (hd : decode (mC y) pc = .ok (.iload i, 2)) (hst : stO E Q (KJ p l e R s m args below meth c Qf D z y TC TS) (nxI y pc al st h cc ss (.iload i))) : KJ p l e R s m args below meth c Qf D z y TC TS (pc, al, st, h, cc, ss) := by
  intro H locs ls cells slots hl hh hS hc hs
  obtain ⟨hx, hb, hml, hown, hts, hcf, hin, hz, hR, hTC, hTS⟩ := F
  obtain ⟨x, hg, hk⟩ := oLdI_inv hst
  exact lv_iload hx hb hd (lvl_at hl (gI_at _ _ _ hg)) (hk H locs ls cells slots hl hh hS hc hs)
set_option maxHeartbeats 4000000 in
theorem sj_iload_n (F : FX p R s m args meth c D z d y TC TS) {n : Fin 4} (hd : decode (mC y) pc = .ok (.iload_n n, 1)) (hst : stO E Q (KJ p l e R s m args below meth c Qf D z y TC TS) (nxI y pc al st h cc ss (.iload_n n))) : KJ p l e R s m args below meth c Qf D z y TC TS (pc, al, st, h, cc, ss) := by
  intro H locs ls cells slots hl hh hS hc hs
  obtain ⟨hx, hb, hml, hown, hts, hcf, hin, hz, hR, hTC, hTS⟩ := F
  obtain ⟨x, hg, hk⟩ := oLdI_inv hst
  exact lv_iload_n hx hb hd rfl (lvl_at hl (gI_at _ _ _ hg)) (hk H locs ls cells slots hl hh hS hc hs)
set_option maxHeartbeats 4000000 in
theorem sj_lload (F : FX p R s m args meth c D z d y TC TS) (hd : decode (mC y) pc = .ok (.lload i, 2)) (hst : stO E Q (KJ p l e R s m args below meth c Qf D z y TC TS) (nxI y pc al st h cc ss (.lload i))) : KJ p l e R s m args below meth c Qf D z y TC TS (pc, al, st, h, cc, ss) := by
  intro H locs ls cells slots hl hh hS hc hs
  obtain ⟨hx, hb, hml, hown, hts, hcf, hin, hz, hR, hTC, hTS⟩ := F
  obtain ⟨x, hg, hk⟩ := oLdL_inv hst
  exact lv_lload hx hb hd (lvl_at hl (gL_at _ _ _ hg)) (hk H locs ls cells slots hl hh hS hc hs)
set_option maxHeartbeats 4000000 in
theorem sj_lload_n (F : FX p R s m args meth c D z d y TC TS) {n : Fin 4} (hd : decode (mC y) pc = .ok (.lload_n n, 1)) (hst : stO E Q (KJ p l e R s m args below meth c Qf D z y TC TS) (nxI y pc al st h cc ss (.lload_n n))) : KJ p l e R s m args below meth c Qf D z y TC TS (pc, al, st, h, cc, ss) := by
  intro H locs ls cells slots hl hh hS hc hs
  obtain ⟨hx, hb, hml, hown, hts, hcf, hin, hz, hR, hTC, hTS⟩ := F
  obtain ⟨x, hg, hk⟩ := oLdL_inv hst
  exact lv_lload_n hx hb hd rfl (lvl_at hl (gL_at _ _ _ hg)) (hk H locs ls cells slots hl hh hS hc hs)
set_option maxHeartbeats 4000000 in
theorem sj_aload (F : FX p R s m args meth c D z d y TC TS) (hd : decode (mC y) pc = .ok (.aload i, 2)) (hst : stO E Q (KJ p l e R s m args below meth c Qf D z y TC TS) (nxI y pc al st h cc ss (.aload i))) : KJ p l e R s m args below meth c Qf D z y TC TS (pc, al, st, h, cc, ss) := by
  intro H locs ls cells slots hl hh hS hc hs
  obtain ⟨hx, hb, hml, hown, hts, hcf, hin, hz, hR, hTC, hTS⟩ := F
  obtain ⟨x, hg, hk⟩ := oLdA_inv hst
  obtain ⟨h1, rfl | ⟨r, rfl⟩⟩ := gA_at _ _ _ hg
  · exact lv_aloadN hx hb hd (lvl_at hl h1) (hk H locs ls cells slots hl hh hS hc hs)
  · exact lv_aload hx hb hd (lvl_at hl h1) (hk H locs ls cells slots hl hh hS hc hs)
set_option maxHeartbeats 4000000 in
theorem sj_aload_n (F : FX p R s m args meth c D z d y TC TS) {n : Fin 4} (hd : decode (mC y) pc = .ok (.aload_n n, 1)) (hst : stO E Q (KJ p l e R s m args below meth c Qf D z y TC TS) (nxI y pc al st h cc ss (.aload_n n))) : KJ p l e R s m args below meth c Qf D z y TC TS (pc, al, st, h, cc, ss) := by
  intro H locs ls cells slots hl hh hS hc hs
  obtain ⟨hx, hb, hml, hown, hts, hcf, hin, hz, hR, hTC, hTS⟩ := F
  obtain ⟨x, hg, hk⟩ := oLdA_inv hst
  obtain ⟨h1, rfl | ⟨r, rfl⟩⟩ := gA_at _ _ _ hg
  · exact lv_aload_nN hx hb hd rfl (lvl_at hl h1) (hk H locs ls cells slots hl hh hS hc hs)
  · exact lv_aload_n hx hb hd rfl (lvl_at hl h1) (hk H locs ls cells slots hl hh hS hc hs)
set_option maxHeartbeats 4000000 in
theorem sj_istore (F : FX p R s m args meth c D z d y TC TS) (hd : decode (mC y) pc = .ok (.istore i, 2)) (hst : stO E Q (KJ p l e R s m args below meth c Qf D z y TC TS) (nxI y pc al st h cc ss (.istore i))) : KJ p l e R s m args below meth c Qf D z y TC TS (pc, al, st, h, cc, ss) := by
  intro H locs ls cells slots hl hh hS hc hs
  obtain ⟨hx, hb, hml, hown, hts, hcf, hin, hz, hR, hTC, hTS⟩ := F
  obtain ⟨x, r, rfl, hlt, hk⟩ := oStI_inv hst
  exact lv_istore hx hb hd hl hlt rfl (fun ls2 hl2 => hk H locs ls2 cells slots (p1_has hl2) hh hS hc hs)
set_option maxHeartbeats 4000000 in
theorem sj_istore_n (F : FX p R s m args meth c D z d y TC TS) {n : Fin 4} (hd : decode (mC y) pc = .ok (.istore_n n, 1)) (hst : stO E Q (KJ p l e R s m args below meth c Qf D z y TC TS) (nxI y pc al st h cc ss (.istore_n n))) : KJ p l e R s m args below meth c Qf D z y TC TS (pc, al, st, h, cc, ss) := by
  intro H locs ls cells slots hl hh hS hc hs
  obtain ⟨hx, hb, hml, hown, hts, hcf, hin, hz, hR, hTC, hTS⟩ := F
  obtain ⟨x, r, rfl, hlt, hk⟩ := oStI_inv hst
  exact lv_istore_n hx hb hd rfl hl hlt rfl (fun ls2 hl2 => hk H locs ls2 cells slots (p1_has hl2) hh hS hc hs)
set_option maxHeartbeats 4000000 in
theorem sj_lstore (F : FX p R s m args meth c D z d y TC TS) (hd : decode (mC y) pc = .ok (.lstore i, 2)) (hst : stO E Q (KJ p l e R s m args below meth c Qf D z y TC TS) (nxI y pc al st h cc ss (.lstore i))) : KJ p l e R s m args below meth c Qf D z y TC TS (pc, al, st, h, cc, ss) := by
  intro H locs ls cells slots hl hh hS hc hs
  obtain ⟨hx, hb, hml, hown, hts, hcf, hin, hz, hR, hTC, hTS⟩ := F
  obtain ⟨x, r, rfl, hlt, hk⟩ := oStL_inv hst
  exact lv_lstore hx hb hd hl hlt rfl (fun ls2 hl2 => hk H locs ls2 cells slots (p2_has hl2) hh hS hc hs)
set_option maxHeartbeats 4000000 in
theorem sj_lstore_n (F : FX p R s m args meth c D z d y TC TS) {n : Fin 4} (hd : decode (mC y) pc = .ok (.lstore_n n, 1)) (hst : stO E Q (KJ p l e R s m args below meth c Qf D z y TC TS) (nxI y pc al st h cc ss (.lstore_n n))) : KJ p l e R s m args below meth c Qf D z y TC TS (pc, al, st, h, cc, ss) := by
  intro H locs ls cells slots hl hh hS hc hs
  obtain ⟨hx, hb, hml, hown, hts, hcf, hin, hz, hR, hTC, hTS⟩ := F
  obtain ⟨x, r, rfl, hlt, hk⟩ := oStL_inv hst
  exact lv_lstore_n hx hb hd rfl hl hlt rfl (fun ls2 hl2 => hk H locs ls2 cells slots (p2_has hl2) hh hS hc hs)
set_option maxHeartbeats 4000000 in
theorem sj_astore (F : FX p R s m args meth c D z d y TC TS) (hd : decode (mC y) pc = .ok (.astore i, 2)) (hst : stO E Q (KJ p l e R s m args below meth c Qf D z y TC TS) (nxI y pc al st h cc ss (.astore i))) : KJ p l e R s m args below meth c Qf D z y TC TS (pc, al, st, h, cc, ss) := by
  intro H locs ls cells slots hl hh hS hc hs
  obtain ⟨hx, hb, hml, hown, hts, hcf, hin, hz, hR, hTC, hTS⟩ := F
  obtain ⟨x, r, rfl, hlt, hk⟩ := oStA_inv hst
  exact lv_astore hx hb hd hl hlt rfl (fun ls2 hl2 => hk H locs ls2 cells slots (p1_has hl2) hh hS hc hs)
set_option maxHeartbeats 4000000 in
theorem sj_astore_n (F : FX p R s m args meth c D z d y TC TS) {n : Fin 4} (hd : decode (mC y) pc = .ok (.astore_n n, 1)) (hst : stO E Q (KJ p l e R s m args below meth c Qf D z y TC TS) (nxI y pc al st h cc ss (.astore_n n))) : KJ p l e R s m args below meth c Qf D z y TC TS (pc, al, st, h, cc, ss) := by
  intro H locs ls cells slots hl hh hS hc hs
  obtain ⟨hx, hb, hml, hown, hts, hcf, hin, hz, hR, hTC, hTS⟩ := F
  obtain ⟨x, r, rfl, hlt, hk⟩ := oStA_inv hst
  exact lv_astore_n hx hb hd rfl hl hlt rfl (fun ls2 hl2 => hk H locs ls2 cells slots (p1_has hl2) hh hS hc hs)
set_option maxHeartbeats 4000000 in
theorem sj_iinc (F : FX p R s m args meth c D z d y TC TS) {n : Int} (hd : decode (mC y) pc = .ok (.iinc i n, 3)) (hst : stO E Q (KJ p l e R s m args below meth c Qf D z y TC TS) (nxI y pc al st h cc ss (.iinc i n))) : KJ p l e R s m args below meth c Qf D z y TC TS (pc, al, st, h, cc, ss) := by
  intro H locs ls cells slots hl hh hS hc hs
  obtain ⟨hx, hb, hml, hown, hts, hcf, hin, hz, hR, hTC, hTS⟩ := F
  simp only [nxI] at hst
  split at hst
  · rename_i x hg
    split at hst
    · rename_i hlt
      have hk := hst
      have hat := gI_at _ _ _ hg
      obtain ⟨k, hk2⟩ := List.getElem?_of_mem ((lvl_in0 al i (.int x)).mpr hat)
      exact lv_iinc hx hb hd hl hk2 rfl hlt rfl (fun ls2 hl2 => hk H locs ls2 cells slots (p1_has hl2) hh hS hc hs)
    · exact hst.elim
  · exact hst.elim
set_option maxHeartbeats 4000000 in
theorem sj_if_eq (F : FX p R s m args meth c D z d y TC TS) {off : Int} (hd : decode (mC y) pc = .ok (.ifCond .eq off, 3)) (hst : stO E Q (KJ p l e R s m args below meth c Qf D z y TC TS) (nxI y pc al st h cc ss (.ifCond .eq off))) : KJ p l e R s m args below meth c Qf D z y TC TS (pc, al, st, h, cc, ss) := by
  intro H locs ls cells slots hl hh hS hc hs
  obtain ⟨hx, hb, hml, hown, hts, hcf, hin, hz, hR, hTC, hTS⟩ := F
  obtain ⟨x, r, rfl, t, htt, ht, hf⟩ := oIf_inv hst
  exact lv_if_eq hx hb hd htt (fun hc1 => ht (decide_eq_true hc1) H locs ls cells slots hl hh hS hc hs) (fun hc1 => hf (fun q => hc1 (of_decide_eq_true q)) H locs ls cells slots hl hh hS hc hs)
set_option maxHeartbeats 4000000 in
theorem sj_icmp_eq (F : FX p R s m args meth c D z d y TC TS) {off : Int} (hd : decode (mC y) pc = .ok (.if_icmp .eq off, 3)) (hst : stO E Q (KJ p l e R s m args below meth c Qf D z y TC TS) (nxI y pc al st h cc ss (.if_icmp .eq off))) : KJ p l e R s m args below meth c Qf D z y TC TS (pc, al, st, h, cc, ss) := by
  intro H locs ls cells slots hl hh hS hc hs
  obtain ⟨hx, hb, hml, hown, hts, hcf, hin, hz, hR, hTC, hTS⟩ := F
  obtain ⟨b, a, r, rfl, t, htt, ht, hf⟩ := oCm_inv hst
  exact lv_icmp_eq hx hb hd htt (fun hc1 => ht (decide_eq_true hc1) H locs ls cells slots hl hh hS hc hs) (fun hc1 => hf (fun q => hc1 (of_decide_eq_true q)) H locs ls cells slots hl hh hS hc hs)
set_option maxHeartbeats 4000000 in
theorem sj_if_ne (F : FX p R s m args meth c D z d y TC TS) {off : Int} (hd : decode (mC y) pc = .ok (.ifCond .ne off, 3)) (hst : stO E Q (KJ p l e R s m args below meth c Qf D z y TC TS) (nxI y pc al st h cc ss (.ifCond .ne off))) : KJ p l e R s m args below meth c Qf D z y TC TS (pc, al, st, h, cc, ss) := by
  intro H locs ls cells slots hl hh hS hc hs
  obtain ⟨hx, hb, hml, hown, hts, hcf, hin, hz, hR, hTC, hTS⟩ := F
  obtain ⟨x, r, rfl, t, htt, ht, hf⟩ := oIf_inv hst
  exact lv_if_ne hx hb hd htt (fun hc1 => ht (decide_eq_true hc1) H locs ls cells slots hl hh hS hc hs) (fun hc1 => hf (fun q => (of_decide_eq_true q) hc1) H locs ls cells slots hl hh hS hc hs)
set_option maxHeartbeats 4000000 in
theorem sj_icmp_ne (F : FX p R s m args meth c D z d y TC TS) {off : Int} (hd : decode (mC y) pc = .ok (.if_icmp .ne off, 3)) (hst : stO E Q (KJ p l e R s m args below meth c Qf D z y TC TS) (nxI y pc al st h cc ss (.if_icmp .ne off))) : KJ p l e R s m args below meth c Qf D z y TC TS (pc, al, st, h, cc, ss) := by
  intro H locs ls cells slots hl hh hS hc hs
  obtain ⟨hx, hb, hml, hown, hts, hcf, hin, hz, hR, hTC, hTS⟩ := F
  obtain ⟨b, a, r, rfl, t, htt, ht, hf⟩ := oCm_inv hst
  exact lv_icmp_ne hx hb hd htt (fun hc1 => ht (decide_eq_true hc1) H locs ls cells slots hl hh hS hc hs) (fun hc1 => hf (fun q => (of_decide_eq_true q) hc1) H locs ls cells slots hl hh hS hc hs)
set_option maxHeartbeats 4000000 in
theorem sj_if_lt (F : FX p R s m args meth c D z d y TC TS) {off : Int} (hd : decode (mC y) pc = .ok (.ifCond .lt off, 3)) (hst : stO E Q (KJ p l e R s m args below meth c Qf D z y TC TS) (nxI y pc al st h cc ss (.ifCond .lt off))) : KJ p l e R s m args below meth c Qf D z y TC TS (pc, al, st, h, cc, ss) := by
  intro H locs ls cells slots hl hh hS hc hs
  obtain ⟨hx, hb, hml, hown, hts, hcf, hin, hz, hR, hTC, hTS⟩ := F
  obtain ⟨x, r, rfl, t, htt, ht, hf⟩ := oIf_inv hst
  exact lv_if_lt hx hb hd htt (fun hc1 => ht (decide_eq_true hc1) H locs ls cells slots hl hh hS hc hs) (fun hc1 => hf (fun q => hc1 (of_decide_eq_true q)) H locs ls cells slots hl hh hS hc hs)
set_option maxHeartbeats 4000000 in
theorem sj_icmp_lt (F : FX p R s m args meth c D z d y TC TS) {off : Int} (hd : decode (mC y) pc = .ok (.if_icmp .lt off, 3)) (hst : stO E Q (KJ p l e R s m args below meth c Qf D z y TC TS) (nxI y pc al st h cc ss (.if_icmp .lt off))) : KJ p l e R s m args below meth c Qf D z y TC TS (pc, al, st, h, cc, ss) := by
  intro H locs ls cells slots hl hh hS hc hs
  obtain ⟨hx, hb, hml, hown, hts, hcf, hin, hz, hR, hTC, hTS⟩ := F
  obtain ⟨b, a, r, rfl, t, htt, ht, hf⟩ := oCm_inv hst
  exact lv_icmp_lt hx hb hd htt (fun hc1 => ht (decide_eq_true hc1) H locs ls cells slots hl hh hS hc hs) (fun hc1 => hf (fun q => hc1 (of_decide_eq_true q)) H locs ls cells slots hl hh hS hc hs)
set_option maxHeartbeats 4000000 in
theorem sj_if_ge (F : FX p R s m args meth c D z d y TC TS) {off : Int} (hd : decode (mC y) pc = .ok (.ifCond .ge off, 3)) (hst : stO E Q (KJ p l e R s m args below meth c Qf D z y TC TS) (nxI y pc al st h cc ss (.ifCond .ge off))) : KJ p l e R s m args below meth c Qf D z y TC TS (pc, al, st, h, cc, ss) := by
  intro H locs ls cells slots hl hh hS hc hs
  obtain ⟨hx, hb, hml, hown, hts, hcf, hin, hz, hR, hTC, hTS⟩ := F
  obtain ⟨x, r, rfl, t, htt, ht, hf⟩ := oIf_inv hst
  exact lv_if_ge hx hb hd htt (fun hc1 => ht (decide_eq_true hc1) H locs ls cells slots hl hh hS hc hs) (fun hc1 => hf (fun q => hc1 (of_decide_eq_true q)) H locs ls cells slots hl hh hS hc hs)
set_option maxHeartbeats 4000000 in
theorem sj_icmp_ge (F : FX p R s m args meth c D z d y TC TS) {off : Int} (hd : decode (mC y) pc = .ok (.if_icmp .ge off, 3)) (hst : stO E Q (KJ p l e R s m args below meth c Qf D z y TC TS) (nxI y pc al st h cc ss (.if_icmp .ge off))) : KJ p l e R s m args below meth c Qf D z y TC TS (pc, al, st, h, cc, ss) := by
  intro H locs ls cells slots hl hh hS hc hs
  obtain ⟨hx, hb, hml, hown, hts, hcf, hin, hz, hR, hTC, hTS⟩ := F
  obtain ⟨b, a, r, rfl, t, htt, ht, hf⟩ := oCm_inv hst
  exact lv_icmp_ge hx hb hd htt (fun hc1 => ht (decide_eq_true hc1) H locs ls cells slots hl hh hS hc hs) (fun hc1 => hf (fun q => hc1 (of_decide_eq_true q)) H locs ls cells slots hl hh hS hc hs)
set_option maxHeartbeats 4000000 in
theorem sj_if_gt (F : FX p R s m args meth c D z d y TC TS) {off : Int} (hd : decode (mC y) pc = .ok (.ifCond .gt off, 3)) (hst : stO E Q (KJ p l e R s m args below meth c Qf D z y TC TS) (nxI y pc al st h cc ss (.ifCond .gt off))) : KJ p l e R s m args below meth c Qf D z y TC TS (pc, al, st, h, cc, ss) := by
  intro H locs ls cells slots hl hh hS hc hs
  obtain ⟨hx, hb, hml, hown, hts, hcf, hin, hz, hR, hTC, hTS⟩ := F
  obtain ⟨x, r, rfl, t, htt, ht, hf⟩ := oIf_inv hst
  exact lv_if_gt hx hb hd htt (fun hc1 => ht (decide_eq_true hc1) H locs ls cells slots hl hh hS hc hs) (fun hc1 => hf (fun q => hc1 (of_decide_eq_true q)) H locs ls cells slots hl hh hS hc hs)
set_option maxHeartbeats 4000000 in
theorem sj_icmp_gt (F : FX p R s m args meth c D z d y TC TS) {off : Int} (hd : decode (mC y) pc = .ok (.if_icmp .gt off, 3)) (hst : stO E Q (KJ p l e R s m args below meth c Qf D z y TC TS) (nxI y pc al st h cc ss (.if_icmp .gt off))) : KJ p l e R s m args below meth c Qf D z y TC TS (pc, al, st, h, cc, ss) := by
  intro H locs ls cells slots hl hh hS hc hs
  obtain ⟨hx, hb, hml, hown, hts, hcf, hin, hz, hR, hTC, hTS⟩ := F
  obtain ⟨b, a, r, rfl, t, htt, ht, hf⟩ := oCm_inv hst
  exact lv_icmp_gt hx hb hd htt (fun hc1 => ht (decide_eq_true hc1) H locs ls cells slots hl hh hS hc hs) (fun hc1 => hf (fun q => hc1 (of_decide_eq_true q)) H locs ls cells slots hl hh hS hc hs)
set_option maxHeartbeats 4000000 in
theorem sj_if_le (F : FX p R s m args meth c D z d y TC TS) {off : Int} (hd : decode (mC y) pc = .ok (.ifCond .le off, 3)) (hst : stO E Q (KJ p l e R s m args below meth c Qf D z y TC TS) (nxI y pc al st h cc ss (.ifCond .le off))) : KJ p l e R s m args below meth c Qf D z y TC TS (pc, al, st, h, cc, ss) := by
  intro H locs ls cells slots hl hh hS hc hs
  obtain ⟨hx, hb, hml, hown, hts, hcf, hin, hz, hR, hTC, hTS⟩ := F
  obtain ⟨x, r, rfl, t, htt, ht, hf⟩ := oIf_inv hst
  exact lv_if_le hx hb hd htt (fun hc1 => ht (decide_eq_true hc1) H locs ls cells slots hl hh hS hc hs) (fun hc1 => hf (fun q => hc1 (of_decide_eq_true q)) H locs ls cells slots hl hh hS hc hs)
set_option maxHeartbeats 4000000 in
theorem sj_icmp_le (F : FX p R s m args meth c D z d y TC TS) {off : Int} (hd : decode (mC y) pc = .ok (.if_icmp .le off, 3)) (hst : stO E Q (KJ p l e R s m args below meth c Qf D z y TC TS) (nxI y pc al st h cc ss (.if_icmp .le off))) : KJ p l e R s m args below meth c Qf D z y TC TS (pc, al, st, h, cc, ss) := by
  intro H locs ls cells slots hl hh hS hc hs
  obtain ⟨hx, hb, hml, hown, hts, hcf, hin, hz, hR, hTC, hTS⟩ := F
  obtain ⟨b, a, r, rfl, t, htt, ht, hf⟩ := oCm_inv hst
  exact lv_icmp_le hx hb hd htt (fun hc1 => ht (decide_eq_true hc1) H locs ls cells slots hl hh hS hc hs) (fun hc1 => hf (fun q => hc1 (of_decide_eq_true q)) H locs ls cells slots hl hh hS hc hs)
set_option maxHeartbeats 4000000 in
theorem sj_goto (F : FX p R s m args meth c D z d y TC TS) {off : Int} (hd : decode (mC y) pc = .ok (.goto off, 3)) (hst : stO E Q (KJ p l e R s m args below meth c Qf D z y TC TS) (nxI y pc al st h cc ss (.goto off))) : KJ p l e R s m args below meth c Qf D z y TC TS (pc, al, st, h, cc, ss) := by
  intro H locs ls cells slots hl hh hS hc hs
  obtain ⟨hx, hb, hml, hown, hts, hcf, hin, hz, hR, hTC, hTS⟩ := F
  obtain ⟨t, ht, hk⟩ := oJmp_inv hst
  exact lv_goto hx hb hd ht (hk H locs ls cells slots hl hh hS hc hs)
set_option maxHeartbeats 4000000 in
theorem sj_ifnull (F : FX p R s m args meth c D z d y TC TS) {off : Int} (hd : decode (mC y) pc = .ok (.ifnull off, 3)) (hst : stO E Q (KJ p l e R s m args below meth c Qf D z y TC TS) (nxI y pc al st h cc ss (.ifnull off))) : KJ p l e R s m args below meth c Qf D z y TC TS (pc, al, st, h, cc, ss) := by
  intro H locs ls cells slots hl hh hS hc hs
  obtain ⟨hx, hb, hml, hown, hts, hcf, hin, hz, hR, hTC, hTS⟩ := F
  obtain ⟨v, r, b, rfl, hb2, t, htt, ht, hf⟩ := oNul_inv hst
  obtain ⟨rfl, rfl⟩ | ⟨q, rfl, rfl⟩ : (v = .null ∧ b = true) ∨ ∃ q, v = .ref q ∧ b = false := by
    cases v <;> simp_all [isN]
  · exact lv_ifnullN hx hb hd htt (ht rfl H locs ls cells slots hl hh hS hc hs)
  · exact lv_ifnull hx hb hd (hf (by decide) H locs ls cells slots hl hh hS hc hs)
set_option maxHeartbeats 4000000 in
theorem sj_ifnonnull (F : FX p R s m args meth c D z d y TC TS) {off : Int} (hd : decode (mC y) pc = .ok (.ifnonnull off, 3)) (hst : stO E Q (KJ p l e R s m args below meth c Qf D z y TC TS) (nxI y pc al st h cc ss (.ifnonnull off))) : KJ p l e R s m args below meth c Qf D z y TC TS (pc, al, st, h, cc, ss) := by
  intro H locs ls cells slots hl hh hS hc hs
  obtain ⟨hx, hb, hml, hown, hts, hcf, hin, hz, hR, hTC, hTS⟩ := F
  obtain ⟨v, r, b, rfl, hb2, t, htt, ht, hf⟩ := oNul_inv hst
  obtain ⟨rfl, rfl⟩ | ⟨q, rfl, rfl⟩ : (v = .null ∧ b = true) ∨ ∃ q, v = .ref q ∧ b = false := by
    cases v <;> simp_all [isN]
  · exact lv_ifnonnullN hx hb hd (hf (by decide) H locs ls cells slots hl hh hS hc hs)
  · exact lv_ifnonnull hx hb hd htt (ht rfl H locs ls cells slots hl hh hS hc hs)
set_option maxHeartbeats 4000000 in
theorem sj_dup (F : FX p R s m args meth c D z d y TC TS) (hd : decode (mC y) pc = .ok (.dup, 1)) (hst : stO E Q (KJ p l e R s m args below meth c Qf D z y TC TS) (nxI y pc al st h cc ss (.dup))) : KJ p l e R s m args below meth c Qf D z y TC TS (pc, al, st, h, cc, ss) := by
  intro H locs ls cells slots hl hh hS hc hs
  obtain ⟨hx, hb, hml, hown, hts, hcf, hin, hz, hR, hTC, hTS⟩ := F
  simp only [nxI] at hst
  split at hst
  · split at hst
    · rename_i hv
      have hk := hst
      exact lv_dup hx hb hd hv (hk H locs ls cells slots hl hh hS hc hs)
    · exact hst.elim
  · exact hst.elim
set_option maxHeartbeats 4000000 in
theorem sj_pop (F : FX p R s m args meth c D z d y TC TS) (hd : decode (mC y) pc = .ok (.pop, 1)) (hst : stO E Q (KJ p l e R s m args below meth c Qf D z y TC TS) (nxI y pc al st h cc ss (.pop))) : KJ p l e R s m args below meth c Qf D z y TC TS (pc, al, st, h, cc, ss) := by
  intro H locs ls cells slots hl hh hS hc hs
  obtain ⟨hx, hb, hml, hown, hts, hcf, hin, hz, hR, hTC, hTS⟩ := F
  simp only [nxI] at hst
  split at hst
  · split at hst
    · rename_i hv
      have hk := hst
      exact lv_pop hx hb hd hv (hk H locs ls cells slots hl hh hS hc hs)
    · exact hst.elim
  · exact hst.elim
set_option maxHeartbeats 4000000 in
theorem sj_dup2 (F : FX p R s m args meth c D z d y TC TS) (hd : decode (mC y) pc = .ok (.dup2, 1)) (hst : stO E Q (KJ p l e R s m args below meth c Qf D z y TC TS) (nxI y pc al st h cc ss (.dup2))) : KJ p l e R s m args below meth c Qf D z y TC TS (pc, al, st, h, cc, ss) := by
  intro H locs ls cells slots hl hh hS hc hs
  obtain ⟨hx, hb, hml, hown, hts, hcf, hin, hz, hR, hTC, hTS⟩ := F
  simp only [nxI] at hst
  split at hst
  · split at hst
    · rename_i hv
      have hk := hst
      exact lv_dup2_11 hx hb hd hv.1 hv.2 (hk H locs ls cells slots hl hh hS hc hs)
    · exact hst.elim
  · exact hst.elim
set_option maxHeartbeats 4000000 in
theorem sj_tableswitch (F : FX p R s m args meth c D z d y TC TS) {dd lo hi : Int} {offs : Array Int} {len : Nat} (hd : decode (mC y) pc = .ok (.tableswitch dd lo hi offs, len)) (hst : stO E Q (KJ p l e R s m args below meth c Qf D z y TC TS) (nxI y pc al st h cc ss (.tableswitch dd lo hi offs))) : KJ p l e R s m args below meth c Qf D z y TC TS (pc, al, st, h, cc, ss) := by
  intro H locs ls cells slots hl hh hS hc hs
  obtain ⟨hx, hb, hml, hown, hts, hcf, hin, hz, hR, hTC, hTS⟩ := F
  obtain ⟨x, r, rfl, ho, t, ht, hk⟩ := oTab_inv hst
  obtain ⟨h0, h1, h2⟩ := of_decide_eq_true ho
  obtain ⟨lo, rfl⟩ : ∃ n : Nat, lo = (n : Int) := ⟨lo.toNat, by omega⟩
  have h3 : (offs.toList.length : Int) = hi - lo + 1 := by rw [Array.length_toList]; omega
  have e := swT_spec x dd offs.toList lo (by omega)
  have e0 : Int32.ofInt (lo : Int) = Int32.ofNat lo := rfl
  rw [e0, e] at ht
  by_cases hc1 : x.toInt < lo ∨ (lo : Int) + offs.toList.length - 1 < x.toInt
  · rw [if_pos hc1] at ht
    exact lv_tableOut hx hb hd (by omega) ht (hk H locs ls cells slots hl hh hS hc hs)
  · rw [if_neg hc1] at ht
    have hlt : (x.toInt - lo).toNat < offs.toList.length := by omega
    refine lv_tableIn hx hb hd (by omega) (by omega) (off := offs.toList.getD (x.toInt - lo).toNat dd) ?_ ht (hk H locs ls cells slots hl hh hS hc hs)
    rw [← Array.getElem?_toList, List.getD_eq_getElem?_getD, List.getElem?_eq_getElem hlt]
    rfl
end MJS
