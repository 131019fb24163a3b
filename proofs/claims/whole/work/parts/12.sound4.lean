section MJV
variable {p : Program} {l : Launch} {e : Env} {R : Room} {s : State} {m : MethodId} {args : Array Value} {below : List Frame} {meth : Method} {c : Code} {Qf : State → Prop} {D : va_G} {z d y TC TS : Nat} {Q : PQ}
def RetOK (p : Program) (l : Launch) (e : Env) (R : Room) (s : State) (m : MethodId) (args : Array Value) (below : List Frame) (meth : Method) (c : Code) (Qf : State → Prop) (D : va_G) (z d y TC TS : Nat) (Q : PQ) : Prop := ∀ (pc : Nat) (al : List Slot) (st : List Value) (h : HP) (cc ss : Nat), (decode (mC y) pc = .ok (.ireturn, 1) → stO (Ev d) Q (KJ p l e R s m args below meth c Qf D z y TC TS) (oRtI y st h) → KJ p l e R s m args below meth c Qf D z y TC TS (pc, al, st, h, cc, ss)) ∧ (decode (mC y) pc = .ok (.lreturn, 1) → stO (Ev d) Q (KJ p l e R s m args below meth c Qf D z y TC TS) (oRtL y st h) → KJ p l e R s m args below meth c Qf D z y TC TS (pc, al, st, h, cc, ss)) ∧ (decode (mC y) pc = .ok (.areturn, 1) → stO (Ev d) Q (KJ p l e R s m args below meth c Qf D z y TC TS) (oRtA y st h) → KJ p l e R s m args below meth c Qf D z y TC TS (pc, al, st, h, cc, ss)) ∧ (decode (mC y) pc = .ok (.return_, 1) → stO (Ev d) Q (KJ p l e R s m args below meth c Qf D z y TC TS) (oRtV y st h) → KJ p l e R s m args below meth c Qf D z y TC TS (pc, al, st, h, cc, ss))
set_option maxHeartbeats 8000000 in
theorem mj_walk (F : FX p R s m args meth c D z d y TC TS) (ih : IH l D z d) (hret : RetOK p l e R s m args below meth c Qf D z d y TC TS Q) (f : Fr) (hw : WP d y Q f) : KJ p l e R s m args below meth c Qf D z y TC TS f := by
  refine hw (KJ p l e R s m args below meth c Qf D z y TC TS) (fun g hg => ?_)
  obtain ⟨pc, al, st, h, cc, ss⟩ := g
  unfold nxt at hg
  dsimp only at hg
  cases hdec : decode (mC y) pc with
  | error q => rw [hdec] at hg; exact hg.elim
  | ok q =>
    obtain ⟨ins, n⟩ := q
    rw [hdec] at hg
    dsimp only at hg
    by_cases hok : okL ins n = true
    · rw [if_pos hok] at hg
      cases ins
      case iadd  =>
        obtain rfl : n = 1 := by simpa [okL] using hok
        exact sj_iadd F hdec hg
      case isub  =>
        obtain rfl : n = 1 := by simpa [okL] using hok
        exact sj_isub F hdec hg
      case imul  =>
        obtain rfl : n = 1 := by simpa [okL] using hok
        exact sj_imul F hdec hg
      case iand  =>
        obtain rfl : n = 1 := by simpa [okL] using hok
        exact sj_iand F hdec hg
      case ior  =>
        obtain rfl : n = 1 := by simpa [okL] using hok
        exact sj_ior F hdec hg
      case ixor  =>
        obtain rfl : n = 1 := by simpa [okL] using hok
        exact sj_ixor F hdec hg
      case ishl  =>
        obtain rfl : n = 1 := by simpa [okL] using hok
        exact sj_ishl F hdec hg
      case ishr  =>
        obtain rfl : n = 1 := by simpa [okL] using hok
        exact sj_ishr F hdec hg
      case iushr  =>
        obtain rfl : n = 1 := by simpa [okL] using hok
        exact sj_iushr F hdec hg
      case ladd  =>
        obtain rfl : n = 1 := by simpa [okL] using hok
        exact sj_ladd F hdec hg
      case lsub  =>
        obtain rfl : n = 1 := by simpa [okL] using hok
        exact sj_lsub F hdec hg
      case lmul  =>
        obtain rfl : n = 1 := by simpa [okL] using hok
        exact sj_lmul F hdec hg
      case land  =>
        obtain rfl : n = 1 := by simpa [okL] using hok
        exact sj_land F hdec hg
      case lor  =>
        obtain rfl : n = 1 := by simpa [okL] using hok
        exact sj_lor F hdec hg
      case lxor  =>
        obtain rfl : n = 1 := by simpa [okL] using hok
        exact sj_lxor F hdec hg
      case lcmp  =>
        obtain rfl : n = 1 := by simpa [okL] using hok
        exact sj_lcmp F hdec hg
      case lshl  =>
        obtain rfl : n = 1 := by simpa [okL] using hok
        exact sj_lshl F hdec hg
      case lshr  =>
        obtain rfl : n = 1 := by simpa [okL] using hok
        exact sj_lshr F hdec hg
      case lushr  =>
        obtain rfl : n = 1 := by simpa [okL] using hok
        exact sj_lushr F hdec hg
      case ineg  =>
        obtain rfl : n = 1 := by simpa [okL] using hok
        exact sj_ineg F hdec hg
      case lneg  =>
        obtain rfl : n = 1 := by simpa [okL] using hok
        exact sj_lneg F hdec hg
      case i2l  =>
        obtain rfl : n = 1 := by simpa [okL] using hok
        exact sj_i2l F hdec hg
      case l2i  =>
        obtain rfl : n = 1 := by simpa [okL] using hok
        exact sj_l2i F hdec hg
      case idiv  =>
        obtain rfl : n = 1 := by simpa [okL] using hok
        exact sj_idiv F hdec hg
      case irem  =>
        obtain rfl : n = 1 := by simpa [okL] using hok
        exact sj_irem F hdec hg
      case ldiv  =>
        obtain rfl : n = 1 := by simpa [okL] using hok
        exact sj_ldiv F hdec hg
      case lrem  =>
        obtain rfl : n = 1 := by simpa [okL] using hok
        exact sj_lrem F hdec hg
      case dup  =>
        obtain rfl : n = 1 := by simpa [okL] using hok
        exact sj_dup F hdec hg
      case pop  =>
        obtain rfl : n = 1 := by simpa [okL] using hok
        exact sj_pop F hdec hg
      case dup2  =>
        obtain rfl : n = 1 := by simpa [okL] using hok
        exact sj_dup2 F hdec hg
      case iaload  =>
        obtain rfl : n = 1 := by simpa [okL] using hok
        exact sj_iaload F hdec hg
      case laload  =>
        obtain rfl : n = 1 := by simpa [okL] using hok
        exact sj_laload F hdec hg
      case aaload  =>
        obtain rfl : n = 1 := by simpa [okL] using hok
        exact sj_aaload F hdec hg
      case iastore  =>
        obtain rfl : n = 1 := by simpa [okL] using hok
        exact sj_iastore F hdec hg
      case lastore  =>
        obtain rfl : n = 1 := by simpa [okL] using hok
        exact sj_lastore F hdec hg
      case aastore  =>
        obtain rfl : n = 1 := by simpa [okL] using hok
        exact sj_aastore F hdec hg
      case arraylength  =>
        obtain rfl : n = 1 := by simpa [okL] using hok
        exact sj_arraylength F hdec hg
      case iconst a =>
        obtain rfl : n = 1 := by simpa [okL] using hok
        exact sj_iconst F hdec hg
      case lconst a =>
        obtain rfl : n = 1 := by simpa [okL] using hok
        exact sj_lconst F hdec hg
      case bipush a =>
        obtain rfl : n = 2 := by simpa [okL] using hok
        exact sj_bipush F hdec hg
      case sipush a =>
        obtain rfl : n = 3 := by simpa [okL] using hok
        exact sj_sipush F hdec hg
      case ldc a =>
        obtain rfl : n = 2 := by simpa [okL] using hok
        exact sj_ldc F hdec hg
      case ldc_w a =>
        obtain rfl : n = 3 := by simpa [okL] using hok
        exact sj_ldc_w F hdec hg
      case ldc2_w a =>
        obtain rfl : n = 3 := by simpa [okL] using hok
        exact sj_ldc2_w F hdec hg
      case iload a =>
        obtain rfl : n = 2 := by simpa [okL] using hok
        exact sj_iload F hdec hg
      case lload a =>
        obtain rfl : n = 2 := by simpa [okL] using hok
        exact sj_lload F hdec hg
      case aload a =>
        obtain rfl : n = 2 := by simpa [okL] using hok
        exact sj_aload F hdec hg
      case istore a =>
        obtain rfl : n = 2 := by simpa [okL] using hok
        exact sj_istore F hdec hg
      case lstore a =>
        obtain rfl : n = 2 := by simpa [okL] using hok
        exact sj_lstore F hdec hg
      case astore a =>
        obtain rfl : n = 2 := by simpa [okL] using hok
        exact sj_astore F hdec hg
      case iload_n a =>
        obtain rfl : n = 1 := by simpa [okL] using hok
        exact sj_iload_n F hdec hg
      case lload_n a =>
        obtain rfl : n = 1 := by simpa [okL] using hok
        exact sj_lload_n F hdec hg
      case aload_n a =>
        obtain rfl : n = 1 := by simpa [okL] using hok
        exact sj_aload_n F hdec hg
      case istore_n a =>
        obtain rfl : n = 1 := by simpa [okL] using hok
        exact sj_istore_n F hdec hg
      case lstore_n a =>
        obtain rfl : n = 1 := by simpa [okL] using hok
        exact sj_lstore_n F hdec hg
      case astore_n a =>
        obtain rfl : n = 1 := by simpa [okL] using hok
        exact sj_astore_n F hdec hg
      case goto a =>
        obtain rfl : n = 3 := by simpa [okL] using hok
        exact sj_goto F hdec hg
      case ifnull a =>
        obtain rfl : n = 3 := by simpa [okL] using hok
        exact sj_ifnull F hdec hg
      case ifnonnull a =>
        obtain rfl : n = 3 := by simpa [okL] using hok
        exact sj_ifnonnull F hdec hg
      case getfield a =>
        obtain rfl : n = 3 := by simpa [okL] using hok
        exact sj_getfield F hdec hg
      case putfield a =>
        obtain rfl : n = 3 := by simpa [okL] using hok
        exact sj_putfield F hdec hg
      case new a =>
        obtain rfl : n = 3 := by simpa [okL] using hok
        exact sj_new F hdec hg
      case anewarray a =>
        obtain rfl : n = 3 := by simpa [okL] using hok
        exact sj_anewarray F hdec hg
      case iinc a b =>
        obtain rfl : n = 3 := by simpa [okL] using hok
        exact sj_iinc F hdec hg
      case invokevirtual a =>
        obtain rfl : n = 3 := by simpa [okL] using hok
        exact sj_invokevirtual F ih hdec hg
      case tableswitch a b c d =>
        exact sj_tableswitch F hdec hg
      case lookupswitch a b =>
        exact sj_lookupswitch F hdec hg
      case ifCond k off =>
        obtain rfl : n = 3 := by simpa [okL] using hok
        cases k
        case eq => exact sj_if_eq F hdec hg
        case ne => exact sj_if_ne F hdec hg
        case lt => exact sj_if_lt F hdec hg
        case ge => exact sj_if_ge F hdec hg
        case gt => exact sj_if_gt F hdec hg
        case le => exact sj_if_le F hdec hg
      case if_icmp k off =>
        obtain rfl : n = 3 := by simpa [okL] using hok
        cases k
        case eq => exact sj_icmp_eq F hdec hg
        case ne => exact sj_icmp_ne F hdec hg
        case lt => exact sj_icmp_lt F hdec hg
        case ge => exact sj_icmp_ge F hdec hg
        case gt => exact sj_icmp_gt F hdec hg
        case le => exact sj_icmp_le F hdec hg
      case newarray t =>
        obtain rfl : n = 2 := by simpa [okL] using hok
        cases t
        case int => exact sj_newarrayI F hdec hg
        case long => exact sj_newarrayL F hdec hg
        all_goals exact hg.elim
      case invokespecial a =>
        obtain rfl : n = 3 := by simpa [okL] using hok
        simp only [nxI] at hg
        split at hg
        · rename_i hk
          exact sj_objInit F hk hdec hg
        · exact sj_invokespecial F ih hdec hg
      case invokestatic a =>
        obtain rfl : n = 3 := by simpa [okL] using hok
        simp only [nxI] at hg
        split at hg
        · rename_i hk
          exact sj_copy F hk hdec hg
        · split at hg
          · rename_i hk
            exact sj_mmax F hk hdec hg
          · split at hg
            · rename_i hk
              exact sj_mmin F hk hdec hg
            · exact sj_invokestatic F ih hdec hg
      case ireturn  =>
        obtain rfl : n = 1 := by simpa [okL] using hok
        exact (hret pc al st h cc ss).1 hdec hg
      case lreturn  =>
        obtain rfl : n = 1 := by simpa [okL] using hok
        exact (hret pc al st h cc ss).2.1 hdec hg
      case areturn  =>
        obtain rfl : n = 1 := by simpa [okL] using hok
        exact (hret pc al st h cc ss).2.2.1 hdec hg
      case return_  =>
        obtain rfl : n = 1 := by simpa [okL] using hok
        exact (hret pc al st h cc ss).2.2.2 hdec hg
      all_goals exact hg.elim
    · rw [if_neg hok] at hg; exact hg.elim
end MJV
set_option maxHeartbeats 4000000 in
/-- every call that the machine of this text says ends, ends so on the real one -/
theorem mj_sound (l : Launch) (D : va_G) (z : Nat) : ∀ d : Nat, IH l D z d := by
  intro d
  induction d with
  | zero => intro y as h Q _ _ hE; exact hE.elim
  | succ d ih =>
    intro y as h Q hy hsl hE
    refine Met.ofW (cc := mC y) (maxL := mL y) (ret := mR y) hy.2.2.1 rfl ?_
    intro p e s m args below meth c s₁ B hml hv
    obtain ⟨rfl, hcf, hh⟩ := hv
    have hx := B.exec
    have hb := B.bytes
    have hr := B.returns
    have hlocks := B.notSynchronized
    have hts := atoms_spec (ws := mjW y) B.pre
    have hown : s.vm.findClass (clsN (mO y)) = some m.cls := by
      have := findClass_of_methodNamed B.named
      rwa [hy.2.2.2.1] at this
    have F : FX p (rmj (d + 1) y) s m as.toArray meth c D z d y (mA y) (mS y) := ⟨hx, hb, hml, hown, fun w hw => hts w (List.mem_cons_of_mem _ hw), hcf, fun hk => ⟨by
        have h1 := (name_of_methodNamed B.named B.method).1
        rw [h1]
        exact (hy.2.2.2.2.2.2.2.2.1 hk).1, hy⟩, by rw [hh.1]; exact hh.2.1, ⟨Nat.le_refl _, by show 37 * d + 35 ≤ 37 * (d + 1); omega⟩, Nat.le_refl _, Nat.le_refl _⟩
    have hS : va_S (fun q => z ≤ q) s.heap s.heap [] := va_S.rf
    have hl := lv_entry as (n := mL y) (by rw [← sl_eq]; exact hsl)
    rw [lg_entry_eq, ← sl_eq]
    rw [← sl_eq] at hl
    have hl2 : lv_has ((sl as ++ List.replicate (mL y - (sl as).length) Slot.unset).toArray) (mL y) (lvl 0 (sl as ++ List.replicate (mL y - (sl as).length) Slot.unset)) := by
      refine ⟨hl.1, hl.2.1, fun q hq => ?_⟩
      obtain ⟨j, w⟩ := q
      have := (lvl_in0 _ j w).mp hq
      rw [List.getElem?_toArray]
      exact this
    refine mj_walk (Q := Q) F ih ?_ (ent y as h) hE s.heap [] _ 0 0 hl2 hh hS (Nat.zero_add _) (Nat.zero_add _)
    intro pc al st h' cc ss
    refine ⟨fun hd hst => ?_, fun hd hst => ?_, fun hd hst => ?_, fun hd hst => ?_⟩
    · intro H locs ls cells slots hl hh hS hc hs
      obtain ⟨x, rfl, hty, hQ⟩ := oRtI_inv hst
      dsimp only at hc hs
      refine W.widen (k := mA y) (n := mS y) (by omega) (by omega) ?_
      have fin : ∀ t : State, t.heap = H → s.WarmedH t.vm → Qcj D z Q as.toArray s (.returned (some (.int x))) t := fun t ht hW => ⟨⟨_, h', hQ, rfl, by rw [ht]; exact hh.moved hW.alike⟩, hS.F ht⟩
      rcases hty with hty | ⟨hty, h01⟩
      · exact W.iret (v := x) hx hb (hr.trans hty) fin hS.2.2 hd
      · exact W.zret (v := x) hx hb (hr.trans hty) (nar_bool h01).1 fin hS.2.2 hd
    · intro H locs ls cells slots hl hh hS hc hs
      obtain ⟨x, rfl, hty, hQ⟩ := oRtL_inv hst
      dsimp only at hc hs
      refine W.widen (k := mA y) (n := mS y) (by omega) (by omega) ?_
      exact W.lret (v := x) hx hb (hr.trans hty) (fun t ht hW => ⟨⟨_, h', hQ, rfl, by rw [ht]; exact hh.moved hW.alike⟩, hS.F ht⟩) hS.2.2 hd
    · intro H locs ls cells slots hl hh hS hc hs
      obtain ⟨x, n, rfl, hty, hQ⟩ := oRtA_inv hst
      dsimp only at hc hs
      refine W.widen (k := mA y) (n := mS y) (by omega) (by omega) ?_
      exact W.aret (v := .ref x) hx hb (hr.trans hty) (Or.inl ⟨n, rfl⟩) (Or.inr ⟨x, rfl⟩) (fun t ht hW => ⟨⟨_, h', hQ, rfl, by rw [ht]; exact hh.moved hW.alike⟩, hS.F ht⟩) hS.2.2 hd
    · intro H locs ls cells slots hl hh hS hc hs
      obtain ⟨rfl, hty, hQ⟩ := oRtV_inv hst
      dsimp only at hc hs
      refine W.widen (k := mA y) (n := mS y) (by omega) (by omega) ?_
      exact W.vret hx hb (hr.trans hty) (fun t ht hW => ⟨⟨_, h', hQ, rfl, by rw [ht]; exact hh.moved hW.alike⟩, hS.F ht⟩) hS.2.2 hd
