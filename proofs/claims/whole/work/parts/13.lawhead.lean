/-! THE CLAIM OUT OF ONE WALK OF THE LAW'S BODY. Your part is whole_start (and what it stands on); all else here is the same for every law, but numbers. -/
def R_law : String := "MayReadPencilLaw"
def lw_P (b : Addr) (xs : List Int32) (args : Array Value) (s : State) : Prop := args = #[.ref b] ∧ s.IntsAt b xs ∧ xs.length ≤ 3072 ∧ (Jvm.Cond.and given_1 narrow_1).before args s = true
def lw_Q (_ : Array Value) (s : State) (o : Outcome) (t : State) : Prop := o = .returned (some (.int 1)) ∧ Framed s o t [] 600000 7302250
def lw_Z (below : List Frame) (a : Array Value) (s : State) : State → Prop := fun t => ∃ o, t.status = .running ∧ Ended t below o ∧ lw_Q a s o t
/-- the law's own end, with 1 on the stack, nothing written that was there before, its room as the claim has it -/
theorem lw_ret {p : Program} {l : Launch} {e : Env} {s : State} {m : MethodId} {below : List Frame} {meth : Method} {c : Code} {b : Nat} (hx : p.tables.exec = Jvm.exec) (hb : c.code = code) (hr : meth.sig.returnType = ret) (hlocks : meth.locks = false) {pc : Nat} {H : Heap} {ls : Array Slot} (hdg : decode code pc = .ok (.ireturn, 1)) : W p l e room_1 s m #[Value.ref b] below meth c H [] 600000 7302250 (lw_Z below #[Value.ref b] s) (F0 m pc ls [.int 1]) := by
  intro T hT X
  obtain ⟨fs, hret, hrun, hended, hW, hframe⟩ := X.leave (v := some (.int 1)) (hlocks := hlocks) (fun h => by rw [hr] at h; cases h)
  have hmeth' : T.vm.method? m = some meth := X.method'
  refine ⟨T.setFrames fs, ?_, .returned (some (.int 1)), hrun, hended, rfl, ⟨_, rfl⟩, hW, hframe⟩
  jvm_step X.here [X.here.top, hx, hb, hdg, hmeth', hr, ret, narrow_b1]
  (try refine ⟨rfl, ?_⟩); (try refine ⟨rfl, ?_⟩)
  first | (intro acts; rw [hret _ acts rfl rfl rfl]) | rw [hret _ _ rfl rfl rfl]
  exact Steps.refl _
/-- what holds at the law's entry: the machine, the code, the tables' words (any of lw_tbl by 'hts w (by decide +kernel)'), the script of L ints xs at the cell b, what the Statement gives of the start (any of its parts by flat_of_before) -/
def lw_At (p : Program) (s : State) (m : MethodId) (meth : Method) (c : Code) (b L : Nat) (xs : Nat → Int32) : Prop :=
  p.tables.exec = Jvm.exec ∧ c.code = code ∧ meth.sig.returnType = ret ∧ c.maxLocals = 4 ∧ s.vm.findClass R_law = some m.cls ∧ (∀ w ∈ lw_tbl, w.before #[Value.ref b] s = true) ∧ va_X b L xs s s.heap ∧ b < s.heap.size ∧ meth.locks = false ∧ (Jvm.Cond.and given_1 narrow_1).before #[Value.ref b] s = true
def lawH0 (b L z : Nat) (xs : Nat → Int32) : HP := ((fun a => if a = b then 1 else 0), (fun a => if a = b then L else 0), (fun a j => if a = b then xs j else 0), (fun _ _ => 0), (fun _ _ => none), z)
def LawPure : Prop := ∀ (b L z : Nat) (xs : Nat → Int32), b < z → L ≤ 3072 → WP 11 270 (fun r _ => r = some (.int 1)) (ent 270 [.ref b] (lawH0 b L z xs))
set_option maxHeartbeats 4000000 in
theorem whole_of (hpure : LawPure) {p : Program} {e : Env} {s : State} {m : MethodId} {below : List Frame} {meth : Method} {c : Code} (l : Launch) {b L : Nat} {xs : Nat → Int32} (hL : L ≤ 3072) (C0 : lw_At p s m meth c b L xs) : W p l e room_1 s m #[Value.ref b] below meth c s.heap [] 0 0 (lw_Z below #[Value.ref b] s) (entryFrame m ([Value.ref b] : List Value).toArray 4) := by
  obtain ⟨hx, hb, hr, hml, hown, hts, hX, hbl, hlocks, hgv⟩ := id C0
  have htB : ∀ w ∈ mjB, w.before #[Value.ref b] s = true := fun w hw => hts w (mj_Bin hw)
  obtain ⟨c0, i0, K0⟩ := u_known (C := RX0) (T := TX0) (N := 6) (n := 6) htB mj_cl0.2.1 (htB _ mj_cl0.2.2.2.2.1)
  obtain ⟨c1, i1, K1⟩ := u_known (C := RX1) (T := TX1) (N := 4) (n := 4) htB mj_cl1.2.1 (htB _ mj_cl1.2.2.2.2.1)
  obtain ⟨c2, i2, K2⟩ := u_known (C := RX4) (T := TX4) (N := 3) (n := 3) htB mj_cl2.2.1 (htB _ mj_cl2.2.2.2.2.1)
  obtain ⟨c3, i3, K3⟩ := u_known (C := RX5) (T := TX5) (N := 2) (n := 2) htB mj_cl3.2.1 (htB _ mj_cl3.2.2.2.2.1)
  obtain ⟨c4, i4, K4⟩ := u_known (C := RX7) (T := TX7) (N := 16) (n := 16) htB mj_cl4.2.1 (htB _ mj_cl4.2.2.2.2.1)
  obtain ⟨c5, i5, K5⟩ := u_known (C := RX8) (T := TX8) (N := 8) (n := 8) htB mj_cl5.2.1 (htB _ mj_cl5.2.2.2.2.1)
  obtain ⟨c6, i6, K6⟩ := u_known (C := RX9) (T := TX9) (N := 43) (n := 43) htB mj_cl6.2.1 (htB _ mj_cl6.2.2.2.2.1)
  obtain ⟨D, hK⟩ : ∃ D : va_G, ∀ (k : Nat) (q : vw_C), mjCl[k]? = some q → u_Kn s q.1 q.2.1 q.2.2 (D.1 k) (D.2 k) := by
    refine ⟨(fun k => match k with | 0 => c0 | 1 => c1 | 2 => c2 | 3 => c3 | 4 => c4 | 5 => c5 | _ => c6, fun k => match k with | 0 => i0 | 1 => i1 | 2 => i2 | 3 => i3 | 4 => i4 | 5 => i5 | _ => i6), ?_⟩
    intro k q hq
    match k, hq with
    | 0, hq => cases hq; exact K0
    | 1, hq => cases hq; exact K1
    | 2, hq => cases hq; exact K2
    | 3, hq => cases hq; exact K3
    | 4, hq => cases hq; exact K4
    | 5, hq => cases hq; exact K5
    | 6, hq => cases hq; exact K6
    | k + 7, hq => simp [mjCl] at hq
  have hcf : CF D s := ⟨⟨hK, fun k q h => by simp at h⟩, fun a i x g hm => va_Nw.of rfl (hts _ hm), hts _ mj_over⟩
  obtain ⟨scr, g1, g2, g3, g4, g5⟩ := hX
  have hh : HH D s.heap.size (lawH0 b L s.heap.size xs) s s.heap := by
    refine ⟨rfl, Nat.le_refl _, fun a => ?_⟩
    have kd : hkd (lawH0 b L s.heap.size xs) a = if a = b then 1 else 0 := rfl
    by_cases hab : a = b
    · subst hab
      rw [if_pos rfl] at kd
      refine ⟨fun _ => ⟨scr, g1, g2, g3, ?_, ?_⟩, fun k => by omega, fun k => by omega, fun k => by omega, fun ci k => by omega⟩
      · show scr.slots.size = if a = a then L else 0
        rw [if_pos rfl]; exact g4
      · intro j hj
        have hj2 : j < L := by
          have : hln (lawH0 a L s.heap.size xs) a = L := if_pos rfl
          omega
        have e : hI (lawH0 a L s.heap.size xs) a j = xs j := if_pos rfl
        rw [e]; exact g5 j hj2
    · rw [if_neg hab] at kd
      exact ⟨fun k => by omega, fun k => by omega, fun k => by omega, fun k => by omega, fun ci k => by omega⟩
  have F : FX p room_1 s m #[Value.ref b] meth c D s.heap.size 11 270 600000 7302250 := ⟨hx, hb, hml, hown, htB, hcf, fun hk => absurd hk (by decide +kernel), Nat.le_refl _, ⟨by decide, by decide⟩, Nat.le_refl _, Nat.le_refl _⟩
  have hS : va_S (fun q => s.heap.size ≤ q) s.heap s.heap [] := va_S.rf
  have hl := lv_entry ([.ref b]) (n := 4) (Nat.le_of_ble_eq_true rfl)
  rw [lg_entry_eq]
  have hw := hpure b L s.heap.size xs hbl hL
  have e0 : ent 270 [.ref b] (lawH0 b L s.heap.size xs) = (0, [.val (.ref b), .unset, .unset, .unset], [], lawH0 b L s.heap.size xs, 600000, 7302250) := rfl
  rw [e0] at hw
  have hl2 : lv_has ((lg_sl [.ref b] ++ List.replicate (4 - (lg_sl [.ref b]).length) Slot.unset).toArray) 4 (lvl 0 [.val (.ref b), .unset, .unset, .unset]) := hl
  refine mj_walk (l := l) (below := below) (Qf := lw_Z below #[Value.ref b] s) F (mj_sound l D s.heap.size 11) ?_ _ hw s.heap [] _ 0 0 hl2 hh hS (Nat.zero_add _) (Nat.zero_add _)
  intro pc al st h' cc ss
  have hR : mR 270 = some .boolean := rfl
  refine ⟨fun hd hst => ?_, fun hd hst => ?_, fun hd hst => ?_, fun hd hst => ?_⟩
  · intro H locs ls cells slots hl hh hS hc hs
    obtain ⟨x, rfl, -, hQ⟩ := oRtI_inv hst
    dsimp only at hc hs
    cases hQ
    refine va_forget (fun q hq => hS.2.2 q hq) ?_
    refine W.widen (k := 600000) (n := 7302250) (by omega) (by omega) ?_
    exact lw_ret hx hb hr hlocks hd
  · obtain ⟨x, -, h2, -⟩ := oRtL_inv hst
    rw [hR] at h2; cases h2
  · obtain ⟨x, n, -, h2, -⟩ := oRtA_inv hst
    rw [hR] at h2; cases h2
  · obtain ⟨-, h2, -⟩ := oRtV_inv hst
    rw [hR] at h2; cases h2
