/-! THE CLAIM OUT OF ONE WALK OF THE LAW'S BODY. Your part is whole_start (and what it stands on); all else here is the same for every law, but numbers. -/
def R_law : String := "DreamGravesLaw"
def lw_P (b : Addr) (xs : List Int32) (args : Array Value) (s : State) : Prop := args = #[.ref b] ∧ s.IntsAt b xs ∧ xs.length ≤ 384 ∧ (Jvm.Cond.and given_1 narrow_1).before args s = true
def lw_Q (_ : Array Value) (s : State) (o : Outcome) (t : State) : Prop := o = .returned (some (.int 1)) ∧ Framed s o t [] 600000 7302250
def lw_Z (below : List Frame) (a : Array Value) (s : State) : State → Prop := fun t => ∃ o, t.status = .running ∧ Ended t below o ∧ lw_Q a s o t
/-- the law's own end, with 1 on the stack, nothing written that was there before, its room as the claim has it -/
theorem lw_ret {p : Program} {l : Launch} {e : Env} {s : State} {m : MethodId} {below : List Frame} {meth : Method} {c : Code} {b : Nat} (hx : p.tables.exec = Jvm.exec) (hb : c.code = code) (hr : meth.sig.returnType = ret) (hlocks : meth.locks = false) {pc : Nat} {H : Heap} {ls : Array Slot} (hdg : decode code pc = .ok (.ireturn, 1)) : W p l e room_1 s m #[Value.ref b] below meth c H [] 600000 7302250 (lw_Z below #[Value.ref b] s) (F0 m pc ls [.int 1]) := by
  intro T hT X
  obtain ⟨fs, hret, hrun, hended, hW, hframe⟩ := X.leave (v := some (.int 1)) (hlocks := hlocks) (fun h => by rw [hr] at h; cases h)
  have hmeth' : T.vm.method? m = some meth := X.method'
  refine ⟨T.setFrames fs, ?_, .returned (some (.int 1)), hrun, hended, rfl, ⟨_, rfl⟩, hW, hframe⟩
  jvm_step X.here [X.here.top, hx, hb, hdg, hmeth', hr, ret, narrow_b1]
  (try refine ⟨rfl, ?_⟩); (try refine ⟨rfl, ?_⟩)
  first | (intro acts; rw [hret _ acts rfl rfl rfl]) | rw [hret _ _ rfl rfl rfl]
  exact Steps.refl _
/-- what holds at the law's entry: the machine, the code, the tables' words (any of lw_tbl by 'hts w (by decide +kernel)'), the script of L ints xs at the cell b, what the Statement gives of the start (any of its parts by flat_of_before) -/
def lw_At (p : Program) (s : State) (m : MethodId) (meth : Method) (c : Code) (b L : Nat) (xs : Nat → Int32) : Prop :=
  p.tables.exec = Jvm.exec ∧ c.code = code ∧ meth.sig.returnType = ret ∧ c.maxLocals = 4 ∧ s.vm.findClass R_law = some m.cls ∧ (∀ w ∈ lw_tbl, w.before #[Value.ref b] s = true) ∧ va_X b L xs s s.heap ∧ b < s.heap.size ∧ meth.locks = false ∧ (Jvm.Cond.and given_1 narrow_1).before #[Value.ref b] s = true
theorem qF_of {p : Program} {s : State} {m : MethodId} {meth : Method} {c : Code} {b L : Nat} {xs : Nat → Int32} (C0 : lw_At p s m meth c b L xs) : ∃ G : qG, G.2 4 = s.heap.size ∧ qF G s s.heap := by
  have hts := C0.2.2.2.2.2.1
  have hg : ∀ w ∈ lwg, w.before #[Value.ref b] s = true := fun w hw => hts w (List.mem_filter.mp hw).1
  have hgv := flat_of_before _ C0.2.2.2.2.2.2.2.2.2
  have hk : ∀ c : Nat, ∃ (cC : ClassId) (iS : Nat → Nat), ∀ q : vw_C, vwCl[c]? = some q → u_Kn s q.1 q.2.1 q.2.2 cC iS := by
    intro c
    match c with
    | 0 =>
      obtain ⟨cC, iS, h⟩ := u_known (C := RX0) (T := TX0) (N := 2) (n := 2) hg iw_X0 (hg _ im_X0)
      exact ⟨cC, iS, fun q hq => by cases hq; exact h⟩
    | 1 =>
      obtain ⟨cC, iS, h⟩ := u_known (C := RX1) (T := TX1) (N := 3) (n := 3) hg iw_X1 (hg _ im_X1)
      exact ⟨cC, iS, fun q hq => by cases hq; exact h⟩
    | 2 =>
      obtain ⟨cC, iS, h⟩ := u_known (C := RX2) (T := TX2) (N := 3) (n := 3) hg iw_X2 (hg _ im_X2)
      exact ⟨cC, iS, fun q hq => by cases hq; exact h⟩
    | 3 =>
      obtain ⟨cC, iS, h⟩ := u_known (C := RX3) (T := TX3) (N := 4) (n := 4) hg iw_X3 (hg _ im_X3)
      exact ⟨cC, iS, fun q hq => by cases hq; exact h⟩
    | 4 =>
      obtain ⟨cC, iS, h⟩ := u_known (C := RX4) (T := TX4) (N := 9) (n := 9) hg iw_X4 (hg _ im_X4)
      exact ⟨cC, iS, fun q hq => by cases hq; exact h⟩
    | 5 =>
      obtain ⟨cC, iS, h⟩ := u_known (C := RX5) (T := TX5) (N := 10) (n := 10) hg iw_X5 (hg _ im_X5)
      exact ⟨cC, iS, fun q hq => by cases hq; exact h⟩
    | 6 =>
      obtain ⟨cC, iS, h⟩ := u_known (C := RX6) (T := TX6) (N := 8) (n := 8) hg iw_X6 (hg _ im_X6)
      exact ⟨cC, iS, fun q hq => by cases hq; exact h⟩
    | 7 =>
      obtain ⟨cC, iS, h⟩ := u_known (C := RX7) (T := TX7) (N := 25) (n := 25) hg iw_X7 (hg _ im_X7)
      exact ⟨cC, iS, fun q hq => by cases hq; exact h⟩
    | j + 8 =>
      obtain ⟨cC, iS, h⟩ := u_known (C := RX0) (T := TX0) (N := 2) (n := 2) hg iw_X0 (hg _ im_X0)
      refine ⟨cC, iS, fun q hq => ?_⟩
      rw [List.getElem?_eq_none (by show 8 ≤ j + 8; omega)] at hq
      cases hq
  obtain ⟨cI, kI, oI', fI, eI, dI⟩ := Cond.arrayClass_spec (hg _ wrd_i)
  obtain ⟨cZ, kZ, oZ, fZ, eZ, dZ⟩ := Cond.arrayClass_spec (hg _ wrd_z)
  have hoR : (Cond.arrayOver (.object "DreamGraves$Row")).before #[Value.ref b] s = true := hts _ (tb1 (List.mem_of_getElem? (i := 21) rfl))
  have hoY : (Cond.arrayOver (.object "DreamGraves$Yard")).before #[Value.ref b] s = true := hts _ (tb1 (List.mem_of_getElem? (i := 126) rfl))
  obtain ⟨oR, cR, kR, f1R, f2R, f3R, f4R, f5R⟩ := Cond.arrayOver_spec hoR
  obtain ⟨oY, cY, kY, f1Y, f2Y, f3Y, f4Y, f5Y⟩ := Cond.arrayOver_spec hoY
  have hA : ∀ a : Nat, a < s.heap.size → ¬ (fun q => s.heap.size ≤ q) a := fun a h1 h2 => absurd h1 (Nat.not_lt.mpr h2)
  obtain ⟨tS, eS, TS⟩ := va_Tof (tm := (.static "DreamGraves$Asker" "SIZE_BODIES" "[I")) (ty := .int) (N := 6) (f := qtS) (A := fun q => s.heap.size ≤ q) (by decide) (hgv (Cond.arrayOf (.static "DreamGraves$Asker" "SIZE_BODIES" "[I") .int) (by decide +kernel)) (va_eqt (hgv (Cond.eq (.length (.static "DreamGraves$Asker" "SIZE_BODIES" "[I")) (.int 6)) (by decide +kernel))) (fun j hj => by
    match j, hj with
    | 0, _ => exact va_eqt (hgv (Cond.eq (.elem (.static "DreamGraves$Asker" "SIZE_BODIES" "[I") (.int 0)) (.int 10)) (by decide +kernel))
    | 1, _ => exact va_eqt (hgv (Cond.eq (.elem (.static "DreamGraves$Asker" "SIZE_BODIES" "[I") (.int 1)) (.int 11)) (by decide +kernel))
    | 2, _ => exact va_eqt (hgv (Cond.eq (.elem (.static "DreamGraves$Asker" "SIZE_BODIES" "[I") (.int 2)) (.int 12)) (by decide +kernel))
    | 3, _ => exact va_eqt (hgv (Cond.eq (.elem (.static "DreamGraves$Asker" "SIZE_BODIES" "[I") (.int 3)) (.int 11)) (by decide +kernel))
    | 4, _ => exact va_eqt (hgv (Cond.eq (.elem (.static "DreamGraves$Asker" "SIZE_BODIES" "[I") (.int 4)) (.int 13)) (by decide +kernel))
    | 5, _ => exact va_eqt (hgv (Cond.eq (.elem (.static "DreamGraves$Asker" "SIZE_BODIES" "[I") (.int 5)) (.int 14)) (by decide +kernel))
    ) hA
  obtain ⟨tM, eM, TM⟩ := va_Tof (tm := (.static "DreamGraves$Asker" "MARK_BODIES" "[I")) (ty := .int) (N := 6) (f := qtM) (A := fun q => s.heap.size ≤ q) (by decide) (hgv (Cond.arrayOf (.static "DreamGraves$Asker" "MARK_BODIES" "[I") .int) (by decide +kernel)) (va_eqt (hgv (Cond.eq (.length (.static "DreamGraves$Asker" "MARK_BODIES" "[I")) (.int 6)) (by decide +kernel))) (fun j hj => by
    match j, hj with
    | 0, _ => exact va_eqt (hgv (Cond.eq (.elem (.static "DreamGraves$Asker" "MARK_BODIES" "[I") (.int 0)) (.int 20)) (by decide +kernel))
    | 1, _ => exact va_eqt (hgv (Cond.eq (.elem (.static "DreamGraves$Asker" "MARK_BODIES" "[I") (.int 1)) (.int 21)) (by decide +kernel))
    | 2, _ => exact va_eqt (hgv (Cond.eq (.elem (.static "DreamGraves$Asker" "MARK_BODIES" "[I") (.int 2)) (.int 24)) (by decide +kernel))
    | 3, _ => exact va_eqt (hgv (Cond.eq (.elem (.static "DreamGraves$Asker" "MARK_BODIES" "[I") (.int 3)) (.int 22)) (by decide +kernel))
    | 4, _ => exact va_eqt (hgv (Cond.eq (.elem (.static "DreamGraves$Asker" "MARK_BODIES" "[I") (.int 4)) (.int 23)) (by decide +kernel))
    | 5, _ => exact va_eqt (hgv (Cond.eq (.elem (.static "DreamGraves$Asker" "MARK_BODIES" "[I") (.int 5)) (.int 23)) (by decide +kernel))
    ) hA
  refine ⟨((fun c => (hk c).choose, fun c => (hk c).choose_spec.choose), fun k => if k = 0 then cI else if k = 1 then cZ else if k = 2 then cR else if k = 3 then cY else if k = 4 then s.heap.size else if k = 5 then tS else tM), rfl, ⟨fun c q hq => (hk c).choose_spec.choose_spec q hq, fun k q hq => ?_⟩, fun w hw => ?_, va_AO.of hoR, va_AO.of hoY, va_Zref (hts _ (tb3 (List.mem_of_getElem? (i := 191) rfl))) (hg _ it_X0) eS hA, TS, va_Zref (hts _ (tb3 (List.mem_of_getElem? (i := 209) rfl))) (hg _ it_X0) eM hA, TM⟩
  · match k with
    | 0 => cases hq; exact ⟨fun n z => ⟨fun k h => (by cases h), kI, eI, oI', dI⟩, fI⟩
    | 1 => cases hq; exact ⟨fun n z => ⟨fun k h => (by cases h), kZ, eZ, oZ, dZ⟩, fZ⟩
    | 2 => cases hq; exact ⟨fun n z => ⟨fun k h => (by cases h), kR, f3R, oR, f4R⟩, kR, oR, f3R, f4R, f1R, f5R⟩
    | 3 => cases hq; exact ⟨fun n z => ⟨fun k h => (by cases h), kY, f3Y, oY, f4Y⟩, kY, oY, f3Y, f4Y, f1Y, f5Y⟩
    | j + 4 =>
      rw [List.getElem?_eq_none (by show 4 ≤ j + 4; omega)] at hq
      cases hq
  · obtain ⟨a, i, x, hh, rfl⟩ := qNl_form w hw
    exact va_Nw.of rfl (hts _ (tb9 (List.mem_filter.mp hw).1))
