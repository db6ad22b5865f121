theorem R5.up {ln rz : Nat → Int32} {it : Nat → Nat → Int32} {la : Nat → Nat} {sz its : Nat → Int32} (h : R5 ln rz it la sz its) {q z lq : Nat} {g : Nat → Int32} {its2 : Nat → Int32} (hz : z ≤ 40) (hl : lq < 3) (hg : ∀ k, k < 40 → g k = its2 (40 * q + k)) (ho : ∀ j, j < 40 * q ∨ 40 * q + 40 ≤ j → its2 j = its j) {sz2 : Nat → Int32} (hs2 : ∀ r, r < 8 → sz2 r = upd sz q (nI z) r) {la2 : Nat → Nat} (hl2 : ∀ r, r < 8 → la2 r = va_up la q lq r) : R5 (va_up ln q (nI lq)) (va_up rz q (nI z)) (va_up it q g) la2 sz2 its2 := by
  intro r hr
  rw [hs2 r hr, hl2 r hr]
  by_cases e : r = q
  · subst e
    rw [up_eq, up_eq, up_eq, up_eq]
    refine Or.inr ⟨z, hz, hl, rfl, rfl, if_pos rfl, hg⟩
  · rw [upw e, upw e, upw e, upw e, show upd sz q (nI z) r = sz r from if_neg e]
    rcases h r hr with a | ⟨z1, a1, a2, a3, a4, a5, a6⟩
    · exact Or.inl a
    · refine Or.inr ⟨z1, a1, a2, a3, a4, a5, fun k hk => ?_⟩
      rw [ho (40 * r + k) (by omega)]
      exact a6 k hk
theorem R5.dn {ln rz : Nat → Int32} {it : Nat → Nat → Int32} {la : Nat → Nat} {sz its : Nat → Int32} (h : R5 ln rz it la sz its) {q : Nat} {x : Int32} {g : Nat → Int32} : R5 (va_up ln q (-1)) (va_up rz q x) (va_up it q g) la (upd sz q (-1)) its := by
  intro r hr
  by_cases e : r = q
  · subst e
    rw [up_eq]
    exact Or.inl ⟨rfl, if_pos rfl⟩
  · rw [upw e, upw e, upw e, show upd sz q (-1) r = sz r from if_neg e]
    exact h r hr
theorem R5.same {la : Nat → Nat} {sz : Nat → Int32} {q z lq : Nat} (hl : la q = lq) (hz : sz q = nI z) : (∀ r, r < 8 → sz r = upd sz q (nI z) r) ∧ ∀ r, r < 8 → la r = va_up la q lq r := by
  refine ⟨fun r _ => ?_, fun r _ => ?_⟩
  · unfold upd
    split
    · rename_i e; rw [e, hz]
    · rfl
  · unfold va_up
    split
    · rename_i e; rw [e, hl]
    · rfl
theorem Va.kptd {y : Nat → Nat} (h : Va y) {v : Nat} (hv : v < 2 ^ y 0) : Va (va_up y 5 v) := by
  obtain ⟨a0, a1, a2, a3, a5, a6, a7, a8, a9, a10⟩ := h
  have e : ∀ k, k ≠ 5 → va_up y 5 v k = y k := fun k hk => up_ne _ _ hk
  unfold Va
  rw [e 0 (by decide), e 1 (by decide), e 2 (by decide), e 3 (by decide), up_eq]
  refine ⟨a0, a1, a2, a3, hv, fun p hp => ?_, fun p hp => ?_, fun p hp => ?_, fun p g hp hg => ?_, fun k hk => ?_⟩
  · rw [e (6 + p) (by omega)]; exact a6 p hp
  · rw [e (11 + p) (by omega)]; exact a7 p hp
  · rw [e (16 + p) (by omega)]; exact a8 p hp
  · unfold me
    rw [e _ (by omega)]
    exact a9 p g hp hg
  · rw [e k (by omega)]; exact a10 k hk
section
variable {l : Launch} {G : qG} {h h1 : List va_E} {i : Nat → Nat} {A : Nat → Nat → Nat} {B : Nat → Nat → Int32} {fin : Nat} {n : Nat} {lf : Nat} {b : Nat → Nat} {y : Nat → Nat} {sz : Nat} {old : Nat} {w : Nat → Nat → Nat} {c : Nat} {f : Nat → Nat} {ln : Nat → Int32} {rz : Nat → Int32} {it : Nat → Nat → Int32} {im : Nat → Nat → Nat}
theorem pr_row (V : Inv G h i A B) {x1 x2 x3 : Int32} : Pr l G yX6_row yX7_row [.int x1, .int x2, .int x3] h := by
  obtain ⟨old, w, ln, rz, it, im, I, r1, r2, r2x, r3, r4, r5, r6, r7⟩ := id V
  obtain ⟨b3, b0, b5, b4, bf⟩ := r2.b
  by_cases hx : isx x1 8
  case neg => exact Pr.same (Nat.le_of_ble_eq_true rfl) (Nat.le_of_ble_eq_true rfl) V (c_X6_rowB I (Or.inl hx)) (fun U hU => c_X7_rowB hU (Or.inl hx))
  by_cases hx2 : isx x2 3
  case neg => exact Pr.same (Nat.le_of_ble_eq_true rfl) (Nat.le_of_ble_eq_true rfl) V (c_X6_rowB I (Or.inr (Or.inl hx2))) (fun U hU => c_X7_rowB hU (Or.inr (Or.inl hx2)))
  by_cases hw : nI 40 < x3
  case pos => exact Pr.same (Nat.le_of_ble_eq_true rfl) (Nat.le_of_ble_eq_true rfl) V (c_X6_rowB I (Or.inr (Or.inr hw))) (fun U hU => c_X7_rowB hU (Or.inr (Or.inr hw)))
  obtain ⟨q, hq, rfl⟩ := isx_of (by decide) hx
  obtain ⟨la, hla, rfl⟩ := isx_of (by decide) hx2
  by_cases hz : x3 < 0
  · exact Pr.mk' (Nat.le_of_ble_eq_true rfl) (Nat.le_of_ble_eq_true rfl) (I.f0) (c_X6_rowZ I hq hla hz) (fun U hU => c_X7_rowZ hU hq hla hz) (fun h2 J => ⟨old, w, ln, rz, it, im, J, r1, r2, r2x, r3, r4, r5, r6, r7⟩)
  have hxx : isx x3 41 := ⟨Int32.not_lt.mp hz, (ileS (by decide)).mp (Int32.not_lt.mp hw)⟩
  obtain ⟨n1, hn, rfl⟩ := isx_of (by decide) hxx
  have r5' := r5.up (q := q) (z := n1) (lq := la) (g := fun _ => 0) (its2 := va_cpy (fun _ => (0 : Int32)) (B 2) 0 (40 * q) 40) (by omega) hla (fun k hk => by rw [cpy_in (by omega) (by omega)]) (fun j hj => cpy_out (by omega)) (sz2 := upd (B 1) q (nI n1)) (fun r _ => rfl) (la2 := va_up (A 0) q la) (fun r _ => rfl)
  exact Pr.mk' (Nat.le_of_ble_eq_true rfl) (Nat.le_of_ble_eq_true rfl) ((I.rca hq).f0) (c_X6_row I hq hla (by omega)) (fun U hU => c_X7_row hU hq hla (by omega)) (fun h2 J => ⟨old, w, _, _, _, im, J, r1, r2, r2x, r3, r4, r5', r6, r7⟩)
theorem pr_set (V : Inv G h i A B) {x1 x2 x3 : Int32} : Pr l G yX6_set yX7_set [.int x1, .int x2, .int x3] h := by
  obtain ⟨old, w, ln, rz, it, im, I, r1, r2, r2x, r3, r4, r5, r6, r7⟩ := id V
  obtain ⟨b3, b0, b5, b4, bf⟩ := r2.b
  by_cases hx : isx x1 8
  case neg => exact Pr.same (Nat.le_of_ble_eq_true rfl) (Nat.le_of_ble_eq_true rfl) V (c_X6_setB I hx) (fun U hU => c_X7_setB hU hx)
  obtain ⟨q, hq, rfl⟩ := isx_of (by decide) hx
  rcases r5 q hq with ⟨hl, hz⟩ | ⟨z, hz40, hla, hl, hrz, hz, hit⟩
  · exact Pr.mk' (Nat.le_of_ble_eq_true rfl) (Nat.le_of_ble_eq_true rfl) (I.f0) (c_X6_setN I hq hl) (fun U hU => c_X7_setN hU hq hz) (fun h2 J => ⟨old, w, ln, rz, it, im, J, r1, r2, r2x, r3, r4, r5, r6, r7⟩)
  by_cases hw : isx x2 z
  case neg => exact Pr.mk' (Nat.le_of_ble_eq_true rfl) (Nat.le_of_ble_eq_true rfl) (I.f0) (c_X6_setP I hq hla hz40 hl hrz hw) (fun U hU => c_X7_setP hU hq hz hz40 hw) (fun h2 J => ⟨old, w, ln, rz, it, im, J, r1, r2, r2x, r3, r4, r5, r6, r7⟩)
  obtain ⟨o, ho, rfl⟩ := isx_of (by omega) hw
  have hsm := R5.same (la := A 0) (sz := B 1) (q := q) rfl hz
  have r5' := r5.up (q := q) (z := z) (lq := A 0 q) (g := upd (it q) o (lnI (A 0 q) x3)) (its2 := upd (B 2) (40 * q + o) (lnI (A 0 q) x3)) hz40 hla (fun k hk => by
    unfold upd
    by_cases e : k = o
    · rw [if_pos e, if_pos (by omega)]
    · rw [if_neg e, if_neg (by omega)]
      exact hit k hk) (fun j hj => if_neg (by omega)) (sz2 := B 1) hsm.1 (la2 := A 0) hsm.2
  exact Pr.mk' (Nat.le_of_ble_eq_true rfl) (Nat.le_of_ble_eq_true rfl) ((I.rca hq).f0) (c_X6_set I hq hla hz40 hl hrz ho) (fun U hU => c_X7_set hU hq hz hz40 ho hla) (fun h2 J => ⟨old, w, _, _, _, im, J, r1, r2, r2x, r3, r4, r5', r6, r7⟩)
theorem pr_drop (V : Inv G h i A B) {x1 : Int32} : Pr l G yX6_drop yX7_drop [.int x1] h := by
  obtain ⟨old, w, ln, rz, it, im, I, r1, r2, r2x, r3, r4, r5, r6, r7⟩ := id V
  obtain ⟨b3, b0, b5, b4, bf⟩ := r2.b
  by_cases hx : isx x1 8
  case neg => exact Pr.same (Nat.le_of_ble_eq_true rfl) (Nat.le_of_ble_eq_true rfl) V (c_X6_dropB I hx) (fun U hU => c_X7_dropB hU hx)
  obtain ⟨q, hq, rfl⟩ := isx_of (by decide) hx
  rcases r5 q hq with ⟨hl, hz⟩ | ⟨z, hz40, hla, hl, hrz, hz, hit⟩
  · exact Pr.mk' (Nat.le_of_ble_eq_true rfl) (Nat.le_of_ble_eq_true rfl) (I.f0) (c_X6_dropN I hq hl) (fun U hU => c_X7_dropN hU hq hz) (fun h2 J => ⟨old, w, ln, rz, it, im, J, r1, r2, r2x, r3, r4, r5, r6, r7⟩)
  exact Pr.mk' (Nat.le_of_ble_eq_true rfl) (Nat.le_of_ble_eq_true rfl) ((I.rca hq).f0) (c_X6_drop I hq hla hz40 hl hrz) (fun U hU => c_X7_drop hU hq hz hz40) (fun h2 J => ⟨old, w, _, _, _, im, J, r1, r2, r2x, r3, r4, r5.dn, r6, r7⟩)
theorem pr_copy (V : Inv G h i A B) {x1 x2 x3 x4 x5 : Int32} : Pr l G yX6_copy yX7_copy [.int x1, .int x2, .int x3, .int x4, .int x5] h := by
  obtain ⟨old, w, ln, rz, it, im, I, r1, r2, r2x, r3, r4, r5, r6, r7⟩ := id V
  obtain ⟨b3, b0, b5, b4, bf⟩ := r2.b
  by_cases hx : isx x1 8
  case neg => exact Pr.same (Nat.le_of_ble_eq_true rfl) (Nat.le_of_ble_eq_true rfl) V (c_X6_copyB I (Or.inl hx)) (fun U hU => c_X7_copyB hU (Or.inl hx))
  by_cases hx3 : isx x3 8
  case neg => exact Pr.same (Nat.le_of_ble_eq_true rfl) (Nat.le_of_ble_eq_true rfl) V (c_X6_copyB I (Or.inr hx3)) (fun U hU => c_X7_copyB hU (Or.inr hx3))
  obtain ⟨qa, hqa, rfl⟩ := isx_of (by decide) hx
  obtain ⟨qb, hqb, rfl⟩ := isx_of (by decide) hx3
  rcases r5 qa hqa with ⟨hl, hz⟩ | ⟨za, hza40, hla, hl, hrz, hz, hit⟩
  · exact Pr.mk' (Nat.le_of_ble_eq_true rfl) (Nat.le_of_ble_eq_true rfl) (I.f0) (c_X6_copyN1 I hqa hqb hl) (fun U hU => c_X7_copyN1 hU hqa hqb hz) (fun h2 J => ⟨old, w, ln, rz, it, im, J, r1, r2, r2x, r3, r4, r5, r6, r7⟩)
  rcases r5 qb hqb with ⟨hl2, hz2⟩ | ⟨zb, hzb40, hlb, hl2, hrz2, hz2, hit2⟩
  · exact Pr.mk' (Nat.le_of_ble_eq_true rfl) (Nat.le_of_ble_eq_true rfl) (I.f0) (c_X6_copyN2 I hqa hqb hla hza40 hl hrz hl2) (fun U hU => c_X7_copyN2 hU hqa hqb hz hza40 hz2) (fun h2 J => ⟨old, w, ln, rz, it, im, J, r1, r2, r2x, r3, r4, r5, r6, r7⟩)
  by_cases hd : A 0 qa = A 0 qb
  case neg => exact Pr.mk' (Nat.le_of_ble_eq_true rfl) (Nat.le_of_ble_eq_true rfl) (I.f0) (c_X6_copyS I hqa hqb hla hza40 hl hrz hlb hzb40 hl2 hrz2 hd) (fun U hU => c_X7_copyS hU hqa hqb hz hza40 hz2 hzb40 hla hlb hd) (fun h2 J => ⟨old, w, ln, rz, it, im, J, r1, r2, r2x, r3, r4, r5, r6, r7⟩)
  by_cases hp : hld x2 x5 za ∧ hld x4 x5 zb
  case neg => exact Pr.mk' (Nat.le_of_ble_eq_true rfl) (Nat.le_of_ble_eq_true rfl) (I.f0) (c_X6_copyP I hqa hqb hla hza40 hl hrz hlb hzb40 hl2 hrz2 hd hp) (fun U hU => c_X7_copyP hU hqa hqb hz hza40 hz2 hzb40 hla hlb hd hp) (fun h2 J => ⟨old, w, ln, rz, it, im, J, r1, r2, r2x, r3, r4, r5, r6, r7⟩)
  obtain ⟨o, n1, rfl, rfl, ho1⟩ := hld_of hza40 hp.1
  obtain ⟨q, n2, rfl, hn2, ho2⟩ := hld_of hzb40 hp.2
  have hnn : n1 = n2 := (n_eq (by omega) (by omega)).mp hn2
  subst hnn
  have hsm := R5.same (la := A 0) (sz := B 1) (q := qb) rfl hz2
  have r5' := r5.up (q := qb) (z := zb) (lq := A 0 qb) (g := va_cpy (it qa) (it qb) o q n1) (its2 := va_cpy (B 2) (B 2) (40 * qa + o) (40 * qb + q) n1) hzb40 hlb (fun k hk => by
    by_cases e : q ≤ k ∧ k < q + n1
    · rw [cpy_in e.1 e.2, cpy_in (by omega) (by omega), hit _ (by omega)]
      exact congrArg (B 2) (by omega)
    · rw [cpy_out (by omega), cpy_out (by omega)]
      exact hit2 k hk) (fun j hj => cpy_out (by omega)) (sz2 := B 1) hsm.1 (la2 := A 0) hsm.2
  exact Pr.mk' (Nat.le_of_ble_eq_true rfl) (Nat.le_of_ble_eq_true rfl) ((I.rca hqb).f0) (c_X6_copy I hqa hqb hla hza40 hl hrz hlb hzb40 hl2 hrz2 hd ho1 ho2) (fun U hU => c_X7_copy hU hqa hqb hz hza40 hz2 hzb40 hla hlb hd ho1 ho2) (fun h2 J => ⟨old, w, _, _, _, im, J, r1, r2, r2x, r3, r4, r5', r6, r7⟩)
theorem pr_feed (V : Inv G h i A B) {x1 : Int32} : Pr l G yX6_feed yX7_feed [.int x1] h := by
  obtain ⟨old, w, ln, rz, it, im, I, r1, r2, r2x, r3, r4, r5, r6, r7⟩ := id V
  obtain ⟨b3, b0, b5, b4, bf⟩ := r2.b
  by_cases hx : isx x1 256
  case neg => exact Pr.same (Nat.le_of_ble_eq_true rfl) (Nat.le_of_ble_eq_true rfl) V (c_X6_feedB I hx) (fun U hU => c_X7_feedB hU hx)
  obtain ⟨q, hq, rfl⟩ := isx_of (by decide) hx
  obtain ⟨e120, eb⟩ := id r1
  by_cases hf : i 8 = 120
  case pos => exact Pr.same (Nat.le_of_ble_eq_true rfl) (Nat.le_of_ble_eq_true rfl) V (c_X6_feedF I hq hf) (fun U hU => c_X7_feedF hU hq hf)
  obtain ⟨ts, te, tv, tx, tok, hc⟩ := c_X6_feed (l := l) I hq (by omega)
  have r1' : R1 (i 8 + 1) (va_up (A 7) (i 8) q) := ⟨by omega, fun k => by
    unfold va_up
    split
    · exact hq
    · exact eb k⟩
  exact Pr.mk' (Nat.le_of_ble_eq_true rfl) (Nat.le_of_ble_eq_true rfl) (I.xca) (hc) (fun U hU => c_X7_feed hU hq (by omega)) (fun h2 J => ⟨old, w, ln, rz, it, im, J, r1', r2, r2x, r3, r4, r5, r6, r7⟩)
theorem pr_undo (V : Inv G h i A B) : Pr l G yX6_undo yX7_undo [] h := by
  obtain ⟨old, w, ln, rz, it, im, I, r1, r2, r2x, r3, r4, r5, r6, r7⟩ := id V
  obtain ⟨b3, b0, b5, b4, bf⟩ := r2.b
  by_cases hz : i 17 = 0
  · exact Pr.same (Nat.le_of_ble_eq_true rfl) (Nat.le_of_ble_eq_true rfl) V (c_X6_undo0 I hz) (fun U hU => c_X7_undo0 hU hz)
  obtain ⟨a1, a2, a3, a4⟩ := id r3
  have t4 : i 4 = 1 := by
    rcases r2 with ⟨t4, _⟩ | ⟨t4, _⟩
    · exact absurd (r2x t4).1 hz
    · exact t4
  obtain ⟨q1, q2, q3⟩ := a4 (i 17 - 1) (by omega)
  have ey : ∀ k, w ((old + (i 17 - 1)) % 24) k = va_cpy (A 16) (A 5) (51 * (i 17 - 1)) 0 51 k := by
    intro k
    by_cases c : k < 51
    · rw [q3 k c, cpy_in (by omega) (by omega)]
      exact congrArg (A 16) (by omega)
    · rw [cpy_out (by omega), bf k (by omega), q1.far k (by omega)]
  have ef : w ((old + (i 17 - 1)) % 24) = va_cpy (A 16) (A 5) (51 * (i 17 - 1)) 0 51 := funext ey
  have hc := c_X6_undo (l := l) I (fun i hi k hk => (a3 i hi k hk).1) (fun i hi k hk => (a3 i hi k hk).2) a2 (by omega) a1
  have I1 := (I.p10 (z := i 17 - 1) (z1 := old)).y7 (z := w ((old + (i 17 - 1)) % 24))
  rw [ef] at hc I1 q1 q2
  exact Pr.mk' (Nat.le_of_ble_eq_true rfl) (Nat.le_of_ble_eq_true rfl) (I1) (hc) (fun U hU => c_X7_undo hU (by omega) a1) (fun h2 J => ⟨old, w, ln, rz, it, im, J, r1, Or.inr ⟨t4, q1, q2⟩, fun z => absurd (z.symm.trans t4) (by decide), ⟨by show i 17 - 1 ≤ 24; omega, a2, a3, fun k hk => a4 k (by have : k < i 17 - 1 := hk; omega)⟩, r4, r5, r6, r7⟩)
theorem pr_years (V : Inv G h i A B) {x1 : Int32} : Pr l G yX6_years yX7_years [.int x1] h := by
  obtain ⟨old, w, ln, rz, it, im, I, r1, r2, r2x, r3, r4, r5, r6, r7⟩ := id V
  obtain ⟨b3, b0, b5, b4, bf⟩ := r2.b
  rcases r2 with ⟨t4, hzz⟩ | ⟨t4, hV, h4⟩
  · exact Pr.same (Nat.le_of_ble_eq_true rfl) (Nat.le_of_ble_eq_true rfl) V (c_X6_yearsS I (hzz 0)) (fun U hU => c_X7_yearsS hU t4)
  have h01 := hV.1.1
  by_cases hx : inr x1 1 24
  case neg => exact Pr.same (Nat.le_of_ble_eq_true rfl) (Nat.le_of_ble_eq_true rfl) V (c_X6_yearsB I h01 b0 hx) (fun U hU => c_X7_yearsB hU t4 hx)
  obtain ⟨n1, hn0, hn, rfl⟩ := inr_of (by decide) (by decide) hx
  by_cases hf : 999 < A 5 4 + n1
  case pos => exact Pr.same (Nat.le_of_ble_eq_true rfl) (Nat.le_of_ble_eq_true rfl) V (c_X6_yearsF I hV h4 hn0 hn hf) (fun U hU => c_X7_yearsF hU t4 hn0 hn (by omega) hf)
  obtain ⟨h', old', w', J, r3', hV', h4', hc⟩ := c_X6_years (l := l) hn0 hn I r3 hV (by omega)
  have e : ∀ m, ∀ i : Nat → Nat, (∀ k, k ≠ 17 → yI i m k = i k) := by
    intro m
    induction m with
    | zero => intro i k _; rfl
    | succ m ih =>
      intro i k hk
      show yI (ntI i) m k = _
      rw [ih _ k hk]
      exact up_ne _ _ hk
  have eA : ∀ m, ∀ (i : Nat → Nat) (A : Nat → Nat → Nat), (∀ k, k ≠ 16 → k ≠ 5 → yA i A m k = A k) := by
    intro m
    induction m with
    | zero => intro i A k _ _; rfl
    | succ m ih =>
      intro i A k h16 h5
      show yA (ntI i) _ m k = _
      rw [ih _ _ k h16 h5, up_ne _ _ h5, up_ne _ _ h16]
  have t4' : yI i n1 4 = 1 := (e n1 i 4 (by decide)).trans t4
  exact Pr.mk' (Nat.le_of_ble_eq_true rfl) (Nat.le_of_ble_eq_true rfl) (J) (hc) (fun U hU => c_X7_years hU t4 hn0 hn hV (by omega) r3.1) (fun h2 J => ⟨old', w', ln, rz, it, im, J, (by rw [e n1 i 8 (by decide), eA n1 i A 7 (by decide) (by decide)]; exact r1), Or.inr ⟨t4', hV', h4'⟩, fun z => absurd (z.symm.trans t4') (by decide), r3', (by rw [e n1 i 24 (by decide)]; exact r4), (by rw [eA n1 i A 0 (by decide) (by decide)]; exact r5), (by rw [eA n1 i A 21 (by decide) (by decide), eA n1 i A 22 (by decide) (by decide)]; exact r6), (by rw [e n1 i 20 (by decide), eA n1 i A 19 (by decide) (by decide)]; exact r7)⟩)
theorem pr_supper (V : Inv G h i A B) {x1 : Int32} : Pr l G yX6_supper yX7_supper [.int x1] h := by
  obtain ⟨old, w, ln, rz, it, im, I, r1, r2, r2x, r3, r4, r5, r6, r7⟩ := id V
  obtain ⟨b3, b0, b5, b4, bf⟩ := r2.b
  by_cases hx : isx x1 (A 5 3)
  case neg => exact Pr.same (Nat.le_of_ble_eq_true rfl) (Nat.le_of_ble_eq_true rfl) V (c_X6_supperB I b3 hx) (fun U hU => c_X7_supperB hU b3 hx)
  obtain ⟨s, hs1, rfl⟩ := isx_of (by omega) hx
  obtain ⟨t4, hV, h4⟩ := r2.s hs1
  have hle := hV.sup s (by omega)
  by_cases hz : A 5 (11 + s) = 1
  case pos => exact Pr.same (Nat.le_of_ble_eq_true rfl) (Nat.le_of_ble_eq_true rfl) V (c_X6_supperS I hV hs1 hz) (fun U hU => c_X7_supperS hU b3 hs1 hz)
  have hz0 : A 5 (11 + s) = 0 := by omega
  have ef : sS (A 5) 11 (sb (A 5) 11 ||| 2 ^ s) = va_up (A 5) (11 + s) 1 := funext (sS_up hV.sup (by omega) hz0)
  have hc := c_X6_supper (l := l) I hV h4 r3.2.1 r3.1 hs1 hz0
  have I1 := I.kp.y7 (z := sS (A 5) 11 (sb (A 5) 11 ||| 2 ^ s))
  have es : spn (va_up (A 5) (11 + s) 1) (A 5 3) = sb (A 5) 11 ||| 2 ^ s := by
    have h := spn_sb (hV.sup1 hs1)
    rw [up_ne _ _ (by omega)] at h
    rw [h, ← ef, sb_sS (Nat.or_lt_two_pow (n := 5) (sb_lt hV.sup) (Nat.pow_lt_pow_right (by decide) (by omega : s < 5)))]
  have hr := fun (U : List va_E) (hU : U.length = 122) => c_X7_supper (l := l) (G := G) (B := B) hU b3 hV r3.1 hs1 hz0
  rw [es] at hr
  rw [ef] at hc I1
  exact Pr.mk' (Nat.le_of_ble_eq_true rfl) (Nat.le_of_ble_eq_true rfl) (I1) (hc) (fun U hU => hr U hU) (fun h2 J => ⟨_, _, ln, rz, it, im, J, r1, Or.inr ⟨t4, hV.sup1 hs1, by show va_up (A 5) (11 + s) 1 4 ≤ 999; rw [up_ne _ _ (by omega)]; exact h4⟩, fun z => absurd (z.symm.trans t4) (by decide), r3.kp hV h4, r4, r5, r6, r7⟩)
theorem pr_fever (V : Inv G h i A B) {x1 : Int32} : Pr l G yX6_fever yX7_fever [.int x1] h := by
  obtain ⟨old, w, ln, rz, it, im, I, r1, r2, r2x, r3, r4, r5, r6, r7⟩ := id V
  obtain ⟨b3, b0, b5, b4, bf⟩ := r2.b
  by_cases hx : isx x1 (A 5 3)
  case neg => exact Pr.same (Nat.le_of_ble_eq_true rfl) (Nat.le_of_ble_eq_true rfl) V (c_X6_feverB I b3 hx) (fun U hU => c_X7_feverB hU b3 hx)
  obtain ⟨s, hs1, rfl⟩ := isx_of (by omega) hx
  obtain ⟨t4, hV, h4⟩ := r2.s hs1
  have hle := hV.fev s (by omega)
  by_cases hz : A 5 (16 + s) = 1
  case pos => exact Pr.same (Nat.le_of_ble_eq_true rfl) (Nat.le_of_ble_eq_true rfl) V (c_X6_feverS I hV hs1 hz) (fun U hU => c_X7_feverS hU b3 hs1 hz)
  have hz0 : A 5 (16 + s) = 0 := by omega
  have ef : sS (A 5) 16 (sb (A 5) 16 ||| 2 ^ s) = va_up (A 5) (16 + s) 1 := funext (sS_up hV.fev (by omega) hz0)
  have hc := c_X6_fever (l := l) I hV h4 r3.2.1 r3.1 hs1 hz0
  have I1 := I.kp.y7 (z := sS (A 5) 16 (sb (A 5) 16 ||| 2 ^ s))
  rw [ef] at hc I1
  exact Pr.mk' (Nat.le_of_ble_eq_true rfl) (Nat.le_of_ble_eq_true rfl) (I1) (hc) (fun U hU => c_X7_fever hU hV (by omega) r3.1 hs1 hz0) (fun h2 J => ⟨_, _, ln, rz, it, im, J, r1, Or.inr ⟨t4, hV.fev1 hs1, by show va_up (A 5) (16 + s) 1 4 ≤ 999; rw [up_ne _ _ (by omega)]; exact h4⟩, fun z => absurd (z.symm.trans t4) (by decide), r3.kp hV h4, r4, r5, r6, r7⟩)
theorem pr_tell (V : Inv G h i A B) {x1 x2 : Int32} : Pr l G yX6_tell yX7_tell [.int x1, .int x2] h := by
  obtain ⟨old, w, ln, rz, it, im, I, r1, r2, r2x, r3, r4, r5, r6, r7⟩ := id V
  obtain ⟨b3, b0, b5, b4, bf⟩ := r2.b
  by_cases hx : isx x1 (A 5 3)
  case neg => exact Pr.same (Nat.le_of_ble_eq_true rfl) (Nat.le_of_ble_eq_true rfl) V (c_X6_tellB I b3 b0 (Or.inl hx)) (fun U hU => c_X7_tellB hU b3 b0 (Or.inl hx))
  by_cases hw : isx x2 (A 5 0)
  case neg => exact Pr.same (Nat.le_of_ble_eq_true rfl) (Nat.le_of_ble_eq_true rfl) V (c_X6_tellB I b3 b0 (Or.inr hw)) (fun U hU => c_X7_tellB hU b3 b0 (Or.inr hw))
  obtain ⟨s, hs1, rfl⟩ := isx_of (by omega) hx
  obtain ⟨t4, hV, h4⟩ := r2.s hs1
  obtain ⟨g, hg1, rfl⟩ := isx_of (by omega) hw
  by_cases hz : hs (A 5 5) g
  case neg => exact Pr.same (Nat.le_of_ble_eq_true rfl) (Nat.le_of_ble_eq_true rfl) V (c_X6_tellS I hV hs1 hg1 hz) (fun U hU => c_X7_tellS hU b3 b0 b5 hs1 hg1 hz)
  exact Pr.mk' (Nat.le_of_ble_eq_true rfl) (Nat.le_of_ble_eq_true rfl) (I.kp.y7) (c_X6_tell I hV h4 r3.2.1 r3.1 hs1 hg1 hz) (fun U hU => c_X7_tell hU b3 b0 b5 r3.1 hs1 hg1 hz) (fun h2 J => ⟨_, _, ln, rz, it, im, J, r1, Or.inr ⟨t4, hV.memd hs1 hg1 (by decide), by show va_up (A 5) (21 + 6 * s + g) 27 4 ≤ 999; rw [up_ne _ _ (by omega)]; exact h4⟩, fun z => absurd (z.symm.trans t4) (by decide), r3.kp hV h4, r4, r5, r6, r7⟩)
theorem pr_bury (V : Inv G h i A B) {x1 x2 : Int32} : Pr l G yX6_bury yX7_bury [.int x1, .int x2] h := by
  obtain ⟨old, w, ln, rz, it, im, I, r1, r2, r2x, r3, r4, r5, r6, r7⟩ := id V
  obtain ⟨b3, b0, b5, b4, bf⟩ := r2.b
  by_cases hw : isx x2 (A 5 3)
  case neg => exact Pr.same (Nat.le_of_ble_eq_true rfl) (Nat.le_of_ble_eq_true rfl) V (c_X6_buryB I b3 b0 (Or.inl hw)) (fun U hU => c_X7_buryB hU b3 b0 (Or.inl hw))
  by_cases hx : isx x1 (A 5 0)
  case neg => exact Pr.same (Nat.le_of_ble_eq_true rfl) (Nat.le_of_ble_eq_true rfl) V (c_X6_buryB I b3 b0 (Or.inr hx)) (fun U hU => c_X7_buryB hU b3 b0 (Or.inr hx))
  obtain ⟨s, hs1, rfl⟩ := isx_of (by omega) hw
  obtain ⟨t4, hV, h4⟩ := r2.s hs1
  obtain ⟨g, hg1, rfl⟩ := isx_of (by omega) hx
  by_cases hz : hs (A 5 5) g
  case pos => exact Pr.same (Nat.le_of_ble_eq_true rfl) (Nat.le_of_ble_eq_true rfl) V (c_X6_buryS I hV hs1 hg1 hz) (fun U hU => c_X7_buryS hU b3 b0 b5 hs1 hg1 hz)
  have hk2 : A 5 5 ||| 2 ^ g < 2 ^ A 5 0 := Nat.or_lt_two_pow hV.2.2.2.2.1 (Nat.pow_lt_pow_right (by decide) hg1)
  have hVb : Va (va_up (A 5) 5 (A 5 5 ||| 2 ^ g)) := hV.kptd hk2
  exact Pr.mk' (Nat.le_of_ble_eq_true rfl) (Nat.le_of_ble_eq_true rfl) (I.kp.y7) (c_X6_bury I hV h4 r3.2.1 r3.1 hs1 hg1 hz) (fun U hU => c_X7_bury hU b3 b0 b5 r3.1 hs1 hg1 hz) (fun h2 J => ⟨_, _, ln, rz, it, im, J, r1, Or.inr ⟨t4, hVb.memd (by rw [up_ne _ _ (by decide)]; exact hs1) (by rw [up_ne _ _ (by decide)]; exact hg1) (by decide), by show va_up (va_up (A 5) 5 _) (21 + 6 * s + g) 27 4 ≤ 999; rw [up_ne _ _ (by omega), up_ne _ _ (by decide)]; exact h4⟩, fun z => absurd (z.symm.trans t4) (by decide), r3.kp hV h4, r4, r5, r6, r7⟩)
theorem pr_who (V : Inv G h i A B) {x1 x2 x3 x4 : Int32} : Pr l G yX6_who yX7_who [.int x1, .int x2, .int x3, .int x4] h := by
  obtain ⟨old, w, ln, rz, it, im, I, r1, r2, r2x, r3, r4, r5, r6, r7⟩ := id V
  obtain ⟨b3, b0, b5, b4, bf⟩ := r2.b
  by_cases hx : isx x1 (A 5 3)
  case neg => exact Pr.same (Nat.le_of_ble_eq_true rfl) (Nat.le_of_ble_eq_true rfl) V (c_X6_whoB I b3 (Or.inl hx)) (fun U hU => c_X7_whoB hU b3 (Or.inl hx))
  by_cases hx2 : isx x2 8
  case neg => exact Pr.same (Nat.le_of_ble_eq_true rfl) (Nat.le_of_ble_eq_true rfl) V (c_X6_whoB I b3 (Or.inr (Or.inl hx2))) (fun U hU => c_X7_whoB hU b3 (Or.inr (Or.inl hx2)))
  by_cases hx4 : inr x4 1 12
  case neg => exact Pr.same (Nat.le_of_ble_eq_true rfl) (Nat.le_of_ble_eq_true rfl) V (c_X6_whoB I b3 (Or.inr (Or.inr hx4))) (fun U hU => c_X7_whoB hU b3 (Or.inr (Or.inr hx4)))
  obtain ⟨s, hs1, rfl⟩ := isx_of (by omega) hx
  obtain ⟨t4, hV, h4⟩ := r2.s hs1
  obtain ⟨q, hq, rfl⟩ := isx_of (by decide) hx2
  obtain ⟨n1, hn0, hn, rfl⟩ := inr_of (by decide) (by decide) hx4
  rcases r5 q hq with ⟨hl, hz⟩ | ⟨z, hz40, hla, hl, hrz, hz, hit⟩
  · exact Pr.mk' (Nat.le_of_ble_eq_true rfl) (Nat.le_of_ble_eq_true rfl) (I.f0) (c_X6_whoN I b3 hs1 hq hn0 hn hl) (fun U hU => c_X7_whoN hU b3 hs1 hq hn0 hn hz) (fun h2 J => ⟨old, w, ln, rz, it, im, J, r1, Or.inr ⟨t4, hV, h4⟩, r2x, r3, r4, r5, r6, r7⟩)
  by_cases hp : plc x3 n1 z
  case neg => exact Pr.mk' (Nat.le_of_ble_eq_true rfl) (Nat.le_of_ble_eq_true rfl) (I.f0) (c_X6_whoP I b3 hs1 hq hn0 hn hla hz40 hl hrz hp) (fun U hU => c_X7_whoP hU b3 hs1 hq hn0 hn hz hz40 hp) (fun h2 J => ⟨old, w, ln, rz, it, im, J, r1, Or.inr ⟨t4, hV, h4⟩, r2x, r3, r4, r5, r6, r7⟩)
  obtain ⟨o, rfl, ho⟩ := plc_of hz40 hp
  obtain ⟨z1, hc⟩ := c_X6_who (l := l) I hV h4 hs1 hq hn0 hn hla hz40 hl hrz ho
  have ew : whoN (it q) o (A 5) s n1 5 = whoN (B 2) (40 * q + o) (A 5) s n1 5 := whoN_c (z := n1) (fun k hk => by
    rw [hit (o + k) (by omega)]
    exact congrArg (B 2) (by omega)) (Nat.le_refl _) _
  rw [ew] at hc
  exact Pr.mk' (Nat.le_of_ble_eq_true rfl) (Nat.le_of_ble_eq_true rfl) (I.y89.f0) (hc) (fun U hU => c_X7_who hU hs1 hq hn0 hn hz hz40 ho hV h4) (fun h2 J => ⟨old, w, ln, rz, it, im, J, r1, Or.inr ⟨t4, hV, h4⟩, r2x, r3, r4, r5, r6, r7⟩)
theorem pr_whispered (V : Inv G h i A B) {x1 x2 x3 x4 : Int32} : Pr l G yX6_whispered yX7_whispered [.int x1, .int x2, .int x3, .int x4] h := by
  obtain ⟨old, w, ln, rz, it, im, I, r1, r2, r2x, r3, r4, r5, r6, r7⟩ := id V
  obtain ⟨b3, b0, b5, b4, bf⟩ := r2.b
  rcases r2 with ⟨t4, hzz⟩ | ⟨t4, hV, h4⟩
  · exact Pr.same (Nat.le_of_ble_eq_true rfl) (Nat.le_of_ble_eq_true rfl) V (c_X6_whisperedS I (hzz 0)) (fun U hU => c_X7_whisperedS hU t4)
  have h01 := hV.1.1
  by_cases hx : isx x1 (A 5 0)
  case neg => exact Pr.same (Nat.le_of_ble_eq_true rfl) (Nat.le_of_ble_eq_true rfl) V (c_X6_whisperedB I h01 b0 (Or.inl hx)) (fun U hU => c_X7_whisperedB hU b0 t4 (Or.inl hx))
  by_cases hx2 : isx x2 8
  case neg => exact Pr.same (Nat.le_of_ble_eq_true rfl) (Nat.le_of_ble_eq_true rfl) V (c_X6_whisperedB I h01 b0 (Or.inr (Or.inl hx2))) (fun U hU => c_X7_whisperedB hU b0 t4 (Or.inr (Or.inl hx2)))
  by_cases hx4 : inr x4 1 6
  case neg => exact Pr.same (Nat.le_of_ble_eq_true rfl) (Nat.le_of_ble_eq_true rfl) V (c_X6_whisperedB I h01 b0 (Or.inr (Or.inr hx4))) (fun U hU => c_X7_whisperedB hU b0 t4 (Or.inr (Or.inr hx4)))
  obtain ⟨s, hs1, rfl⟩ := isx_of (by omega) hx
  
  obtain ⟨q, hq, rfl⟩ := isx_of (by decide) hx2
  obtain ⟨n1, hn0, hn, rfl⟩ := inr_of (by decide) (by decide) hx4
  rcases r5 q hq with ⟨hl, hz⟩ | ⟨z, hz40, hla, hl, hrz, hz, hit⟩
  · exact Pr.mk' (Nat.le_of_ble_eq_true rfl) (Nat.le_of_ble_eq_true rfl) (I.f0) (c_X6_whisperedN I h01 b0 hs1 hq hn0 hn hl) (fun U hU => c_X7_whisperedN hU b0 t4 hs1 hq hn0 hn hz) (fun h2 J => ⟨old, w, ln, rz, it, im, J, r1, Or.inr ⟨t4, hV, h4⟩, r2x, r3, r4, r5, r6, r7⟩)
  by_cases hp : plc x3 n1 z
  case neg => exact Pr.mk' (Nat.le_of_ble_eq_true rfl) (Nat.le_of_ble_eq_true rfl) (I.f0) (c_X6_whisperedP I h01 b0 hs1 hq hn0 hn hla hz40 hl hrz hp) (fun U hU => c_X7_whisperedP hU b0 t4 hs1 hq hn0 hn hz hz40 hp) (fun h2 J => ⟨old, w, ln, rz, it, im, J, r1, Or.inr ⟨t4, hV, h4⟩, r2x, r3, r4, r5, r6, r7⟩)
  obtain ⟨o, rfl, ho⟩ := plc_of hz40 hp
  obtain ⟨z1, hc⟩ := c_X6_whispered (l := l) I hV h4 hs1 hq hn0 hn hla hz40 hl hrz ho
  have ew : whiN (it q) o (A 5) s n1 (A 5 3) = whiN (B 2) (40 * q + o) (A 5) s n1 (A 5 3) := whiN_c (z := n1) (fun k hk => by
    rw [hit (o + k) (by omega)]
    exact congrArg (B 2) (by omega)) (Nat.le_refl _) _
  rw [ew] at hc
  exact Pr.mk' (Nat.le_of_ble_eq_true rfl) (Nat.le_of_ble_eq_true rfl) (I.y89.f0) (hc) (fun U hU => c_X7_whispered hU t4 hs1 hq hn0 hn hz hz40 ho hV h4) (fun h2 J => ⟨old, w, ln, rz, it, im, J, r1, Or.inr ⟨t4, hV, h4⟩, r2x, r3, r4, r5, r6, r7⟩)
theorem pr_image (V : Inv G h i A B) {x1 : Int32} : Pr l G yX6_image yX7_image [.int x1] h := by
  obtain ⟨old, w, ln, rz, it, im, I, r1, r2, r2x, r3, r4, r5, r6, r7⟩ := id V
  obtain ⟨b3, b0, b5, b4, bf⟩ := r2.b
  by_cases hx : isx x1 2
  case neg => exact Pr.same (Nat.le_of_ble_eq_true rfl) (Nat.le_of_ble_eq_true rfl) V (c_X6_imageB I hx) (fun U hU => c_X7_imageB hU hx)
  obtain ⟨q, hq, rfl⟩ := isx_of (by decide) hx
  rcases r2 with ⟨t4, hzz⟩ | ⟨t4, hV, h4⟩
  · exact Pr.same (Nat.le_of_ble_eq_true rfl) (Nat.le_of_ble_eq_true rfl) V (c_X6_imageS I hq (hzz 0)) (fun U hU => c_X7_imageS hU hq t4)
  have r6' : R6 (va_up im q (A 5)) (va_up (A 21) q 1) (va_cpy (A 5) (A 22) 0 (51 * q) 51) := by
    intro k hk
    by_cases e : k = q
    · subst e
      rw [up_eq, up_eq]
      refine Or.inr ⟨rfl, hV, h4, fun j hj => ?_⟩
      rw [cpy_in (by omega) (by omega)]
      exact congrArg (A 5) (by omega)
    · rw [upw e, upw e]
      rcases r6 k hk with a | ⟨a1, a2, a3, a4⟩
      · exact Or.inl a
      · refine Or.inr ⟨a1, a2, a3, fun j hj => ?_⟩
        rw [cpy_out (by omega)]
        exact a4 j hj
  exact Pr.mk' (Nat.le_of_ble_eq_true rfl) (Nat.le_of_ble_eq_true rfl) (I.yi hq) (c_X6_image I hq hV) (fun U hU => c_X7_image hU hq t4) (fun h2 J => ⟨old, w, ln, rz, it, _, J, r1, Or.inr ⟨t4, hV, h4⟩, fun z => absurd (z.symm.trans t4) (by decide), r3, r4, r5, r6', r7⟩)
theorem pr_restore (V : Inv G h i A B) {x1 : Int32} : Pr l G yX6_restore yX7_restore [.int x1] h := by
  obtain ⟨old, w, ln, rz, it, im, I, r1, r2, r2x, r3, r4, r5, r6, r7⟩ := id V
  obtain ⟨b3, b0, b5, b4, bf⟩ := r2.b
  by_cases hx : isx x1 2
  case neg => exact Pr.same (Nat.le_of_ble_eq_true rfl) (Nat.le_of_ble_eq_true rfl) V (c_X6_restoreB I hx) (fun U hU => c_X7_restoreB hU hx)
  obtain ⟨q, hq, rfl⟩ := isx_of (by decide) hx
  rcases r6 q hq with ⟨a1, a2⟩ | ⟨a1, a2, a3, a4⟩
  · exact Pr.same (Nat.le_of_ble_eq_true rfl) (Nat.le_of_ble_eq_true rfl) V (c_X6_restoreS I hq a2) (fun U hU => c_X7_restoreS hU hq a1)
  have ef : im q = va_cpy (A 22) (A 5) (51 * q) 0 51 := funext (fun k => by
    by_cases c : k < 51
    · rw [a4 k c, cpy_in (by omega) (by omega)]
      exact congrArg (A 22) (by omega)
    · rw [cpy_out (by omega), bf k (by omega), a2.far k (by omega)])
  have t4 : i 4 = 1 := by
    rcases r2 with ⟨t4, _⟩ | ⟨t4, _⟩
    · have := (r2x t4).2 q hq
      omega
    · exact t4
  have hc := c_X6_restore (l := l) I hq a2
  have I1 := (I.y7 (z := im q)).p10 (z := 0) (z1 := 0)
  rw [ef] at hc I1 a2 a3
  exact Pr.mk' (Nat.le_of_ble_eq_true rfl) (Nat.le_of_ble_eq_true rfl) (I1) (hc) (fun U hU => c_X7_restore hU hq a1) (fun h2 J => ⟨0, w, ln, rz, it, im, J, r1, Or.inr ⟨t4, a2, a3⟩, fun z => absurd (z.symm.trans t4) (by decide), ⟨Nat.zero_le 24, by decide, r3.2.2.1, fun k hk => absurd hk (by show ¬ k < 0; omega)⟩, r4, r5, r6, r7⟩)
theorem pr_as (V : Inv G h i A B) {x1 x2 : Int32} : Pr l G yX6_as yX7_as [.int x1, .int x2] h := by
  obtain ⟨old, w, ln, rz, it, im, I, r1, r2, r2x, r3, r4, r5, r6, r7⟩ := id V
  obtain ⟨b3, b0, b5, b4, bf⟩ := r2.b
  by_cases hx : isx x1 (A 5 3)
  case neg => exact Pr.same (Nat.le_of_ble_eq_true rfl) (Nat.le_of_ble_eq_true rfl) V (c_X6_asB I b3 (Or.inl hx)) (fun U hU => c_X7_asB hU b3 (Or.inl hx))
  by_cases hw : isx x2 6
  case neg => exact Pr.same (Nat.le_of_ble_eq_true rfl) (Nat.le_of_ble_eq_true rfl) V (c_X6_asB I b3 (Or.inr hw)) (fun U hU => c_X7_asB hU b3 (Or.inr hw))
  obtain ⟨s, hs1, rfl⟩ := isx_of (by omega) hx
  obtain ⟨t4, hV, h4⟩ := r2.s hs1
  obtain ⟨k, hk, rfl⟩ := isx_of (by decide) hw
  have hkd := (hV.2.2.2.2.2.1 s (by omega)).1 hs1
  by_cases hz : isK (A 5 (6 + s)) k
  · exact Pr.mk' (Nat.le_of_ble_eq_true rfl) (Nat.le_of_ble_eq_true rfl) (I.f0) (c_X6_as I b3 hs1 hk hkd.1 (by omega) hz) (fun U hU => c_X7_as hU b3 hs1 hk (by omega) hz) (fun h2 J => ⟨old, w, ln, rz, it, im, J, r1, Or.inr ⟨t4, hV, h4⟩, r2x, r3, r4, r5, r6, r7⟩)
  · exact Pr.mk' (Nat.le_of_ble_eq_true rfl) (Nat.le_of_ble_eq_true rfl) (I.f0) (c_X6_asK I b3 hs1 hk hkd.1 (by omega) hz) (fun U hU => c_X7_asK hU b3 hs1 hk (by omega) hz) (fun h2 J => ⟨old, w, ln, rz, it, im, J, r1, Or.inr ⟨t4, hV, h4⟩, r2x, r3, r4, r5, r6, r7⟩)
theorem pr_ask (V : Inv G h i A B) {x1 x2 : Int32} : Pr l G yX6_ask yX7_ask [.int x1, .int x2] h := by
  obtain ⟨old, w, ln, rz, it, im, I, r1, r2, r2x, r3, r4, r5, r6, r7⟩ := id V
  obtain ⟨b3, b0, b5, b4, bf⟩ := r2.b
  by_cases hx : isx x1 (A 5 3)
  case neg => exact Pr.same (Nat.le_of_ble_eq_true rfl) (Nat.le_of_ble_eq_true rfl) V (c_X6_askB I b3 (Or.inl hx)) (fun U hU => c_X7_askB hU b3 (Or.inl hx))
  by_cases hw : isx x2 2
  case neg => exact Pr.same (Nat.le_of_ble_eq_true rfl) (Nat.le_of_ble_eq_true rfl) V (c_X6_askB I b3 (Or.inr hw)) (fun U hU => c_X7_askB hU b3 (Or.inr hw))
  obtain ⟨s, hs1, rfl⟩ := isx_of (by omega) hx
  obtain ⟨t4, hV, h4⟩ := r2.s hs1
  obtain ⟨k, hk, rfl⟩ := isx_of (by decide) hw
  have hkd := (hV.2.2.2.2.2.1 s (by omega)).1 hs1
  rcases (by omega : k = 0 ∨ k = 1) with rfl | rfl
  · exact Pr.mk' (Nat.le_of_ble_eq_true rfl) (Nat.le_of_ble_eq_true rfl) (I.aca) (c_X6_ask0 I hV hs1) (fun U hU => c_X7_ask0 hU b3 b0 hs1 (by omega)) (fun h2 J => ⟨old, w, ln, rz, it, im, J, r1, Or.inr ⟨t4, hV, h4⟩, r2x, r3, bgC_le _ _ (by decide), r5, r6, r7⟩)
  · exact Pr.mk' (Nat.le_of_ble_eq_true rfl) (Nat.le_of_ble_eq_true rfl) (I.aca) (c_X6_ask1 I hV hs1) (fun U hU => c_X7_ask1 hU b3 b0 hs1 (by omega)) (fun h2 J => ⟨old, w, ln, rz, it, im, J, r1, Or.inr ⟨t4, hV, h4⟩, r2x, r3, bgC_le _ _ (by decide), r5, r6, r7⟩)
theorem pr_yard (V : Inv G h i A B) : Pr l G yX6_yard yX7_yard [] h := by
  obtain ⟨old, w, ln, rz, it, im, I, r1, r2, r2x, r3, r4, r5, r6, r7⟩ := id V
  obtain ⟨b3, b0, b5, b4, bf⟩ := r2.b
  obtain ⟨e120, eb⟩ := id r1
  have hr0 : ∀ k, k < 51 → va_cpy (fun _ => 0) (A 15) 0 0 51 k = 0 := fun k hk => cpy_in (by omega) (by omega)
  obtain ⟨q, hq⟩ : ∃ q, q = ps (A 7) (i 8) (i 14) (va_cpy (fun _ => 0) (A 15) 0 0 51) := ⟨_, rfl⟩
  have hle : (ps (A 7) (i 8) (i 14) (va_cpy (fun _ => 0) (A 15) 0 0 51)).2.1 ≤ i 8 := ps_le
  by_cases hok : q.1 = true
  · have hok2 := hok
    rw [hq] at hok2
    obtain ⟨hPV, hm⟩ := ps_ok hr0 hok2
    rw [← hq] at hPV hm
    obtain ⟨hVn, h4n⟩ := Va_read hPV hm bf
    obtain ⟨s2, e2, v2, x2, tok2, hc⟩ := c_X6_yard (l := l) I e120 eb hr0 hok2 hVn (fun k hk => by rw [← hq]; exact dY_read hk)
    have I1 := ((((I.y3 (z := va_up (va_cpy (q.2.2.1) (A 5) 0 0 51) 5 (2 ^ q.2.2.1 0 - 1))).xca (n' := 0) (lf' := i 9) (s := s2) (e := e2) (v := v2) (x := x2) (tok := tok2) (b' := A 7)).y7 (z := va_up (va_cpy (q.2.2.1) (A 5) 0 0 51) 5 (2 ^ q.2.2.1 0 - 1))).p10 (z := 0) (z1 := 0))
    have e3 : (va_up (va_cpy (q.2.2.1) (A 5) 0 0 51) 5 (2 ^ q.2.2.1 0 - 1)) 3 = q.2.2.1 3 := by
      rw [up_ne _ _ (by decide), cpy_in (by omega) (by omega)]
    rw [e3] at hc
    exact Pr.mk' (Nat.le_of_ble_eq_true rfl) (Nat.le_of_ble_eq_true rfl) (I1) (hc) (fun U hU => c_X7_yard hU e120 eb hq hok hPV.1.2) (fun h2 J => ⟨0, w, ln, rz, it, im, J, ⟨Nat.zero_le 120, eb⟩, Or.inr ⟨rfl, hVn, h4n⟩, fun z => absurd (show (1 : Nat) = 0 from z) (by decide), ⟨Nat.zero_le 24, by decide, r3.2.2.1, fun k hk => absurd hk (by show ¬ k < 0; omega)⟩, r4, r5, r6, r7⟩)
  · have hok2 := hok
    rw [hq] at hok2
    obtain ⟨s2, e2, v2, x2, tok2, y2, hc⟩ := c_X6_yardB (l := l) I e120 eb hr0 hok2 (by omega)
    rw [← hq] at hc
    have I1 := (I.y3 (z := y2)).xca (n' := 0) (lf' := q.2.2.2) (s := s2) (e := e2) (v := v2) (x := x2) (tok := tok2) (b' := A 7)
    exact Pr.mk' (Nat.le_of_ble_eq_true rfl) (Nat.le_of_ble_eq_true rfl) (I1) (hc) (fun U hU => c_X7_yardB hU e120 eb hq hok) (fun h2 J => ⟨old, w, ln, rz, it, im, J, ⟨Nat.zero_le 120, eb⟩, r2, r2x, r3, r4, r5, r6, r7⟩)
end
