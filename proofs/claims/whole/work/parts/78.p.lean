/-! what was read is a yard -/
def PV (rd : Nat → Nat) : Prop := (1 ≤ rd 0 ∧ rd 0 ≤ 6) ∧ (1 ≤ rd 1 ∧ rd 1 ≤ 9) ∧ (2 ≤ rd 2 ∧ rd 2 ≤ 9) ∧ rd 3 ≤ 5 ∧ rd 4 = 0 ∧ (∀ p, p < 5 → (p < rd 3 → 1 ≤ rd (6 + p) ∧ rd (6 + p) ≤ 5) ∧ (rd 3 ≤ p → rd (6 + p) = 0)) ∧ (∀ k, 11 ≤ k → k < 21 → rd k = 0) ∧ ∀ p g, p < 5 → g < 6 → me rd p g ≤ 27 ∧ (rd 3 ≤ p ∨ rd 0 ≤ g → me rd p g = 0)
theorem PV.mem {rd : Nat → Nat} (h : PV rd) {p g v : Nat} (hp : p < rd 3) (hg : g < rd 0) (hv : v ≤ 27) : PV (va_up rd (21 + 6 * p + g) v) := by
  obtain ⟨a0, a1, a2, a3, a4, a6, a7, a9⟩ := h
  have e : ∀ k, k < 21 → va_up rd (21 + 6 * p + g) v k = rd k := fun k hk => up_ne _ _ (by omega)
  unfold PV
  rw [e 0 (by omega), e 1 (by omega), e 2 (by omega), e 3 (by omega), e 4 (by omega)]
  refine ⟨a0, a1, a2, a3, a4, fun q hq => ?_, fun k h1 h2 => ?_, fun q k hq hk => ?_⟩
  · rw [e (6 + q) (by omega)]
    exact a6 q hq
  · rw [e k h2]
    exact a7 k h1 h2
  · unfold me va_up
    by_cases c : 21 + 6 * q + k = 21 + 6 * p + g
    · rw [if_pos c]
      exact ⟨hv, fun z => by omega⟩
    · rw [if_neg c]
      exact a9 q k hq hk
theorem PV.one {rd : Nat → Nat} (h : PV rd) {kd : Nat} (h3 : rd 3 < 5) (h1 : 1 ≤ kd) (h5 : kd ≤ 5) : PV (va_up (va_up rd (6 + rd 3) kd) 3 (rd 3 + 1)) := by
  obtain ⟨a0, a1, a2, a3, a4, a6, a7, a9⟩ := h
  have e : ∀ k, k ≠ 3 → k ≠ 6 + rd 3 → va_up (va_up rd (6 + rd 3) kd) 3 (rd 3 + 1) k = rd k := fun k h1 h2 => by rw [up_ne _ _ h1, up_ne _ _ h2]
  unfold PV
  rw [e 0 (by omega) (by omega), e 1 (by omega) (by omega), e 2 (by omega) (by omega), e 4 (by omega) (by omega), up_eq]
  refine ⟨a0, a1, a2, by omega, a4, fun q hq => ?_, fun k h1 h2 => ?_, fun q k hq hk => ?_⟩
  · by_cases c : q = rd 3
    · subst c
      rw [up_ne _ _ (by omega), up_eq]
      exact ⟨fun _ => ⟨h1, h5⟩, fun z => by omega⟩
    · rw [e (6 + q) (by omega) (by omega)]
      have := a6 q hq
      exact ⟨fun z => this.1 (by omega), fun z => this.2 (by omega)⟩
  · rw [e k (by omega) (by omega)]
    exact a7 k h1 h2
  · unfold me
    rw [e _ (by omega) (by omega)]
    have := a9 q k hq hk
    unfold me at this
    exact ⟨this.1, fun z => this.2 (by omega)⟩
theorem PV_psL {t : Nat → Nat} {n p gs : Nat} {q : PS} (h : PV q.2.2.1) (hp : p < q.2.2.1 3) (hg : gs = q.2.2.1 0) : ∀ g, g ≤ gs → PV (psL t n p gs q g).2.2.1
  | 0, _ => h
  | g + 1, hl => by
    have ih := PV_psL (t := t) (n := n) h hp hg g (by omega)
    have e3 : (psL t n p gs q g).2.2.1 3 = q.2.2.1 3 := psL_rd (by decide) g
    have e0 : (psL t n p gs q g).2.2.1 0 = q.2.2.1 0 := psL_rd (by decide) g
    unfold psL
    split
    · show PV (nR t n _ 0 27 (21 + 6 * p + g) _)
      unfold nR
      split
      · rename_i c
        exact ih.mem (by omega) (by omega) c.2.2
      · exact ih
    · exact ih
theorem PV_psS {t : Nat → Nat} {n kd : Nat} {q : PS} (h : PV q.2.2.1) (h1 : 1 ≤ kd) (h5 : kd ≤ 5) : PV (psS t n kd q).2.2.1 := by
  unfold psS
  split
  · exact h
  · rename_i c
    have h3 := h.2.2.2.1
    refine PV_psL (h.one (by omega) h1 h5) ?_ ?_ _ (Nat.le_refl _)
    · show q.2.2.1 3 < va_up (va_up q.2.2.1 (6 + q.2.2.1 3) kd) 3 (q.2.2.1 3 + 1) 3
      rw [up_eq]
      omega
    · show q.2.2.1 0 = va_up (va_up q.2.2.1 (6 + q.2.2.1 3) kd) 3 (q.2.2.1 3 + 1) 0
      rw [up_ne _ _ (by decide), up_ne _ _ (by omega)]
theorem PV_psY {t : Nat → Nat} {n : Nat} : ∀ (f : Nat) (q : PS), PV q.2.2.1 → PV (psY t n f q).2.2.1
  | 0, q, h => h
  | f + 1, q, h => by
    unfold psY
    split
    · refine PV_psY f _ ?_
      split
      · rename_i c
        exact PV_psS h (by omega) (by have := kdT_lt t n q.2.1; omega)
      · exact h
    · exact h
theorem psY_many {t : Nat → Nat} {n : Nat} : ∀ (f : Nat) (q : PS), q.2.2.1 3 ≤ 5 → (q.1 = true → 6 ≤ f + q.2.2.1 3) → (psY t n f q).1 = true → 1 ≤ (psY t n f q).2.2.1 3
  | 0, q, h3, hf, h => by
    have := hf h
    show 1 ≤ q.2.2.1 3
    omega
  | f + 1, q, h3, hf, h => by
    unfold psY at h ⊢
    by_cases c : q.1 = true ∧ (tkK t n q.2.1 ≠ 3 ∨ q.2.2.1 3 = 0)
    · rw [if_pos c] at h ⊢
      have hf' := hf c.1
      by_cases d : 0 < kdT t n q.2.1
      · rw [if_pos d] at h ⊢
        have z3 := psS_3 (t := t) (n := n) (k := kdT t n q.2.1) h3
        exact psY_many f _ z3.1 (fun z => by rw [z3.2 z]; omega) h
      · rw [if_neg d] at h ⊢
        exact psY_many f _ h3 (fun z => absurd (show false = true from z) (by decide)) h
    · rw [if_neg c] at h ⊢
      have : ¬ (tkK t n q.2.1 ≠ 3 ∨ q.2.2.1 3 = 0) := fun z => c ⟨h, z⟩
      omega
theorem psY_le {t : Nat → Nat} {n : Nat} : ∀ (f : Nat) (q : PS), q.2.1 ≤ n → (psY t n f q).2.1 ≤ n
  | 0, q, h => h
  | f + 1, q, h => by
    unfold psY
    split
    · refine psY_le f _ ?_
      split
      · exact psS_le h
      · exact h
    · exact h
theorem psN_t {t : Nat → Nat} {n lo hi at_ sg : Nat} {q : PS} (h : (psN t n lo hi at_ sg q).1 = true) : ∃ v, lo ≤ v ∧ v ≤ hi ∧ (psN t n lo hi at_ sg q).2.2.1 = va_up q.2.2.1 at_ v := by
  have c : nP t n q.2.1 lo hi ∧ tks t n (tkN t n q.2.1) sg := of_decide_eq_true h
  refine ⟨tkV t n q.2.1, c.1.2.1, c.1.2.2, ?_⟩
  show nR t n q.2.1 lo hi at_ q.2.2.1 = _
  rw [nR, if_pos c.1]
theorem pst_1 {f : PS → PS} {q : PS} (h : (pst f q).1 = true) : q.1 = true ∧ pst f q = f q := by
  by_cases c : q.1 = true
  · exact ⟨c, pst_p c⟩
  · rw [pst_n c] at h
    exact absurd h c
theorem psG_le {t : Nat → Nat} {n w : Nat} {r0 : Nat → Nat} : (psG t n w r0).2.1 ≤ n := by
  have k : ∀ (lo hi at_ sg : Nat) (q : PS), q.2.1 ≤ n → (pst (psN t n lo hi at_ sg) q).2.1 ≤ n := by
    intro lo hi at_ sg q h
    unfold pst
    split
    · exact psN_le h
    · exact h
  exact k _ _ _ _ _ (k _ _ _ _ _ (k _ _ _ _ _ (tS_le (Nat.zero_le _))))
theorem ps_le {t : Nat → Nat} {n w : Nat} {r0 : Nat → Nat} : (ps t n w r0).2.1 ≤ n := psY_le 8 _ psG_le
theorem PV_psG {t : Nat → Nat} {n w : Nat} {r0 : Nat → Nat} (hr : ∀ k, k < 51 → r0 k = 0) (h : (psG t n w r0).1 = true) : PV (psG t n w r0).2.2.1 ∧ (psG t n w r0).2.2.1 3 = 0 := by
  obtain ⟨h2, e2⟩ := pst_1 h
  obtain ⟨h1, e1⟩ := pst_1 h2
  obtain ⟨h0, e0⟩ := pst_1 h1
  have hh : (psN t n 2 9 2 59 (pst (psN t n 1 9 1 44) (pst (psN t n 1 6 0 44) (ps0 t n w r0)))).1 = true := by rw [← e2]; exact h
  obtain ⟨v3, a3, b3, c3⟩ := psN_t hh
  have hh1 : (psN t n 1 9 1 44 (pst (psN t n 1 6 0 44) (ps0 t n w r0))).1 = true := by rw [← e1]; exact h2
  obtain ⟨v2, a2, b2, c2⟩ := psN_t hh1
  have hh0 : (psN t n 1 6 0 44 (ps0 t n w r0)).1 = true := by rw [← e0]; exact h1
  obtain ⟨v1, a1, b1, c1⟩ := psN_t hh0
  have e : (psG t n w r0).2.2.1 = va_up (va_up (va_up r0 0 v1) 1 v2) 2 v3 := by
    unfold psG
    rw [e2, c3, e1, c2, e0, c1]
    rfl
  rw [e]
  have z : ∀ k, k < 51 → k ≠ 0 → k ≠ 1 → k ≠ 2 → va_up (va_up (va_up r0 0 v1) 1 v2) 2 v3 k = 0 := fun k hk h0 h1 h2 => by rw [up_ne _ _ h2, up_ne _ _ h1, up_ne _ _ h0, hr k hk]
  have z0 : va_up (va_up (va_up r0 0 v1) 1 v2) 2 v3 0 = v1 := by rw [up_ne _ _ (by decide), up_ne _ _ (by decide), up_eq]
  have z1 : va_up (va_up (va_up r0 0 v1) 1 v2) 2 v3 1 = v2 := by rw [up_ne _ _ (by decide), up_eq]
  have z2 : va_up (va_up (va_up r0 0 v1) 1 v2) 2 v3 2 = v3 := up_eq _ _ _
  refine ⟨?_, z 3 (by decide) (by decide) (by decide) (by decide)⟩
  unfold PV
  rw [z0, z1, z2, z 3 (by decide) (by decide) (by decide) (by decide), z 4 (by decide) (by decide) (by decide) (by decide)]
  refine ⟨⟨a1, b1⟩, ⟨a2, b2⟩, ⟨a3, b3⟩, by decide, rfl, fun p hp => ⟨fun q => by omega, fun _ => z _ (by omega) (by omega) (by omega) (by omega)⟩, fun k h1 h2 => z k (by omega) (by omega) (by omega) (by omega), fun p g hp hg => ?_⟩
  unfold me
  rw [z _ (by omega) (by omega) (by omega) (by omega)]
  exact ⟨by decide, fun _ => rfl⟩
theorem ps_ok {t : Nat → Nat} {n w : Nat} {r0 : Nat → Nat} (hr : ∀ k, k < 51 → r0 k = 0) (h : (ps t n w r0).1 = true) : PV (ps t n w r0).2.2.1 ∧ 1 ≤ (ps t n w r0).2.2.1 3 := by
  have hg : (psG t n w r0).1 = true := by
    by_cases c : (psG t n w r0).1 = true
    · exact c
    · unfold ps at h
      rw [psY_n c] at h
      exact h
  have hp := PV_psG hr hg
  exact ⟨PV_psY 8 _ hp.1, psY_many 8 _ (by rw [hp.2]; decide) (fun _ => by rw [hp.2]; decide) h⟩
theorem Va_read {rd z : Nat → Nat} (h : PV rd) (hm : 1 ≤ rd 3) (hz : ∀ k, 51 ≤ k → z k = 0) : Va (va_up (va_cpy rd z 0 0 51) 5 (2 ^ rd 0 - 1)) ∧ va_up (va_cpy rd z 0 0 51) 5 (2 ^ rd 0 - 1) 4 ≤ 999 := by
  obtain ⟨a0, a1, a2, a3, a4, a6, a7, a9⟩ := h
  have e : ∀ k, k < 51 → k ≠ 5 → va_up (va_cpy rd z 0 0 51) 5 (2 ^ rd 0 - 1) k = rd k := fun k hk h5 => by rw [up_ne _ _ h5, cpy_in (by omega) (by omega)]; exact congrArg rd (by omega)
  have hp : 1 ≤ 2 ^ rd 0 := Nat.two_pow_pos _
  refine ⟨?_, by rw [e 4 (by decide) (by decide), a4]; decide⟩
  unfold Va
  rw [e 0 (by decide) (by decide), e 1 (by decide) (by decide), e 2 (by decide) (by decide), e 3 (by decide) (by decide), up_eq]
  refine ⟨a0, a1, a2, ⟨hm, a3⟩, by omega, fun p hp => ?_, fun p hp => ?_, fun p hp => ?_, fun p g hp hg => ?_, fun k hk => ?_⟩
  · rw [e (6 + p) (by omega) (by omega)]
    exact a6 p hp
  · rw [e (11 + p) (by omega) (by omega), a7 _ (by omega) (by omega)]
    exact ⟨by decide, fun _ => rfl⟩
  · rw [e (16 + p) (by omega) (by omega), a7 _ (by omega) (by omega)]
    exact ⟨by decide, fun _ => rfl⟩
  · unfold me
    rw [e _ (by omega) (by omega)]
    exact a9 p g hp hg
  · rw [up_ne _ _ (by omega), cpy_out (by omega), hz k hk]
theorem dY_read {rd z : Nat → Nat} {k : Nat} (hk : k < 51) : dY rd k = va_up (va_cpy rd z 0 0 51) 5 (2 ^ rd 0 - 1) k := by
  unfold dY
  by_cases c : k = 5
  · subst c
    rw [up_eq, up_eq]
  · rw [up_ne _ _ c, up_ne _ _ c, cpy_in (by omega) (by omega)]
    exact congrArg rd (by omega)
