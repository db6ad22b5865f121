/-! the reading of a tape: a state is whether all is good, where the token begins, what was read, the fault -/
abbrev PS : Type := Bool × Nat × (Nat → Nat) × Nat
abbrev tks (t : Nat → Nat) (n s c : Nat) : Prop := tkK t n s = 1 ∧ tkV t n s = c
def tS (t : Nat → Nat) (n s c : Nat) : Nat := if tks t n s c then tkN t n s else s
def tW (t : Nat → Nat) (n s c w : Nat) : Nat := if tks t n s c then w else 1
abbrev nP (t : Nat → Nat) (n s lo hi : Nat) : Prop := tkK t n s = 2 ∧ lo ≤ tkV t n s ∧ tkV t n s ≤ hi
def nS (t : Nat → Nat) (n s lo hi sg : Nat) : Nat := if nP t n s lo hi then tS t n (tkN t n s) sg else s
def nR (t : Nat → Nat) (n s lo hi at_ : Nat) (rd : Nat → Nat) : Nat → Nat := if nP t n s lo hi then va_up rd at_ (tkV t n s) else rd
def nW (t : Nat → Nat) (n s lo hi sg w : Nat) : Nat := if nP t n s lo hi then tW t n (tkN t n s) sg w else if tkK t n s = 2 then 2 else 1
theorem tS_le {t : Nat → Nat} {n s c : Nat} (h : s ≤ n) : tS t n s c ≤ n := by
  unfold tS
  split
  · exact tkN_le h
  · exact h
theorem nS_le {t : Nat → Nat} {n s lo hi sg : Nat} (h : s ≤ n) : nS t n s lo hi sg ≤ n := by
  unfold nS
  split
  · exact tS_le (tkN_le h)
  · exact h
/-- a number and its sign -/
def psN (t : Nat → Nat) (n lo hi at_ sg : Nat) (q : PS) : PS := (decide (nP t n q.2.1 lo hi ∧ tks t n (tkN t n q.2.1) sg), nS t n q.2.1 lo hi sg, nR t n q.2.1 lo hi at_ q.2.2.1, nW t n q.2.1 lo hi sg q.2.2.2)
/-- a sleeper's numbers -/
def psL (t : Nat → Nat) (n p gs : Nat) (q : PS) : Nat → PS
  | 0 => q
  | g + 1 => if (psL t n p gs q g).1 = true then psN t n 0 27 (21 + 6 * p + g) (if g + 1 = gs then 59 else 44) (psL t n p gs q g) else psL t n p gs q g
def psS (t : Nat → Nat) (n kind : Nat) (q : PS) : PS :=
  if q.2.2.1 3 = 5 then (false, q.2.1, q.2.2.1, 3)
  else psL t n (q.2.2.1 3) (q.2.2.1 0) (true, tkN t n q.2.1, va_up (va_up q.2.2.1 (6 + q.2.2.1 3) kind) 3 (q.2.2.1 3 + 1), q.2.2.2) (q.2.2.1 0)
/-- which kind a letter tells -/
def kdT (t : Nat → Nat) (n s : Nat) : Nat := if tks t n s 100 then 1 else if tks t n s 116 then 2 else if tks t n s 119 then 3 else if tks t n s 115 then 4 else if tks t n s 109 then 5 else 0
def psY (t : Nat → Nat) (n : Nat) : Nat → PS → PS
  | 0, q => q
  | f + 1, q => if q.1 = true ∧ (tkK t n q.2.1 ≠ 3 ∨ q.2.2.1 3 = 0) then psY t n f (if 0 < kdT t n q.2.1 then psS t n (kdT t n q.2.1) q else (false, q.2.1, q.2.2.1, 1)) else q
/-- the law -/
def pst (f : PS → PS) (q : PS) : PS := if q.1 = true then f q else q
theorem pst_n {f : PS → PS} {q : PS} (h : ¬ q.1 = true) : pst f q = q := if_neg h
theorem pst_p {f : PS → PS} {q : PS} (h : q.1 = true) : pst f q = f q := if_pos h
def ps0 (t : Nat → Nat) (n w : Nat) (r0 : Nat → Nat) : PS := (decide (tks t n 0 103), tS t n 0 103, r0, tW t n 0 103 w)
def ps1 (t : Nat → Nat) (n w : Nat) (r0 : Nat → Nat) : PS := psN t n 1 6 0 44 (ps0 t n w r0)
def ps2 (t : Nat → Nat) (n w : Nat) (r0 : Nat → Nat) : PS := psN t n 1 9 1 44 (ps1 t n w r0)
def ps3 (t : Nat → Nat) (n w : Nat) (r0 : Nat → Nat) : PS := psN t n 2 9 2 59 (ps2 t n w r0)
def psG (t : Nat → Nat) (n w : Nat) (r0 : Nat → Nat) : PS := pst (psN t n 2 9 2 59) (pst (psN t n 1 9 1 44) (pst (psN t n 1 6 0 44) (ps0 t n w r0)))
def ps (t : Nat → Nat) (n w : Nat) (r0 : Nat → Nat) : PS := psY t n 8 (psG t n w r0)
theorem psY_n {t : Nat → Nat} {n : Nat} {q : PS} (h : ¬ q.1 = true) : ∀ f, psY t n f q = q
  | 0 => rfl
  | f + 1 => by
    unfold psY
    rw [if_neg (fun z => h z.1)]
theorem ps_e0 {t : Nat → Nat} {n w : Nat} {r0 : Nat → Nat} (h : ¬ (ps0 t n w r0).1 = true) : ps t n w r0 = ps0 t n w r0 := by
  rw [ps, psG, pst_n h, pst_n h, pst_n h, psY_n h]
theorem ps_e1 {t : Nat → Nat} {n w : Nat} {r0 : Nat → Nat} (h0 : (ps0 t n w r0).1 = true) (h : ¬ (ps1 t n w r0).1 = true) : ps t n w r0 = ps1 t n w r0 := by
  rw [ps, psG, pst_p h0]
  show psY t n 8 (pst _ (pst _ (ps1 t n w r0))) = _
  rw [pst_n h, pst_n h, psY_n h]
theorem ps_e2 {t : Nat → Nat} {n w : Nat} {r0 : Nat → Nat} (h0 : (ps0 t n w r0).1 = true) (h1 : (ps1 t n w r0).1 = true) (h : ¬ (ps2 t n w r0).1 = true) : ps t n w r0 = ps2 t n w r0 := by
  rw [ps, psG, pst_p h0]
  show psY t n 8 (pst _ (pst _ (ps1 t n w r0))) = _
  rw [pst_p h1]
  show psY t n 8 (pst _ (ps2 t n w r0)) = _
  rw [pst_n h, psY_n h]
theorem ps_e3 {t : Nat → Nat} {n w : Nat} {r0 : Nat → Nat} (h0 : (ps0 t n w r0).1 = true) (h1 : (ps1 t n w r0).1 = true) (h2 : (ps2 t n w r0).1 = true) : ps t n w r0 = psY t n 8 (ps3 t n w r0) := by
  rw [ps, psG, pst_p h0]
  show psY t n 8 (pst _ (pst _ (ps1 t n w r0))) = _
  rw [pst_p h1]
  show psY t n 8 (pst _ (ps2 t n w r0)) = _
  rw [pst_p h2]
  rfl
theorem psN_le {t : Nat → Nat} {n lo hi at_ sg : Nat} {q : PS} (h : q.2.1 ≤ n) : (psN t n lo hi at_ sg q).2.1 ≤ n := nS_le h
theorem psL_le {t : Nat → Nat} {n p gs : Nat} {q : PS} (h : q.2.1 ≤ n) : ∀ g, (psL t n p gs q g).2.1 ≤ n
  | 0 => h
  | g + 1 => by
    unfold psL
    split
    · exact psN_le (psL_le h g)
    · exact psL_le h g
theorem nR_lo {t : Nat → Nat} {n s lo hi at_ k : Nat} {rd : Nat → Nat} (h : k ≠ at_) : nR t n s lo hi at_ rd k = rd k := by
  unfold nR
  split
  · exact up_ne _ _ h
  · rfl
theorem psL_rd {t : Nat → Nat} {n p gs : Nat} {q : PS} {k : Nat} (hk : k < 21) : ∀ g, (psL t n p gs q g).2.2.1 k = q.2.2.1 k
  | 0 => rfl
  | g + 1 => by
    unfold psL
    split
    · exact (nR_lo (by omega)).trans (psL_rd hk g)
    · exact psL_rd hk g
/-- once bad, it stays so -/
theorem psL_bad {t : Nat → Nat} {n p gs : Nat} {q : PS} {g : Nat} (h : ¬ (psL t n p gs q g).1 = true) : ∀ m, psL t n p gs q (g + m) = psL t n p gs q g
  | 0 => rfl
  | m + 1 => by
    have e := psL_bad h m
    show (if (psL t n p gs q (g + m)).1 = true then _ else psL t n p gs q (g + m)) = _
    rw [e, if_neg h]

theorem psS_le {t : Nat → Nat} {n k : Nat} {q : PS} (h : q.2.1 ≤ n) : (psS t n k q).2.1 ≤ n := by
  unfold psS
  split
  · exact h
  · exact psL_le (tkN_le h) _
theorem psS_0 {t : Nat → Nat} {n k : Nat} {q : PS} : (psS t n k q).2.2.1 0 = q.2.2.1 0 := by
  unfold psS
  split
  · rfl
  · rw [psL_rd (by decide)]
    show va_up (va_up q.2.2.1 (6 + q.2.2.1 3) k) 3 (q.2.2.1 3 + 1) 0 = _
    rw [up_ne _ _ (by decide), up_ne _ _ (by omega)]
theorem psS_3 {t : Nat → Nat} {n k : Nat} {q : PS} (h : q.2.2.1 3 ≤ 5) : (psS t n k q).2.2.1 3 ≤ 5 ∧ ((psS t n k q).1 = true → (psS t n k q).2.2.1 3 = q.2.2.1 3 + 1) := by
  unfold psS
  split
  · rename_i c
    exact ⟨Nat.le_of_eq c, fun z => Bool.noConfusion z⟩
  · have e : ∀ g, (psL t n (q.2.2.1 3) (q.2.2.1 0) (true, tkN t n q.2.1, va_up (va_up q.2.2.1 (6 + q.2.2.1 3) k) 3 (q.2.2.1 3 + 1), q.2.2.2) g).2.2.1 3 = q.2.2.1 3 + 1 := fun g => (psL_rd (by decide) g).trans (up_eq (va_up q.2.2.1 (6 + q.2.2.1 3) k) 3 (q.2.2.1 3 + 1))
    exact ⟨by rw [e]; omega, fun _ => e _⟩
theorem ps3_le {t : Nat → Nat} {n w : Nat} {r0 : Nat → Nat} : (ps3 t n w r0).2.1 ≤ n := psN_le (psN_le (psN_le (tS_le (Nat.zero_le _))))
theorem psN_rd {t : Nat → Nat} {n lo hi at_ sg k : Nat} {q : PS} (h : k ≠ at_) : (psN t n lo hi at_ sg q).2.2.1 k = q.2.2.1 k := nR_lo h
theorem ps3_3 {t : Nat → Nat} {n w : Nat} {r0 : Nat → Nat} : (ps3 t n w r0).2.2.1 3 = r0 3 := by
  rw [ps3, psN_rd (by decide), ps2, psN_rd (by decide), ps1, psN_rd (by decide), ps0]
theorem ps3_0 {t : Nat → Nat} {n w : Nat} {r0 : Nat → Nat} (h : r0 0 ≤ 6) : (ps3 t n w r0).2.2.1 0 ≤ 6 := by
  rw [ps3, psN_rd (by decide), ps2, psN_rd (by decide), ps1, psN, ps0]
  show nR t n (tS t n 0 103) 1 6 0 r0 0 ≤ 6
  unfold nR
  split
  · rename_i c
    rw [up_eq]
    exact c.2.2
  · exact h
