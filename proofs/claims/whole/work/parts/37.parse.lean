/-! the reading of a tape: a state is whether all is good, where the token begins, what was read, the fault -/
abbrev PS : Type := Bool × Nat × (Nat → Nat) × Nat
abbrev tks (t : Nat → Nat) (n s c : Nat) : Prop := tkK t n s = 1 ∧ tkV t n s = c
def tS (t : Nat → Nat) (n s c : Nat) : Nat := if tks t n s c then tkN t n s else s
def tW (t : Nat → Nat) (n s c w : Nat) : Nat := if tks t n s c then w else 1
abbrev nP (t : Nat → Nat) (n s lo hi : Nat) : Prop := tkK t n s = 2 ∧ lo ≤ tkV t n s ∧ tkV t n s ≤ hi
def nS (t : Nat → Nat) (n s lo hi sg : Nat) : Nat := if nP t n s lo hi then tS t n (tkN t n s) sg else s
def nR (t : Nat → Nat) (n s lo hi at_ : Nat) (rd : Nat → Nat) : Nat → Nat := if nP t n s lo hi then va_up rd at_ (tkV t n s) else rd
def nW (t : Nat → Nat) (n s lo hi sg w : Nat) : Nat := if nP t n s lo hi then tW t n (tkN t n s) sg w else if tkK t n s = 2 then 2 else 1
theorem tS_le {t : Nat → Nat} {n s c : Nat} (h : s ≤ n) : tS t n s c ≤ n := by
  unfold tS
  split
  · exact tkN_le h
  · exact h
theorem nS_le {t : Nat → Nat} {n s lo hi sg : Nat} (h : s ≤ n) : nS t n s lo hi sg ≤ n := by
  unfold nS
  split
  · exact tS_le (tkN_le h)
  · exact h
/-- a number and its sign -/
def psN (t : Nat → Nat) (n lo hi at_ sg : Nat) (q : PS) : PS := (decide (nP t n q.2.1 lo hi ∧ tks t n (tkN t n q.2.1) sg), nS t n q.2.1 lo hi sg, nR t n q.2.1 lo hi at_ q.2.2.1, nW t n q.2.1 lo hi sg q.2.2.2)
/-- a sleeper's numbers -/
def psL (t : Nat → Nat) (n p gs : Nat) (q : PS) : Nat → PS
  | 0 => q
  | g + 1 => if (psL t n p gs q g).1 = true then psN t n 0 27 (21 + 6 * p + g) (if g + 1 = gs then 59 else 44) (psL t n p gs q g) else psL t n p gs q g
def psS (t : Nat → Nat) (n kind : Nat) (q : PS) : PS :=
  if q.2.2.1 3 = 5 then (false, q.2.1, q.2.2.1, 3)
  else psL t n (q.2.2.1 3) (q.2.2.1 0) (true, tkN t n q.2.1, va_up (va_up q.2.2.1 (6 + q.2.2.1 3) kind) 3 (q.2.2.1 3 + 1), q.2.2.2) (q.2.2.1 0)
/-- which kind a letter tells -/
def kdT (t : Nat → Nat) (n s : Nat) : Nat := if tks t n s 100 then 1 else if tks t n s 116 then 2 else if tks t n s 119 then 3 else if tks t n s 115 then 4 else if tks t n s 109 then 5 else 0
def psY (t : Nat → Nat) (n : Nat) : Nat → PS → PS
  | 0, q => q
  | f + 1, q => if q.1 = true ∧ (tkK t n q.2.1 ≠ 3 ∨ q.2.2.1 3 = 0) then psY t n f (if 0 < kdT t n q.2.1 then psS t n (kdT t n q.2.1) q else (false, q.2.1, q.2.2.1, 1)) else q
/-- the law -/
def psG (t : Nat → Nat) (n w : Nat) : PS :=
  let q0 : PS := (decide (tks t n 0 103), tS t n 0 103, fun _ => 0, tW t n 0 103 w)
  let q1 := if q0.1 = true then psN t n 1 6 0 44 q0 else q0
  let q2 := if q1.1 = true then psN t n 1 9 1 44 q1 else q1
  if q2.1 = true then psN t n 2 9 2 59 q2 else q2
def ps (t : Nat → Nat) (n w : Nat) : PS := psY t n 8 (psG t n w)
theorem psN_le {t : Nat → Nat} {n lo hi at_ sg : Nat} {q : PS} (h : q.2.1 ≤ n) : (psN t n lo hi at_ sg q).2.1 ≤ n := nS_le h
theorem psL_le {t : Nat → Nat} {n p gs : Nat} {q : PS} (h : q.2.1 ≤ n) : ∀ g, (psL t n p gs q g).2.1 ≤ n
  | 0 => h
  | g + 1 => by
    unfold psL
    split
    · exact psN_le (psL_le h g)
    · exact psL_le h g
theorem nR_lo {t : Nat → Nat} {n s lo hi at_ k : Nat} {rd : Nat → Nat} (h : k ≠ at_) : nR t n s lo hi at_ rd k = rd k := by
  unfold nR
  split
  · exact up_ne _ _ h
  · rfl
theorem psL_rd {t : Nat → Nat} {n p gs : Nat} {q : PS} {k : Nat} (hk : k < 21) : ∀ g, (psL t n p gs q g).2.2.1 k = q.2.2.1 k
  | 0 => rfl
  | g + 1 => by
    unfold psL
    split
    · exact (nR_lo (by omega)).trans (psL_rd hk g)
    · exact psL_rd hk g
/-- once bad, it stays so -/
theorem psL_bad {t : Nat → Nat} {n p gs : Nat} {q : PS} {g : Nat} (h : ¬ (psL t n p gs q g).1 = true) : ∀ m, psL t n p gs q (g + m) = psL t n p gs q g
  | 0 => rfl
  | m + 1 => by
    have e := psL_bad h m
    show (if (psL t n p gs q (g + m)).1 = true then _ else psL t n p gs q (g + m)) = _
    rw [e, if_neg h]
