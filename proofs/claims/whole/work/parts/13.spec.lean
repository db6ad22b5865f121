/-! THE YARD, in naturals: y 0 graves, 1 least, 2 share, 3 many, 4 year, 5 kept, 6.. kinds, 11.. suppers, 16.. fevers, 21 + 6 p + g memory -/
abbrev hs (b k : Nat) : Prop := b / 2 ^ k % 2 = 1
abbrev me (y : Nat → Nat) (p g : Nat) : Nat := y (21 + 6 * p + g)
theorem and1 (n : Nat) : n &&& 1 = n % 2 := Nat.and_one_is_mod n
theorem has_iff (b k : Nat) : nI (b / 2 ^ k &&& 1) = nI 1 ↔ hs b k := by
  rw [and1]
  exact n_eq (by omega) (by decide)
/-- the first with most memory among the first n graves of b, if it is enough -/
def mo (y : Nat → Nat) (p b : Nat) : Nat → Option Nat
  | 0 => none
  | g + 1 => match mo y p b g with
    | none => if hs b g ∧ y 1 ≤ me y p g then some g else none
    | some q => if hs b g ∧ y 1 ≤ me y p g ∧ me y p q < me y p g then some g else some q
theorem mo_lt {y : Nat → Nat} {p b : Nat} : ∀ {n q : Nat}, mo y p b n = some q → q < n
  | 0, q, h => by simp [mo] at h
  | n + 1, q, h => by
    unfold mo at h
    cases hm : mo y p b n with
    | none =>
      rw [hm] at h
      simp only at h
      split at h
      · cases h; omega
      · cases h
    | some r =>
      rw [hm] at h
      have := mo_lt hm
      simp only at h
      split at h
      · cases h; omega
      · cases h; omega
/-- how many ones a set has -/
def ones : Nat → Nat := fun b => b % 2 + b / 2 % 2 + b / 4 % 2 + b / 8 % 2 + b / 16 % 2
theorem ones_step : ∀ b, b < 32 → 0 < b → b &&& (b - 1) < b ∧ ones b = 1 + ones (b &&& (b - 1)) := by decide +kernel
theorem ones_le (b : Nat) : ones b ≤ 5 := by unfold ones; omega
/-- what is left of memory -/
def less (y : Nat → Nat) (m : Nat) : Nat := if m = 0 then 0 else m - m / y 2 - 1
/-! numbers that came from outside -/
abbrev isx (x : Int32) (n : Nat) : Prop := 0 ≤ x ∧ x < nI n
abbrev inr (x : Int32) (a b : Nat) : Prop := nI a ≤ x ∧ x ≤ nI b
theorem bI_c {P Q : Prop} [Decidable P] [Decidable Q] (h : P ↔ Q) : bI P = bI Q := by
  unfold bI
  by_cases hq : Q
  · rw [if_pos hq, if_pos (h.mpr hq)]
  · rw [if_neg hq, if_neg (fun z => hq (h.mp z))]
theorem w_lt (a b : Int32) : a.toInt64 < b.toInt64 ↔ a < b := by
  rw [Int64.lt_iff_toInt_lt, Int32.lt_iff_toInt_lt, Int32.toInt_toInt64, Int32.toInt_toInt64]
theorem w_le (a b : Int32) : a.toInt64 ≤ b.toInt64 ↔ a ≤ b := by
  rw [Int64.le_iff_toInt_le, Int32.le_iff_toInt_le, Int32.toInt_toInt64, Int32.toInt_toInt64]
theorem nI_int {n : Nat} (h : n < 2 ^ 31) : (nI n).toInt = (n : Int) := nI_toInt h
theorem isx_of {x : Int32} {n : Nat} (hn : n < 2 ^ 31) (h : isx x n) : ∃ j, j < n ∧ x = nI j := by
  obtain ⟨h1, h2⟩ := h
  obtain ⟨j, hj, rfl⟩ := nI_of (Int32.not_lt.mpr h1)
  exact ⟨j, (n_lt hj hn).mp h2, rfl⟩
theorem isx_n {j n : Nat} (hn : n < 2 ^ 31) (h : j < n) : isx (nI j) n := ⟨nI_pos' (by omega), (n_lt (by omega) hn).mpr h⟩
theorem isx_n' {j n : Nat} (hj : j < 2 ^ 31) (hn : n < 2 ^ 31) : isx (nI j) n ↔ j < n := ⟨fun h => (n_lt hj hn).mp h.2, isx_n hn⟩
theorem inr_of {x : Int32} {a b : Nat} (ha : a < 2 ^ 31) (hb : b < 2 ^ 31) (h : inr x a b) : ∃ j, a ≤ j ∧ j ≤ b ∧ x = nI j := by
  obtain ⟨h1, h2⟩ := h
  have h0 : ¬ x < 0 := by
    rw [Int32.le_iff_toInt_le, nI_int ha] at h1
    rw [Int32.lt_iff_toInt_lt]
    show ¬ _ < (0 : Int)
    omega
  obtain ⟨j, hj, rfl⟩ := nI_of h0
  exact ⟨j, (n_le ha hj).mp h1, (n_le hj hb).mp h2, rfl⟩
theorem inr_n {j a b : Nat} (hb : b < 2 ^ 31) (h1 : a ≤ j) (h2 : j ≤ b) : inr (nI j) a b := ⟨(n_le (by omega) (by omega)).mpr h1, (n_le (by omega) hb).mpr h2⟩
/-- how the reference looks at a range: by longs -/
theorem in_isx {x z : Int32} {n : Nat} (hn : n < 2 ^ 31) (hz : z.toInt = (n : Int) - 1) : ((0 : Int64) ≤ x.toInt64 ∧ x.toInt64 ≤ z.toInt64) ↔ isx x n := by
  have e : (0 : Int64) = (0 : Int32).toInt64 := rfl
  rw [e, w_le, w_le]
  unfold isx
  rw [Int32.le_iff_toInt_le (x := x) (y := z), Int32.lt_iff_toInt_lt (x := x) (y := nI n), nI_int hn, hz]
  constructor
  · intro h; exact ⟨h.1, by omega⟩
  · intro h; exact ⟨h.1, by omega⟩
theorem in_inr {x y z : Int32} {a b : Nat} (hy : y = nI a) (hz : z = nI b) : (y.toInt64 ≤ x.toInt64 ∧ x.toInt64 ≤ z.toInt64) ↔ inr x a b := by
  rw [w_le, w_le, hy, hz]
theorem nI_sub1 {n : Nat} (hn : n < 2 ^ 31) : (nI n - nI 1).toInt = (n : Int) - 1 := by
  cases n with
  | zero => decide
  | succ k =>
    rw [pk_sub (by omega), nI_int (by omega)]
    omega
theorem rt_0 {P : Prop} [Decidable P] (h : ¬ P) : some (Value.int (nI 0)) = some (Value.int (bI P)) := by rw [bI_0 h]
theorem rt_1 {P : Prop} [Decidable P] (h : P) : some (Value.int (nI 1)) = some (Value.int (bI P)) := by rw [bI_1 h]
theorem rv {x y : Int32} (h : x = y) : some (Value.int x) = some (Value.int y) := by rw [h]
/-! dreams -/
def clr (b f : Nat) : Nat := b &&& (63 ^^^ 2 ^ f)
theorem clr_eq : ∀ b, b < 64 → ∀ f, f < 6 → nI b &&& (nI (2 ^ f) ^^^ (-1)) = nI (clr b f) := by decide +kernel
theorem clr_lt : ∀ b, b < 64 → ∀ f, f < 6 → clr b f < 64 := by decide +kernel
def two (o : Option Nat) : Nat := match o with
  | none => 0
  | some q => 2 ^ q
/-- of which graves p dreams, a fever apart -/
def dset (y : Nat → Nat) (p : Nat) : Nat :=
  if 4 ≤ y (6 + p) then 2 ^ (y 4 % y 0) ||| (if y (6 + p) = 5 then 1 else 0)
  else match mo y p (y 5) (y 0) with
    | none => 0
    | some f => (if y (6 + p) = 3 then 2 ^ ((f + 1) % y 0) else 2 ^ f) ||| (if y (6 + p) = 2 then two (mo y p (clr (y 5) f) (y 0)) else 0)
def fset (y : Nat → Nat) (p s : Nat) : Nat → Nat
  | 0 => s
  | g + 1 => fset y p s g ||| (if hs (y 5) g ∧ 0 < me y p g then 2 ^ g else 0)
def dr (y : Nat → Nat) (p : Nat) : Nat := if y (16 + p) = 1 then fset y p (dset y p) (y 0) else dset y p
theorem pow6 {k : Nat} (h : k < 6) : 2 ^ k < 64 := Nat.lt_of_lt_of_le (Nat.pow_lt_pow_right (by decide) h) (by decide)
theorem or64 {a b : Nat} (ha : a < 64) (hb : b < 64) : a ||| b < 64 := Nat.or_lt_two_pow (n := 6) ha hb
theorem two_lt {y : Nat → Nat} {p b n : Nat} (hn : n ≤ 6) : two (mo y p b n) < 64 := by
  cases h : mo y p b n with
  | none => exact (by decide : (0 : Nat) < 64)
  | some q => exact pow6 (Nat.lt_of_lt_of_le (mo_lt h) hn)
theorem dset_lt {y : Nat → Nat} {p : Nat} (h1 : 1 ≤ y 0) (h6 : y 0 ≤ 6) : dset y p < 64 := by
  unfold dset
  split
  · refine or64 (pow6 (Nat.lt_of_lt_of_le (Nat.mod_lt _ h1) h6)) ?_
    split <;> decide
  · cases h : mo y p (y 5) (y 0) with
    | none => exact (by decide : (0 : Nat) < 64)
    | some f =>
      have hf := mo_lt h
      refine or64 ?_ ?_
      · split
        · exact pow6 (Nat.lt_of_lt_of_le (Nat.mod_lt _ h1) h6)
        · exact pow6 (Nat.lt_of_lt_of_le hf h6)
      · split
        · exact two_lt h6
        · decide
theorem fset_lt {y : Nat → Nat} {p s : Nat} (hs64 : s < 64) : ∀ {n : Nat}, n ≤ 6 → fset y p s n < 64
  | 0, _ => hs64
  | n + 1, h => by
    unfold fset
    refine or64 (fset_lt hs64 (by omega)) ?_
    split
    · exact pow6 (by omega)
    · decide
theorem dr_lt {y : Nat → Nat} {p : Nat} (h1 : 1 ≤ y 0) (h6 : y 0 ≤ 6) : dr y p < 64 := by
  unfold dr
  split
  · exact fset_lt (dset_lt h1 h6) h6
  · exact dset_lt h1 h6
/-- bounds that always hold -/
def Bd (y : Nat → Nat) : Prop := (∀ k, y k < 2000) ∧ y 0 ≤ 6 ∧ y 3 ≤ 5 ∧ y 5 < 64
