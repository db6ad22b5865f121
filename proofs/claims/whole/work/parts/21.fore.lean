/-! what is foretold, in naturals -/
def yrs (y : Nat → Nat) : Nat → Nat → Nat
  | 0 => y
  | n + 1 => yr (yrs y n)
theorem Va.yrs {y : Nat → Nat} (h : Va y) : ∀ n, Va (yrs y n)
  | 0 => h
  | n + 1 => (Va.yrs h n).yr
theorem yrs_4 (y : Nat → Nat) : ∀ n, yrs y n 4 = y 4 + n
  | 0 => rfl
  | n + 1 => by
    show yr (yrs y n) 4 = _
    rw [yr_4, yrs_4 y n]
    rfl
/-- the reference's state with the yard put aside -/
def asd (A : Nat → Nat → Nat) : Nat → Nat → Nat := va_up A 18 (va_cpy (A 5) (A 18) 0 0 51)
theorem asd_5 (A : Nat → Nat → Nat) : asd A 5 = A 5 := up_ne _ _ (by decide)
theorem Va.far {y : Nat → Nat} (h : Va y) : ∀ k, 51 ≤ k → y k = 0 := h.2.2.2.2.2.2.2.2.2
theorem cpy_back {y z f : Nat → Nat} (hy : ∀ k, 51 ≤ k → y k = 0) (hz : ∀ k, 51 ≤ k → z k = 0) : va_cpy (va_cpy y f 0 0 51) z 0 0 51 = y := by
  funext k
  by_cases h : k < 51
  · rw [cpy_in (by omega) (by omega), cpy_in (by omega) (by omega)]
    congr 1
    omega
  · rw [cpy_out (Or.inr (by omega)), hz k (by omega), hy k (by omega)]
theorem asd_back {A A' : Nat → Nat → Nat} {z : Nat → Nat} (hA : A' = va_up (asd A) 5 z) (hy : ∀ k, 51 ≤ k → A 5 k = 0) (hz : ∀ k, 51 ≤ k → z k = 0) : va_up A' 5 (va_cpy (A' 18) (A' 5) 0 0 51) = asd A := by
  have e18 : A' 18 = va_cpy (A 5) (A 18) 0 0 51 := by
    rw [hA, up_ne _ _ (by decide)]
    exact up_eq _ _ _
  have e5 : A' 5 = z := by rw [hA]; exact up_eq _ _ _
  rw [e18, e5, cpy_back hy hz, hA, bx_uu, ← asd_5 A]
  exact up_id _ 5
/-- suppers for all -/
def fall (y : Nat → Nat) : Nat → Nat := fun k => if 11 ≤ k ∧ k < 11 + y 3 then 1 else y k
def fallL (y : Nat → Nat) (p : Nat) : Nat → Nat := fun k => if 11 ≤ k ∧ k < 11 + p then 1 else y k
theorem fallL_0 (y : Nat → Nat) : fallL y 0 = y := by
  funext k
  exact if_neg (fun h => by omega)
theorem fallL_step (y : Nat → Nat) (p : Nat) : va_up (fallL y p) (11 + p) 1 = fallL y (p + 1) := by
  funext k
  unfold va_up fallL
  by_cases h : k = 11 + p
  · rw [if_pos h, if_pos (by omega)]
  · rw [if_neg h]
    by_cases c : 11 ≤ k ∧ k < 11 + p
    · rw [if_pos c, if_pos (by omega)]
    · rw [if_neg c, if_neg (by omega)]
theorem Va.supd {y z : Nat → Nat} (h : Va y) (hz : ∀ k, ¬ (11 ≤ k ∧ k < 16) → z k = y k) (h1 : ∀ p, p < 5 → z (11 + p) ≤ 1 ∧ (y 3 ≤ p → z (11 + p) = 0)) : Va z := by
  obtain ⟨a0, a1, a2, a3, a5, a6, a7, a8, a9, a10⟩ := h
  have e0 := hz 0 (by omega)
  have e1 := hz 1 (by omega)
  have e2 := hz 2 (by omega)
  have e3 := hz 3 (by omega)
  have e5 := hz 5 (by omega)
  refine ⟨by rw [e0]; exact a0, by rw [e1]; exact a1, by rw [e2]; exact a2, by rw [e3]; exact a3, by rw [e0, e5]; exact a5, ?_, ?_, ?_, ?_, ?_⟩
  · intro p hp
    rw [hz (6 + p) (by omega), e3]
    exact a6 p hp
  · intro p hp
    rw [e3]
    exact h1 p hp
  · intro p hp
    rw [hz (16 + p) (by omega), e3]
    exact a8 p hp
  · intro p g hp hg
    unfold me
    rw [hz (21 + 6 * p + g) (by omega), e3, e0]
    exact a9 p g hp hg
  · intro k hk
    rw [hz k (by omega)]
    exact a10 k hk
theorem Va.fall {y : Nat → Nat} (h : Va y) : Va (fall y) := by
  have a3 := h.2.2.2.1
  refine h.supd (fun k hk => if_neg (fun z => hk (by omega))) (fun p hp => ?_)
  have a7 := h.2.2.2.2.2.2.1 p hp
  show (if 11 ≤ 11 + p ∧ 11 + p < 11 + y 3 then 1 else y (11 + p)) ≤ 1 ∧ (y 3 ≤ p → (if 11 ≤ 11 + p ∧ 11 + p < 11 + y 3 then 1 else y (11 + p)) = 0)
  by_cases c : 11 ≤ 11 + p ∧ 11 + p < 11 + y 3
  · rw [if_pos c]
    exact ⟨Nat.le_refl _, fun z => by omega⟩
  · rw [if_neg c]
    exact a7
/-- one year of those till a grave is dug: with suppers for all, or as it is -/
def stp (fed : Nat) (y : Nat → Nat) : Nat → Nat := if fed = 0 then yr y else yr (fall y)
theorem Va.stp {y : Nat → Nat} (h : Va y) (fed : Nat) : Va (stp fed y) := by
  show Va (if fed = 0 then _ else _)
  split
  · exact h.yr
  · exact h.fall.yr
theorem stp_4 (fed : Nat) (y : Nat → Nat) : stp fed y 4 = y 4 + 1 := by
  unfold stp
  split
  · exact yr_4 y
  · rw [yr_4]
    show (if 11 ≤ 4 ∧ 4 < 11 + y 3 then 1 else y 4) + 1 = _
    rw [if_neg (by omega)]
/-- behind how many years g is dug; n years more are looked at -/
def dugR (fed g : Nat) : Nat → Nat → (Nat → Nat) → Int32
  | 0, k, y => if hs (y 5) g then -1000000 else nI k
  | n + 1, k, y => if hs (y 5) g then dugR fed g n (k + 1) (stp fed y) else nI k
/-- is it told so: the kept graves behind each of n years -/
def soB (it : Nat → Int32) (o : Nat) (y : Nat → Nat) : Nat → Bool
  | 0 => true
  | n + 1 => soB it o y n && decide (it (o + n) = nI (yrs y (n + 1) 5))
def whoN (it : Nat → Int32) (o : Nat) (y : Nat → Nat) (s n : Nat) : Nat → Nat
  | 0 => 0
  | k + 1 => whoN it o y s n k ||| (if soB it o (va_up y (6 + s) (k + 1)) n = true then 2 ^ (k + 1) else 0)
def whiN (it : Nat → Int32) (o : Nat) (y : Nat → Nat) (g n : Nat) : Nat → Nat
  | 0 => 0
  | p + 1 => whiN it o y g n p ||| (if soB it o (va_up y (21 + 6 * p + g) 27) n = true then 2 ^ p else 0)
/-- memory of a grave that is kept -/
def mk (y : Nat → Nat) (p g : Nat) : Nat := if hs (y 5) g then me y p g else 0
def enB (y : Nat → Nat) (p : Nat) : Nat → Bool
  | 0 => false
  | g + 1 => enB y p g || decide (y 1 ≤ mk y p g)
def keB (y : Nat → Nat) (p : Nat) : Nat → Bool
  | 0 => false
  | g + 1 => keB y p g || decide (y 1 ≤ less y (mk y p g))
def nd (y : Nat → Nat) (p : Nat) : Bool := enB y p (y 0) && !keB y p (y 0)
def ndL (y : Nat → Nat) (p : Nat) : Nat → Nat := fun k => if 11 ≤ k ∧ k < 11 + p then (if nd y (k - 11) = true then 1 else 0) else y k
def ndc (y : Nat → Nat) : Nat → Nat
  | 0 => 0
  | p + 1 => ndc y p + (if nd y p = true then 1 else 0)
/-- a year with suppers for those in need -/
def chY (y : Nat → Nat) : Nat → Nat := yr (ndL y (y 3))
def chN (y : Nat → Nat) : Nat → Nat → Nat
  | 0 => y
  | n + 1 => chY (chN y n)
def chS (y : Nat → Nat) : Nat → Nat
  | 0 => 0
  | n + 1 => chS y n + ndc (chN y n) (chN y n 3)
theorem ndL_0 (y : Nat → Nat) : ndL y 0 = y := by
  funext k
  exact if_neg (fun h => by omega)
theorem ndL_step (y : Nat → Nat) (p : Nat) : va_up (ndL y p) (11 + p) (if nd y p = true then 1 else 0) = ndL y (p + 1) := by
  funext k
  unfold va_up ndL
  by_cases h : k = 11 + p
  · subst h
    rw [if_pos rfl, if_pos (show 11 ≤ 11 + p ∧ 11 + p < 11 + (p + 1) by omega), Nat.add_sub_cancel_left]
  · rw [if_neg h]
    by_cases c : 11 ≤ k ∧ k < 11 + p
    · rw [if_pos c, if_pos (show 11 ≤ k ∧ k < 11 + (p + 1) by omega)]
    · rw [if_neg c, if_neg (show ¬ (11 ≤ k ∧ k < 11 + (p + 1)) by omega)]
theorem ndL_lo {y : Nat → Nat} {p k : Nat} (h : ¬ (11 ≤ k ∧ k < 16)) (hp : p ≤ 5) : ndL y p k = y k := if_neg (fun z => by omega)
theorem Va.ndL {y : Nat → Nat} (h : Va y) {p : Nat} (hp : p ≤ y 3) : Va (ndL y p) := by
  have a3 := h.2.2.2.1
  refine h.supd (fun k hk => ndL_lo hk (by omega)) (fun q hq => ?_)
  have a7 := h.2.2.2.2.2.2.1 q hq
  show (if 11 ≤ 11 + q ∧ 11 + q < 11 + p then (if nd y (11 + q - 11) = true then 1 else 0) else y (11 + q)) ≤ 1 ∧ (y 3 ≤ q → (if 11 ≤ 11 + q ∧ 11 + q < 11 + p then (if nd y (11 + q - 11) = true then 1 else 0) else y (11 + q)) = 0)
  by_cases c : 11 ≤ 11 + q ∧ 11 + q < 11 + p
  · rw [if_pos c]
    exact ⟨by split <;> decide, fun z => by omega⟩
  · rw [if_neg c]
    exact a7
theorem mo_ndL {y z : Nat → Nat} (h1 : z 1 = y 1) (hm : ∀ k, 21 ≤ k → z k = y k) (p b : Nat) : ∀ n, mo z p b n = mo y p b n
  | 0 => rfl
  | n + 1 => by
    unfold mo
    have e : ∀ g, me z p g = me y p g := fun g => hm _ (by omega)
    rw [mo_ndL h1 hm p b n]
    simp only [h1, e]
theorem nd_ndL {y z : Nat → Nat} (hz : ∀ k, ¬ (11 ≤ k ∧ k < 16) → z k = y k) (p : Nat) : nd z p = nd y p := by
  have h0 := hz 0 (by omega)
  have h1 := hz 1 (by omega)
  have h2 := hz 2 (by omega)
  have h5 := hz 5 (by omega)
  have em : ∀ g, mk z p g = mk y p g := by
    intro g
    unfold mk me
    rw [h5, hz (21 + 6 * p + g) (by omega)]
  have el : ∀ m, less z m = less y m := by
    intro m
    unfold less
    rw [h2]
  have e1 : ∀ n, enB z p n = enB y p n := by
    intro n
    induction n with
    | zero => rfl
    | succ n ih =>
      unfold enB
      rw [ih, h1, em]
  have e2 : ∀ n, keB z p n = keB y p n := by
    intro n
    induction n with
    | zero => rfl
    | succ n ih =>
      unfold keB
      rw [ih, h1, el, em]
  unfold nd
  rw [e1, e2, h0]
theorem Va.chN {y : Nat → Nat} (h : Va y) : ∀ n, Va (chN y n)
  | 0 => h
  | n + 1 => ((Va.chN h n).ndL (Nat.le_refl _)).yr
theorem chN_4 {y : Nat → Nat} (h : Va y) : ∀ n, chN y n 4 = y 4 + n
  | 0 => rfl
  | n + 1 => by
    have h3 := (h.chN n).2.2.2.1
    show yr (ndL (chN y n) (chN y n 3)) 4 = _
    rw [yr_4, ndL_lo (by omega) (by omega), chN_4 h n]
    rfl
/-- a place of a row -/
abbrev plc (x : Int32) (n z : Nat) : Prop := n ≤ z ∧ isx x (z - n + 1)
theorem in_plc {x w : Int32} {n z : Nat} (hn : n < 2 ^ 30) (hz : z < 2 ^ 30) (hw : w.toInt = (z : Int) - n) : ((0 : Int64) ≤ x.toInt64 ∧ x.toInt64 ≤ w.toInt64) ↔ plc x n z := by
  have e : (0 : Int64) = (0 : Int32).toInt64 := rfl
  rw [e, w_le, w_le]
  unfold plc isx
  rw [Int32.le_iff_toInt_le (x := x) (y := w), Int32.lt_iff_toInt_lt (x := x) (y := nI (z - n + 1)), nI_int (by omega), hw, Int32.le_iff_toInt_le]
  have e0 : (0 : Int32).toInt = 0 := rfl
  rw [e0]
  constructor
  · intro h
    exact ⟨by omega, h.1, by omega⟩
  · intro h
    exact ⟨h.2.1, by omega⟩
theorem asd_back2 {A A' : Nat → Nat → Nat} {w z : Nat → Nat} (hA : A' = va_up (asd A) 5 w) (hy : ∀ k, 51 ≤ k → A 5 k = 0) (hz : ∀ k, 51 ≤ k → z k = 0) : va_up A' 5 (va_cpy (A' 18) z 0 0 51) = asd A := by
  have e18 : A' 18 = va_cpy (A 5) (A 18) 0 0 51 := by
    rw [hA, up_ne _ _ (by decide)]
    exact up_eq _ _ _
  rw [e18, cpy_back hy hz, hA, bx_uu, ← asd_5 A]
  exact up_id _ 5
theorem asd_asd (A : Nat → Nat → Nat) : asd (asd A) = asd A := by
  have e : asd A 18 = va_cpy (A 5) (A 18) 0 0 51 := up_eq _ _ _
  show va_up (asd A) 18 (va_cpy (asd A 5) (asd A 18) 0 0 51) = asd A
  rw [asd_5, e]
  have e2 : va_cpy (A 5) (va_cpy (A 5) (A 18) 0 0 51) 0 0 51 = va_cpy (A 5) (A 18) 0 0 51 := by
    funext k
    by_cases h : k < 51
    · rw [cpy_in (by omega) (by omega), cpy_in (by omega) (by omega)]
    · rw [cpy_out (Or.inr (by omega))]
  rw [e2, ← e]
  exact up_id _ 18
/-- the same, as an option -/
def dugO (fed g : Nat) : Nat → Nat → (Nat → Nat) → Option Nat
  | 0, k, y => if hs (y 5) g then none else some k
  | n + 1, k, y => if hs (y 5) g then dugO fed g n (k + 1) (stp fed y) else some k
def nO : Option Nat → Int32
  | none => -1000000
  | some k => nI k
theorem dugR_O (fed g : Nat) : ∀ n k y, dugR fed g n k y = nO (dugO fed g n k y)
  | 0, k, y => by
    unfold dugR dugO
    split <;> rfl
  | n + 1, k, y => by
    unfold dugR dugO
    split
    · exact dugR_O fed g n (k + 1) _
    · rfl
theorem dugO_le {fed g : Nat} : ∀ {n k y q}, dugO fed g n k y = some q → q ≤ k + n
  | 0, k, y, q, h => by
    unfold dugO at h
    split at h
    · cases h
    · cases h; omega
  | n + 1, k, y, q, h => by
    unfold dugO at h
    split at h
    · have := dugO_le h; omega
    · cases h; omega
/-- the grave that is dug first, and when, among the first n -/
def fsG (y : Nat → Nat) : Nat → Option Nat × Nat
  | 0 => (none, 999)
  | g + 1 => match dugO 0 g 40 0 y with
    | none => fsG y g
    | some k => if 0 < k ∧ k < (fsG y g).2 then (some g, k) else fsG y g
theorem fsG_lt {y : Nat → Nat} : ∀ n, (fsG y n).2 ≤ 999
  | 0 => Nat.le_refl _
  | n + 1 => by
    have h := fsG_lt (y := y) n
    unfold fsG
    split
    · exact h
    · split
      · rename_i q; show _ ≤ 999; omega
      · exact h
theorem Va.memd {y : Nat → Nat} (h : Va y) {p g : Nat} (hp : p < y 3) (hg : g < y 0) {v : Nat} (hv : v ≤ 27) : Va (va_up y (21 + 6 * p + g) v) := by
  obtain ⟨a0, a1, a2, a3, a5, a6, a7, a8, a9, a10⟩ := h
  have lo : ∀ k, k < 21 → va_up y (21 + 6 * p + g) v k = y k := fun k hk => up_ne _ _ (by omega)
  refine ⟨by rw [lo 0 (by decide)]; exact a0, by rw [lo 1 (by decide)]; exact a1, by rw [lo 2 (by decide)]; exact a2, by rw [lo 3 (by decide)]; exact a3, by rw [lo 0 (by decide), lo 5 (by decide)]; exact a5, ?_, ?_, ?_, ?_, ?_⟩
  · intro q hq
    rw [lo (6 + q) (by omega), lo 3 (by decide)]
    exact a6 q hq
  · intro q hq
    rw [lo (11 + q) (by omega), lo 3 (by decide)]
    exact a7 q hq
  · intro q hq
    rw [lo (16 + q) (by omega), lo 3 (by decide)]
    exact a8 q hq
  · intro q j hq hj
    rw [lo 3 (by decide), lo 0 (by decide)]
    by_cases c : 21 + 6 * q + j = 21 + 6 * p + g
    · have e1 : q = p := by omega
      have e2 : j = g := by omega
      subst e1; subst e2
      unfold me
      rw [up_eq]
      exact ⟨hv, fun z => by omega⟩
    · unfold me
      rw [up_ne _ _ c]
      exact a9 q j hq hj
  · intro k hk
    rw [up_ne _ _ (by omega)]
    exact a10 k hk
theorem Va.kindd {y : Nat → Nat} (h : Va y) {p : Nat} (hp : p < y 3) {v : Nat} (h1 : 1 ≤ v) (hv : v ≤ 5) : Va (va_up y (6 + p) v) := by
  obtain ⟨a0, a1, a2, a3, a5, a6, a7, a8, a9, a10⟩ := h
  have lo : ∀ k, k < 6 ∨ 11 ≤ k → va_up y (6 + p) v k = y k := fun k hk => up_ne _ _ (by omega)
  refine ⟨by rw [lo 0 (by decide)]; exact a0, by rw [lo 1 (by decide)]; exact a1, by rw [lo 2 (by decide)]; exact a2, by rw [lo 3 (by decide)]; exact a3, by rw [lo 0 (by decide), lo 5 (by decide)]; exact a5, ?_, ?_, ?_, ?_, ?_⟩
  · intro q hq
    rw [lo 3 (by decide)]
    by_cases c : 6 + q = 6 + p
    · have e1 : q = p := by omega
      subst e1
      rw [up_eq]
      exact ⟨fun _ => ⟨h1, hv⟩, fun z => by omega⟩
    · rw [up_ne _ _ c]
      exact a6 q hq
  · intro q hq
    rw [lo (11 + q) (by omega), lo 3 (by decide)]
    exact a7 q hq
  · intro q hq
    rw [lo (16 + q) (by omega), lo 3 (by decide)]
    exact a8 q hq
  · intro q j hq hj
    unfold me
    rw [lo 3 (by decide), lo 0 (by decide), lo (21 + 6 * q + j) (by omega)]
    exact a9 q j hq hj
  · intro k hk
    rw [up_ne _ _ (by omega)]
    exact a10 k hk
