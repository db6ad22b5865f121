section
variable {X : qX} {G : qG} {cc : ByteArray} {nL kc ks pc pc' d : Nat} {own : String} {lv : List (Option Value)} {st : List Value} {h : List va_E} {a b : Nat}
theorem z_ladd (C : qC X G cc nL own d) (hd : qd cc pc (.ladd) 1 pc') (k : Y X G nL kc ks pc' lv (.long (lN (a + b)) :: st) h) : Y X G nL kc ks pc lv (.long (lN b) :: .long (lN a) :: st) h := y_ladd C hd (y_topl (lN_add a b) k)
theorem z_lmul (C : qC X G cc nL own d) (hd : qd cc pc (.lmul) 1 pc') (k : Y X G nL kc ks pc' lv (.long (lN (a * b)) :: st) h) : Y X G nL kc ks pc lv (.long (lN b) :: .long (lN a) :: st) h := y_lmul C hd (y_topl (lN_mul a b) k)
theorem z_lsub (C : qC X G cc nL own d) (hd : qd cc pc (.lsub) 1 pc') (hb : b ≤ a) (k : Y X G nL kc ks pc' lv (.long (lN (a - b)) :: st) h) : Y X G nL kc ks pc lv (.long (lN b) :: .long (lN a) :: st) h := y_lsub C hd (y_topl (lN_sub hb) k)
theorem lN_ne0 (h0 : 0 < b) (hb : b < 2 ^ 63) : ¬ lN b = 0 := fun z => by
  have := (pk_lEQ (b := 0) hb (by decide)).mp z
  omega
theorem z_ldiv (C : qC X G cc nL own d) (hd : qd cc pc (.ldiv) 1 pc') (ha : a < 2 ^ 63) (h0 : 0 < b) (hb : b < 2 ^ 63) (k : Y X G nL kc ks pc' lv (.long (lN (a / b)) :: st) h) : Y X G nL kc ks pc lv (.long (lN b) :: .long (lN a) :: st) h := y_ldiv C hd (lN_ne0 h0 hb) (y_topl (pk_lDiv ha h0 hb) k)
theorem z_lrem (C : qC X G cc nL own d) (hd : qd cc pc (.lrem) 1 pc') (ha : a < 2 ^ 63) (h0 : 0 < b) (hb : b < 2 ^ 63) (k : Y X G nL kc ks pc' lv (.long (lN (a % b)) :: st) h) : Y X G nL kc ks pc lv (.long (lN b) :: .long (lN a) :: st) h := y_lrem C hd (lN_ne0 h0 hb) (y_topl (pk_lRem ha h0 hb) k)
theorem z_i2l (C : qC X G cc nL own d) (hd : qd cc pc (.i2l) 1 pc') (ha : a < 2 ^ 31) (k : Y X G nL kc ks pc' lv (.long (lN a) :: st) h) : Y X G nL kc ks pc lv (.int (nI a) :: st) h := y_i2l C hd (y_topl (nI_l ha) k)
theorem z_l2i (C : qC X G cc nL own d) (hd : qd cc pc (.l2i) 1 pc') (k : Y X G nL kc ks pc' lv (.int (nI a) :: st) h) : Y X G nL kc ks pc lv (.long (lN a) :: st) h := y_l2i C hd (y_top (lN_i a) k)
theorem z_lceq (ha : a < 2 ^ 63) (hb : b < 2 ^ 63) : lg_cmp (lN a) (lN b) = 0 ↔ a = b := (lg_cmp_eq _ _).trans (pk_lEQ ha hb)
end
/-! years by draws -/
def dwX (s : Nat) : Nat → Nat
  | 0 => s
  | k + 1 => dwX s k * 16807 % 2147483647
def dwP (y : Nat → Nat) (x : Nat) : Nat → Nat := if x % 3 = 0 ∧ x % 5 < y 3 then va_up (va_up y (11 + x % y 3) 1) (16 + x % 5) 1 else va_up y (11 + x % y 3) 1
def dwY (y : Nat → Nat) (s : Nat) : Nat → Nat → Nat
  | 0 => y
  | k + 1 => yr (dwP (dwY y s k) (dwX s (k + 1)))
theorem dwX_lt {s : Nat} (h : s < 2147483647) : ∀ k, dwX s k < 2147483647
  | 0 => h
  | k + 1 => Nat.mod_lt _ (by decide)
theorem Va.sup1 {y : Nat → Nat} (h : Va y) {p : Nat} (hp : p < y 3) : Va (va_up y (11 + p) 1) := by
  have a3 := h.2.2.2.1
  refine h.supd (fun k hk => up_ne _ _ (by omega)) (fun q hq => ?_)
  have a7 := h.2.2.2.2.2.2.1 q hq
  by_cases c : 11 + q = 11 + p
  · rw [c, up_eq]
    exact ⟨Nat.le_refl _, fun z => by omega⟩
  · rw [up_ne _ _ c]
    exact a7
theorem Va.fev1 {y : Nat → Nat} (h : Va y) {p : Nat} (hp : p < y 3) : Va (va_up y (16 + p) 1) := by
  obtain ⟨a0, a1, a2, a3, a5, a6, a7, a8, a9, a10⟩ := h
  have lo : ∀ k, k < 16 ∨ 21 ≤ k → va_up y (16 + p) 1 k = y k := fun k hk => up_ne _ _ (by omega)
  refine ⟨by rw [lo 0 (by decide)]; exact a0, by rw [lo 1 (by decide)]; exact a1, by rw [lo 2 (by decide)]; exact a2, by rw [lo 3 (by decide)]; exact a3, by rw [lo 0 (by decide), lo 5 (by decide)]; exact a5, ?_, ?_, ?_, ?_, ?_⟩
  · intro q hq
    rw [lo (6 + q) (by omega), lo 3 (by decide)]
    exact a6 q hq
  · intro q hq
    rw [lo (11 + q) (by omega), lo 3 (by decide)]
    exact a7 q hq
  · intro q hq
    rw [lo 3 (by decide)]
    by_cases c : 16 + q = 16 + p
    · have e1 : q = p := by omega
      subst e1
      rw [up_eq]
      exact ⟨Nat.le_refl _, fun z => by omega⟩
    · rw [up_ne _ _ c]
      exact a8 q hq
  · intro q j hq hj
    unfold me
    rw [lo 3 (by decide), lo 0 (by decide), lo (21 + 6 * q + j) (by omega)]
    exact a9 q j hq hj
  · intro k hk
    rw [up_ne _ _ (by omega)]
    exact a10 k hk
theorem Va.dwP {y : Nat → Nat} (h : Va y) (x : Nat) : Va (dwP y x) := by
  have a3 := h.2.2.2.1
  have hm : x % y 3 < y 3 := Nat.mod_lt _ (by omega)
  have h1 := h.sup1 hm
  show Va (if x % 3 = 0 ∧ x % 5 < y 3 then _ else _)
  split
  · rename_i c
    exact h1.fev1 (by rw [up_ne _ _ (by omega)]; exact c.2)
  · exact h1
theorem dwP_4 (y : Nat → Nat) (x : Nat) : dwP y x 4 = y 4 := by
  unfold dwP
  split
  · rw [up_ne _ _ (by omega), up_ne _ _ (by omega)]
  · rw [up_ne _ _ (by omega)]
theorem Va.dwY {y : Nat → Nat} (h : Va y) (s : Nat) : ∀ k, Va (dwY y s k)
  | 0 => h
  | k + 1 => ((Va.dwY h s k).dwP _).yr
theorem dwY_4 (y : Nat → Nat) (s : Nat) : ∀ k, dwY y s k 4 = y 4 + k
  | 0 => rfl
  | k + 1 => by
    show yr (dwP (dwY y s k) (dwX s (k + 1))) 4 = _
    rw [yr_4, dwP_4, dwY_4 y s k]
    rfl
/-- all memory of the first n sleepers -/
def smN (y : Nat → Nat) : Nat → Nat
  | 0 => 0
  | p + 1 => smN y p + mbn y p (y 0)
/-! how likely a grave is kept -/
def ptN (p s : Nat) : Nat → Nat
  | 0 => 1
  | k + 1 => ptN p s k * (if hs s k then p else 10 - p)
def isB (y : Nat → Nat) (g s : Nat) : Nat → Bool
  | 0 => false
  | k + 1 => isB y g s k || (!decide (hs s k) && decide (hs (dr y k) g))
def abN (y : Nat → Nat) (g p : Nat) : Nat → Nat
  | 0 => 0
  | s + 1 => abN y g p s + (if isB y g s (y 3) = true ∧ hs (y 5) g then ptN p s (y 3) else 0)
theorem ptN_le {p s : Nat} (hp : p ≤ 10) : ∀ k, ptN p s k ≤ 10 ^ k
  | 0 => Nat.le_refl _
  | k + 1 => by
    unfold ptN
    rw [Nat.pow_succ]
    refine Nat.mul_le_mul (ptN_le hp k) ?_
    split <;> omega
theorem abN_le {y : Nat → Nat} {g p : Nat} (hp : p ≤ 10) : ∀ s, abN y g p s ≤ s * 10 ^ y 3
  | 0 => Nat.zero_le _
  | s + 1 => by
    have h1 := abN_le (y := y) (g := g) hp s
    have h2 := ptN_le (s := s) hp (y 3)
    unfold abN
    rw [Nat.succ_mul]
    split <;> omega
theorem gcd_step (x y : Nat) : Nat.gcd y (x % y) = Nat.gcd x y := by
  rw [Nat.gcd_comm x y, Nat.gcd_rec y x, Nat.gcd_comm]
