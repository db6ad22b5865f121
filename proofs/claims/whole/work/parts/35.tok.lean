/-! tokens of the tape t of n bytes, that begin at s -/
abbrev isD (c : Nat) : Prop := 48 ≤ c ∧ c ≤ 57
def de (t : Nat → Nat) (n : Nat) : Nat → Nat → Nat
  | 0, s => s
  | f + 1, s => if isD (t s) then de t n f (s + 1) else s
def dv (t : Nat → Nat) (n : Nat) : Nat → Nat → Nat → Nat
  | 0, _, v => v
  | f + 1, s, v => if isD (t s) then dv t n f (s + 1) (if v ≤ 99 then 10 * v + t s - 48 else v) else v
abbrev dE (t : Nat → Nat) (n s : Nat) : Nat := de t n (n - s) s
abbrev sgn (c : Nat) : Prop := (97 ≤ c ∧ c ≤ 122) ∨ c = 44 ∨ c = 59
def tkK (t : Nat → Nat) (n s : Nat) : Nat := if s < dE t n s then (if 2 < dE t n s - s then 0 else 2) else if s = n then 3 else if sgn (t s) then 1 else 0
def tkV (t : Nat → Nat) (n s : Nat) : Nat := if s < dE t n s then dv t n (n - s) s 0 else if s = n then 0 else t s
def tkN (t : Nat → Nat) (n s : Nat) : Nat := if s < dE t n s then dE t n s else if s = n then s else s + 1
theorem de_ge (t : Nat → Nat) (n : Nat) : ∀ f s, s ≤ de t n f s
  | 0, s => Nat.le_refl _
  | f + 1, s => by
    unfold de
    split
    · exact Nat.le_trans (Nat.le_succ _) (de_ge t n f (s + 1))
    · exact Nat.le_refl _
theorem de_le (t : Nat → Nat) (n : Nat) : ∀ f s, de t n f s ≤ s + f
  | 0, s => Nat.le_refl _
  | f + 1, s => by
    have h := de_le t n f (s + 1)
    unfold de
    split <;> omega
theorem dv_le {t : Nat → Nat} {n : Nat} (ht : ∀ k, t k < 256) : ∀ f s v, v ≤ 999 → dv t n f s v ≤ 999
  | 0, _, v, h => h
  | f + 1, s, v, h => by
    unfold dv
    split
    · rename_i c
      refine dv_le ht f (s + 1) _ ?_
      split <;> omega
    · exact h
theorem tkN_le {t : Nat → Nat} {n s : Nat} (h : s ≤ n) : tkN t n s ≤ n := by
  have := de_le t n (n - s) s
  unfold tkN
  split
  · show de t n (n - s) s ≤ n; omega
  · split <;> omega
theorem tkV_le {t : Nat → Nat} {n s : Nat} (ht : ∀ k, t k < 256) : tkV t n s ≤ 999 := by
  have := ht s
  unfold tkV
  split
  · exact dv_le ht _ _ _ (by omega)
  · split <;> omega
theorem tkK_lt (t : Nat → Nat) (n s : Nat) : tkK t n s < 4 := by
  unfold tkK
  split
  · split <;> omega
  · split
    · omega
    · split <;> omega
/-- the reference's fields with the token that begins at s -/
def tokS (i : Nat → Nat) (t : Nat → Nat) (n s : Nat) : Nat → Nat := va_up (va_up (va_up (va_up i 13 s) 11 (tkK t n s)) 12 (tkV t n s)) 10 (tkN t n s)
theorem tokS_o {i t : Nat → Nat} {n s k : Nat} (h : k < 10 ∨ 13 < k) : tokS i t n s k = i k := by
  unfold tokS
  rw [up_ne _ _ (by omega), up_ne _ _ (by omega), up_ne _ _ (by omega), up_ne _ _ (by omega)]
theorem tokS_10 (i t : Nat → Nat) (n s : Nat) : tokS i t n s 10 = tkN t n s := up_eq _ _ _
theorem tokS_11 (i t : Nat → Nat) (n s : Nat) : tokS i t n s 11 = tkK t n s := by
  unfold tokS
  rw [up_ne _ _ (by decide), up_ne _ _ (by decide), up_eq]
theorem tokS_12 (i t : Nat → Nat) (n s : Nat) : tokS i t n s 12 = tkV t n s := by
  unfold tokS
  rw [up_ne _ _ (by decide), up_eq]
theorem tokS_13 (i t : Nat → Nat) (n s : Nat) : tokS i t n s 13 = s := by
  unfold tokS
  rw [up_ne _ _ (by decide), up_ne _ _ (by decide), up_ne _ _ (by decide), up_eq]
theorem tokS_ext {i j t : Nat → Nat} {n s : Nat} (h : ∀ k, (k < 10 ∨ 13 < k) → j k = i k) (h10 : j 10 = tkN t n s) (h11 : j 11 = tkK t n s) (h12 : j 12 = tkV t n s) (h13 : j 13 = s) : j = tokS i t n s := by
  funext k
  by_cases c : k < 10 ∨ 13 < k
  · rw [h k c, tokS_o c]
  · have : k = 10 ∨ k = 11 ∨ k = 12 ∨ k = 13 := by omega
    rcases this with rfl | rfl | rfl | rfl
    · rw [h10, tokS_10]
    · rw [h11, tokS_11]
    · rw [h12, tokS_12]
    · rw [h13, tokS_13]
theorem tokS_tokS (i t : Nat → Nat) (n s s' : Nat) : tokS (tokS i t n s) t n s' = tokS i t n s' :=
  tokS_ext (fun k hk => by rw [tokS_o hk, tokS_o hk]) (tokS_10 _ _ _ _) (tokS_11 _ _ _ _) (tokS_12 _ _ _ _) (tokS_13 _ _ _ _)
theorem tokS_14 (i t : Nat → Nat) (n s w : Nat) : va_up (tokS i t n s) 14 w = tokS (va_up i 14 w) t n s := by
  refine tokS_ext (fun k hk => ?_) ?_ ?_ ?_ ?_
  · by_cases c : k = 14
    · rw [c, up_eq, up_eq]
    · rw [up_ne _ _ c, up_ne _ _ c, tokS_o hk]
  · rw [up_ne _ _ (by decide), tokS_10]
  · rw [up_ne _ _ (by decide), tokS_11]
  · rw [up_ne _ _ (by decide), tokS_12]
  · rw [up_ne _ _ (by decide), tokS_13]
theorem upp (i : Nat → Nat) (a b c d : Nat) : va_up (va_up (va_up (va_up i 12 a) 10 b) 12 c) 10 d = va_up (va_up i 12 c) 10 d := by
  rw [up_comm (va_up i 12 a) b c (by decide : (10 : Nat) ≠ 12), bx_uu, bx_uu]
theorem inr_n' {j a b : Nat} (hj : j < 2 ^ 31) (ha : a < 2 ^ 31) (hb : b < 2 ^ 31) : inr (nI j) a b ↔ (a ≤ j ∧ j ≤ b) := by
  unfold inr
  rw [n_le ha hj, n_le hj hb]
theorem tokS_of {i t J : Nat → Nat} {n s a b c : Nat} (hj : ∀ k, (k < 10 ∨ 13 < k) → J k = i k) (h13 : J 13 = s) (ha : a = tkN t n s) (hb : b = tkK t n s) (hc : c = tkV t n s) : va_up (va_up (va_up J 12 c) 11 b) 10 a = tokS i t n s := by
  refine tokS_ext (fun k hk => ?_) ?_ ?_ ?_ ?_
  · rw [up_ne _ _ (by omega), up_ne _ _ (by omega), up_ne _ _ (by omega), hj k hk]
  · rw [up_eq, ha]
  · rw [up_ne _ _ (by decide), up_eq, hb]
  · rw [up_ne _ _ (by decide), up_ne _ _ (by decide), up_eq, hc]
  · rw [up_ne _ _ (by decide), up_ne _ _ (by decide), up_ne _ _ (by decide), h13]
theorem tokS_of2 {i t J : Nat → Nat} {n s a b c : Nat} (hj : ∀ k, (k < 10 ∨ 13 < k) → J k = i k) (h13 : J 13 = s) (ha : a = tkN t n s) (hb : b = tkK t n s) (hc : c = tkV t n s) : va_up (va_up (va_up J 12 c) 10 a) 11 b = tokS i t n s := by
  rw [up_comm _ _ _ (by decide : (10 : Nat) ≠ 11)]
  exact tokS_of hj h13 ha hb hc
theorem tokS_of3 {i t J : Nat → Nat} {n s a c : Nat} (hj : ∀ k, (k < 10 ∨ 13 < k) → J k = i k) (h13 : J 13 = s) (ha : a = tkN t n s) (hb : J 11 = tkK t n s) (hc : c = tkV t n s) : va_up (va_up J 12 c) 10 a = tokS i t n s := by
  have e := tokS_of2 (b := J 11) hj h13 ha hb hc
  rw [← e]
  have : va_up (va_up J 12 c) 10 a 11 = J 11 := by rw [up_ne _ _ (by decide), up_ne _ _ (by decide)]
  rw [← this, up_id]
theorem up12 (J : Nat → Nat) (a b c : Nat) : va_up (va_up (va_up J 12 a) 10 b) 12 c = va_up (va_up J 10 b) 12 c := by
  rw [up_comm _ _ _ (by decide : (10 : Nat) ≠ 12), bx_uu, up_comm _ _ _ (by decide : (12 : Nat) ≠ 10)]
