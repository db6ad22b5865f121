/-! suppers that keep graves -/
def pI : Nat → Int32
  | 0 => -1
  | j + 1 => nI j
theorem pI_dec (j : Nat) : nI j + Int32.ofInt (-1) = pI j := by
  cases j with
  | zero => decide
  | succ k => exact pk_m1 k
theorem pI_sub (n : Nat) : nI n - nI 1 = pI n := by
  cases n with
  | zero => decide
  | succ k => exact pk_sub (by omega)
def gvL (y : Nat → Nat) (b p : Nat) : Nat → Nat := fun k => if 11 ≤ k ∧ k < 11 + p then y k ||| (b / 2 ^ (k - 11) &&& 1) else y k
theorem gvL_0 (y : Nat → Nat) (b : Nat) : gvL y b 0 = y := by
  funext k
  exact if_neg (fun h => by omega)
theorem gvL_at (y : Nat → Nat) (b p : Nat) : gvL y b p (11 + p) = y (11 + p) := if_neg (fun h => by omega)
theorem gvL_step (y : Nat → Nat) (b p : Nat) : va_up (gvL y b p) (11 + p) (y (11 + p) ||| (b / 2 ^ p &&& 1)) = gvL y b (p + 1) := by
  funext k
  unfold va_up gvL
  by_cases h : k = 11 + p
  · subst h
    rw [if_pos rfl, if_pos (show 11 ≤ 11 + p ∧ 11 + p < 11 + (p + 1) by omega), Nat.add_sub_cancel_left]
  · rw [if_neg h]
    by_cases c : 11 ≤ k ∧ k < 11 + p
    · rw [if_pos c, if_pos (show 11 ≤ k ∧ k < 11 + (p + 1) by omega)]
    · rw [if_neg c, if_neg (show ¬ (11 ≤ k ∧ k < 11 + (p + 1)) by omega)]
abbrev gv (y : Nat → Nat) (b : Nat) : Nat → Nat := gvL y b (y 3)
theorem gvL_lo {y : Nat → Nat} {b p k : Nat} (h : ¬ (11 ≤ k ∧ k < 16)) (hp : p ≤ 5) : gvL y b p k = y k := if_neg (fun z => by omega)
theorem or_le1 {a b : Nat} (ha : a ≤ 1) (hb : b ≤ 1) : a ||| b ≤ 1 := by
  have : a = 0 ∨ a = 1 := by omega
  have : b = 0 ∨ b = 1 := by omega
  rcases ‹a = 0 ∨ a = 1› with rfl | rfl <;> rcases ‹b = 0 ∨ b = 1› with rfl | rfl <;> decide
theorem and1_le (n : Nat) : n &&& 1 ≤ 1 := by rw [and1]; omega
theorem Va.gv {y : Nat → Nat} (h : Va y) (b : Nat) : Va (gv y b) := by
  have a3 := h.2.2.2.1
  refine h.supd (fun k hk => gvL_lo hk (by omega)) (fun p hp => ?_)
  have a7 := h.2.2.2.2.2.2.1 p hp
  show (if 11 ≤ 11 + p ∧ 11 + p < 11 + y 3 then y (11 + p) ||| (b / 2 ^ (11 + p - 11) &&& 1) else y (11 + p)) ≤ 1 ∧ (y 3 ≤ p → (if 11 ≤ 11 + p ∧ 11 + p < 11 + y 3 then y (11 + p) ||| (b / 2 ^ (11 + p - 11) &&& 1) else y (11 + p)) = 0)
  by_cases c : 11 ≤ 11 + p ∧ 11 + p < 11 + y 3
  · rw [if_pos c]
    exact ⟨or_le1 a7.1 (and1_le _), fun z => by omega⟩
  · rw [if_neg c]
    exact a7
/-- the yard behind k years with the suppers that w tells -/
def kyN (y w : Nat → Nat) : Nat → Nat → Nat
  | 0 => y
  | k + 1 => yr (gv (kyN y w k) (w k))
theorem Va.kyN {y : Nat → Nat} (h : Va y) (w : Nat → Nat) : ∀ n, Va (kyN y w n)
  | 0 => h
  | n + 1 => ((Va.kyN h w n).gv _).yr
theorem kyN_4 {y : Nat → Nat} (h : Va y) (w : Nat → Nat) : ∀ n, kyN y w n 4 = y 4 + n
  | 0 => rfl
  | n + 1 => by
    have a3 := (h.kyN w n).2.2.2.1
    show yr (gv (kyN y w n) (w n)) 4 = _
    rw [yr_4, show gv (kyN y w n) (w n) 4 = kyN y w n 4 from gvL_lo (by omega) (by omega), kyN_4 h w n]
    rfl
theorem kyN_congr {y w v : Nat → Nat} : ∀ n, (∀ t, t < n → w t = v t) → kyN y w n = kyN y v n
  | 0, _ => rfl
  | n + 1, h => by
    show yr (gv (kyN y w n) (w n)) = yr (gv (kyN y v n) (v n))
    rw [kyN_congr n (fun t ht => h t (by omega)), h n (by omega)]
/-- the digits of a way -/
def wy (W n r t : Nat) : Nat := r / W ^ (n - 1 - t) % W
/-- ones of the digits from j on -/
def wo (W n r : Nat) : Nat → Nat
  | 0 => 0
  | m + 1 => wo W n r m + ones (wy W n r (n - 1 - m))
def wyL (f : Nat → Nat) (W n r j : Nat) : Nat → Nat := fun t => if j ≤ t ∧ t < n then wy W n r t else f t
theorem wyL_n (f : Nat → Nat) (W n r : Nat) : wyL f W n r n = f := by
  funext t
  exact if_neg (fun h => by omega)
theorem wyL_step (f : Nat → Nat) (W n r j : Nat) (hj : j < n) : va_up (wyL f W n r (j + 1)) j (wy W n r j) = wyL f W n r j := by
  funext t
  unfold va_up wyL
  by_cases h : t = j
  · subst h
    rw [if_pos rfl, if_pos (by omega)]
  · rw [if_neg h]
    by_cases c : j + 1 ≤ t ∧ t < n
    · rw [if_pos c, if_pos (show j ≤ t ∧ t < n by omega)]
    · rw [if_neg c, if_neg (show ¬ (j ≤ t ∧ t < n) by omega)]
theorem wyL_in {f : Nat → Nat} {W n r t : Nat} (h : t < n) : wyL f W n r 0 t = wy W n r t := if_pos ⟨by omega, h⟩
def keptW (y : Nat → Nat) (gs W n r : Nat) : Prop := andn gs (kyN y (wy W n r) n 5) = 0
def lsB (o : Option Nat) (m : Nat) : Bool := match o with
  | none => true
  | some q => decide (m < q)
/-- the best of the first r ways: how many suppers, which way -/
def fw (y : Nat → Nat) (gs W n told b0 : Nat) : Nat → Option Nat × Nat
  | 0 => (none, b0)
  | r + 1 => if (wy W n r 0 &&& told = 0 ∧ lsB (fw y gs W n told b0 r).1 (wo W n r n) = true) ∧ andn gs (kyN y (wy W n r) n 5) = 0 then (some (wo W n r n), r) else fw y gs W n told b0 r
/-- what the reference's array 'aside' holds behind r ways -/
def fwA (y : Nat → Nat) (gs W n told b0 : Nat) (f : Nat → Nat) : Nat → Nat → Nat
  | 0 => f
  | r + 1 => if wy W n r 0 &&& told = 0 ∧ lsB (fw y gs W n told b0 r).1 (wo W n r n) = true then va_cpy y (fwA y gs W n told b0 f r) 0 0 51 else fwA y gs W n told b0 f r
def fwW (W n : Nat) (f : Nat → Nat) : Nat → Nat → Nat
  | 0 => f
  | r + 1 => wyL (fwW W n f r) W n r 0
theorem wo_le (W n r : Nat) : ∀ m, wo W n r m ≤ 5 * m
  | 0 => Nat.le_refl _
  | m + 1 => by
    have h1 := wo_le W n r m
    have h2 := ones_le (wy W n r (n - 1 - m))
    unfold wo
    omega
theorem fw_le {y : Nat → Nat} {gs W n told b0 : Nat} : ∀ r q, (fw y gs W n told b0 r).1 = some q → q ≤ 5 * n
  | 0, q, h => by cases h
  | r + 1, q, h => by
    unfold fw at h
    split at h
    · cases h
      exact wo_le W n r n
    · exact fw_le r q h
theorem fw_lt {y : Nat → Nat} {gs W n told b0 : Nat} (hb : b0 < 40000) : ∀ r, r ≤ 32768 → (fw y gs W n told b0 r).2 < 40000
  | 0, _ => hb
  | r + 1, h => by
    unfold fw
    split
    · show r < 40000; omega
    · exact fw_lt hb r (by omega)
theorem up_comm {α : Type} (f : Nat → α) {k j : Nat} (a b : α) (h : k ≠ j) : va_up (va_up f k a) j b = va_up (va_up f j b) k a := by
  funext t
  unfold va_up
  by_cases c : t = j
  · rw [if_pos c]
    by_cases d : t = k
    · exact absurd (d.symm.trans c) h
    · rw [if_neg d, if_pos c]
  · rw [if_neg c]
    by_cases d : t = k
    · rw [if_pos d, if_pos d]
    · rw [if_neg d, if_neg d, if_neg c]
/-- the reference's arrays with other asides and ways -/
abbrev ast (A : Nat → Nat → Nat) (f w : Nat → Nat) : Nat → Nat → Nat := va_up (va_up A 18 f) 19 w
theorem ast_5 (A : Nat → Nat → Nat) (f w : Nat → Nat) : ast A f w 5 = A 5 := (up_ne _ _ (by decide)).trans (up_ne _ _ (by decide))
theorem ast_18 (A : Nat → Nat → Nat) (f w : Nat → Nat) : ast A f w 18 = f := (up_ne _ _ (by decide)).trans (up_eq _ _ _)
theorem ast_19 (A : Nat → Nat → Nat) (f w : Nat → Nat) : ast A f w 19 = w := up_eq _ _ _
theorem asd_ast (A : Nat → Nat → Nat) (f w : Nat → Nat) : asd (ast A f w) = ast A (va_cpy (A 5) f 0 0 51) w := by
  unfold asd
  rw [ast_5, ast_18]
  unfold ast
  rw [up_comm _ _ _ (by decide : (19 : Nat) ≠ 18), bx_uu]
theorem ast_id (A : Nat → Nat → Nat) : ast A (A 18) (A 19) = A := by
  unfold ast
  rw [up_id, up_id]
theorem wyL_lt {f : Nat → Nat} {W n r j : Nat} (hf : ∀ t, f t < 64) (h0 : 0 < W) (hW : W ≤ 64) : ∀ t, wyL f W n r j t < 64 := by
  intro t
  unfold wyL
  split
  · exact Nat.lt_of_lt_of_le (Nat.mod_lt _ h0) hW
  · exact hf t
theorem fwW_lt {f : Nat → Nat} {W n : Nat} (hf : ∀ t, f t < 64) (h0 : 0 < W) (hW : W ≤ 64) : ∀ r t, fwW W n f r t < 64
  | 0 => hf
  | r + 1 => wyL_lt (fwW_lt hf h0 hW r) h0 hW
theorem pI_dcs (j : Nat) : pI (j + 1) + Int32.ofInt (-1) = pI j := pI_dec j
