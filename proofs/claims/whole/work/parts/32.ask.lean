/-! asks: the bodies that begin, in order, and what is answered -/
def bgC : Nat → List Nat → Nat
  | c, [] => c
  | c, _ :: l => bgC (if c < 16 then c + 1 else c) l
def bgF : Nat → (Nat → Nat) → List Nat → Nat → Nat
  | _, f, [] => f
  | c, f, b :: l => bgF (if c < 16 then c + 1 else c) (if c < 16 then va_up f c b else f) l
theorem bgC_app : ∀ (l1 : List Nat) (c : Nat) (l2 : List Nat), bgC c (l1 ++ l2) = bgC (bgC c l1) l2
  | [], _, _ => rfl
  | _ :: l, _, l2 => bgC_app l _ l2
theorem bgF_app : ∀ (l1 : List Nat) (c : Nat) (f : Nat → Nat) (l2 : List Nat), bgF c f (l1 ++ l2) = bgF (bgC c l1) (bgF c f l1) l2
  | [], _, _, _ => rfl
  | _ :: l, _, _, l2 => bgF_app l _ _ l2
theorem bgC_le : ∀ (l : List Nat) (c : Nat), c ≤ 16 → bgC c l ≤ 16
  | [], _, h => h
  | _ :: l, c, h => bgC_le l _ (by split <;> omega)
abbrev hmt (G : qG) (U : List va_E) (i : Nat → Nat) (A : Nat → Nat → Nat) (B : Nat → Nat → Int32) (l : List Nat) : List va_E := hm G U (va_up i 24 (bgC (i 24) l)) (va_up A 23 (bgF (i 24) (A 23) l)) B
theorem hmt_hmt (G : qG) (U : List va_E) (i : Nat → Nat) (A : Nat → Nat → Nat) (B : Nat → Nat → Int32) (l1 l2 : List Nat) : hmt G U (va_up i 24 (bgC (i 24) l1)) (va_up A 23 (bgF (i 24) (A 23) l1)) B l2 = hmt G U i A B (l1 ++ l2) := by
  unfold hmt
  rw [up_eq, up_eq, bx_uu, bx_uu, bgC_app, bgF_app]
theorem up23 (A : Nat → Nat → Nat) (f : Nat → Nat) : va_up A 23 f 5 = A 5 := up_ne _ _ (by decide)
def mkD (y : Nat → Nat) (w : Nat) : Int32 := nI (w + me y w 0)
def szWL (y : Nat → Nat) (w : Nat) : List Nat := if y (6 + w) = 5 then [14, 13, 10] else [13, 10]
def szWV (y : Nat → Nat) (w : Nat) : Int32 := if y (6 + w) = 5 then nI 2 * (nI (mbn y w (y 0)) - nI 100) else nI (mbn y w (y 0)) - nI 100
def mkL (y : Nat → Nat) (w : Nat) : List Nat := if y (6 + w) = 2 then [24, 21, 20] else if y (6 + w) = 3 then [22, 21, 20] else if y (6 + w) = 1 then [21, 20] else [23, 20] ++ szWL y w
def mkV (y : Nat → Nat) (w : Nat) : Int32 := if y (6 + w) = 2 then nI 2 * mkD y w else if y (6 + w) = 3 then mkD y w - nI 1000 else if y (6 + w) = 1 then mkD y w else nI w - szWV y w
def szDL (y : Nat → Nat) (w : Nat) : List Nat := [11, 10] ++ mkL y w
def szDV (y : Nat → Nat) (w : Nat) : Int32 := nI (mbn y w (y 0)) + mkV y w
def szL (y : Nat → Nat) (w : Nat) : List Nat := if y (6 + w) = 2 then [12] ++ szDL y w else if 4 ≤ y (6 + w) then szWL y w else szDL y w
def szV (y : Nat → Nat) (w : Nat) : Int32 := if y (6 + w) = 2 then -szDV y w else if 4 ≤ y (6 + w) then szWV y w else szDV y w
/-- of which kinds one is -/
abbrev isK (o k : Nat) : Prop := k = 0 ∨ o = k ∨ (k = 1 ∧ o < 4) ∨ (k = 4 ∧ o = 5)
/-- how many rows there are -/
def rcN (f : Nat → Int32) : Nat → Nat
  | 0 => 0
  | r + 1 => rcN f r + (if f r < 0 then 0 else 1)
theorem rcN_le (f : Nat → Int32) : ∀ n, rcN f n ≤ n
  | 0 => Nat.le_refl _
  | n + 1 => by
    have := rcN_le f n
    unfold rcN
    split <;> omega
