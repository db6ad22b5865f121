/-! a year, as a function of the yard -/
def andn (b d : Nat) : Nat := b &&& (63 ^^^ d)
theorem andn_eq : ∀ b, b < 64 → ∀ d, d < 64 → nI b &&& (nI d ^^^ (-1)) = nI (andn b d) := by decide +kernel
theorem andn_lt : ∀ b, b < 64 → ∀ d, d < 64 → andn b d < 64 := by decide +kernel
/-- a yard that was read -/
def Va (y : Nat → Nat) : Prop := (1 ≤ y 0 ∧ y 0 ≤ 6) ∧ (1 ≤ y 1 ∧ y 1 ≤ 9) ∧ (2 ≤ y 2 ∧ y 2 ≤ 9) ∧ (1 ≤ y 3 ∧ y 3 ≤ 5) ∧ y 5 < 2 ^ y 0 ∧
  (∀ p, p < 5 → (p < y 3 → 1 ≤ y (6 + p) ∧ y (6 + p) ≤ 5) ∧ (y 3 ≤ p → y (6 + p) = 0)) ∧ (∀ p, p < 5 → y (11 + p) ≤ 1 ∧ (y 3 ≤ p → y (11 + p) = 0)) ∧ (∀ p, p < 5 → y (16 + p) ≤ 1 ∧ (y 3 ≤ p → y (16 + p) = 0)) ∧
  (∀ p g, p < 5 → g < 6 → me y p g ≤ 27 ∧ (y 3 ≤ p ∨ y 0 ≤ g → me y p g = 0)) ∧ ∀ k, 51 ≤ k → y k = 0
theorem Va.k64 {y : Nat → Nat} (h : Va y) : y 5 < 64 := Nat.lt_of_lt_of_le h.2.2.2.2.1 (Nat.pow_le_pow_right (by decide) h.1.2 : 2 ^ y 0 ≤ 2 ^ 6)
theorem Va.lt {y : Nat → Nat} (h : Va y) (h4 : y 4 < 2000) (k : Nat) : y k < 2000 := by
  obtain ⟨a0, a1, a2, a3, a5, a6, a7, a8, a9, a10⟩ := id h
  have a5 := h.k64
  by_cases c1 : k < 6
  · match k, c1 with
    | 0, _ => omega
    | 1, _ => omega
    | 2, _ => omega
    | 3, _ => omega
    | 4, _ => omega
    | 5, _ => omega
  · by_cases c2 : k < 11
    · obtain ⟨p, rfl⟩ : ∃ p, k = 6 + p := ⟨k - 6, by omega⟩
      have := a6 p (by omega)
      by_cases hp : p < y 3
      · have := this.1 hp; omega
      · have := this.2 (by omega); omega
    · by_cases c3 : k < 16
      · obtain ⟨p, rfl⟩ : ∃ p, k = 11 + p := ⟨k - 11, by omega⟩
        have := a7 p (by omega); omega
      · by_cases c4 : k < 21
        · obtain ⟨p, rfl⟩ : ∃ p, k = 16 + p := ⟨k - 16, by omega⟩
          have := a8 p (by omega); omega
        · by_cases c5 : k < 51
          · have := (a9 ((k - 21) / 6) ((k - 21) % 6) (by omega) (by omega)).1
            have e : 21 + 6 * ((k - 21) / 6) + (k - 21) % 6 = k := by omega
            unfold me at this
            rw [e] at this
            omega
          · have := a10 k (by omega); omega
/-- memory outside the yard is 0 -/
theorem Va.out {y : Nat → Nat} (h : Va y) {k : Nat} (hk : 21 ≤ k) (ho : y 3 ≤ (k - 21) / 6 ∨ y 0 ≤ (k - 21) % 6) : y k = 0 := by
  obtain ⟨a0, a1, a2, a3, a5, a6, a7, a8, a9, a10⟩ := h
  by_cases c5 : k < 51
  · have := (a9 ((k - 21) / 6) ((k - 21) % 6) (by omega) (by omega)).2 ho
    have e : 21 + 6 * ((k - 21) / 6) + (k - 21) % 6 = k := by omega
    unfold me at this
    rw [e] at this
    exact this
  · exact a10 k (by omega)
/-- all dreams of the first n sleepers -/
def adn (y : Nat → Nat) : Nat → Nat
  | 0 => 0
  | p + 1 => adn y p ||| dr y p
abbrev ad (y : Nat → Nat) : Nat := adn y (y 3)
theorem adn_lt {y : Nat → Nat} (h1 : 1 ≤ y 0) (h6 : y 0 ≤ 6) : ∀ n, adn y n < 64
  | 0 => (by decide : (0 : Nat) < 64)
  | n + 1 => or64 (adn_lt h1 h6 n) (dr_lt h1 h6)
/-- digging, as far as grave g, sleeper p -/
def dgL (y : Nat → Nat) (lost g p : Nat) : Nat → Nat := fun k => if 21 ≤ k ∧ hs lost ((k - 21) % 6) ∧ ((k - 21) % 6 < g ∨ ((k - 21) % 6 = g ∧ (k - 21) / 6 < p)) then 0 else y k
def dg (y : Nat → Nat) (lost : Nat) : Nat → Nat := fun k => if 21 ≤ k ∧ hs lost ((k - 21) % 6) then 0 else y k
theorem dgL_lo {y : Nat → Nat} {lost g p k : Nat} (hk : k < 21) : dgL y lost g p k = y k := if_neg (fun h => by omega)
theorem dgL_0 {y : Nat → Nat} {lost : Nat} : dgL y lost 0 0 = y := by
  funext k
  exact if_neg (fun h => by omega)
theorem dgL_step {y : Nat → Nat} {lost g p : Nat} (hg : g < 6) (hh : hs lost g) : va_up (dgL y lost g p) (21 + 6 * p + g) 0 = dgL y lost g (p + 1) := by
  funext k
  unfold va_up dgL
  by_cases hk : k = 21 + 6 * p + g
  · subst hk
    have e1 : (21 + 6 * p + g - 21) % 6 = g := by omega
    have e2 : (21 + 6 * p + g - 21) / 6 = p := by omega
    rw [if_pos rfl, e1, e2, if_pos ⟨by omega, hh, Or.inr ⟨rfl, by omega⟩⟩]
  · rw [if_neg hk]
    by_cases c : 21 ≤ k ∧ hs lost ((k - 21) % 6) ∧ ((k - 21) % 6 < g ∨ ((k - 21) % 6 = g ∧ (k - 21) / 6 < p))
    · rw [if_pos c, if_pos ⟨c.1, c.2.1, by omega⟩]
    · rw [if_neg c, if_neg]
      intro d
      exact c ⟨d.1, d.2.1, by omega⟩
theorem dgL_row {y : Nat → Nat} {lost g : Nat} (h : Va y) {p : Nat} (hp : y 3 ≤ p ∨ ¬ hs lost g) : dgL y lost g p = dgL y lost (g + 1) 0 := by
  funext k
  unfold dgL
  by_cases c : 21 ≤ k ∧ hs lost ((k - 21) % 6) ∧ ((k - 21) % 6 < g ∨ ((k - 21) % 6 = g ∧ (k - 21) / 6 < p))
  · rw [if_pos c, if_pos ⟨c.1, c.2.1, by omega⟩]
  · rw [if_neg c]
    by_cases d : 21 ≤ k ∧ hs lost ((k - 21) % 6) ∧ ((k - 21) % 6 < g + 1 ∨ ((k - 21) % 6 = g + 1 ∧ (k - 21) / 6 < 0))
    · rw [if_pos d]
      have e : (k - 21) % 6 = g := by
        rcases Nat.lt_or_ge ((k - 21) % 6) g with z | z
        · exact absurd ⟨d.1, d.2.1, Or.inl z⟩ c
        · omega
      rcases hp with hp | hp
      · refine h.out d.1 (Or.inl ?_)
        rcases Nat.lt_or_ge ((k - 21) / 6) p with z | z
        · exact absurd ⟨d.1, d.2.1, Or.inr ⟨e, z⟩⟩ c
        · omega
      · exact absurd (e ▸ d.2.1) hp
    · rw [if_neg d]
theorem dgL_end {y : Nat → Nat} {lost : Nat} (h : Va y) : dgL y lost (y 0) 0 = dg y lost := by
  funext k
  unfold dgL dg
  by_cases c : 21 ≤ k ∧ hs lost ((k - 21) % 6)
  · rw [if_pos c]
    by_cases d : (k - 21) % 6 < y 0
    · rw [if_pos ⟨c.1, c.2, Or.inl d⟩]
    · rw [if_neg (fun z => by omega)]
      exact h.out c.1 (Or.inr (by omega))
  · rw [if_neg c, if_neg (fun z => c ⟨z.1, z.2.1⟩)]
/-- fading, as far as sleeper p, grave g -/
def fdL (y : Nat → Nat) (p g : Nat) : Nat → Nat := fun k =>
  if 21 ≤ k then (if ((k - 21) / 6 < p ∨ ((k - 21) / 6 = p ∧ (k - 21) % 6 < g)) ∧ y (11 + (k - 21) / 6) = 0 then less y (y k) else y k)
  else if (11 ≤ k ∧ k < 11 + p) ∨ (16 ≤ k ∧ k < 16 + p) then 0 else y k
def fd (y : Nat → Nat) : Nat → Nat := fun k => if 21 ≤ k then (if y (11 + (k - 21) / 6) = 0 then less y (y k) else y k) else if 11 ≤ k then 0 else y k
theorem less_0 (y : Nat → Nat) : less y 0 = 0 := if_pos rfl
theorem fdL_lo {y : Nat → Nat} {p g k : Nat} (hk : k < 11) : fdL y p g k = y k := by
  unfold fdL
  rw [if_neg (by omega), if_neg (by omega)]
theorem fdL_0 {y : Nat → Nat} : fdL y 0 0 = y := by
  funext k
  unfold fdL
  by_cases h : 21 ≤ k
  · rw [if_pos h, if_neg (fun z => by omega)]
  · rw [if_neg h, if_neg (fun z => by omega)]
theorem fdL_sup {y : Nat → Nat} {p g : Nat} (hp : p < 5) : fdL y p g (11 + p) = y (11 + p) := by
  unfold fdL
  rw [if_neg (by omega), if_neg (by omega)]
theorem fdL_mem {y : Nat → Nat} {p g : Nat} (hg : g < 6) : fdL y p g (21 + 6 * p + g) = me y p g := by
  unfold fdL
  rw [if_pos (by omega), if_neg (fun z => by omega)]
theorem fdL_step {y : Nat → Nat} {p g : Nat} (hg : g < 6) (hz : y (11 + p) = 0) : va_up (fdL y p g) (21 + 6 * p + g) (less y (me y p g)) = fdL y p (g + 1) := by
  funext k
  unfold va_up
  by_cases hk : k = 21 + 6 * p + g
  · subst hk
    have e1 : (21 + 6 * p + g - 21) % 6 = g := by omega
    have e2 : (21 + 6 * p + g - 21) / 6 = p := by omega
    unfold fdL
    rw [if_pos rfl, if_pos (by omega), e1, e2, if_pos ⟨Or.inr ⟨rfl, by omega⟩, hz⟩]
  · rw [if_neg hk]
    unfold fdL
    by_cases h : 21 ≤ k
    · rw [if_pos h, if_pos h]
      by_cases c : ((k - 21) / 6 < p ∨ ((k - 21) / 6 = p ∧ (k - 21) % 6 < g)) ∧ y (11 + (k - 21) / 6) = 0
      · rw [if_pos c, if_pos ⟨by omega, c.2⟩]
      · rw [if_neg c, if_neg (fun z => c ⟨by omega, z.2⟩)]
    · rw [if_neg h, if_neg h]
theorem fdL_row {y : Nat → Nat} {p g : Nat} (h : Va y) (hp : p < 5) (hg : y 0 ≤ g ∨ y (11 + p) ≠ 0) : va_up (va_up (fdL y p g) (11 + p) 0) (16 + p) 0 = fdL y (p + 1) 0 := by
  funext k
  unfold va_up fdL
  by_cases h1 : k = 16 + p
  · rw [if_pos h1, if_neg (by omega), if_pos (by omega)]
  · rw [if_neg h1]
    by_cases h2 : k = 11 + p
    · rw [if_pos h2, if_neg (by omega), if_pos (by omega)]
    · rw [if_neg h2]
      by_cases h3 : 21 ≤ k
      · rw [if_pos h3, if_pos h3]
        by_cases c : ((k - 21) / 6 < p ∨ ((k - 21) / 6 = p ∧ (k - 21) % 6 < g)) ∧ y (11 + (k - 21) / 6) = 0
        · rw [if_pos c, if_pos ⟨by omega, c.2⟩]
        · rw [if_neg c]
          by_cases d : ((k - 21) / 6 < p + 1 ∨ ((k - 21) / 6 = p + 1 ∧ (k - 21) % 6 < 0)) ∧ y (11 + (k - 21) / 6) = 0
          · rw [if_pos d]
            have e : (k - 21) / 6 = p := by
              rcases Nat.lt_or_ge ((k - 21) / 6) p with z | z
              · exact absurd ⟨Or.inl z, d.2⟩ c
              · omega
            rcases hg with hg | hg
            · have hz : y k = 0 := h.out h3 (Or.inr (by
                rcases Nat.lt_or_ge ((k - 21) % 6) g with z | z
                · exact absurd ⟨Or.inr ⟨e, z⟩, d.2⟩ c
                · omega))
              rw [hz, less_0]
            · exact absurd (e ▸ d.2) hg
          · rw [if_neg d]
      · rw [if_neg h3, if_neg h3]
        by_cases c : (11 ≤ k ∧ k < 11 + p) ∨ (16 ≤ k ∧ k < 16 + p)
        · rw [if_pos c, if_pos (by omega)]
        · rw [if_neg c, if_neg (by omega)]
theorem fdL_end {y : Nat → Nat} (h : Va y) : fdL y (y 3) 0 = fd y := by
  have h3 := h.2.2.2.1
  funext k
  unfold fdL fd
  by_cases c : 21 ≤ k
  · rw [if_pos c, if_pos c]
    by_cases d : y (11 + (k - 21) / 6) = 0
    · rw [if_pos d]
      by_cases z : (k - 21) / 6 < y 3
      · rw [if_pos ⟨Or.inl z, d⟩]
      · rw [if_neg (fun q => by omega), h.out c (Or.inl (by omega)), less_0]
    · rw [if_neg d, if_neg (fun q => d q.2)]
  · rw [if_neg c, if_neg c]
    by_cases d : 11 ≤ k
    · rw [if_pos d]
      by_cases z : (11 ≤ k ∧ k < 11 + y 3) ∨ (16 ≤ k ∧ k < 16 + y 3)
      · rw [if_pos z]
      · rw [if_neg z]
        by_cases w : k < 16
        · have := (h.2.2.2.2.2.2.1 (k - 11) (by omega)).2 (by omega)
          rw [show 11 + (k - 11) = k by omega] at this
          exact this
        · have := (h.2.2.2.2.2.2.2.1 (k - 16) (by omega)).2 (by omega)
          rw [show 16 + (k - 16) = k by omega] at this
          exact this
    · rw [if_neg d, if_neg (by omega)]
/-- what is dug in a year, and the year -/
def lostY (y : Nat → Nat) : Nat := andn (y 5) (ad y)
def y1 (y : Nat → Nat) : Nat → Nat := va_up (dg y (lostY y)) 5 (y 5 &&& ad y)
def yr (y : Nat → Nat) : Nat → Nat := va_up (fd (y1 y)) 4 (y 4 + 1)
theorem dg_lo {y : Nat → Nat} {lost k : Nat} (hk : k < 21) : dg y lost k = y k := if_neg (fun h => by omega)
theorem dg_le {y : Nat → Nat} {lost k : Nat} : dg y lost k ≤ y k := by
  unfold dg
  split
  · exact Nat.zero_le _
  · exact Nat.le_refl _
theorem y1_5 (y : Nat → Nat) : y1 y 5 = y 5 &&& ad y := up_eq _ _ _
theorem y1_ne {y : Nat → Nat} {k : Nat} (h : k ≠ 5) : y1 y k = dg y (lostY y) k := if_neg h
theorem y1_lo {y : Nat → Nat} {k : Nat} (h : k ≠ 5) (h2 : k < 21) : y1 y k = y k := (y1_ne h).trans (dg_lo h2)
theorem Va.y1 {y : Nat → Nat} (h : Va y) : Va (y1 y) := by
  obtain ⟨a0, a1, a2, a3, a5, a6, a7, a8, a9, a10⟩ := h
  refine ⟨by rw [y1_lo (by decide) (by decide)]; exact a0, by rw [y1_lo (by decide) (by decide)]; exact a1, by rw [y1_lo (by decide) (by decide)]; exact a2, by rw [y1_lo (by decide) (by decide)]; exact a3, ?_, ?_, ?_, ?_, ?_, ?_⟩
  · rw [y1_5, y1_lo (by decide) (by decide)]
    exact Nat.lt_of_le_of_lt Nat.and_le_left a5
  · intro p hp
    rw [y1_lo (k := 6 + p) (by omega) (by omega), y1_lo (k := 3) (by decide) (by decide)]
    exact a6 p hp
  · intro p hp
    rw [y1_lo (k := 11 + p) (by omega) (by omega), y1_lo (k := 3) (by decide) (by decide)]
    exact a7 p hp
  · intro p hp
    rw [y1_lo (k := 16 + p) (by omega) (by omega), y1_lo (k := 3) (by decide) (by decide)]
    exact a8 p hp
  · intro p g hp hg
    unfold me
    rw [y1_ne (by omega), y1_lo (by decide) (by decide), y1_lo (by decide) (by decide)]
    have h1 := a9 p g hp hg
    have h2 : dg y (lostY y) (21 + 6 * p + g) ≤ y (21 + 6 * p + g) := dg_le
    unfold me at h1
    exact ⟨by omega, fun z => by have := h1.2 z; omega⟩
  · intro k hk
    rw [y1_ne (by omega)]
    have h2 : dg y (lostY y) k ≤ y k := dg_le
    have := a10 k hk
    omega
theorem less_le (y : Nat → Nat) (m : Nat) : less y m ≤ m := by
  unfold less
  split
  · omega
  · exact Nat.le_trans (Nat.sub_le _ _) (Nat.sub_le _ _)
theorem fd_lo {y : Nat → Nat} {k : Nat} (h : k < 11) : fd y k = y k := by
  unfold fd
  rw [if_neg (by omega), if_neg (by omega)]
theorem fd_mid {y : Nat → Nat} {k : Nat} (h : 11 ≤ k) (h2 : k < 21) : fd y k = 0 := by
  unfold fd
  rw [if_neg (by omega), if_pos h]
theorem fd_le {y : Nat → Nat} {k : Nat} : fd y k ≤ y k := by
  unfold fd
  split
  · split
    · exact less_le _ _
    · exact Nat.le_refl _
  · split
    · exact Nat.zero_le _
    · exact Nat.le_refl _
theorem Va.fade {y : Nat → Nat} (h : Va y) (n : Nat) : Va (va_up (fd y) 4 n) := by
  obtain ⟨a0, a1, a2, a3, a5, a6, a7, a8, a9, a10⟩ := h
  have lo : ∀ k, k ≠ 4 → k < 11 → va_up (fd y) 4 n k = y k := fun k h1 h2 => (up_ne _ _ h1).trans (fd_lo h2)
  have mid : ∀ k, 11 ≤ k → k < 21 → va_up (fd y) 4 n k = 0 := fun k h1 h2 => (up_ne _ _ (by omega)).trans (fd_mid h1 h2)
  refine ⟨by rw [lo 0 (by decide) (by decide)]; exact a0, by rw [lo 1 (by decide) (by decide)]; exact a1, by rw [lo 2 (by decide) (by decide)]; exact a2, by rw [lo 3 (by decide) (by decide)]; exact a3, ?_, ?_, ?_, ?_, ?_, ?_⟩
  · rw [lo 5 (by decide) (by decide), lo 0 (by decide) (by decide)]
    exact a5
  · intro p hp
    rw [lo (6 + p) (by omega) (by omega), lo 3 (by decide) (by decide)]
    exact a6 p hp
  · intro p hp
    rw [mid (11 + p) (by omega) (by omega)]
    exact ⟨by decide, fun _ => rfl⟩
  · intro p hp
    rw [mid (16 + p) (by omega) (by omega)]
    exact ⟨by decide, fun _ => rfl⟩
  · intro p g hp hg
    unfold me
    rw [up_ne _ _ (by omega), lo 3 (by decide) (by decide), lo 0 (by decide) (by decide)]
    have h1 := a9 p g hp hg
    have h2 : fd y (21 + 6 * p + g) ≤ y (21 + 6 * p + g) := fd_le
    unfold me at h1
    exact ⟨by omega, fun z => by have := h1.2 z; omega⟩
  · intro k hk
    rw [up_ne _ _ (by omega)]
    have h2 : fd y k ≤ y k := fd_le
    have := a10 k hk
    omega
theorem Va.yr {y : Nat → Nat} (h : Va y) : Va (yr y) := h.y1.fade _
theorem yr_4 (y : Nat → Nat) : yr y 4 = y 4 + 1 := up_eq _ _ _
theorem up_id {α : Type} (f : Nat → α) (k : Nat) : va_up f k (f k) = f := by
  funext j
  unfold va_up
  split
  · rename_i h
    rw [h]
  · rfl
theorem cpy_0 {α : Type} (f g : Nat → α) (sp dp : Nat) : va_cpy f g sp dp 0 = g := by
  funext k
  exact if_neg (fun h => by omega)
theorem cpy_step {α : Type} (f g : Nat → α) (sp dp n : Nat) : va_up (va_cpy f g sp dp n) (dp + n) (f (sp + n)) = va_cpy f g sp dp (n + 1) := by
  funext k
  unfold va_up va_cpy
  by_cases h : k = dp + n
  · subst h
    rw [if_pos rfl, if_pos ⟨by omega, by omega⟩]
    congr 1
    omega
  · rw [if_neg h]
    by_cases c : dp ≤ k ∧ k < dp + n
    · rw [if_pos c, if_pos ⟨c.1, by omega⟩]
    · rw [if_neg c, if_neg (fun z => c ⟨z.1, by omega⟩)]
theorem cpy_out {α : Type} {f g : Nat → α} {sp dp n k : Nat} (h : k < dp ∨ dp + n ≤ k) : va_cpy f g sp dp n k = g k := if_neg (fun z => by omega)
theorem cpy_in {α : Type} {f g : Nat → α} {sp dp n k : Nat} (h : dp ≤ k) (h2 : k < dp + n) : va_cpy f g sp dp n k = f (sp + (k - dp)) := if_pos ⟨h, h2⟩
/-! acts, suppers, sums -/
def ntI (i : Nat → Nat) : Nat → Nat := va_up i 17 (if i 17 < 24 then i 17 + 1 else 24)
def ntA (i : Nat → Nat) (A : Nat → Nat → Nat) : Nat → Nat := if i 17 < 24 then va_cpy (A 5) (A 16) 0 (51 * i 17) 51 else va_cpy (A 5) (va_cpy (A 16) (A 16) 51 0 1173) 0 1173 51
def spn (y : Nat → Nat) : Nat → Nat
  | 0 => 0
  | p + 1 => spn y p ||| y (11 + p) * 2 ^ p
theorem spn_lt {y : Nat → Nat} (h : ∀ p, p < 5 → y (11 + p) ≤ 1) : ∀ n, n ≤ 5 → spn y n < 32
  | 0, _ => (by decide : (0 : Nat) < 32)
  | n + 1, hn => by
    refine Nat.or_lt_two_pow (n := 5) (spn_lt h n (by omega)) ?_
    have h1 := h n (by omega)
    have h2 : 2 ^ n ≤ 16 := Nat.pow_le_pow_right (by decide) (by omega : n ≤ 4)
    calc y (11 + n) * 2 ^ n ≤ 1 * 16 := Nat.mul_le_mul h1 h2
      _ < 2 ^ 5 := by decide
theorem Va.sup {y : Nat → Nat} (h : Va y) : ∀ p, p < 5 → y (11 + p) ≤ 1 := fun p hp => (h.2.2.2.2.2.2.1 p hp).1
theorem Va.fev {y : Nat → Nat} (h : Va y) : ∀ p, p < 5 → y (16 + p) ≤ 1 := fun p hp => (h.2.2.2.2.2.2.2.1 p hp).1
theorem Va.mem {y : Nat → Nat} (h : Va y) {p g : Nat} (hp : p < 5) (hg : g < 6) : me y p g ≤ 27 := (h.2.2.2.2.2.2.2.2.1 p g hp hg).1
/-- memory of one, the first n graves -/
def mbn (y : Nat → Nat) (p : Nat) : Nat → Nat
  | 0 => 0
  | g + 1 => mbn y p g + me y p g
theorem mbn_lt {y : Nat → Nat} {p : Nat} (h : Va y) (hp : p < 5) : ∀ n, n ≤ 6 → mbn y p n ≤ 27 * n
  | 0, _ => Nat.le_refl _
  | n + 1, hn => by
    have h1 := mbn_lt h hp n (by omega)
    have h2 := h.mem hp (by omega : n < 6)
    unfold mbn
    omega
/-- who dreams of g -/
def dwn (y : Nat → Nat) (g : Nat) : Nat → Nat
  | 0 => 0
  | p + 1 => dwn y g p ||| (if hs (dr y p) g then 2 ^ p else 0)
/-- the first with most memory, of the first n + 1 graves -/
def mx (y : Nat → Nat) (p : Nat) : Nat → Nat
  | 0 => 0
  | g + 1 => if me y p (mx y p g) < me y p (g + 1) then g + 1 else mx y p g
theorem mx_le {y : Nat → Nat} {p : Nat} : ∀ n, mx y p n ≤ n
  | 0 => Nat.le_refl _
  | n + 1 => by
    unfold mx
    have := mx_le (y := y) (p := p) n
    split <;> omega
/-- memory after n years -/
def lsn (y : Nat → Nat) (m : Nat) : Nat → Nat
  | 0 => m
  | n + 1 => less y (lsn y m n)
theorem lsn_le (y : Nat → Nat) (m : Nat) : ∀ n, lsn y m n ≤ m
  | 0 => Nat.le_refl _
  | n + 1 => Nat.le_trans (less_le y _) (lsn_le y m n)
theorem isx_out {x : Int32} {n : Nat} (hn : n < 2 ^ 31) (h : ¬ isx x n) : x.toInt < 0 ∨ ((n : Int) - 1) < x.toInt := by
  unfold isx at h
  rw [Int32.le_iff_toInt_le, Int32.lt_iff_toInt_lt, nI_int hn] at h
  have e : (0 : Int32).toInt = 0 := rfl
  rw [e] at h
  omega
theorem up_sup {y : Nat → Nat} {s : Nat} (h : ∀ p, p < 5 → y (11 + p) ≤ 1) : ∀ p, p < 5 → va_up y (11 + s) 1 (11 + p) ≤ 1 := by
  intro p hp
  unfold va_up
  split
  · decide
  · exact h p hp
theorem up_lt {y : Nat → Nat} {s v n : Nat} (h : ∀ k, y k < n) (hv : v < n) : ∀ k, va_up y s v k < n := by
  intro k
  unfold va_up
  split
  · exact hv
  · exact h k
/-- behind how many years less than LEAST: n more are looked at -/
def fgt (y : Nat → Nat) (m : Nat) : Nat → Nat → Int32
  | 0, k => if lsn y m k < y 1 then nI k else -1000000
  | n + 1, k => if lsn y m k < y 1 then nI k else fgt y m n (k + 1)
theorem ntI_le (i : Nat → Nat) : ntI i 17 ≤ 24 := by
  unfold ntI
  rw [up_eq]
  split <;> omega
/-- the state behind m years, each an act -/
def yI (i : Nat → Nat) : Nat → Nat → Nat
  | 0 => i
  | m + 1 => yI (ntI i) m
def yA (i : Nat → Nat) (A : Nat → Nat → Nat) : Nat → Nat → Nat → Nat
  | 0 => A
  | m + 1 => yA (ntI i) (va_up (va_up A 16 (ntA i A)) 5 (yr (A 5))) m
