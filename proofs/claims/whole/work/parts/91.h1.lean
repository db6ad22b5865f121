/-! the start: the invariant behind the constructors -/
section
variable {G : qG}
abbrev U0 (G : qG) : List va_E := FF G 2
theorem U0_len : (U0 G).length = 122 := by
  rw [PQ_len, List.length_append, Rw_len, Ys_len]
abbrev h00 (G : qG) : List va_E := hm G (U0 G) i00 A00 (B00 8)
theorem h00_lo {j : Nat} (hj : j < 122) : (h00 G)[j]? = (U0 G)[j]? := by
  show (U0 G ++ mc G i00 A00 (B00 8))[j]? = _
  rw [List.getElem?_append_left (by rw [U0_len]; exact hj)]
theorem h00_a {j : Nat} (hj : j < 84) : (h00 G)[j]? = (P84 G (dF G) (rwF G 8))[j]? := by
  rw [h00_lo (by omega)]
  show (P84 G (dF G) (rwF G 8) ++ _)[j]? = _
  rw [List.getElem?_append_left (by rw [P84_len]; exact hj)]
theorem h00_y {j : Nat} (hj : j < 72) : (h00 G)[12 + j]? = (Ys G 12 24)[j]? := by
  rw [h00_a (by omega)]
  rw [show 12 + j = j + 1 + 1 + 1 + 1 + 1 + 1 + 1 + 1 + 1 + 1 + 1 + 1 by omega]
  simp only [P84, List.getElem?_cons_succ]
theorem h00_b {j : Nat} (hj : j < 38) : (h00 G)[84 + j]? = (Q84 G (imF G 2) (Rw G 100 8 ++ Ys G 116 2))[j]? := by
  rw [h00_lo (by omega)]
  exact pa P84_len j
theorem h00_s {j : Nat} (hj : j < 9) : (h00 G)[89 + j]? = (Ys G 89 3)[j]? := by
  rw [show 89 + j = 84 + (j + 1 + 1 + 1 + 1 + 1) by omega, h00_b (by omega)]
  simp only [Q84, List.getElem?_cons_succ]
  rw [List.getElem?_append_left (by rw [Ys_len]; exact hj)]
theorem h00_k (j : Nat) (hj : j < 22) : (h00 G)[100 + j]? = (Rw G 100 8 ++ Ys G 116 2)[j]? := by
  rw [h00_lo (by omega)]
  exact PQ_at j
theorem h00_c {j : Nat} (hj : j < 2) : (h00 G)[98 + j]? = ([.inr (0, [.int (nI 0), qr G 99]), qI G 16 (fun _ => 0)] : List va_E)[j]? := by
  rw [show 98 + j = 84 + (9 + j + 1 + 1 + 1 + 1 + 1) by omega, h00_b (by omega)]
  simp only [Q84, List.getElem?_cons_succ]
  rw [List.getElem?_append_right (by rw [Ys_len]; omega), Ys_len, show 9 + j - 3 * 3 = j by omega]
  rcases (by omega : j = 0 ∨ j = 1) with rfl | rfl <;> rfl
theorem Ys_Y {h : List va_E} {b n a : Nat} (hh : ∀ j, j < 3 * n → h[b + j]? = (Ys G a n)[j]?) (hab : a = b) {k : Nat} (hk : k < n) : Yat G h (b + 3 * k) (fun _ => 0) := by
  subst hab
  obtain ⟨q1, q2, q3⟩ := Ys_at (G := G) (b := a) k hk
  exact ⟨(hh _ (by omega)).trans q1, (by rw [Nat.add_assoc]; exact (hh _ (by omega)).trans q2), (by rw [Nat.add_assoc]; exact (hh _ (by omega)).trans q3)⟩
theorem CI_00 : CI G (h00 G) i00 A00 (B00 8) 0 0 0 (fun _ => 0) (fun _ => 0) 0 0 (fun _ _ => 0) 0 (fun _ => 0) (fun _ => -1) (fun _ => nI 0) (fun _ _ => 0) (fun _ _ => 0) :=
  ⟨(by show (U0 G ++ mc G i00 A00 (B00 8)).length = 136; rw [List.length_append, U0_len]; rfl), (h00_a (j := 0) (by decide)), (h00_a (j := 1) (by decide)), (h00_b (j := 0) (by decide)), (h00_a (j := 11) (by decide)), (h00_b (j := 4) (by decide)), (⟨0, 0, 0, 0, 0, h00_a (j := 2) (by decide)⟩), ((h00_a (j := 6) (by decide)).trans (congrArg (fun z => some (qI G 120 z)) (tr_z 120).symm)), (⟨_, h00_a (j := 3) (by decide), h00_a (j := 4) (by decide), h00_a (j := 5) (by decide)⟩), (⟨h00_a (j := 7) (by decide), h00_a (j := 8) (by decide), h00_a (j := 9) (by decide)⟩), (h00_a (j := 10) (by decide)), (fun k hk => Ys_Y (b := 12) (fun j hj => h00_y (by omega)) rfl hk), (⟨0, h00_b (j := 1) (by decide)⟩), (⟨fun _ => 0, (h00_b (j := 2) (by decide)).trans (congrArg (fun z => some (qI G 3 z)) (tr_z 3).symm)⟩), (⟨fun _ => 0, (h00_b (j := 3) (by decide)).trans (congrArg (fun z => some (qI G 3 z)) (tr_z 3).symm)⟩), (⟨_, Ys_Y (b := 89) (n := 3) (fun j hj => h00_s (by omega)) rfl (k := 0) (by decide)⟩), (⟨_, Ys_Y (b := 89) (n := 3) (fun j hj => h00_s (by omega)) rfl (k := 1) (by decide)⟩), (⟨_, Ys_Y (b := 89) (n := 3) (fun j hj => h00_s (by omega)) rfl (k := 2) (by decide)⟩), (h00_c (j := 0) (by decide)), ((h00_c (j := 1) (by decide)).trans (congrArg (fun z => some (qI G 16 z)) (tr_z 16).symm)), (fun r hr => (by
    obtain ⟨q1, q2⟩ := Rw_at (G := G) (b := 100) (n := 8) r hr
    have hl := Rw_len (G := G) (b := 100) 8
    refine ⟨?_, ?_⟩
    · rw [h00_k _ (by omega), List.getElem?_append_left (by omega)]
      exact q1
    · rw [Nat.add_assoc, h00_k _ (by omega), List.getElem?_append_left (by omega), q2]
      exact congrArg (fun z => some (qI G 40 z)) (tr_z 40).symm)), (fun k hk => Ys_Y (b := 116) (n := 2) (fun j hj => (by
    have hl := Rw_len (G := G) (b := 100) 8
    rw [show 116 + j = 100 + (16 + j) by omega, h00_k _ (by omega), List.getElem?_append_right (by omega), hl]
    exact congrArg (fun z => (Ys G 116 2)[z]?) (by omega))) rfl hk), (fun j hj => hm_at U0_len j)⟩
theorem Inv_00 : Inv G (h00 G) i00 A00 (B00 8) := by
  refine ⟨0, fun _ _ => 0, fun _ => -1, fun _ => nI 0, fun _ _ => 0, fun _ _ => 0, CI_00, ⟨Nat.zero_le _, fun _ => (by decide : (0 : Nat) < 256)⟩, Or.inl ⟨rfl, fun _ => rfl⟩, fun _ => ⟨rfl, fun _ _ => rfl⟩, ⟨Nat.zero_le _, by decide, fun _ _ _ _ => ⟨Nat.zero_le _, Nat.zero_le _⟩, fun k hk => absurd hk (Nat.not_lt_zero k)⟩, Nat.zero_le _, fun r hr => Or.inl ⟨rfl, if_pos hr⟩, fun k _ => Or.inl ⟨rfl, rfl⟩, ⟨(by decide : (0 : Nat) < 40000), fun _ => (by decide : (0 : Nat) < 64)⟩⟩
end
