section
variable {G : qG} {h : List va_E} {a : Nat} {y : Nat → Nat}
/-! the class's yard: three cells from a on, a view of the same y; suppers and fevers are sets -/
def tr (n : Nat) (f : Nat → Int32) : Nat → Int32 := fun k => if k < n then f k else 0
theorem tr_at {n k : Nat} {f : Nat → Int32} (h : k < n) : tr n f k = f k := if_pos h
theorem tr_upd {n j : Nat} {f : Nat → Int32} {v : Int32} (h : j < n) : upd (tr n f) j v = tr n (upd f j v) := by
  funext k
  unfold upd tr
  by_cases c : k = j
  · show _ = if k < n then (if k = j then v else f k) else 0
    rw [if_pos c, if_pos (by omega), if_pos c]
  · show _ = if k < n then (if k = j then v else f k) else 0
    rw [if_neg c, if_neg c]
theorem tr_c {n : Nat} {f g : Nat → Int32} (h : ∀ k, k < n → f k = g k) : tr n f = tr n g := by
  funext k
  unfold tr
  split
  · rename_i c
    exact h k c
  · rfl
def sb (y : Nat → Nat) (o : Nat) : Nat := y o + 2 * y (o + 1) + 4 * y (o + 2) + 8 * y (o + 3) + 16 * y (o + 4)
def sS (y : Nat → Nat) (o v : Nat) : Nat → Nat := fun k => if o ≤ k ∧ k < o + 5 then v / 2 ^ (k - o) % 2 else y k
theorem sS_in {y : Nat → Nat} {o v k : Nat} (h : o ≤ k ∧ k < o + 5) : sS y o v k = v / 2 ^ (k - o) % 2 := if_pos h
theorem sS_out {y : Nat → Nat} {o v k : Nat} (h : ¬ (o ≤ k ∧ k < o + 5)) : sS y o v k = y k := if_neg h
theorem sb_c {y z : Nat → Nat} {o : Nat} (h : ∀ k, k < 5 → y (o + k) = z (o + k)) : sb y o = sb z o := by
  have h0 := h 0 (by decide)
  have h1 := h 1 (by decide)
  have h2 := h 2 (by decide)
  have h3 := h 3 (by decide)
  have h4 := h 4 (by decide)
  unfold sb
  rw [h1, h2, h3, h4, show y o = z o from h0]
theorem sb_sS {y : Nat → Nat} {o v : Nat} (hv : v < 32) : sb (sS y o v) o = v := by
  unfold sb
  rw [sS_in ⟨by omega, by omega⟩, sS_in ⟨by omega, by omega⟩, sS_in ⟨by omega, by omega⟩, sS_in ⟨by omega, by omega⟩, sS_in ⟨by omega, by omega⟩]
  rw [Nat.sub_self, Nat.add_sub_cancel_left, Nat.add_sub_cancel_left, Nat.add_sub_cancel_left, Nat.add_sub_cancel_left]
  omega
theorem sb_lt {y : Nat → Nat} {o : Nat} (hb : ∀ k, k < 5 → y (o + k) ≤ 1) : sb y o < 32 := by
  have h0 := hb 0 (by decide)
  have h1 := hb 1 (by decide)
  have h2 := hb 2 (by decide)
  have h3 := hb 3 (by decide)
  have h4 := hb 4 (by decide)
  rw [Nat.add_zero] at h0
  unfold sb
  omega
/-- a bit of the set is the place of the sleeper -/
theorem sb_hs {y : Nat → Nat} {o p : Nat} (hb : ∀ k, k < 5 → y (o + k) ≤ 1) (hp : p < 5) : hs (sb y o) p ↔ y (o + p) = 1 := by
  have h0 := hb 0 (by decide)
  have h1 := hb 1 (by decide)
  have h2 := hb 2 (by decide)
  have h3 := hb 3 (by decide)
  have h4 := hb 4 (by decide)
  rw [Nat.add_zero] at h0
  unfold hs sb
  rcases (by omega : p = 0 ∨ p = 1 ∨ p = 2 ∨ p = 3 ∨ p = 4) with c | c | c | c | c <;> subst c
  · rw [Nat.add_zero, Nat.pow_zero, Nat.div_one, show y o + 2 * y (o + 1) + 4 * y (o + 2) + 8 * y (o + 3) + 16 * y (o + 4) = y o + 2 * (y (o + 1) + 2 * y (o + 2) + 4 * y (o + 3) + 8 * y (o + 4)) by omega, Nat.add_mul_mod_self_left, Nat.mod_eq_of_lt (by omega)]; exact Iff.rfl
  · omega
  · omega
  · omega
  · omega
abbrev yf (G : qG) (a : Nat) (y : Nat → Nat) : List Value := [.int (nI (y 0)), .int (nI (y 1)), .int (nI (y 2)), .int (nI (y 3)), .int (nI (y 4)), .int (nI (y 5)), .int (nI (sb y 11)), .int (nI (sb y 16)), qr G (a + 1), qr G (a + 2)]
abbrev yk (G : qG) (y : Nat → Nat) : va_E := qI G 5 (tr 5 (fun k => nI (y (6 + k))))
abbrev ym (G : qG) (y : Nat → Nat) : va_E := qI G 30 (tr 30 (fun k => nI (y (21 + k))))
def yc (G : qG) (h : List va_E) (a : Nat) (y : Nat → Nat) : List va_E := ((h.set a (.inr (5, yf G a y))).set (a + 1) (yk G y)).set (a + 2) (ym G y)
theorem yc_len : (yc G h a y).length = h.length := by
  unfold yc
  rw [List.length_set, List.length_set, List.length_set]
theorem yc_o (ha : a + 2 < h.length) : (yc G h a y)[a]? = some (.inr (5, yf G a y)) := by
  unfold yc
  rw [List.getElem?_set_ne (by omega), List.getElem?_set_ne (by omega), List.getElem?_set_self (by omega)]
theorem yc_k (ha : a + 2 < h.length) : (yc G h a y)[a + 1]? = some (yk G y) := by
  unfold yc
  rw [List.getElem?_set_ne (by omega), List.getElem?_set_self (by rw [List.length_set]; omega)]
theorem yc_m (ha : a + 2 < h.length) : (yc G h a y)[a + 2]? = some (ym G y) := by
  unfold yc
  rw [List.getElem?_set_self (by rw [List.length_set, List.length_set]; omega)]
theorem yc_n {j : Nat} (hj : j < a ∨ a + 2 < j) : (yc G h a y)[j]? = h[j]? := by
  unfold yc
  rw [List.getElem?_set_ne (by omega), List.getElem?_set_ne (by omega), List.getElem?_set_ne (by omega)]
theorem yc_s0 (e : va_E) : (yc G h a y).set a e = ((h.set a e).set (a + 1) (yk G y)).set (a + 2) (ym G y) := by
  unfold yc
  rw [List.set_comm _ _ (by omega : a + 2 ≠ a), List.set_comm _ _ (by omega : a + 1 ≠ a), List.set_set]
theorem yc_s1 (e : va_E) : (yc G h a y).set (a + 1) e = ((h.set a (.inr (5, yf G a y))).set (a + 1) e).set (a + 2) (ym G y) := by
  unfold yc
  rw [List.set_comm _ _ (by omega : a + 2 ≠ a + 1), List.set_set]
theorem yc_s2 (e : va_E) : (yc G h a y).set (a + 2) e = ((h.set a (.inr (5, yf G a y))).set (a + 1) (yk G y)).set (a + 2) e := by
  unfold yc
  rw [List.set_set]
theorem yf_c {y z : Nat → Nat} (h0 : ∀ k, k < 6 → y k = z k) (h1 : sb y 11 = sb z 11) (h2 : sb y 16 = sb z 16) : yf G a y = yf G a z := by
  unfold yf
  rw [h0 0 (by decide), h0 1 (by decide), h0 2 (by decide), h0 3 (by decide), h0 4 (by decide), h0 5 (by decide), h1, h2]
theorem yk_c {y z : Nat → Nat} (h0 : ∀ k, k < 5 → y (6 + k) = z (6 + k)) : yk G y = yk G z := congrArg (qI G 5) (tr_c (fun k hk => congrArg nI (h0 k hk)))
theorem ym_c {y z : Nat → Nat} (h0 : ∀ k, k < 30 → y (21 + k) = z (21 + k)) : ym G y = ym G z := congrArg (qI G 30) (tr_c (fun k hk => congrArg nI (h0 k hk)))
theorem yc_mk {y : Nat → Nat} {e0 e1 e2 : va_E} (h0 : e0 = .inr (5, yf G a y)) (h1 : e1 = yk G y) (h2 : e2 = ym G y) : ((h.set a e0).set (a + 1) e1).set (a + 2) e2 = yc G h a y := by
  rw [h0, h1, h2]
  rfl
/-- only what lies in the yard counts -/
theorem yc_c {y z : Nat → Nat} (h0 : ∀ k, k < 51 → y k = z k) : yc G h a y = yc G h a z :=
  yc_mk (congrArg (fun v => Sum.inr (5, v)) (yf_c (fun k hk => h0 k (by omega)) (sb_c (fun k hk => h0 _ (by omega))) (sb_c (fun k hk => h0 _ (by omega))))) (yk_c (fun k hk => h0 _ (by omega))) (ym_c (fun k hk => h0 _ (by omega)))
theorem yc_yc {z : Nat → Nat} : yc G (yc G h a y) a z = yc G h a z := by
  show (((yc G h a y).set a _).set (a + 1) _).set (a + 2) _ = _
  rw [yc_s0, List.set_comm _ _ (by omega : a + 2 ≠ a + 1), List.set_set, List.set_set]
  rfl
theorem yc_pgraves (v : Nat) : (yc G h a y).set a (.inr (5, (yf G a y).set 0 (.int (nI v)))) = yc G h a (va_up y 0 v) := by
  rw [yc_s0]
  exact yc_mk rfl (yk_c (fun k hk => (up_ne _ _ (by omega)).symm)) (ym_c (fun k hk => (up_ne _ _ (by omega)).symm))
theorem yc_pleast (v : Nat) : (yc G h a y).set a (.inr (5, (yf G a y).set 1 (.int (nI v)))) = yc G h a (va_up y 1 v) := by
  rw [yc_s0]
  exact yc_mk rfl (yk_c (fun k hk => (up_ne _ _ (by omega)).symm)) (ym_c (fun k hk => (up_ne _ _ (by omega)).symm))
theorem yc_pshare (v : Nat) : (yc G h a y).set a (.inr (5, (yf G a y).set 2 (.int (nI v)))) = yc G h a (va_up y 2 v) := by
  rw [yc_s0]
  exact yc_mk rfl (yk_c (fun k hk => (up_ne _ _ (by omega)).symm)) (ym_c (fun k hk => (up_ne _ _ (by omega)).symm))
theorem yc_psleepers (v : Nat) : (yc G h a y).set a (.inr (5, (yf G a y).set 3 (.int (nI v)))) = yc G h a (va_up y 3 v) := by
  rw [yc_s0]
  exact yc_mk rfl (yk_c (fun k hk => (up_ne _ _ (by omega)).symm)) (ym_c (fun k hk => (up_ne _ _ (by omega)).symm))
theorem yc_pyear (v : Nat) : (yc G h a y).set a (.inr (5, (yf G a y).set 4 (.int (nI v)))) = yc G h a (va_up y 4 v) := by
  rw [yc_s0]
  exact yc_mk rfl (yk_c (fun k hk => (up_ne _ _ (by omega)).symm)) (ym_c (fun k hk => (up_ne _ _ (by omega)).symm))
theorem yc_pkept (v : Nat) : (yc G h a y).set a (.inr (5, (yf G a y).set 5 (.int (nI v)))) = yc G h a (va_up y 5 v) := by
  rw [yc_s0]
  exact yc_mk rfl (yk_c (fun k hk => (up_ne _ _ (by omega)).symm)) (ym_c (fun k hk => (up_ne _ _ (by omega)).symm))
theorem yc_psuppers {v : Nat} (hv : v < 32) : (yc G h a y).set a (.inr (5, (yf G a y).set 6 (.int (nI v)))) = yc G h a (sS y 11 v) := by
  rw [yc_s0]
  refine yc_mk ?_ (yk_c (fun k hk => (sS_out (by omega)).symm)) (ym_c (fun k hk => (sS_out (by omega)).symm))
  have e1 : sb (sS y 11 v) 11 = v := sb_sS hv
  have e2 : sb (sS y 11 v) 16 = sb y 16 := sb_c (fun k hk => sS_out (by omega))
  show Sum.inr (5, ([.int (nI (y 0)), .int (nI (y 1)), .int (nI (y 2)), .int (nI (y 3)), .int (nI (y 4)), .int (nI (y 5)), .int (nI v), .int (nI (sb y 16)), qr G (a + 1), qr G (a + 2)] : List Value)) = Sum.inr (5, yf G a (sS y 11 v))
  unfold yf
  rw [e1, e2, sS_out (k := 0) (by omega), sS_out (k := 1) (by omega), sS_out (k := 2) (by omega), sS_out (k := 3) (by omega), sS_out (k := 4) (by omega), sS_out (k := 5) (by omega)]
theorem yc_pfevers {v : Nat} (hv : v < 32) : (yc G h a y).set a (.inr (5, (yf G a y).set 7 (.int (nI v)))) = yc G h a (sS y 16 v) := by
  rw [yc_s0]
  refine yc_mk ?_ (yk_c (fun k hk => (sS_out (by omega)).symm)) (ym_c (fun k hk => (sS_out (by omega)).symm))
  have e1 : sb (sS y 16 v) 16 = v := sb_sS hv
  have e2 : sb (sS y 16 v) 11 = sb y 11 := sb_c (fun k hk => sS_out (by omega))
  show Sum.inr (5, ([.int (nI (y 0)), .int (nI (y 1)), .int (nI (y 2)), .int (nI (y 3)), .int (nI (y 4)), .int (nI (y 5)), .int (nI (sb y 11)), .int (nI v), qr G (a + 1), qr G (a + 2)] : List Value)) = Sum.inr (5, yf G a (sS y 16 v))
  unfold yf
  rw [e1, e2, sS_out (k := 0) (by omega), sS_out (k := 1) (by omega), sS_out (k := 2) (by omega), sS_out (k := 3) (by omega), sS_out (k := 4) (by omega), sS_out (k := 5) (by omega)]
theorem yc_wkinds {j : Nat} (hj : j < 5) (v : Nat) : (yc G h a y).set (a + 1) (qI G 5 (upd (tr 5 (fun k => nI (y (6 + k)))) j (nI v))) = yc G h a (va_up y (6 + j) v) := by
  rw [yc_s1]
  refine yc_mk (congrArg (fun v => Sum.inr (5, v)) (yf_c (fun k hk => (up_ne _ _ (by omega)).symm) (sb_c (fun k hk => (up_ne _ _ (by omega)).symm)) (sb_c (fun k hk => (up_ne _ _ (by omega)).symm)))) ?_ (ym_c (fun k hk => (up_ne _ _ (by omega)).symm))
  rw [tr_upd hj]
  refine congrArg (qI G 5) (tr_c (fun k hk => ?_))
  unfold upd va_up
  by_cases c : k = j
  · rw [if_pos c, if_pos (by omega)]
  · rw [if_neg c, if_neg (by omega)]
theorem yc_wmemories {j : Nat} (hj : j < 30) (v : Nat) : (yc G h a y).set (a + 2) (qI G 30 (upd (tr 30 (fun k => nI (y (21 + k)))) j (nI v))) = yc G h a (va_up y (21 + j) v) := by
  rw [yc_s2]
  refine yc_mk (congrArg (fun v => Sum.inr (5, v)) (yf_c (fun k hk => (up_ne _ _ (by omega)).symm) (sb_c (fun k hk => (up_ne _ _ (by omega)).symm)) (sb_c (fun k hk => (up_ne _ _ (by omega)).symm)))) (yk_c (fun k hk => (up_ne _ _ (by omega)).symm)) ?_
  rw [tr_upd hj]
  refine congrArg (qI G 30) (tr_c (fun k hk => ?_))
  unfold upd va_up
  by_cases c : k = j
  · rw [if_pos c, if_pos (by omega)]
  · rw [if_neg c, if_neg (by omega)]
end
