/-! THE INVARIANT between the class and the reference -/
def R1 (n : Nat) (b : Nat → Nat) : Prop := n ≤ 120 ∧ ∀ k, b k < 256
def R2 (i4 : Nat) (y : Nat → Nat) : Prop := (i4 = 0 ∧ ∀ k, y k = 0) ∨ (i4 = 1 ∧ Va y ∧ y 4 ≤ 999)
def R5 (ln rz : Nat → Int32) (it : Nat → Nat → Int32) (la : Nat → Nat) (sz its : Nat → Int32) : Prop := ∀ r, r < 8 → (ln r = -1 ∧ sz r = -1) ∨ ∃ z, z ≤ 40 ∧ la r < 3 ∧ ln r = nI (la r) ∧ rz r = nI z ∧ sz r = nI z ∧ ∀ k, k < 40 → it r k = its (40 * r + k)
def R6 (im : Nat → Nat → Nat) (hd held : Nat → Nat) : Prop := ∀ k, k < 2 → (hd k = 0 ∧ im k 0 = 0) ∨ (hd k = 1 ∧ Va (im k) ∧ im k 4 ≤ 999 ∧ ∀ j, j < 51 → im k j = held (51 * k + j))
def R7 (bw : Nat) (way : Nat → Nat) : Prop := bw < 40000 ∧ ∀ t, way t < 64
theorem R2.b {i4 : Nat} {y : Nat → Nat} (h : R2 i4 y) : y 3 ≤ 5 ∧ y 0 ≤ 6 ∧ y 5 < 64 ∧ y 4 ≤ 999 ∧ ∀ k, 51 ≤ k → y k = 0 := by
  rcases h with ⟨_, h⟩ | ⟨_, h, h4⟩
  · rw [h 3, h 0, h 5, h 4]
    exact ⟨by decide, by decide, by decide, by decide, fun k _ => h k⟩
  · exact ⟨h.2.2.2.1.2, h.1.2, h.k64, h4, h.far⟩
theorem R2.s {i4 : Nat} {y : Nat → Nat} (h : R2 i4 y) {s : Nat} (hs1 : s < y 3) : i4 = 1 ∧ Va y ∧ y 4 ≤ 999 := by
  rcases h with ⟨_, h⟩ | h
  · rw [h 3] at hs1
    omega
  · exact h
theorem R2.g {i4 : Nat} {y : Nat → Nat} (h : R2 i4 y) {s : Nat} (hs1 : s < y 0) : i4 = 1 ∧ Va y ∧ y 4 ≤ 999 := by
  rcases h with ⟨_, h⟩ | h
  · rw [h 0] at hs1
    omega
  · exact h

def Inv (G : qG) (h : List va_E) (i : Nat → Nat) (A : Nat → Nat → Nat) (B : Nat → Nat → Int32) : Prop := ∃ (old : Nat) (w : Nat → Nat → Nat) (ln rz : Nat → Int32) (it : Nat → Nat → Int32) (im : Nat → Nat → Nat), CI G h i A B (i 3) (i 8) (i 9) (A 7) (A 5) (i 17) old w (i 24) (A 23) ln rz it im ∧ R1 (i 8) (A 7) ∧ R2 (i 4) (A 5) ∧ (i 4 = 0 → i 17 = 0 ∧ ∀ k, k < 2 → A 21 k = 0) ∧ R3 (i 17) old w (A 16) ∧ i 24 ≤ 16 ∧ R5 ln rz it (A 0) (B 1) (B 2) ∧ R6 im (A 21) (A 22) ∧ R7 (i 20) (A 19)
/-- a call on both: the same answer, and the invariant behind it -/
def PrV (l : Launch) (G : qG) (ya ym : MethodName) (av : List Value) (h : List va_E) (r : Value) : Prop := ∃ (h1 h2 : List va_E) (fs : List Value) (i : Nat → Nat) (A : Nat → Nat → Nat) (B : Nat → Nat → Int32) (d1 d2 : Nat), d1 ≤ 20 ∧ d2 ≤ 20 ∧ Ct l G ya d1 (qr G 0 :: av) h (some r) h1 ∧ Ct l G ym d2 (qr G 122 :: av) h1 (some r) h2 ∧ h1[122]? = some (.inr (7, fs)) ∧ Inv G h2 i A B
def Pr (l : Launch) (G : qG) (ya ym : MethodName) (av : List Value) (h : List va_E) : Prop := ∃ r : Int32, PrV l G ya ym av h (.int r)
def PrL (l : Launch) (G : qG) (ya ym : MethodName) (av : List Value) (h : List va_E) : Prop := ∃ r : Int64, PrV l G ya ym av h (.long r)
section
variable {l : Launch} {G : qG} {h h1 : List va_E} {i : Nat → Nat} {A : Nat → Nat → Nat} {B : Nat → Nat → Int32} {fin : Nat} {n : Nat} {lf : Nat} {b : Nat → Nat} {y : Nat → Nat} {sz : Nat} {old : Nat} {w : Nat → Nat → Nat} {c : Nat} {f : Nat → Nat} {ln : Nat → Int32} {rz : Nat → Int32} {it : Nat → Nat → Int32} {im : Nat → Nat → Nat}
theorem PrV.mk' {ya ym : MethodName} {av : List Value} {r : Value} {d1 d2 : Nat} {i' : Nat → Nat} {A' : Nat → Nat → Nat} {B' : Nat → Nat → Int32} (hd1 : d1 ≤ 20) (hd2 : d2 ≤ 20) (I1 : CI G (h1) (i) (A) (B) (fin) (n) (lf) (b) (y) (sz) (old) (w) (c) (f) (ln) (rz) (it) (im)) (hc : Ct l G ya d1 (qr G 0 :: av) h (some r) h1) (hr : ∀ U : List va_E, U.length = 122 → Ct l G ym d2 (qr G 122 :: av) (hm G U i A B) (some r) (hm G U i' A' B')) (hI : ∀ h2, CI G (h2) (i') (A') (B') (fin) (n) (lf) (b) (y) (sz) (old) (w) (c) (f) (ln) (rz) (it) (im) → Inv G h2 i' A' B') : PrV l G ya ym av h r := by
  obtain ⟨U, hU, rfl⟩ := I1.hma
  exact ⟨_, _, _, i', A', B', d1, d2, hd1, hd2, hc, hr U hU, hm_o hU, hI _ (I1.ref hU)⟩
theorem Pr.mk' {ya ym : MethodName} {av : List Value} {r : Int32} {d1 d2 : Nat} {i' : Nat → Nat} {A' : Nat → Nat → Nat} {B' : Nat → Nat → Int32} (hd1 : d1 ≤ 20) (hd2 : d2 ≤ 20) (I1 : CI G (h1) (i) (A) (B) (fin) (n) (lf) (b) (y) (sz) (old) (w) (c) (f) (ln) (rz) (it) (im)) (hc : Ct l G ya d1 (qr G 0 :: av) h (some (.int r)) h1) (hr : ∀ U : List va_E, U.length = 122 → Ct l G ym d2 (qr G 122 :: av) (hm G U i A B) (some (.int r)) (hm G U i' A' B')) (hI : ∀ h2, CI G (h2) (i') (A') (B') (fin) (n) (lf) (b) (y) (sz) (old) (w) (c) (f) (ln) (rz) (it) (im) → Inv G h2 i' A' B') : Pr l G ya ym av h := ⟨r, PrV.mk' hd1 hd2 I1 hc hr hI⟩
/-- a call that changes nothing -/
theorem PrV.same {ya ym : MethodName} {av : List Value} {r : Value} {d1 d2 : Nat} (hd1 : d1 ≤ 20) (hd2 : d2 ≤ 20) (V : Inv G h i A B) (hc : Ct l G ya d1 (qr G 0 :: av) h (some r) h) (hr : ∀ U : List va_E, U.length = 122 → Ct l G ym d2 (qr G 122 :: av) (hm G U i A B) (some r) (hm G U i A B)) : PrV l G ya ym av h r := by
  obtain ⟨old, w, ln, rz, it, im, I, hR⟩ := id V
  exact PrV.mk' hd1 hd2 I hc hr (fun h2 J => ⟨old, w, ln, rz, it, im, J, hR⟩)
theorem Pr.same {ya ym : MethodName} {av : List Value} {r : Int32} {d1 d2 : Nat} (hd1 : d1 ≤ 20) (hd2 : d2 ≤ 20) (V : Inv G h i A B) (hc : Ct l G ya d1 (qr G 0 :: av) h (some (.int r)) h) (hr : ∀ U : List va_E, U.length = 122 → Ct l G ym d2 (qr G 122 :: av) (hm G U i A B) (some (.int r)) (hm G U i A B)) : Pr l G ya ym av h := ⟨r, PrV.same hd1 hd2 V hc hr⟩
theorem PrL.same {ya ym : MethodName} {av : List Value} {r : Int64} {d1 d2 : Nat} (hd1 : d1 ≤ 20) (hd2 : d2 ≤ 20) (V : Inv G h i A B) (hc : Ct l G ya d1 (qr G 0 :: av) h (some (.long r)) h) (hr : ∀ U : List va_E, U.length = 122 → Ct l G ym d2 (qr G 122 :: av) (hm G U i A B) (some (.long r)) (hm G U i A B)) : PrL l G ya ym av h := ⟨r, PrV.same hd1 hd2 V hc hr⟩
theorem rl_rc {la : Nat → Nat} {sz its : Nat → Int32} (h : R5 ln rz it la sz its) : ∀ n, n ≤ 8 → rlN ln n = rcN sz n
  | 0, _ => rfl
  | n + 1, hn => by
    unfold rlN rcN
    rw [rl_rc h n (by omega)]
    rcases h n (by omega) with ⟨a, b⟩ | ⟨z, h40, _, a, _, b, _⟩
    · rw [if_pos a, b, if_pos (by decide)]
      rfl
    · rename_i h3 _
      rw [a, b, if_neg (nI_m1 (by omega)), if_neg (nI_pos (by omega))]
theorem pr_sleeper (V : Inv G h i A B) {x1 x2 : Int32} : Pr l G yX6_sleeper yX7_sleeper [.int x1, .int x2] h := by
  obtain ⟨old, w, ln, rz, it, im, I, r1, r2, r2x, r3, r4, r5, r6, r7⟩ := id V
  obtain ⟨b3, b0, b5, b4, bf⟩ := r2.b
  by_cases hx : isx x1 (A 5 3)
  case neg => exact Pr.same (Nat.le_of_ble_eq_true rfl) (Nat.le_of_ble_eq_true rfl) V (c_X6_sleeperB I b3 hx) (fun U hU => c_X7_sleeperB hU b3 hx)
  obtain ⟨s, hs1, rfl⟩ := isx_of (by omega) hx
  obtain ⟨t4, hV, h4⟩ := r2.s hs1
  by_cases hw : isx x2 4
  case neg => exact Pr.same (Nat.le_of_ble_eq_true rfl) (Nat.le_of_ble_eq_true rfl) V (c_X6_sleeperW I b3 hs1 hw) (fun U hU => c_X7_sleeperW hU b3 hs1 hw)
  obtain ⟨k, hk, rfl⟩ := isx_of (by decide) hw
  rcases (by omega : k = 0 ∨ k = 1 ∨ k = 2 ∨ k = 3) with rfl | rfl | rfl | rfl
  · exact Pr.same (Nat.le_of_ble_eq_true rfl) (Nat.le_of_ble_eq_true rfl) V (c_X6_sleeper0 I hV h4 hs1) (fun U hU => c_X7_sleeper0 hU hV (by omega) hs1)
  · exact Pr.same (Nat.le_of_ble_eq_true rfl) (Nat.le_of_ble_eq_true rfl) V (c_X6_sleeper1 I hV h4 hs1) (fun U hU => c_X7_sleeper1 hU hV (by omega) hs1)
  · exact Pr.same (Nat.le_of_ble_eq_true rfl) (Nat.le_of_ble_eq_true rfl) V (c_X6_sleeper2 I hV h4 hs1) (fun U hU => c_X7_sleeper2 hU hV (by omega) hs1)
  · exact Pr.same (Nat.le_of_ble_eq_true rfl) (Nat.le_of_ble_eq_true rfl) V (c_X6_sleeper3 I hV h4 hs1) (fun U hU => c_X7_sleeper3 hU hV (by omega) hs1)
theorem pr_memory (V : Inv G h i A B) {x1 x2 : Int32} : Pr l G yX6_memory yX7_memory [.int x1, .int x2] h := by
  obtain ⟨old, w, ln, rz, it, im, I, r1, r2, r2x, r3, r4, r5, r6, r7⟩ := id V
  obtain ⟨b3, b0, b5, b4, bf⟩ := r2.b
  by_cases hx : isx x1 (A 5 3)
  case neg => exact Pr.same (Nat.le_of_ble_eq_true rfl) (Nat.le_of_ble_eq_true rfl) V (c_X6_memoryB I b3 b0 (Or.inl hx)) (fun U hU => c_X7_memoryB hU b3 b0 (Or.inl hx))
  by_cases hw : isx x2 (A 5 0)
  case neg => exact Pr.same (Nat.le_of_ble_eq_true rfl) (Nat.le_of_ble_eq_true rfl) V (c_X6_memoryB I b3 b0 (Or.inr hw)) (fun U hU => c_X7_memoryB hU b3 b0 (Or.inr hw))
  obtain ⟨s, hs1, rfl⟩ := isx_of (by omega) hx
  obtain ⟨t4, hV, h4⟩ := r2.s hs1
  obtain ⟨g, hg1, rfl⟩ := isx_of (by omega) hw
  exact Pr.same (Nat.le_of_ble_eq_true rfl) (Nat.le_of_ble_eq_true rfl) V (c_X6_memory I b3 b0 hs1 hg1) (fun U hU => c_X7_memory hU b3 b0 hs1 hg1)
theorem pr_kind (V : Inv G h i A B) {x1 : Int32} : Pr l G yX6_kind yX7_kind [.int x1] h := by
  obtain ⟨old, w, ln, rz, it, im, I, r1, r2, r2x, r3, r4, r5, r6, r7⟩ := id V
  obtain ⟨b3, b0, b5, b4, bf⟩ := r2.b
  by_cases hx : isx x1 (A 5 3)
  case neg => exact Pr.same (Nat.le_of_ble_eq_true rfl) (Nat.le_of_ble_eq_true rfl) V (c_X6_kindB I b3 hx) (fun U hU => c_X7_kindB hU b3 hx)
  obtain ⟨s, hs1, rfl⟩ := isx_of (by omega) hx
  obtain ⟨t4, hV, h4⟩ := r2.s hs1
  exact Pr.same (Nat.le_of_ble_eq_true rfl) (Nat.le_of_ble_eq_true rfl) V (c_X6_kind I b3 hs1) (fun U hU => c_X7_kind hU b3 hs1)
theorem pr_pair (V : Inv G h i A B) {x1 x2 : Int32} : Pr l G yX6_pair yX7_pair [.int x1, .int x2] h := by
  obtain ⟨old, w, ln, rz, it, im, I, r1, r2, r2x, r3, r4, r5, r6, r7⟩ := id V
  obtain ⟨b3, b0, b5, b4, bf⟩ := r2.b
  by_cases hx : isx x1 (A 5 3)
  case neg => exact Pr.same (Nat.le_of_ble_eq_true rfl) (Nat.le_of_ble_eq_true rfl) V (c_X6_pairB I b3 (Or.inl hx)) (fun U hU => c_X7_pairB hU b3 (Or.inl hx))
  by_cases hw : isx x2 (A 5 3)
  case neg => exact Pr.same (Nat.le_of_ble_eq_true rfl) (Nat.le_of_ble_eq_true rfl) V (c_X6_pairB I b3 (Or.inr (Or.inl hw))) (fun U hU => c_X7_pairB hU b3 (Or.inr (Or.inl hw)))
  by_cases he : x1 = x2
  case pos => exact Pr.same (Nat.le_of_ble_eq_true rfl) (Nat.le_of_ble_eq_true rfl) V (c_X6_pairB I b3 (Or.inr (Or.inr he))) (fun U hU => c_X7_pairB hU b3 (Or.inr (Or.inr he)))
  obtain ⟨s, hs1, rfl⟩ := isx_of (by omega) hx
  obtain ⟨t4, hV, h4⟩ := r2.s hs1
  obtain ⟨g, hg1, rfl⟩ := isx_of (by omega) hw
  have hne : s ≠ g := fun z => he (by rw [z])
  exact Pr.same (Nat.le_of_ble_eq_true rfl) (Nat.le_of_ble_eq_true rfl) V (c_X6_pair I hV h4 hs1 hg1 hne) (fun U hU => c_X7_pair hU hV (by omega) hs1 hg1 hne)
theorem pr_most (V : Inv G h i A B) {x1 x2 : Int32} : Pr l G yX6_most yX7_most [.int x1, .int x2] h := by
  obtain ⟨old, w, ln, rz, it, im, I, r1, r2, r2x, r3, r4, r5, r6, r7⟩ := id V
  obtain ⟨b3, b0, b5, b4, bf⟩ := r2.b
  by_cases hx : isx x1 (A 5 3)
  case neg => exact Pr.same (Nat.le_of_ble_eq_true rfl) (Nat.le_of_ble_eq_true rfl) V (c_X6_mostB I b3 (Or.inl hx)) (fun U hU => c_X7_mostB hU b3 (Or.inl hx))
  by_cases hw : isx x2 2
  case neg => exact Pr.same (Nat.le_of_ble_eq_true rfl) (Nat.le_of_ble_eq_true rfl) V (c_X6_mostB I b3 (Or.inr hw)) (fun U hU => c_X7_mostB hU b3 (Or.inr hw))
  obtain ⟨s, hs1, rfl⟩ := isx_of (by omega) hx
  obtain ⟨t4, hV, h4⟩ := r2.s hs1
  obtain ⟨k, hk, rfl⟩ := isx_of (by decide) hw
  rcases (by omega : k = 0 ∨ k = 1) with rfl | rfl
  · exact Pr.same (Nat.le_of_ble_eq_true rfl) (Nat.le_of_ble_eq_true rfl) V (c_X6_most0 I hV h4 hs1) (fun U hU => c_X7_most0 hU hV (by omega) hs1)
  · exact Pr.same (Nat.le_of_ble_eq_true rfl) (Nat.le_of_ble_eq_true rfl) V (c_X6_most1 I hV h4 hs1) (fun U hU => c_X7_most1 hU hV (by omega) hs1)
theorem pr_forgets (V : Inv G h i A B) {x1 x2 : Int32} : Pr l G yX6_forgets yX7_forgets [.int x1, .int x2] h := by
  obtain ⟨old, w, ln, rz, it, im, I, r1, r2, r2x, r3, r4, r5, r6, r7⟩ := id V
  obtain ⟨b3, b0, b5, b4, bf⟩ := r2.b
  by_cases hx : isx x1 (A 5 3)
  case neg => exact Pr.same (Nat.le_of_ble_eq_true rfl) (Nat.le_of_ble_eq_true rfl) V (c_X6_forgetsB I b3 b0 (Or.inl hx)) (fun U hU => c_X7_forgetsB hU b3 b0 (Or.inl hx))
  by_cases hw : isx x2 (A 5 0)
  case neg => exact Pr.same (Nat.le_of_ble_eq_true rfl) (Nat.le_of_ble_eq_true rfl) V (c_X6_forgetsB I b3 b0 (Or.inr hw)) (fun U hU => c_X7_forgetsB hU b3 b0 (Or.inr hw))
  obtain ⟨s, hs1, rfl⟩ := isx_of (by omega) hx
  obtain ⟨t4, hV, h4⟩ := r2.s hs1
  obtain ⟨g, hg1, rfl⟩ := isx_of (by omega) hw
  exact Pr.same (Nat.le_of_ble_eq_true rfl) (Nat.le_of_ble_eq_true rfl) V (c_X6_forgets I hV h4 hs1 hg1) (fun U hU => c_X7_forgets hU hV (by omega) hs1 hg1)
theorem pr_grave (V : Inv G h i A B) {x1 x2 : Int32} : Pr l G yX6_grave yX7_grave [.int x1, .int x2] h := by
  obtain ⟨old, w, ln, rz, it, im, I, r1, r2, r2x, r3, r4, r5, r6, r7⟩ := id V
  obtain ⟨b3, b0, b5, b4, bf⟩ := r2.b
  rcases r2 with ⟨t4, hzz⟩ | ⟨t4, hV, h4⟩
  · exact Pr.same (Nat.le_of_ble_eq_true rfl) (Nat.le_of_ble_eq_true rfl) V (c_X6_graveS I (hzz 0)) (fun U hU => c_X7_graveS hU t4)
  have h01 := hV.1.1
  by_cases hx : isx x1 (A 5 0)
  case neg => exact Pr.same (Nat.le_of_ble_eq_true rfl) (Nat.le_of_ble_eq_true rfl) V (c_X6_graveB I h01 b0 hx) (fun U hU => c_X7_graveB hU b0 t4 (Or.inl hx))
  obtain ⟨g, hg1, rfl⟩ := isx_of (by omega) hx
  by_cases hw : isx x2 2
  case neg => exact Pr.same (Nat.le_of_ble_eq_true rfl) (Nat.le_of_ble_eq_true rfl) V (c_X6_graveW I h01 b0 hg1 hw) (fun U hU => c_X7_graveB hU b0 t4 (Or.inr hw))
  obtain ⟨k, hk, rfl⟩ := isx_of (by decide) hw
  rcases (by omega : k = 0 ∨ k = 1) with rfl | rfl
  · exact Pr.same (Nat.le_of_ble_eq_true rfl) (Nat.le_of_ble_eq_true rfl) V (c_X6_grave0 I hV h4 hg1) (fun U hU => c_X7_grave0 hU hV (by omega) t4 hg1)
  · exact Pr.same (Nat.le_of_ble_eq_true rfl) (Nat.le_of_ble_eq_true rfl) V (c_X6_grave1 I hV h4 hg1) (fun U hU => c_X7_grave1 hU hV (by omega) t4 hg1)
theorem pr_ahead (V : Inv G h i A B) {x1 : Int32} : Pr l G yX6_ahead yX7_ahead [.int x1] h := by
  obtain ⟨old, w, ln, rz, it, im, I, r1, r2, r2x, r3, r4, r5, r6, r7⟩ := id V
  obtain ⟨b3, b0, b5, b4, bf⟩ := r2.b
  rcases r2 with ⟨t4, hzz⟩ | ⟨t4, hV, h4⟩
  · exact Pr.same (Nat.le_of_ble_eq_true rfl) (Nat.le_of_ble_eq_true rfl) V (c_X6_aheadS I (hzz 0)) (fun U hU => c_X7_aheadS hU t4)
  have h01 := hV.1.1
  by_cases hx : inr x1 0 40
  case neg => exact Pr.same (Nat.le_of_ble_eq_true rfl) (Nat.le_of_ble_eq_true rfl) V (c_X6_aheadB I h01 b0 hx) (fun U hU => c_X7_aheadB hU t4 hx)
  obtain ⟨k, hk0, hk, rfl⟩ := inr_of (by decide) (by decide) hx
  exact Pr.mk' (Nat.le_of_ble_eq_true rfl) (Nat.le_of_ble_eq_true rfl) (I.y89) (c_X6_ahead I hV h4 hk) (fun U hU => c_X7_ahead hU t4 hk hV h4) (fun h2 J => ⟨old, w, ln, rz, it, im, J, r1, Or.inr ⟨t4, hV, h4⟩, r2x, r3, r4, r5, r6, r7⟩)
theorem pr_dug (V : Inv G h i A B) {x1 : Int32} : Pr l G yX6_dug yX7_dug [.int x1] h := by
  obtain ⟨old, w, ln, rz, it, im, I, r1, r2, r2x, r3, r4, r5, r6, r7⟩ := id V
  obtain ⟨b3, b0, b5, b4, bf⟩ := r2.b
  rcases r2 with ⟨t4, hzz⟩ | ⟨t4, hV, h4⟩
  · exact Pr.same (Nat.le_of_ble_eq_true rfl) (Nat.le_of_ble_eq_true rfl) V (c_X6_dugS I (hzz 0)) (fun U hU => c_X7_dugS hU t4)
  have h01 := hV.1.1
  by_cases hx : isx x1 (A 5 0)
  case neg => exact Pr.same (Nat.le_of_ble_eq_true rfl) (Nat.le_of_ble_eq_true rfl) V (c_X6_dugB I h01 b0 hx) (fun U hU => c_X7_dugB hU b0 t4 hx)
  obtain ⟨g, hg1, rfl⟩ := isx_of (by omega) hx
  exact Pr.mk' (Nat.le_of_ble_eq_true rfl) (Nat.le_of_ble_eq_true rfl) (I.y89) (c_X6_dug I hV h4 hg1) (fun U hU => c_X7_dug hU t4 hV h4 hg1) (fun h2 J => ⟨old, w, ln, rz, it, im, J, r1, Or.inr ⟨t4, hV, h4⟩, r2x, r3, r4, r5, r6, r7⟩)
theorem pr_bound (V : Inv G h i A B) {x1 : Int32} : Pr l G yX6_bound yX7_bound [.int x1] h := by
  obtain ⟨old, w, ln, rz, it, im, I, r1, r2, r2x, r3, r4, r5, r6, r7⟩ := id V
  obtain ⟨b3, b0, b5, b4, bf⟩ := r2.b
  rcases r2 with ⟨t4, hzz⟩ | ⟨t4, hV, h4⟩
  · exact Pr.same (Nat.le_of_ble_eq_true rfl) (Nat.le_of_ble_eq_true rfl) V (c_X6_boundS I (hzz 0)) (fun U hU => c_X7_boundS hU t4)
  have h01 := hV.1.1
  by_cases hx : isx x1 (A 5 0)
  case neg => exact Pr.same (Nat.le_of_ble_eq_true rfl) (Nat.le_of_ble_eq_true rfl) V (c_X6_boundB I h01 b0 hx) (fun U hU => c_X7_boundB hU b0 t4 hx)
  obtain ⟨g, hg1, rfl⟩ := isx_of (by omega) hx
  exact Pr.mk' (Nat.le_of_ble_eq_true rfl) (Nat.le_of_ble_eq_true rfl) (I.y89) (c_X6_bound I hV h4 hg1) (fun U hU => c_X7_bound hU t4 hV h4 hg1) (fun h2 J => ⟨old, w, ln, rz, it, im, J, r1, Or.inr ⟨t4, hV, h4⟩, r2x, r3, r4, r5, r6, r7⟩)
theorem pr_firstDug (V : Inv G h i A B) : Pr l G yX6_firstDug yX7_firstDug [] h := by
  obtain ⟨old, w, ln, rz, it, im, I, r1, r2, r2x, r3, r4, r5, r6, r7⟩ := id V
  obtain ⟨b3, b0, b5, b4, bf⟩ := r2.b
  rcases r2 with ⟨t4, hzz⟩ | ⟨t4, hV, h4⟩
  · exact Pr.same (Nat.le_of_ble_eq_true rfl) (Nat.le_of_ble_eq_true rfl) V (c_X6_firstDugS I (hzz 0)) (fun U hU => c_X7_firstDugS hU t4)
  have h01 := hV.1.1
  have hc := c_X6_firstDug (l := l) I hV h4
  rw [gdF_fsG hV] at hc
  exact Pr.mk' (Nat.le_of_ble_eq_true rfl) (Nat.le_of_ble_eq_true rfl) (I.y89) (hc) (fun U hU => c_X7_firstDug hU t4 hV h4) (fun h2 J => ⟨old, w, ln, rz, it, im, J, r1, Or.inr ⟨t4, hV, h4⟩, r2x, r3, r4, r5, r6, r7⟩)
theorem pr_cheese (V : Inv G h i A B) {x1 : Int32} : Pr l G yX6_cheese yX7_cheese [.int x1] h := by
  obtain ⟨old, w, ln, rz, it, im, I, r1, r2, r2x, r3, r4, r5, r6, r7⟩ := id V
  obtain ⟨b3, b0, b5, b4, bf⟩ := r2.b
  rcases r2 with ⟨t4, hzz⟩ | ⟨t4, hV, h4⟩
  · exact Pr.same (Nat.le_of_ble_eq_true rfl) (Nat.le_of_ble_eq_true rfl) V (c_X6_cheeseS I (hzz 0)) (fun U hU => c_X7_cheeseS hU t4)
  have h01 := hV.1.1
  by_cases hx : inr x1 1 40
  case neg => exact Pr.same (Nat.le_of_ble_eq_true rfl) (Nat.le_of_ble_eq_true rfl) V (c_X6_cheeseB I h01 b0 hx) (fun U hU => c_X7_cheeseB hU t4 hx)
  obtain ⟨k, hk0, hk, rfl⟩ := inr_of (by decide) (by decide) hx
  exact Pr.mk' (Nat.le_of_ble_eq_true rfl) (Nat.le_of_ble_eq_true rfl) (I.y89) (c_X6_cheese I hV h4 hk0 hk) (fun U hU => c_X7_cheese hU t4 hk0 hk hV h4) (fun h2 J => ⟨old, w, ln, rz, it, im, J, r1, Or.inr ⟨t4, hV, h4⟩, r2x, r3, r4, r5, r6, r7⟩)
theorem pr_awake (V : Inv G h i A B) {x1 x2 x3 : Int32} : PrL l G yX6_awake yX7_awake [.int x1, .int x2, .int x3] h := by
  obtain ⟨old, w, ln, rz, it, im, I, r1, r2, r2x, r3, r4, r5, r6, r7⟩ := id V
  obtain ⟨b3, b0, b5, b4, bf⟩ := r2.b
  rcases r2 with ⟨t4, hzz⟩ | ⟨t4, hV, h4⟩
  · exact PrL.same (Nat.le_of_ble_eq_true rfl) (Nat.le_of_ble_eq_true rfl) V (c_X6_awakeS I (hzz 0)) (fun U hU => c_X7_awakeS hU t4)
  have h01 := hV.1.1
  by_cases hx : isx x1 (A 5 0)
  case neg => exact PrL.same (Nat.le_of_ble_eq_true rfl) (Nat.le_of_ble_eq_true rfl) V (c_X6_awakeB I h01 b0 (Or.inl hx)) (fun U hU => c_X7_awakeB hU b0 t4 (Or.inl hx))
  by_cases hx2 : inr x2 0 10
  case neg => exact PrL.same (Nat.le_of_ble_eq_true rfl) (Nat.le_of_ble_eq_true rfl) V (c_X6_awakeB I h01 b0 (Or.inr (Or.inl hx2))) (fun U hU => c_X7_awakeB hU b0 t4 (Or.inr (Or.inl hx2)))
  by_cases hw : isx x3 2
  case neg => exact PrL.same (Nat.le_of_ble_eq_true rfl) (Nat.le_of_ble_eq_true rfl) V (c_X6_awakeB I h01 b0 (Or.inr (Or.inr hw))) (fun U hU => c_X7_awakeB hU b0 t4 (Or.inr (Or.inr hw)))
  obtain ⟨g, hg1, rfl⟩ := isx_of (by omega) hx
  obtain ⟨q, hq0, hq, rfl⟩ := inr_of (by decide) (by decide) hx2
  obtain ⟨k, hk, rfl⟩ := isx_of (by decide) hw
  have hce := chance_eq hV (g := g) hq
  rcases (by omega : k = 0 ∨ k = 1) with rfl | rfl
  · have hc := c_X6_awake0 (l := l) I hV h4 hg1 hq
    rw [← hce.1] at hc
    exact PrL.same (Nat.le_of_ble_eq_true rfl) (Nat.le_of_ble_eq_true rfl) V (hc) (fun U hU => c_X7_awake0 hU t4 hV (by omega) hg1 hq)
  · have hc := c_X6_awake1 (l := l) I hV h4 hg1 hq
    rw [← hce.2] at hc
    exact PrL.same (Nat.le_of_ble_eq_true rfl) (Nat.le_of_ble_eq_true rfl) V (hc) (fun U hU => c_X7_awake1 hU t4 hV (by omega) hg1 hq)
theorem pr_drawn (V : Inv G h i A B) {x1 x2 x3 : Int32} : Pr l G yX6_drawn yX7_drawn [.int x1, .int x2, .int x3] h := by
  obtain ⟨old, w, ln, rz, it, im, I, r1, r2, r2x, r3, r4, r5, r6, r7⟩ := id V
  obtain ⟨b3, b0, b5, b4, bf⟩ := r2.b
  rcases r2 with ⟨t4, hzz⟩ | ⟨t4, hV, h4⟩
  · exact Pr.same (Nat.le_of_ble_eq_true rfl) (Nat.le_of_ble_eq_true rfl) V (c_X6_drawnS I (hzz 0)) (fun U hU => c_X7_drawnS hU t4)
  have h01 := hV.1.1
  by_cases hx : inr x1 0 40
  case neg => exact Pr.same (Nat.le_of_ble_eq_true rfl) (Nat.le_of_ble_eq_true rfl) V (c_X6_drawnB I h01 b0 (Or.inl hx)) (fun U hU => c_X7_drawnB hU t4 (Or.inl hx))
  by_cases hx2 : inr x2 1 999999
  case neg => exact Pr.same (Nat.le_of_ble_eq_true rfl) (Nat.le_of_ble_eq_true rfl) V (c_X6_drawnB I h01 b0 (Or.inr (Or.inl hx2))) (fun U hU => c_X7_drawnB hU t4 (Or.inr (Or.inl hx2)))
  by_cases hw : isx x3 2
  case neg => exact Pr.same (Nat.le_of_ble_eq_true rfl) (Nat.le_of_ble_eq_true rfl) V (c_X6_drawnB I h01 b0 (Or.inr (Or.inr hw))) (fun U hU => c_X7_drawnB hU t4 (Or.inr (Or.inr hw)))
  obtain ⟨n1, hn0, hn, rfl⟩ := inr_of (by decide) (by decide) hx
  obtain ⟨q, hq0, hq, rfl⟩ := inr_of (by decide) (by decide) hx2
  obtain ⟨k, hk, rfl⟩ := isx_of (by decide) hw
  rcases (by omega : k = 0 ∨ k = 1) with rfl | rfl
  · exact Pr.mk' (Nat.le_of_ble_eq_true rfl) (Nat.le_of_ble_eq_true rfl) (I.y89) (c_X6_drawn0 I hV h4 hn hq0 hq) (fun U hU => c_X7_drawn0 hU t4 hn hq0 hq hV h4) (fun h2 J => ⟨old, w, ln, rz, it, im, J, r1, Or.inr ⟨t4, hV, h4⟩, r2x, r3, r4, r5, r6, r7⟩)
  · exact Pr.mk' (Nat.le_of_ble_eq_true rfl) (Nat.le_of_ble_eq_true rfl) (I.y89) (c_X6_drawn1 I hV h4 hn hq0 hq) (fun U hU => c_X7_drawn1 hU t4 hn hq0 hq hV h4) (fun h2 J => ⟨old, w, ln, rz, it, im, J, r1, Or.inr ⟨t4, hV, h4⟩, r2x, r3, r4, r5, r6, r7⟩)
theorem pr_suppers (V : Inv G h i A B) {x1 x2 x3 : Int32} : Pr l G yX6_suppers yX7_suppers [.int x1, .int x2, .int x3] h := by
  obtain ⟨old, w, ln, rz, it, im, I, r1, r2, r2x, r3, r4, r5, r6, r7⟩ := id V
  obtain ⟨b3, b0, b5, b4, bf⟩ := r2.b
  rcases r2 with ⟨t4, hzz⟩ | ⟨t4, hV, h4⟩
  · exact Pr.same (Nat.le_of_ble_eq_true rfl) (Nat.le_of_ble_eq_true rfl) V (c_X6_suppersS I (hzz 0)) (fun U hU => c_X7_suppersS hU t4)
  have h01 := hV.1.1
  by_cases hx : isx x1 (2 ^ A 5 0)
  case neg => exact Pr.same (Nat.le_of_ble_eq_true rfl) (Nat.le_of_ble_eq_true rfl) V (c_X6_suppersB I h01 b0 (Or.inl hx)) (fun U hU => c_X7_suppersB hU b0 t4 (Or.inl hx))
  by_cases hx2 : inr x2 1 3
  case neg => exact Pr.same (Nat.le_of_ble_eq_true rfl) (Nat.le_of_ble_eq_true rfl) V (c_X6_suppersB I h01 b0 (Or.inr (Or.inl hx2))) (fun U hU => c_X7_suppersB hU b0 t4 (Or.inr (Or.inl hx2)))
  by_cases hw : x3 < -1
  case pos => exact Pr.same (Nat.le_of_ble_eq_true rfl) (Nat.le_of_ble_eq_true rfl) V (c_X6_suppersB I h01 b0 (Or.inr (Or.inr hw))) (fun U hU => c_X7_suppersB hU b0 t4 (Or.inr (Or.inr hw)))
  have hp0 : 2 ^ A 5 0 ≤ 64 := (Nat.pow_le_pow_right (by decide) b0 : 2 ^ A 5 0 ≤ 2 ^ 6)
  have hpw5 : 2 ^ A 5 3 ≤ 64 := Nat.le_trans (Nat.pow_le_pow_right (by decide) b3 : 2 ^ A 5 3 ≤ 2 ^ 5) (by decide)
  obtain ⟨gs, hg, rfl⟩ := isx_of (by omega) hx
  obtain ⟨n1, hn0, hn, rfl⟩ := inr_of (by decide) (by decide) hx2
  have hpw3 : (2 ^ A 5 3) ^ n1 ≤ 32768 := by
    have h1 : (2 ^ A 5 3) ^ n1 ≤ (2 ^ 5) ^ n1 := Nat.pow_le_pow_left (Nat.pow_le_pow_right (by decide) b3) n1
    have h2 : (2 ^ 5) ^ n1 ≤ (2 ^ 5) ^ 3 := Nat.pow_le_pow_right (by decide) hn
    have h3 : (2 ^ 5) ^ 3 = 32768 := by decide
    omega
  by_cases hN : (fw (A 5) gs (2 ^ A 5 3) n1 (spn (A 5) (A 5 3)) (i 20) ((2 ^ A 5 3) ^ n1)).1 = none ∨ nI n1 ≤ x3
  · obtain ⟨h', I', hc⟩ := c_X6_suppersN (l := l) (b0 := i 20) I hV h4 hg hn0 hn hw hN
    exact Pr.mk' (Nat.le_of_ble_eq_true rfl) (Nat.le_of_ble_eq_true rfl) (I') (hc) (fun U hU => c_X7_suppersN hU t4 hV h4 hg hn0 hn r7.2 hw hN) (fun h2 J => ⟨old, w, ln, rz, it, im, J, r1, Or.inr ⟨t4, hV, h4⟩, r2x, r3, r4, r5, r6, ⟨fw_lt r7.1 _ hpw3, fwW_lt r7.2 (Nat.two_pow_pos _) hpw5 _⟩⟩)
  cases hf : (fw (A 5) gs (2 ^ A 5 3) n1 (spn (A 5) (A 5 3)) (i 20) ((2 ^ A 5 3) ^ n1)).1 with
  | none => exact absurd (Or.inl hf) hN
  | some q =>
    have hlt : x3 < nI n1 := Int32.not_le.mp (fun z => hN (Or.inr z))
    by_cases hm : x3 = -1
    · subst hm
      obtain ⟨h', I', hc⟩ := c_X6_suppers_m (l := l) (b0 := i 20) I hV h4 hg hn0 hn hf
      exact Pr.mk' (Nat.le_of_ble_eq_true rfl) (Nat.le_of_ble_eq_true rfl) (I') (hc) (fun U hU => c_X7_suppers_m hU t4 hV h4 hg hn0 hn r7.2 r7.1 hf) (fun h2 J => ⟨old, w, ln, rz, it, im, J, r1, Or.inr ⟨t4, hV, h4⟩, r2x, r3, r4, r5, r6, ⟨fw_lt r7.1 _ hpw3, fwW_lt r7.2 (Nat.two_pow_pos _) hpw5 _⟩⟩)
    · have hxx : isx x3 n1 := ⟨by
        have h1 := Int32.not_lt.mp hw
        rw [Int32.le_iff_toInt_le] at h1
        have h2 : x3.toInt ≠ (-1 : Int32).toInt := fun z => hm (Int32.toInt_inj.mp z)
        rw [Int32.le_iff_toInt_le]
        have e1 : (-1 : Int32).toInt = -1 := rfl
        have e2 : (0 : Int32).toInt = 0 := rfl
        rw [e1] at h1 h2
        rw [e2]
        omega, hlt⟩
      obtain ⟨t, ht, rfl⟩ := isx_of (by omega) hxx
      obtain ⟨h', I', hc⟩ := c_X6_suppers_j (l := l) (b0 := i 20) I hV h4 hg hn0 hn hf ht
      exact Pr.mk' (Nat.le_of_ble_eq_true rfl) (Nat.le_of_ble_eq_true rfl) (I') (hc) (fun U hU => c_X7_suppers_j hU t4 hV h4 hg hn0 hn r7.2 r7.1 hf ht) (fun h2 J => ⟨old, w, ln, rz, it, im, J, r1, Or.inr ⟨t4, hV, h4⟩, r2x, r3, r4, r5, r6, ⟨fw_lt r7.1 _ hpw3, fwW_lt r7.2 (Nat.two_pow_pos _) hpw5 _⟩⟩)
theorem pr_fault (V : Inv G h i A B) : Pr l G yX6_fault yX7_fault [] h := by
  obtain ⟨old, w, ln, rz, it, im, I, r1, r2, r2x, r3, r4, r5, r6, r7⟩ := id V
  obtain ⟨b3, b0, b5, b4, bf⟩ := r2.b
  exact Pr.same (Nat.le_of_ble_eq_true rfl) (Nat.le_of_ble_eq_true rfl) V (c_X6_fault I) (fun U hU => c_X7_fault hU)
theorem pr_status (V : Inv G h i A B) : Pr l G yX6_status yX7_status [] h := by
  obtain ⟨old, w, ln, rz, it, im, I, r1, r2, r2x, r3, r4, r5, r6, r7⟩ := id V
  obtain ⟨b3, b0, b5, b4, bf⟩ := r2.b
  exact Pr.same (Nat.le_of_ble_eq_true rfl) (Nat.le_of_ble_eq_true rfl) V (c_X6_status I) (fun U hU => c_X7_status hU)
theorem pr_trace (V : Inv G h i A B) {x1 : Int32} : Pr l G yX6_trace yX7_trace [.int x1] h := by
  obtain ⟨old, w, ln, rz, it, im, I, r1, r2, r2x, r3, r4, r5, r6, r7⟩ := id V
  obtain ⟨b3, b0, b5, b4, bf⟩ := r2.b
  by_cases hx : isx x1 (i 24)
  case neg => exact Pr.same (Nat.le_of_ble_eq_true rfl) (Nat.le_of_ble_eq_true rfl) V (c_X6_traceN I r4 hx) (fun U hU => c_X7_traceN hU r4 hx)
  obtain ⟨q, hq, rfl⟩ := isx_of (by omega) hx
  exact Pr.same (Nat.le_of_ble_eq_true rfl) (Nat.le_of_ble_eq_true rfl) V (c_X6_trace I r4 hq) (fun U hU => c_X7_trace hU r4 hq)
theorem pr_count (V : Inv G h i A B) {x1 : Int32} : Pr l G yX6_count yX7_count [.int x1] h := by
  obtain ⟨old, w, ln, rz, it, im, I, r1, r2, r2x, r3, r4, r5, r6, r7⟩ := id V
  obtain ⟨b3, b0, b5, b4, bf⟩ := r2.b
  by_cases hx : isx x1 8
  case neg => exact Pr.same (Nat.le_of_ble_eq_true rfl) (Nat.le_of_ble_eq_true rfl) V (c_X6_countB I hx) (fun U hU => c_X7_countB hU hx)
  obtain ⟨k, hk, rfl⟩ := isx_of (by decide) hx
  rcases (by omega : k = 0 ∨ k = 1 ∨ k = 2 ∨ k = 3 ∨ k = 4 ∨ k = 5 ∨ k = 6 ∨ k = 7) with rfl | rfl | rfl | rfl | rfl | rfl | rfl | rfl
  · have hc := c_X6_count0 (l := l) I
    rw [rl_rc r5 8 (Nat.le_refl _)] at hc
    exact Pr.same (Nat.le_of_ble_eq_true rfl) (Nat.le_of_ble_eq_true rfl) V (hc) (fun U hU => c_X7_count0 hU b3)
  · exact Pr.same (Nat.le_of_ble_eq_true rfl) (Nat.le_of_ble_eq_true rfl) V (c_X6_count1 I) (fun U hU => c_X7_count1 hU b3)
  · exact Pr.same (Nat.le_of_ble_eq_true rfl) (Nat.le_of_ble_eq_true rfl) V (c_X6_count2 I) (fun U hU => c_X7_count2 hU b3)
  · exact Pr.same (Nat.le_of_ble_eq_true rfl) (Nat.le_of_ble_eq_true rfl) V (c_X6_count3 I) (fun U hU => c_X7_count3 hU b3)
  · exact Pr.same (Nat.le_of_ble_eq_true rfl) (Nat.le_of_ble_eq_true rfl) V (c_X6_count4 I) (fun U hU => c_X7_count4 hU b3)
  · have hc := c_X6_count5 (l := l) I
    have e : sb (A 5) 11 = spn (A 5) (A 5 3) := by
      rcases r2 with ⟨t4, hzz⟩ | ⟨t4, hV, h4⟩
      · unfold sb
        rw [hzz, hzz, hzz, hzz, hzz, hzz]
        rfl
      · exact (spn_sb hV).symm
    rw [e] at hc
    exact Pr.same (Nat.le_of_ble_eq_true rfl) (Nat.le_of_ble_eq_true rfl) V (hc) (fun U hU => c_X7_count5 hU b3)
  · exact Pr.same (Nat.le_of_ble_eq_true rfl) (Nat.le_of_ble_eq_true rfl) V (c_X6_count6 I) (fun U hU => c_X7_count6 hU b3)
  · exact Pr.same (Nat.le_of_ble_eq_true rfl) (Nat.le_of_ble_eq_true rfl) V (c_X6_count7 I) (fun U hU => c_X7_count7 hU b3)
end
