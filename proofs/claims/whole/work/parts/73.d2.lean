theorem ileS {x : Int32} {n : Nat} (hn : n < 1000000) : x ≤ nI n ↔ x < nI (n + 1) := by
  rw [Int32.le_iff_toInt_le, Int32.lt_iff_toInt_lt, nI_int (by omega), nI_int (by omega)]
  omega
theorem ige1 {x : Int32} {n : Nat} (hn : n < 1000000) : ¬ x < nI n ↔ nI n ≤ x := Int32.not_lt
theorem spn_sb {y : Nat → Nat} (hV : Va y) : spn y (y 3) = sb y 11 := by
  have e : ∀ n, n ≤ 5 → spn y n = spn y n := fun _ _ => rfl
  have h5 : spn y 5 = sb y 11 := by
    have h0 := hV.sup 0 (by decide)
    have h1 := hV.sup 1 (by decide)
    have h2 := hV.sup 2 (by decide)
    have h3 := hV.sup 3 (by decide)
    have h4 := hV.sup 4 (by decide)
    show ((((0 ||| y (11 + 0) * 2 ^ 0) ||| y (11 + 1) * 2 ^ 1) ||| y (11 + 2) * 2 ^ 2) ||| y (11 + 3) * 2 ^ 3) ||| y (11 + 4) * 2 ^ 4 = y 11 + 2 * y (11 + 1) + 4 * y (11 + 2) + 8 * y (11 + 3) + 16 * y (11 + 4)
    rw [show y 11 = y (11 + 0) from rfl]
    generalize y (11 + 0) = a0 at *
    generalize y (11 + 1) = a1 at *
    generalize y (11 + 2) = a2 at *
    generalize y (11 + 3) = a3 at *
    generalize y (11 + 4) = a4 at *
    have k : ∀ b0, b0 < 2 → ∀ b1, b1 < 2 → ∀ b2, b2 < 2 → ∀ b3, b3 < 2 → ∀ b4, b4 < 2 → ((((0 ||| b0 * 2 ^ 0) ||| b1 * 2 ^ 1) ||| b2 * 2 ^ 2) ||| b3 * 2 ^ 3) ||| b4 * 2 ^ 4 = b0 + 2 * b1 + 4 * b2 + 8 * b3 + 16 * b4 := by decide +kernel
    exact k a0 (by omega) a1 (by omega) a2 (by omega) a3 (by omega) a4 (by omega)
  rw [← h5]
  have hz : ∀ m n, n + m = 5 → y 3 ≤ n → spn y n = spn y 5 := by
    intro m
    induction m with
    | zero => intro n hn _; rw [show n = 5 by omega]
    | succ m ih =>
      intro n hn hy
      rw [← ih (n + 1) (by omega) (by omega)]
      show _ = spn y n ||| y (11 + n) * 2 ^ n
      rw [(hV.2.2.2.2.2.2.1 n (by omega)).2 hy, Nat.zero_mul, Nat.or_zero]
  exact hz (5 - y 3) (y 3) (by have := hV.2.2.2.1; omega) (Nat.le_refl _)
section
variable {l : Launch} {G : qG} {h h1 : List va_E} {i : Nat → Nat} {A : Nat → Nat → Nat} {B : Nat → Nat → Int32} {fin : Nat} {n : Nat} {lf : Nat} {b : Nat → Nat} {y : Nat → Nat} {sz : Nat} {old : Nat} {w : Nat → Nat → Nat} {c : Nat} {f : Nat → Nat} {ln : Nat → Int32} {rz : Nat → Int32} {it : Nat → Nat → Int32} {im : Nat → Nat → Nat}
theorem c_X6_found (I : CI G (h) (i) (A) (B) (fin) (n) (lf) (b) (y) (sz) (old) (w) (c) (f) (ln) (rz) (it) (im)) {k : Nat} : Ct l G yX6_found 0 [qr G 0, .int (nI k)] (h) (some (.int (-1000010 - nI k))) (h.set 0 (dcl G k)) := by
  refine ctm_intro (maxL := 2) kw_X6_found (by decide) (by decide) [some (qr G 0), some (.int (nI k))] rfl (Nat.le_of_ble_eq_true rfl) ?_
  intro X _ hcl hsl _ _ C E
  refine y_aload_n C D_X6_found_0 rfl ?_
  refine y_iload_n C D_X6_found_1 rfl ?_
  refine y_put C D_X6_found_2 fl_X6_270 I.o (Nat.le_of_ble_eq_true rfl) rfl rfl rfl ?_
  refine y_ldcw C D_X6_found_5 lk_X6_273 ?_
  refine y_iload_n C D_X6_found_8 rfl ?_
  refine y_isub C D_X6_found_9 ?_
  exact y_iret C E D_X6_found_10 (rfl) (rfl)
theorem c_X6_sound (I : CI G (h) (i) (A) (B) (fin) (n) (lf) (b) (y) (sz) (old) (w) (c) (f) (ln) (rz) (it) (im)) {v : Int32} : Ct l G yX6_sound 0 [qr G 0, .int (v)] (h) (some (.int v)) (h.set 0 (dcl G 0)) := by
  refine ctm_intro (maxL := 2) kw_X6_sound (by decide) (by decide) [some (qr G 0), some (.int (v))] rfl (Nat.le_of_ble_eq_true rfl) ?_
  intro X _ hcl hsl _ _ C E
  refine y_aload_n C D_X6_sound_0 rfl ?_
  refine y_iconst C D_X6_sound_1 ki_0 ?_
  refine y_put C D_X6_sound_2 fl_X6_270 I.o (Nat.le_of_ble_eq_true rfl) rfl rfl rfl ?_
  refine y_iload_n C D_X6_sound_5 rfl ?_
  exact y_iret C E D_X6_sound_6 (rfl) (rfl)
theorem c_X6_isSleeper (I : CI G (h) (i) (A) (B) (fin) (n) (lf) (b) (y) (sz) (old) (w) (c) (f) (ln) (rz) (it) (im)) {x : Int32} (hb : y 3 < 2 ^ 31) : Ct l G yX6_isSleeper 0 [qr G 0, .int (x)] (h) (some (.int (bI (isx x (y 3))))) (h) := by
  refine ctm_intro (maxL := 2) kw_X6_isSleeper (by decide) (by decide) [some (qr G 0), some (.int (x))] rfl (Nat.le_of_ble_eq_true rfl) ?_
  intro X _ hcl hsl _ _ C E
  refine y_iload_n C D_X6_isSleeper_0 rfl ?_
  refine y_if_lt C D_X6_isSleeper_1 Iff.rfl (fun c_1 => ?_) (fun c_1 => ?_)
  · refine y_iconst C D_X6_isSleeper_19 ki_0 ?_
    exact y_zret C E D_X6_isSleeper_20 nar_0 (rt_0 (fun z => absurd z.1 (Int32.not_le.mpr c_1))) (rfl)
  · refine y_iload_n C D_X6_isSleeper_4 rfl ?_
    refine y_aload_n C D_X6_isSleeper_5 rfl ?_
    refine y_get C D_X6_isSleeper_6 fl_X6_25 I.o rfl ?_
    refine y_get C D_X6_isSleeper_9 fl_X6_123 I.yd.o rfl ?_
    refine y_icmp_ge C D_X6_isSleeper_12 Iff.rfl (fun c_12 => ?_) (fun c_12 => ?_)
    · refine y_iconst C D_X6_isSleeper_19 ki_0 ?_
      exact y_zret C E D_X6_isSleeper_20 nar_0 (rt_0 (fun z => absurd z.2 (Int32.not_lt.mpr c_12))) (rfl)
    · refine y_iconst C D_X6_isSleeper_15 ki_1 ?_
      refine y_goto C D_X6_isSleeper_16 ?_
      exact y_zret C E D_X6_isSleeper_20 nar_1 (rt_1 (⟨Int32.not_lt.mp c_1, Int32.not_le.mp c_12⟩)) (rfl)
theorem c_X6_isGrave (I : CI G (h) (i) (A) (B) (fin) (n) (lf) (b) (y) (sz) (old) (w) (c) (f) (ln) (rz) (it) (im)) {x : Int32} (hb : y 0 < 2 ^ 31) : Ct l G yX6_isGrave 0 [qr G 0, .int (x)] (h) (some (.int (bI (isx x (y 0))))) (h) := by
  refine ctm_intro (maxL := 2) kw_X6_isGrave (by decide) (by decide) [some (qr G 0), some (.int (x))] rfl (Nat.le_of_ble_eq_true rfl) ?_
  intro X _ hcl hsl _ _ C E
  refine y_iload_n C D_X6_isGrave_0 rfl ?_
  refine y_if_lt C D_X6_isGrave_1 Iff.rfl (fun c_1 => ?_) (fun c_1 => ?_)
  · refine y_iconst C D_X6_isGrave_19 ki_0 ?_
    exact y_zret C E D_X6_isGrave_20 nar_0 (rt_0 (fun z => absurd z.1 (Int32.not_le.mpr c_1))) (rfl)
  · refine y_iload_n C D_X6_isGrave_4 rfl ?_
    refine y_aload_n C D_X6_isGrave_5 rfl ?_
    refine y_get C D_X6_isGrave_6 fl_X6_25 I.o rfl ?_
    refine y_get C D_X6_isGrave_9 fl_X6_201 I.yd.o rfl ?_
    refine y_icmp_ge C D_X6_isGrave_12 Iff.rfl (fun c_12 => ?_) (fun c_12 => ?_)
    · refine y_iconst C D_X6_isGrave_19 ki_0 ?_
      exact y_zret C E D_X6_isGrave_20 nar_0 (rt_0 (fun z => absurd z.2 (Int32.not_lt.mpr c_12))) (rfl)
    · refine y_iconst C D_X6_isGrave_15 ki_1 ?_
      refine y_goto C D_X6_isGrave_16 ?_
      exact y_zret C E D_X6_isGrave_20 nar_1 (rt_1 (⟨Int32.not_lt.mp c_1, Int32.not_le.mp c_12⟩)) (rfl)
theorem c_X6_isRow {x : Int32} : Ct l G yX6_isRow 0 [.int x] (h) (some (.int (bI (isx x 8)))) (h) := by
  refine ctm_intro (maxL := 1) kw_X6_isRow (by decide) (by decide) [some (.int x)] rfl (Nat.le_of_ble_eq_true rfl) ?_
  intro X _ hcl hsl _ _ C E
  refine y_iload_n C D_X6_isRow_0 rfl ?_
  refine y_if_lt C D_X6_isRow_1 Iff.rfl (fun c_1 => ?_) (fun c_1 => ?_)
  · refine y_iconst C D_X6_isRow_14 ki_0 ?_
    exact y_zret C E D_X6_isRow_15 nar_0 (rt_0 (fun z => absurd z.1 (Int32.not_le.mpr c_1))) (rfl)
  · refine y_iload_n C D_X6_isRow_4 rfl ?_
    refine y_bipush C D_X6_isRow_5 kb_8 ?_
    refine y_icmp_ge C D_X6_isRow_7 Iff.rfl (fun c_7 => ?_) (fun c_7 => ?_)
    · refine y_iconst C D_X6_isRow_14 ki_0 ?_
      exact y_zret C E D_X6_isRow_15 nar_0 (rt_0 (fun z => absurd z.2 (Int32.not_lt.mpr c_7))) (rfl)
    · refine y_iconst C D_X6_isRow_10 ki_1 ?_
      refine y_goto C D_X6_isRow_11 ?_
      exact y_zret C E D_X6_isRow_15 nar_1 (rt_1 (⟨Int32.not_lt.mp c_1, Int32.not_le.mp c_7⟩)) (rfl)
theorem c_X5_isNoneY {a : Nat} {z : Nat → Nat} (q : Yat G h a z) (hb : z 0 < 2 ^ 31) : Ct l G yX5_isNone 0 [qr G a] h (some (.int (bI (z 0 = 0)))) h := by
  have w := c_X5_isNone (l := l) (G := G) (h := h) (y := z) q.lt hb
  rw [q.eq] at w
  exact w
theorem c_X6_noYard (I : CI G (h) (i) (A) (B) (fin) (n) (lf) (b) (y) (sz) (old) (w) (c) (f) (ln) (rz) (it) (im)) (hb : y 0 < 2 ^ 31) : Ct l G yX6_noYard 1 [qr G 0] (h) (some (.int (bI (y 0 = 0)))) (h) := by
  refine ctm_intro (maxL := 1) kw_X6_noYard (by decide) (by decide) [some (qr G 0)] rfl (Nat.le_of_ble_eq_true rfl) ?_
  intro X _ hcl hsl _ _ C E
  refine y_aload_n C D_X6_noYard_0 rfl ?_
  refine y_get C D_X6_noYard_1 fl_X6_25 I.o rfl ?_
  refine z_callV C D_X6_noYard_4 lk_X6_249 (c_X5_isNoneY I.yd hb) I.yd.o rfl rfl (Nat.le_of_ble_eq_true rfl) (Nat.le_of_ble_eq_true rfl) ⟨Nat.zero_le _, Nat.zero_le _⟩ ?_
  exact y_zret C E D_X6_noYard_7 bI_nar (rfl) (rfl)
theorem c_X5_memoryOfY {a : Nat} {z : Nat → Nat} (q : Yat G h a z) {s g : Nat} (h1 : s < 5) (h2 : g < 6) : Ct l G yX5_memoryOf 1 [qr G a, .int (nI s), .int (nI g)] h (some (.int (nI (me z s g)))) h := by
  have w := c_X5_memoryOf (l := l) (G := G) (h := h) (y := z) q.lt h1 h2
  rw [q.eq] at w
  exact w
theorem c_X5_dreamsOfY {a : Nat} {z : Nat → Nat} (q : Yat G h a z) {s : Nat} (h1 : s < 5) (hV : Va z) (h4 : z 4 < 2000) : Ct l G yX5_dreamsOf 2 [qr G a, .int (nI s)] h (some (.int (nI (if s < z 3 then dr z s else 0)))) h := by
  have w := c_X5_dreamsOf (l := l) (G := G) (h := h) (y := z) q.lt h1 hV h4
  rw [q.eq] at w
  exact w
theorem c_X5_allMemoryOfY {a : Nat} {z : Nat → Nat} (q : Yat G h a z) {s : Nat} (h1 : s < 5) (hV : Va z) : Ct l G yX5_allMemoryOf 2 [qr G a, .int (nI s)] h (some (.int (nI (mbn z s (z 0))))) h := by
  have w := c_X5_allMemoryOf (l := l) (G := G) (h := h) (y := z) q.lt h1 hV
  rw [q.eq] at w
  exact w
theorem c_X5_dreamersOfY {a : Nat} {z : Nat → Nat} (q : Yat G h a z) {g : Nat} (h1 : g < 6) (hV : Va z) (h4 : z 4 < 2000) : Ct l G yX5_dreamersOf 3 [qr G a, .int (nI g)] h (some (.int (nI (dwn z g (z 3))))) h := by
  have w := c_X5_dreamersOf (l := l) (G := G) (h := h) (y := z) q.lt h1 hV h4
  rw [q.eq] at w
  exact w
theorem c_X5_allMemoryY {a : Nat} {z : Nat → Nat} (q : Yat G h a z) (hV : Va z) : Ct l G yX5_allMemory 3 [qr G a] h (some (.int (nI (smN z (z 3))))) h := by
  have w := c_X5_allMemory (l := l) (G := G) (h := h) (y := z) q.lt hV
  rw [q.eq] at w
  exact w
theorem c_X5_rememberY {a : Nat} {z : Nat → Nat} (q : Yat G h a z) {s g v : Nat} (h1 : s < 5) (h2 : g < 6) : Ct l G yX5_remember 1 [qr G a, .int (nI s), .int (nI g), .int (nI v)] h none (yc G h a (va_up z (21 + 6 * s + g) v)) := by
  have w := c_X5_remember (l := l) (G := G) (h := h) (y := z) (v := v) q.lt h1 h2
  rw [q.eq] at w
  exact w
theorem c_X5_passY {a : Nat} {z : Nat → Nat} (q : Yat G h a z) (hV : Va z) (h4 : z 4 < 2000) : Ct l G yX5_pass 4 [qr G a] h none (yc G h a (yr z)) := by
  have w := c_X5_pass (l := l) (G := G) (h := h) (y := z) q.lt hV h4
  rw [q.eq] at w
  exact w
theorem c_X6_sleeperB (I : CI G (h) (i) (A) (B) (fin) (n) (lf) (b) (y) (sz) (old) (w) (c) (f) (ln) (rz) (it) (im)) (h3 : y 3 ≤ 5) {x w1 : Int32} (hx : ¬ isx x (y 3)) : Ct l G yX6_sleeper 3 [qr G 0, .int (x), .int (w1)] (h) (some (.int (-1000001))) (h) := by
  refine ctm_intro (maxL := 3) kw_X6_sleeper (by decide) (by decide) [some (qr G 0), some (.int (x)), some (.int (w1))] rfl (Nat.le_of_ble_eq_true rfl) ?_
  intro X _ hcl hsl _ _ C E
  refine y_aload_n C D_X6_sleeper_0 rfl ?_
  refine y_iload_n C D_X6_sleeper_1 rfl ?_
  refine z_callV C D_X6_sleeper_2 lk_X6_150 (c_X6_isSleeper I (by omega)) I.o rfl rfl (Nat.le_of_ble_eq_true rfl) (Nat.le_of_ble_eq_true rfl) ⟨Nat.zero_le _, Nat.zero_le _⟩ ?_
  refine z_ifneB C D_X6_sleeper_5 (fun c_5 => absurd c_5 hx) (fun c_5 => ?_)
  refine y_ldc C D_X6_sleeper_8 lk_X6_59 ?_
  exact y_iret C E D_X6_sleeper_10 (rfl) (rfl)
theorem c_X6_sleeperW (I : CI G (h) (i) (A) (B) (fin) (n) (lf) (b) (y) (sz) (old) (w) (c) (f) (ln) (rz) (it) (im)) (h3 : y 3 ≤ 5) {s : Nat} {w1 : Int32} (hs1 : s < y 3) (hw : ¬ isx w1 4) : Ct l G yX6_sleeper 3 [qr G 0, .int (nI s), .int (w1)] (h) (some (.int (-1000001))) (h) := by
  refine ctm_intro (maxL := 3) kw_X6_sleeper (by decide) (by decide) [some (qr G 0), some (.int (nI s)), some (.int (w1))] rfl (Nat.le_of_ble_eq_true rfl) ?_
  intro X _ hcl hsl _ _ C E
  refine y_aload_n C D_X6_sleeper_0 rfl ?_
  refine y_iload_n C D_X6_sleeper_1 rfl ?_
  refine z_callV C D_X6_sleeper_2 lk_X6_150 (c_X6_isSleeper I (by omega)) I.o rfl rfl (Nat.le_of_ble_eq_true rfl) (Nat.le_of_ble_eq_true rfl) ⟨Nat.zero_le _, Nat.zero_le _⟩ ?_
  refine y_top (bI_1 (isx_n (by omega) hs1)) ?_
  refine z_ifne1 C D_X6_sleeper_5 ?_
  refine y_iload_n C D_X6_sleeper_11 rfl ?_
  refine y_tabOut (tgt := 102) C D_X6_sleeper_12 ((isx_out (by decide) hw).imp id (fun z => by omega)) (by decide) ?_
  refine y_ldc C D_X6_sleeper_102 lk_X6_59 ?_
  exact y_iret C E D_X6_sleeper_104 (rfl) (rfl)
theorem c_X6_sleeper0 (I : CI G (h) (i) (A) (B) (fin) (n) (lf) (b) (y) (sz) (old) (w) (c) (f) (ln) (rz) (it) (im)) (hV : Va y) (h4 : y 4 ≤ 999) {s : Nat} (hs1 : s < y 3) : Ct l G yX6_sleeper 3 [qr G 0, .int (nI s), .int (nI 0)] (h) (some (.int (nI (dr y s)))) (h) := by
  refine ctm_intro (maxL := 3) kw_X6_sleeper (by decide) (by decide) [some (qr G 0), some (.int (nI s)), some (.int (nI 0))] rfl (Nat.le_of_ble_eq_true rfl) ?_
  intro X _ hcl hsl _ _ C E
  have hV0 := hV.1
  have hV3 := hV.2.2.2.1
  have hV5 := hV.k64
  have hb1 := sb_lt (o := 11) hV.sup
  have hb2 := sb_lt (o := 16) hV.fev
  refine y_aload_n C D_X6_sleeper_0 rfl ?_
  refine y_iload_n C D_X6_sleeper_1 rfl ?_
  refine z_callV C D_X6_sleeper_2 lk_X6_150 (c_X6_isSleeper I (by omega)) I.o rfl rfl (Nat.le_of_ble_eq_true rfl) (Nat.le_of_ble_eq_true rfl) ⟨Nat.zero_le _, Nat.zero_le _⟩ ?_
  refine y_top (bI_1 (isx_n (by omega) hs1)) ?_
  refine z_ifne1 C D_X6_sleeper_5 ?_
  refine y_iload_n C D_X6_sleeper_11 rfl ?_
  refine y_tabIn (off := 32) (tgt := 44) C D_X6_sleeper_12 (by decide) (by decide) (by decide +kernel) (by decide) ?_
  refine y_aload_n C D_X6_sleeper_44 rfl ?_
  refine y_get C D_X6_sleeper_45 fl_X6_25 I.o rfl ?_
  refine y_iload_n C D_X6_sleeper_48 rfl ?_
  refine z_callV C D_X6_sleeper_49 lk_X6_170 (c_X5_dreamsOfY I.yd (by omega) hV (by omega)) I.yd.o rfl rfl (Nat.le_of_ble_eq_true rfl) (Nat.le_of_ble_eq_true rfl) ⟨Nat.zero_le _, Nat.zero_le _⟩ ?_
  exact y_iret C E D_X6_sleeper_52 (by rw [if_pos hs1]) (rfl)
theorem c_X6_sleeper1 (I : CI G (h) (i) (A) (B) (fin) (n) (lf) (b) (y) (sz) (old) (w) (c) (f) (ln) (rz) (it) (im)) (hV : Va y) (h4 : y 4 ≤ 999) {s : Nat} (hs1 : s < y 3) : Ct l G yX6_sleeper 3 [qr G 0, .int (nI s), .int (nI 1)] (h) (some (.int (nI (mbn y s (y 0))))) (h) := by
  refine ctm_intro (maxL := 3) kw_X6_sleeper (by decide) (by decide) [some (qr G 0), some (.int (nI s)), some (.int (nI 1))] rfl (Nat.le_of_ble_eq_true rfl) ?_
  intro X _ hcl hsl _ _ C E
  have hV0 := hV.1
  have hV3 := hV.2.2.2.1
  have hV5 := hV.k64
  have hb1 := sb_lt (o := 11) hV.sup
  have hb2 := sb_lt (o := 16) hV.fev
  refine y_aload_n C D_X6_sleeper_0 rfl ?_
  refine y_iload_n C D_X6_sleeper_1 rfl ?_
  refine z_callV C D_X6_sleeper_2 lk_X6_150 (c_X6_isSleeper I (by omega)) I.o rfl rfl (Nat.le_of_ble_eq_true rfl) (Nat.le_of_ble_eq_true rfl) ⟨Nat.zero_le _, Nat.zero_le _⟩ ?_
  refine y_top (bI_1 (isx_n (by omega) hs1)) ?_
  refine z_ifne1 C D_X6_sleeper_5 ?_
  refine y_iload_n C D_X6_sleeper_11 rfl ?_
  refine y_tabIn (off := 41) (tgt := 53) C D_X6_sleeper_12 (by decide) (by decide) (by decide +kernel) (by decide) ?_
  refine y_aload_n C D_X6_sleeper_53 rfl ?_
  refine y_get C D_X6_sleeper_54 fl_X6_25 I.o rfl ?_
  refine y_iload_n C D_X6_sleeper_57 rfl ?_
  refine z_callV C D_X6_sleeper_58 lk_X6_183 (c_X5_allMemoryOfY I.yd (by omega) hV) I.yd.o rfl rfl (Nat.le_of_ble_eq_true rfl) (Nat.le_of_ble_eq_true rfl) ⟨Nat.zero_le _, Nat.zero_le _⟩ ?_
  exact y_iret C E D_X6_sleeper_61 (rfl) (rfl)
theorem c_X6_sleeper2 (I : CI G (h) (i) (A) (B) (fin) (n) (lf) (b) (y) (sz) (old) (w) (c) (f) (ln) (rz) (it) (im)) (hV : Va y) (h4 : y 4 ≤ 999) {s : Nat} (hs1 : s < y 3) : Ct l G yX6_sleeper 3 [qr G 0, .int (nI s), .int (nI 2)] (h) (some (.int (nI (y (11 + s))))) (h) := by
  refine ctm_intro (maxL := 3) kw_X6_sleeper (by decide) (by decide) [some (qr G 0), some (.int (nI s)), some (.int (nI 2))] rfl (Nat.le_of_ble_eq_true rfl) ?_
  intro X _ hcl hsl _ _ C E
  have hV0 := hV.1
  have hV3 := hV.2.2.2.1
  have hV5 := hV.k64
  have hb1 := sb_lt (o := 11) hV.sup
  have hb2 := sb_lt (o := 16) hV.fev
  refine y_aload_n C D_X6_sleeper_0 rfl ?_
  refine y_iload_n C D_X6_sleeper_1 rfl ?_
  refine z_callV C D_X6_sleeper_2 lk_X6_150 (c_X6_isSleeper I (by omega)) I.o rfl rfl (Nat.le_of_ble_eq_true rfl) (Nat.le_of_ble_eq_true rfl) ⟨Nat.zero_le _, Nat.zero_le _⟩ ?_
  refine y_top (bI_1 (isx_n (by omega) hs1)) ?_
  refine z_ifne1 C D_X6_sleeper_5 ?_
  refine y_iload_n C D_X6_sleeper_11 rfl ?_
  refine y_tabIn (off := 50) (tgt := 62) C D_X6_sleeper_12 (by decide) (by decide) (by decide +kernel) (by decide) ?_
  refine y_aload_n C D_X6_sleeper_62 rfl ?_
  refine y_get C D_X6_sleeper_63 fl_X6_25 I.o rfl ?_
  refine y_get C D_X6_sleeper_66 fl_X6_153 I.yd.o rfl ?_
  refine y_iload_n C D_X6_sleeper_69 rfl ?_
  refine z_callS C D_X6_sleeper_70 lk_X6_156 (c_X6_hasBit (by omega) (by omega)) rfl rfl (Nat.le_of_ble_eq_true rfl) (Nat.le_of_ble_eq_true rfl) ⟨Nat.zero_le _, Nat.zero_le _⟩ ?_
  refine z_ifeqB C D_X6_sleeper_73 (fun c_73 => ?_) (fun c_73 => ?_)
  · refine y_iconst C D_X6_sleeper_80 ki_0 ?_
    exact y_iret C E D_X6_sleeper_81 (by rw [show y (11 + s) = 0 from by have := hV.sup s (by omega); have := mt (sb_hs (o := 11) hV.sup (by omega : s < 5)).mpr c_73; omega]) (rfl)
  · refine y_iconst C D_X6_sleeper_76 ki_1 ?_
    refine y_goto C D_X6_sleeper_77 ?_
    exact y_iret C E D_X6_sleeper_81 (by rw [(sb_hs (o := 11) hV.sup (by omega : s < 5)).mp c_73]) (rfl)
theorem c_X6_sleeper3 (I : CI G (h) (i) (A) (B) (fin) (n) (lf) (b) (y) (sz) (old) (w) (c) (f) (ln) (rz) (it) (im)) (hV : Va y) (h4 : y 4 ≤ 999) {s : Nat} (hs1 : s < y 3) : Ct l G yX6_sleeper 3 [qr G 0, .int (nI s), .int (nI 3)] (h) (some (.int (nI (y (16 + s))))) (h) := by
  refine ctm_intro (maxL := 3) kw_X6_sleeper (by decide) (by decide) [some (qr G 0), some (.int (nI s)), some (.int (nI 3))] rfl (Nat.le_of_ble_eq_true rfl) ?_
  intro X _ hcl hsl _ _ C E
  have hV0 := hV.1
  have hV3 := hV.2.2.2.1
  have hV5 := hV.k64
  have hb1 := sb_lt (o := 11) hV.sup
  have hb2 := sb_lt (o := 16) hV.fev
  refine y_aload_n C D_X6_sleeper_0 rfl ?_
  refine y_iload_n C D_X6_sleeper_1 rfl ?_
  refine z_callV C D_X6_sleeper_2 lk_X6_150 (c_X6_isSleeper I (by omega)) I.o rfl rfl (Nat.le_of_ble_eq_true rfl) (Nat.le_of_ble_eq_true rfl) ⟨Nat.zero_le _, Nat.zero_le _⟩ ?_
  refine y_top (bI_1 (isx_n (by omega) hs1)) ?_
  refine z_ifne1 C D_X6_sleeper_5 ?_
  refine y_iload_n C D_X6_sleeper_11 rfl ?_
  refine y_tabIn (off := 70) (tgt := 82) C D_X6_sleeper_12 (by decide) (by decide) (by decide +kernel) (by decide) ?_
  refine y_aload_n C D_X6_sleeper_82 rfl ?_
  refine y_get C D_X6_sleeper_83 fl_X6_25 I.o rfl ?_
  refine y_get C D_X6_sleeper_86 fl_X6_167 I.yd.o rfl ?_
  refine y_iload_n C D_X6_sleeper_89 rfl ?_
  refine z_callS C D_X6_sleeper_90 lk_X6_156 (c_X6_hasBit (by omega) (by omega)) rfl rfl (Nat.le_of_ble_eq_true rfl) (Nat.le_of_ble_eq_true rfl) ⟨Nat.zero_le _, Nat.zero_le _⟩ ?_
  refine z_ifeqB C D_X6_sleeper_93 (fun c_93 => ?_) (fun c_93 => ?_)
  · refine y_iconst C D_X6_sleeper_100 ki_0 ?_
    exact y_iret C E D_X6_sleeper_101 (by rw [show y (16 + s) = 0 from by have := hV.fev s (by omega); have := mt (sb_hs (o := 16) hV.fev (by omega : s < 5)).mpr c_93; omega]) (rfl)
  · refine y_iconst C D_X6_sleeper_96 ki_1 ?_
    refine y_goto C D_X6_sleeper_97 ?_
    exact y_iret C E D_X6_sleeper_101 (by rw [(sb_hs (o := 16) hV.fev (by omega : s < 5)).mp c_93]) (rfl)
theorem c_X6_memoryB (I : CI G (h) (i) (A) (B) (fin) (n) (lf) (b) (y) (sz) (old) (w) (c) (f) (ln) (rz) (it) (im)) (h3 : y 3 ≤ 5) (h0 : y 0 ≤ 6) {x w1 : Int32} (hx : ¬ isx x (y 3) ∨ ¬ isx w1 (y 0)) : Ct l G yX6_memory 2 [qr G 0, .int (x), .int (w1)] (h) (some (.int (-1000001))) (h) := by
  refine ctm_intro (maxL := 3) kw_X6_memory (by decide) (by decide) [some (qr G 0), some (.int (x)), some (.int (w1))] rfl (Nat.le_of_ble_eq_true rfl) ?_
  intro X _ hcl hsl _ _ C E
  refine y_aload_n C D_X6_memory_0 rfl ?_
  refine y_iload_n C D_X6_memory_1 rfl ?_
  refine z_callV C D_X6_memory_2 lk_X6_150 (c_X6_isSleeper I (by omega)) I.o rfl rfl (Nat.le_of_ble_eq_true rfl) (Nat.le_of_ble_eq_true rfl) ⟨Nat.zero_le _, Nat.zero_le _⟩ ?_
  refine z_ifeqB C D_X6_memory_5 (fun c_5 => ?_) (fun c_5 => ?_)
  · refine y_ldc C D_X6_memory_28 lk_X6_59 ?_
    exact y_iret C E D_X6_memory_30 (rfl) (rfl)
  · refine y_aload_n C D_X6_memory_8 rfl ?_
    refine y_iload_n C D_X6_memory_9 rfl ?_
    refine z_callV C D_X6_memory_10 lk_X6_173 (c_X6_isGrave I (by omega)) I.o rfl rfl (Nat.le_of_ble_eq_true rfl) (Nat.le_of_ble_eq_true rfl) ⟨Nat.zero_le _, Nat.zero_le _⟩ ?_
    refine z_ifeqB C D_X6_memory_13 (fun c_13 => ?_) (fun c_13 => hx.elim (fun z => absurd c_5 z) (fun z => absurd c_13 z))
    refine y_ldc C D_X6_memory_28 lk_X6_59 ?_
    exact y_iret C E D_X6_memory_30 (rfl) (rfl)
theorem c_X6_memory (I : CI G (h) (i) (A) (B) (fin) (n) (lf) (b) (y) (sz) (old) (w) (c) (f) (ln) (rz) (it) (im)) (h3 : y 3 ≤ 5) (h0 : y 0 ≤ 6) {s g : Nat} (hs1 : s < y 3) (hg1 : g < y 0) : Ct l G yX6_memory 2 [qr G 0, .int (nI s), .int (nI g)] (h) (some (.int (nI (me y s g)))) (h) := by
  refine ctm_intro (maxL := 3) kw_X6_memory (by decide) (by decide) [some (qr G 0), some (.int (nI s)), some (.int (nI g))] rfl (Nat.le_of_ble_eq_true rfl) ?_
  intro X _ hcl hsl _ _ C E
  refine y_aload_n C D_X6_memory_0 rfl ?_
  refine y_iload_n C D_X6_memory_1 rfl ?_
  refine z_callV C D_X6_memory_2 lk_X6_150 (c_X6_isSleeper I (by omega)) I.o rfl rfl (Nat.le_of_ble_eq_true rfl) (Nat.le_of_ble_eq_true rfl) ⟨Nat.zero_le _, Nat.zero_le _⟩ ?_
  refine y_top (bI_1 (isx_n (by omega) hs1)) ?_
  refine z_ifeq1 C D_X6_memory_5 ?_
  refine y_aload_n C D_X6_memory_8 rfl ?_
  refine y_iload_n C D_X6_memory_9 rfl ?_
  refine z_callV C D_X6_memory_10 lk_X6_173 (c_X6_isGrave I (by omega)) I.o rfl rfl (Nat.le_of_ble_eq_true rfl) (Nat.le_of_ble_eq_true rfl) ⟨Nat.zero_le _, Nat.zero_le _⟩ ?_
  refine y_top (bI_1 (isx_n (by omega) hg1)) ?_
  refine z_ifeq1 C D_X6_memory_13 ?_
  refine y_aload_n C D_X6_memory_16 rfl ?_
  refine y_get C D_X6_memory_17 fl_X6_25 I.o rfl ?_
  refine y_iload_n C D_X6_memory_20 rfl ?_
  refine y_iload_n C D_X6_memory_21 rfl ?_
  refine z_callV C D_X6_memory_22 lk_X6_176 (c_X5_memoryOfY I.yd (by omega) (by omega)) I.yd.o rfl rfl (Nat.le_of_ble_eq_true rfl) (Nat.le_of_ble_eq_true rfl) ⟨Nat.zero_le _, Nat.zero_le _⟩ ?_
  refine y_goto C D_X6_memory_25 ?_
  exact y_iret C E D_X6_memory_30 (rfl) (rfl)
theorem c_X6_kindB (I : CI G (h) (i) (A) (B) (fin) (n) (lf) (b) (y) (sz) (old) (w) (c) (f) (ln) (rz) (it) (im)) (h3 : y 3 ≤ 5) {x : Int32} (hx : ¬ isx x (y 3)) : Ct l G yX6_kind 2 [qr G 0, .int (x)] (h) (some (.int (-1000001))) (h) := by
  refine ctm_intro (maxL := 2) kw_X6_kind (by decide) (by decide) [some (qr G 0), some (.int (x))] rfl (Nat.le_of_ble_eq_true rfl) ?_
  intro X _ hcl hsl _ _ C E
  refine y_aload_n C D_X6_kind_0 rfl ?_
  refine y_iload_n C D_X6_kind_1 rfl ?_
  refine z_callV C D_X6_kind_2 lk_X6_150 (c_X6_isSleeper I (by omega)) I.o rfl rfl (Nat.le_of_ble_eq_true rfl) (Nat.le_of_ble_eq_true rfl) ⟨Nat.zero_le _, Nat.zero_le _⟩ ?_
  refine z_ifeqB C D_X6_kind_5 (fun c_5 => ?_) (fun c_5 => absurd c_5 hx)
  refine y_ldc C D_X6_kind_20 lk_X6_59 ?_
  exact y_iret C E D_X6_kind_22 (rfl) (rfl)
theorem c_X6_kind (I : CI G (h) (i) (A) (B) (fin) (n) (lf) (b) (y) (sz) (old) (w) (c) (f) (ln) (rz) (it) (im)) (h3 : y 3 ≤ 5) {s : Nat} (hs1 : s < y 3) : Ct l G yX6_kind 2 [qr G 0, .int (nI s)] (h) (some (.int (nI (y (6 + s))))) (h) := by
  refine ctm_intro (maxL := 2) kw_X6_kind (by decide) (by decide) [some (qr G 0), some (.int (nI s))] rfl (Nat.le_of_ble_eq_true rfl) ?_
  intro X _ hcl hsl _ _ C E
  refine y_aload_n C D_X6_kind_0 rfl ?_
  refine y_iload_n C D_X6_kind_1 rfl ?_
  refine z_callV C D_X6_kind_2 lk_X6_150 (c_X6_isSleeper I (by omega)) I.o rfl rfl (Nat.le_of_ble_eq_true rfl) (Nat.le_of_ble_eq_true rfl) ⟨Nat.zero_le _, Nat.zero_le _⟩ ?_
  refine y_top (bI_1 (isx_n (by omega) hs1)) ?_
  refine z_ifeq1 C D_X6_kind_5 ?_
  refine y_aload_n C D_X6_kind_8 rfl ?_
  refine y_get C D_X6_kind_9 fl_X6_25 I.o rfl ?_
  refine y_get C D_X6_kind_12 fl_X6_252 I.yd.o rfl ?_
  refine y_iload_n C D_X6_kind_15 rfl ?_
  refine z_ild C D_X6_kind_16 I.yd.k (by omega) (by decide) (tr_at (by omega)) ?_
  refine y_goto C D_X6_kind_17 ?_
  exact y_iret C E D_X6_kind_22 (rfl) (rfl)
theorem c_X6_pairB (I : CI G (h) (i) (A) (B) (fin) (n) (lf) (b) (y) (sz) (old) (w) (c) (f) (ln) (rz) (it) (im)) (h3 : y 3 ≤ 5) {x w1 : Int32} (hx : ¬ isx x (y 3) ∨ ¬ isx w1 (y 3) ∨ x = w1) : Ct l G yX6_pair 3 [qr G 0, .int (x), .int (w1)] (h) (some (.int (-1000001))) (h) := by
  refine ctm_intro (maxL := 3) kw_X6_pair (by decide) (by decide) [some (qr G 0), some (.int (x)), some (.int (w1))] rfl (Nat.le_of_ble_eq_true rfl) ?_
  intro X _ hcl hsl _ _ C E
  refine y_aload_n C D_X6_pair_0 rfl ?_
  refine y_iload_n C D_X6_pair_1 rfl ?_
  refine z_callV C D_X6_pair_2 lk_X6_150 (c_X6_isSleeper I (by omega)) I.o rfl rfl (Nat.le_of_ble_eq_true rfl) (Nat.le_of_ble_eq_true rfl) ⟨Nat.zero_le _, Nat.zero_le _⟩ ?_
  refine z_ifeqB C D_X6_pair_5 (fun c_5 => ?_) (fun c_5 => ?_)
  · refine y_ldc C D_X6_pair_21 lk_X6_59 ?_
    exact y_iret C E D_X6_pair_23 (rfl) (rfl)
  · refine y_aload_n C D_X6_pair_8 rfl ?_
    refine y_iload_n C D_X6_pair_9 rfl ?_
    refine z_callV C D_X6_pair_10 lk_X6_150 (c_X6_isSleeper I (by omega)) I.o rfl rfl (Nat.le_of_ble_eq_true rfl) (Nat.le_of_ble_eq_true rfl) ⟨Nat.zero_le _, Nat.zero_le _⟩ ?_
    refine z_ifeqB C D_X6_pair_13 (fun c_13 => ?_) (fun c_13 => ?_)
    · refine y_ldc C D_X6_pair_21 lk_X6_59 ?_
      exact y_iret C E D_X6_pair_23 (rfl) (rfl)
    · refine y_iload_n C D_X6_pair_16 rfl ?_
      refine y_iload_n C D_X6_pair_17 rfl ?_
      refine y_icmp_ne C D_X6_pair_18 Iff.rfl (fun c_18 => hx.elim (fun z => absurd c_5 z) (fun z => z.elim (fun z => absurd c_13 z) (fun z => absurd z c_18))) (fun c_18 => ?_)
      refine y_ldc C D_X6_pair_21 lk_X6_59 ?_
      exact y_iret C E D_X6_pair_23 (rfl) (rfl)
theorem c_X6_pair (I : CI G (h) (i) (A) (B) (fin) (n) (lf) (b) (y) (sz) (old) (w) (c) (f) (ln) (rz) (it) (im)) (hV : Va y) (h4 : y 4 ≤ 999) {s g : Nat} (hs1 : s < y 3) (hg1 : g < y 3) (hne : s ≠ g) : Ct l G yX6_pair 3 [qr G 0, .int (nI s), .int (nI g)] (h) (some (.int (nI (dr y s &&& dr y g)))) (h) := by
  refine ctm_intro (maxL := 3) kw_X6_pair (by decide) (by decide) [some (qr G 0), some (.int (nI s)), some (.int (nI g))] rfl (Nat.le_of_ble_eq_true rfl) ?_
  intro X _ hcl hsl _ _ C E
  have hV0 := hV.1
  have hV3 := hV.2.2.2.1
  have hV5 := hV.k64
  refine y_aload_n C D_X6_pair_0 rfl ?_
  refine y_iload_n C D_X6_pair_1 rfl ?_
  refine z_callV C D_X6_pair_2 lk_X6_150 (c_X6_isSleeper I (by omega)) I.o rfl rfl (Nat.le_of_ble_eq_true rfl) (Nat.le_of_ble_eq_true rfl) ⟨Nat.zero_le _, Nat.zero_le _⟩ ?_
  refine y_top (bI_1 (isx_n (by omega) hs1)) ?_
  refine z_ifeq1 C D_X6_pair_5 ?_
  refine y_aload_n C D_X6_pair_8 rfl ?_
  refine y_iload_n C D_X6_pair_9 rfl ?_
  refine z_callV C D_X6_pair_10 lk_X6_150 (c_X6_isSleeper I (by omega)) I.o rfl rfl (Nat.le_of_ble_eq_true rfl) (Nat.le_of_ble_eq_true rfl) ⟨Nat.zero_le _, Nat.zero_le _⟩ ?_
  refine y_top (bI_1 (isx_n (by omega) hg1)) ?_
  refine z_ifeq1 C D_X6_pair_13 ?_
  refine y_iload_n C D_X6_pair_16 rfl ?_
  refine y_iload_n C D_X6_pair_17 rfl ?_
  refine y_icmp_ne C D_X6_pair_18 (n_eq (by omega) (by omega)) (fun c_18 => ?_) (fun c_18 => absurd c_18 hne)
  refine y_aload_n C D_X6_pair_24 rfl ?_
  refine y_get C D_X6_pair_25 fl_X6_25 I.o rfl ?_
  refine y_iload_n C D_X6_pair_28 rfl ?_
  refine z_callV C D_X6_pair_29 lk_X6_170 (c_X5_dreamsOfY I.yd (by omega) hV (by omega)) I.yd.o rfl rfl (Nat.le_of_ble_eq_true rfl) (Nat.le_of_ble_eq_true rfl) ⟨Nat.zero_le _, Nat.zero_le _⟩ ?_
  refine y_aload_n C D_X6_pair_32 rfl ?_
  refine y_get C D_X6_pair_33 fl_X6_25 I.o rfl ?_
  refine y_iload_n C D_X6_pair_36 rfl ?_
  refine z_callV C D_X6_pair_37 lk_X6_170 (c_X5_dreamsOfY I.yd (by omega) hV (by omega)) I.yd.o rfl rfl (Nat.le_of_ble_eq_true rfl) (Nat.le_of_ble_eq_true rfl) ⟨Nat.zero_le _, Nat.zero_le _⟩ ?_
  refine z_iand C D_X6_pair_40 ?_
  exact y_iret C E D_X6_pair_41 (by rw [if_pos hs1, if_pos hg1]) (rfl)
theorem c_X6_graveS (I : CI G (h) (i) (A) (B) (fin) (n) (lf) (b) (y) (sz) (old) (w) (c) (f) (ln) (rz) (it) (im)) {x w1 : Int32} (hz0 : y 0 = 0) : Ct l G yX6_grave 4 [qr G 0, .int (x), .int (w1)] (h) (some (.int (-1000002))) (h) := by
  refine ctm_intro (maxL := 3) kw_X6_grave (by decide) (by decide) [some (qr G 0), some (.int (x)), some (.int (w1))] rfl (Nat.le_of_ble_eq_true rfl) ?_
  intro X _ hcl hsl _ _ C E
  refine y_aload_n C D_X6_grave_0 rfl ?_
  refine z_callV C D_X6_grave_1 lk_X6_135 (c_X6_noYard I (by omega)) I.o rfl rfl (Nat.le_of_ble_eq_true rfl) (Nat.le_of_ble_eq_true rfl) ⟨Nat.zero_le _, Nat.zero_le _⟩ ?_
  refine y_top (bI_1 hz0) ?_
  refine z_ifeq1 C D_X6_grave_4 ?_
  refine y_ldc C D_X6_grave_7 lk_X6_134 ?_
  exact y_iret C E D_X6_grave_9 (rfl) (rfl)
theorem c_X6_graveB (I : CI G (h) (i) (A) (B) (fin) (n) (lf) (b) (y) (sz) (old) (w) (c) (f) (ln) (rz) (it) (im)) (h01 : 1 ≤ y 0) (h0 : y 0 ≤ 6) {x w1 : Int32} (hx : ¬ isx x (y 0)) : Ct l G yX6_grave 4 [qr G 0, .int (x), .int (w1)] (h) (some (.int (-1000001))) (h) := by
  refine ctm_intro (maxL := 3) kw_X6_grave (by decide) (by decide) [some (qr G 0), some (.int (x)), some (.int (w1))] rfl (Nat.le_of_ble_eq_true rfl) ?_
  intro X _ hcl hsl _ _ C E
  refine y_aload_n C D_X6_grave_0 rfl ?_
  refine z_callV C D_X6_grave_1 lk_X6_135 (c_X6_noYard I (by omega)) I.o rfl rfl (Nat.le_of_ble_eq_true rfl) (Nat.le_of_ble_eq_true rfl) ⟨Nat.zero_le _, Nat.zero_le _⟩ ?_
  refine y_top (bI_0 (by omega)) ?_
  refine z_ifeq0 C D_X6_grave_4 ?_
  refine y_aload_n C D_X6_grave_10 rfl ?_
  refine y_iload_n C D_X6_grave_11 rfl ?_
  refine z_callV C D_X6_grave_12 lk_X6_173 (c_X6_isGrave I (by omega)) I.o rfl rfl (Nat.le_of_ble_eq_true rfl) (Nat.le_of_ble_eq_true rfl) ⟨Nat.zero_le _, Nat.zero_le _⟩ ?_
  refine z_ifneB C D_X6_grave_15 (fun c_15 => absurd c_15 hx) (fun c_15 => ?_)
  refine y_ldc C D_X6_grave_18 lk_X6_59 ?_
  exact y_iret C E D_X6_grave_20 (rfl) (rfl)
theorem c_X6_graveW (I : CI G (h) (i) (A) (B) (fin) (n) (lf) (b) (y) (sz) (old) (w) (c) (f) (ln) (rz) (it) (im)) (h01 : 1 ≤ y 0) (h0 : y 0 ≤ 6) {g : Nat} {w1 : Int32} (hg1 : g < y 0) (hw : ¬ isx w1 2) : Ct l G yX6_grave 4 [qr G 0, .int (nI g), .int (w1)] (h) (some (.int (-1000001))) (h) := by
  refine ctm_intro (maxL := 3) kw_X6_grave (by decide) (by decide) [some (qr G 0), some (.int (nI g)), some (.int (w1))] rfl (Nat.le_of_ble_eq_true rfl) ?_
  intro X _ hcl hsl _ _ C E
  refine y_aload_n C D_X6_grave_0 rfl ?_
  refine z_callV C D_X6_grave_1 lk_X6_135 (c_X6_noYard I (by omega)) I.o rfl rfl (Nat.le_of_ble_eq_true rfl) (Nat.le_of_ble_eq_true rfl) ⟨Nat.zero_le _, Nat.zero_le _⟩ ?_
  refine y_top (bI_0 (by omega)) ?_
  refine z_ifeq0 C D_X6_grave_4 ?_
  refine y_aload_n C D_X6_grave_10 rfl ?_
  refine y_iload_n C D_X6_grave_11 rfl ?_
  refine z_callV C D_X6_grave_12 lk_X6_173 (c_X6_isGrave I (by omega)) I.o rfl rfl (Nat.le_of_ble_eq_true rfl) (Nat.le_of_ble_eq_true rfl) ⟨Nat.zero_le _, Nat.zero_le _⟩ ?_
  refine y_top (bI_1 (isx_n (by omega) hg1)) ?_
  refine z_ifne1 C D_X6_grave_15 ?_
  refine y_iload_n C D_X6_grave_21 rfl ?_
  refine y_lookup (off := 55) (tgt := 77) C D_X6_grave_22 (by decide +kernel) (show Op.lookupswitch.offset [(0, 26), (1, 46)] 55 w1.toInt = 55 by
    have q := isx_out (by decide) hw
    rw [Op.lookupswitch.offset_cons, if_neg (by omega), Op.lookupswitch.offset_cons, if_neg (by omega)]
    rfl) (by decide) ?_
  refine y_ldc C D_X6_grave_77 lk_X6_59 ?_
  exact y_iret C E D_X6_grave_79 (rfl) (rfl)
theorem c_X6_grave0 (I : CI G (h) (i) (A) (B) (fin) (n) (lf) (b) (y) (sz) (old) (w) (c) (f) (ln) (rz) (it) (im)) (hV : Va y) (h4 : y 4 ≤ 999) {g : Nat} (hg1 : g < y 0) : Ct l G yX6_grave 4 [qr G 0, .int (nI g), .int (nI 0)] (h) (some (.int (nI (y 5 / 2 ^ g % 2)))) (h) := by
  refine ctm_intro (maxL := 3) kw_X6_grave (by decide) (by decide) [some (qr G 0), some (.int (nI g)), some (.int (nI 0))] rfl (Nat.le_of_ble_eq_true rfl) ?_
  intro X _ hcl hsl _ _ C E
  have hV0 := hV.1
  have hV3 := hV.2.2.2.1
  have hV5 := hV.k64
  refine y_aload_n C D_X6_grave_0 rfl ?_
  refine z_callV C D_X6_grave_1 lk_X6_135 (c_X6_noYard I (by omega)) I.o rfl rfl (Nat.le_of_ble_eq_true rfl) (Nat.le_of_ble_eq_true rfl) ⟨Nat.zero_le _, Nat.zero_le _⟩ ?_
  refine y_top (bI_0 (by omega)) ?_
  refine z_ifeq0 C D_X6_grave_4 ?_
  refine y_aload_n C D_X6_grave_10 rfl ?_
  refine y_iload_n C D_X6_grave_11 rfl ?_
  refine z_callV C D_X6_grave_12 lk_X6_173 (c_X6_isGrave I (by omega)) I.o rfl rfl (Nat.le_of_ble_eq_true rfl) (Nat.le_of_ble_eq_true rfl) ⟨Nat.zero_le _, Nat.zero_le _⟩ ?_
  refine y_top (bI_1 (isx_n (by omega) hg1)) ?_
  refine z_ifne1 C D_X6_grave_15 ?_
  refine y_iload_n C D_X6_grave_21 rfl ?_
  refine y_lookup (off := 26) (tgt := 48) C D_X6_grave_22 (by decide +kernel) (by decide +kernel) (by decide) ?_
  refine y_aload_n C D_X6_grave_48 rfl ?_
  refine y_get C D_X6_grave_49 fl_X6_25 I.o rfl ?_
  refine y_get C D_X6_grave_52 fl_X6_147 I.yd.o rfl ?_
  refine y_iload_n C D_X6_grave_55 rfl ?_
  refine z_callS C D_X6_grave_56 lk_X6_156 (c_X6_hasBit (by omega) (by omega)) rfl rfl (Nat.le_of_ble_eq_true rfl) (Nat.le_of_ble_eq_true rfl) ⟨Nat.zero_le _, Nat.zero_le _⟩ ?_
  refine z_ifeqB C D_X6_grave_59 (fun c_59 => ?_) (fun c_59 => ?_)
  · refine y_iconst C D_X6_grave_66 ki_0 ?_
    exact y_iret C E D_X6_grave_67 (by rw [show y 5 / 2 ^ g % 2 = 0 from by unfold hs at c_59; omega]) (rfl)
  · refine y_iconst C D_X6_grave_62 ki_1 ?_
    refine y_goto C D_X6_grave_63 ?_
    exact y_iret C E D_X6_grave_67 (by rw [show y 5 / 2 ^ g % 2 = 1 from c_59]) (rfl)
theorem c_X6_grave1 (I : CI G (h) (i) (A) (B) (fin) (n) (lf) (b) (y) (sz) (old) (w) (c) (f) (ln) (rz) (it) (im)) (hV : Va y) (h4 : y 4 ≤ 999) {g : Nat} (hg1 : g < y 0) : Ct l G yX6_grave 4 [qr G 0, .int (nI g), .int (nI 1)] (h) (some (.int (nI (dwn y g (y 3))))) (h) := by
  refine ctm_intro (maxL := 3) kw_X6_grave (by decide) (by decide) [some (qr G 0), some (.int (nI g)), some (.int (nI 1))] rfl (Nat.le_of_ble_eq_true rfl) ?_
  intro X _ hcl hsl _ _ C E
  have hV0 := hV.1
  have hV3 := hV.2.2.2.1
  have hV5 := hV.k64
  refine y_aload_n C D_X6_grave_0 rfl ?_
  refine z_callV C D_X6_grave_1 lk_X6_135 (c_X6_noYard I (by omega)) I.o rfl rfl (Nat.le_of_ble_eq_true rfl) (Nat.le_of_ble_eq_true rfl) ⟨Nat.zero_le _, Nat.zero_le _⟩ ?_
  refine y_top (bI_0 (by omega)) ?_
  refine z_ifeq0 C D_X6_grave_4 ?_
  refine y_aload_n C D_X6_grave_10 rfl ?_
  refine y_iload_n C D_X6_grave_11 rfl ?_
  refine z_callV C D_X6_grave_12 lk_X6_173 (c_X6_isGrave I (by omega)) I.o rfl rfl (Nat.le_of_ble_eq_true rfl) (Nat.le_of_ble_eq_true rfl) ⟨Nat.zero_le _, Nat.zero_le _⟩ ?_
  refine y_top (bI_1 (isx_n (by omega) hg1)) ?_
  refine z_ifne1 C D_X6_grave_15 ?_
  refine y_iload_n C D_X6_grave_21 rfl ?_
  refine y_lookup (off := 46) (tgt := 68) C D_X6_grave_22 (by decide +kernel) (by decide +kernel) (by decide) ?_
  refine y_aload_n C D_X6_grave_68 rfl ?_
  refine y_get C D_X6_grave_69 fl_X6_25 I.o rfl ?_
  refine y_iload_n C D_X6_grave_72 rfl ?_
  refine z_callV C D_X6_grave_73 lk_X6_186 (c_X5_dreamersOfY I.yd (by omega) hV (by omega)) I.yd.o rfl rfl (Nat.le_of_ble_eq_true rfl) (Nat.le_of_ble_eq_true rfl) ⟨Nat.zero_le _, Nat.zero_le _⟩ ?_
  exact y_iret C E D_X6_grave_76 (rfl) (rfl)
theorem c_X6_fault (I : CI G (h) (i) (A) (B) (fin) (n) (lf) (b) (y) (sz) (old) (w) (c) (f) (ln) (rz) (it) (im))  : Ct l G yX6_fault 0 [qr G 0] (h) (some (.int (nI lf))) (h) := by
  refine ctm_intro (maxL := 1) kw_X6_fault (by decide) (by decide) [some (qr G 0)] rfl (Nat.le_of_ble_eq_true rfl) ?_
  intro X _ hcl hsl _ _ C E
  obtain ⟨ts, te, tv, tx, tok, hTp⟩ := I.t
  refine y_aload_n C D_X6_fault_0 rfl ?_
  refine y_get C D_X6_fault_1 fl_X6_18 I.o rfl ?_
  refine y_get C D_X6_fault_4 fl_X6_126 hTp rfl ?_
  exact y_iret C E D_X6_fault_7 (rfl) (rfl)
theorem c_X6_status (I : CI G (h) (i) (A) (B) (fin) (n) (lf) (b) (y) (sz) (old) (w) (c) (f) (ln) (rz) (it) (im))  : Ct l G yX6_status 0 [qr G 0] (h) (some (.int (nI fin))) (h) := by
  refine ctm_intro (maxL := 1) kw_X6_status (by decide) (by decide) [some (qr G 0)] rfl (Nat.le_of_ble_eq_true rfl) ?_
  intro X _ hcl hsl _ _ C E
  refine y_aload_n C D_X6_status_0 rfl ?_
  refine y_get C D_X6_status_1 fl_X6_270 I.o rfl ?_
  exact y_iret C E D_X6_status_4 (rfl) (rfl)
theorem c_X6_traceN (I : CI G (h) (i) (A) (B) (fin) (n) (lf) (b) (y) (sz) (old) (w) (c) (f) (ln) (rz) (it) (im)) {x : Int32} (hc : c ≤ 16) (hx : ¬ isx x c) : Ct l G yX6_trace 0 [qr G 0, .int (x)] (h) (some (.int (-1000000))) (h) := by
  refine ctm_intro (maxL := 2) kw_X6_trace (by decide) (by decide) [some (qr G 0), some (.int (x))] rfl (Nat.le_of_ble_eq_true rfl) ?_
  intro X _ hcl hsl _ _ C E
  refine y_iload_n C D_X6_trace_0 rfl ?_
  refine y_if_lt C D_X6_trace_1 Iff.rfl (fun c_1 => ?_) (fun c_1 => ?_)
  · refine y_ldc C D_X6_trace_15 lk_X6_208 ?_
    refine y_goto C D_X6_trace_17 ?_
    exact y_iret C E D_X6_trace_29 (rfl) (rfl)
  · refine y_iload_n C D_X6_trace_4 rfl ?_
    refine y_aload_n C D_X6_trace_5 rfl ?_
    refine y_get C D_X6_trace_6 fl_X6_50 I.o rfl ?_
    refine y_get C D_X6_trace_9 fl_X6_261 I.a rfl ?_
    refine y_icmp_lt C D_X6_trace_12 Iff.rfl (fun c_12 => absurd ⟨Int32.not_lt.mp c_1, c_12⟩ hx) (fun c_12 => ?_)
    refine y_ldc C D_X6_trace_15 lk_X6_208 ?_
    refine y_goto C D_X6_trace_17 ?_
    exact y_iret C E D_X6_trace_29 (rfl) (rfl)
theorem c_X6_trace (I : CI G (h) (i) (A) (B) (fin) (n) (lf) (b) (y) (sz) (old) (w) (c) (f) (ln) (rz) (it) (im)) {q : Nat} (hc : c ≤ 16) (hq : q < c) : Ct l G yX6_trace 0 [qr G 0, .int (nI q)] (h) (some (.int (nI (f q)))) (h) := by
  refine ctm_intro (maxL := 2) kw_X6_trace (by decide) (by decide) [some (qr G 0), some (.int (nI q))] rfl (Nat.le_of_ble_eq_true rfl) ?_
  intro X _ hcl hsl _ _ C E
  refine y_iload_n C D_X6_trace_0 rfl ?_
  refine y_if_lt C D_X6_trace_1 (n_lt0 (by omega)) (fun q => q.elim) (fun _ => ?_)
  refine y_iload_n C D_X6_trace_4 rfl ?_
  refine y_aload_n C D_X6_trace_5 rfl ?_
  refine y_get C D_X6_trace_6 fl_X6_50 I.o rfl ?_
  refine y_get C D_X6_trace_9 fl_X6_261 I.a rfl ?_
  refine y_icmp_lt C D_X6_trace_12 (n_lt (by omega) (by omega)) (fun c_12 => ?_) (fun c_12 => absurd hq c_12)
  refine y_aload_n C D_X6_trace_20 rfl ?_
  refine y_get C D_X6_trace_21 fl_X6_50 I.o rfl ?_
  refine y_get C D_X6_trace_24 fl_X6_264 I.a rfl ?_
  refine y_iload_n C D_X6_trace_27 rfl ?_
  refine z_ild C D_X6_trace_28 I.al (by omega) (by decide) (tr_at (by omega)) ?_
  exact y_iret C E D_X6_trace_29 (rfl) (rfl)
end
