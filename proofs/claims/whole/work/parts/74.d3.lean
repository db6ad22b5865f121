theorem hld_plc {x : Int32} {n z : Nat} (hn : n ≤ 40) (hz : z ≤ 40) : hld x (nI n) z ↔ plc x n z := by
  unfold hld plc isx
  rw [Int32.lt_iff_toInt_lt, nI_int (by omega), nI_int (by omega)]
  constructor
  · intro q
    have h0 : (0 : Int) ≤ x.toInt := by have := Int32.le_iff_toInt_le.mp q.1; exact this
    exact ⟨by omega, q.1, by omega⟩
  · intro q
    exact ⟨q.2.1, nI_pos' (by omega), by omega⟩
theorem plc_n {o n z : Nat} (hz : z ≤ 40) (h : o + n ≤ z) : plc (nI o) n z := ⟨by omega, isx_n (by omega) (by omega)⟩
theorem plc_of {x : Int32} {n z : Nat} (hz : z ≤ 40) (h : plc x n z) : ∃ o, x = nI o ∧ o + n ≤ z := by
  obtain ⟨o, h1, h2⟩ := isx_of (by omega) h.2
  exact ⟨o, h2, by have := h.1; omega⟩
theorem soB_c {it it2 : Nat → Int32} {o o2 z : Nat} (hc : ∀ k, k < z → it (o + k) = it2 (o2 + k)) {y : Nat → Nat} : ∀ {n : Nat}, n ≤ z → soB it o y n = soB it2 o2 y n
  | 0, _ => rfl
  | n + 1, h => by
    unfold soB
    rw [soB_c hc (by omega : n ≤ z), hc n (by omega)]
theorem whoN_c {it it2 : Nat → Int32} {o o2 z : Nat} (hc : ∀ k, k < z → it (o + k) = it2 (o2 + k)) {y : Nat → Nat} {s n : Nat} (hn : n ≤ z) : ∀ k, whoN it o y s n k = whoN it2 o2 y s n k
  | 0 => rfl
  | k + 1 => by
    unfold whoN
    rw [whoN_c hc hn k, soB_c hc hn]
theorem whiN_c {it it2 : Nat → Int32} {o o2 z : Nat} (hc : ∀ k, k < z → it (o + k) = it2 (o2 + k)) {y : Nat → Nat} {s n : Nat} (hn : n ≤ z) : ∀ k, whiN it o y s n k = whiN it2 o2 y s n k
  | 0 => rfl
  | k + 1 => by
    unfold whiN
    rw [whiN_c hc hn k, soB_c hc hn]
/-- how many rows are there, by their lanes -/
def rlN (f : Nat → Int32) : Nat → Nat
  | 0 => 0
  | r + 1 => if f r = -1 then rlN f r else rlN f r + 1
theorem rlN_le (f : Nat → Int32) : ∀ n, rlN f n ≤ n
  | 0 => Nat.le_refl _
  | n + 1 => by
    have := rlN_le f n
    unfold rlN
    split <;> omega
theorem hs_mask : ∀ gs, gs < 7 → ∀ g, g < 6 → (hs (2 ^ gs - 1) g ↔ g < gs) := by decide +kernel
theorem mk64 : ∀ gs, gs < 7 → 2 ^ gs - 1 < 64 ∧ 1 ≤ 2 ^ gs ∧ 2 ^ gs ≤ 64 := by decide +kernel
def bq (y : Nat → Nat) (s g : Nat) : Nat := mx y s (min g (y 0) - 1)
theorem bq_s {y : Nat → Nat} {s g : Nat} (h1 : 1 ≤ g) (hg : g < y 0) : bq y s (g + 1) = if me y s (bq y s g) < me y s g then g else bq y s g := by
  unfold bq
  rw [Nat.min_eq_left (by omega), Nat.min_eq_left (by omega), Nat.add_sub_cancel]
  obtain ⟨k, rfl⟩ : ∃ k, g = k + 1 := ⟨g - 1, by omega⟩
  rw [Nat.add_sub_cancel]
  rfl
theorem bq_e {y : Nat → Nat} {s g : Nat} (hg : y 0 ≤ g) : bq y s (g + 1) = bq y s g := by
  unfold bq
  rw [Nat.min_eq_right (by omega), Nat.min_eq_right (by omega)]
theorem bq_lt {y : Nat → Nat} {s g : Nat} (h1 : 1 ≤ g) (h6 : g ≤ 6) : bq y s g < 6 := by
  have := mx_le (y := y) (p := s) (min g (y 0) - 1)
  unfold bq
  omega
section
variable {l : Launch} {G : qG} {h : List va_E} {a : Nat} {y : Nat → Nat}
theorem lp_X5_clearest0 {X : qX} {s : Nat} (ha : a + 2 < h.length) (h1 : s < 5) (h01 : 1 ≤ y 0) (h06 : y 0 ≤ 6) (hB : ∀ k, y k < 2000) (C : qC X G cX5_clearest 8 RX5 1) (E : qE X G (some .int) 0 0 (some (.int (nI (mx y s (y 0 - 1))))) (yc G h a y)) : ∀ (m g : Nat), g + m = 6 → 1 ≤ g → Y X G 8 0 0 23 [some (qr G a), some (.int (nI (s))), some (.int (nI (2 ^ y 0 - 1))), some (.int (nI (0))), some (.int (nI (bq y s g))), some (.int (nI (me y s (bq y s g)))), some (.int (nI (g))), none] [] (yc G h a y) := by
  have hm := mk64 (y 0) (by omega)
  intro m
  induction m with
  | zero =>
    intro g hg hg1
    obtain rfl : g = 6 := by omega
    refine y_iload C D_X5_clearest_23 rfl ?_
    refine y_bipush C D_X5_clearest_25 kb_6 ?_
    refine y_icmp_ge C D_X5_clearest_27 (n_le (by omega) (by omega)) (fun c_27 => ?_) (fun c_27 => absurd (Nat.le_refl _) c_27)
    refine y_iload C D_X5_clearest_74 rfl ?_
    exact y_iret C E D_X5_clearest_76 (by rw [bq, Nat.min_eq_right (by omega)]) (rfl)
  | succ m ih =>
    intro g hg hg1
    have hbb : me y s g < 2000 := hB (21 + 6 * s + g)
    have hbq : me y s (bq y s g) < 2000 := hB _
    have hh := hs_mask (y 0) (by omega) g (by omega)
    have z := ih (g + 1) (by omega) (by omega)
    refine y_iload C D_X5_clearest_23 rfl ?_
    refine y_bipush C D_X5_clearest_25 kb_6 ?_
    refine y_icmp_ge C D_X5_clearest_27 (n_le (by omega) (by omega)) (fun c_27 => absurd c_27 (by omega)) (fun c_27 => ?_)
    refine y_aload_n C D_X5_clearest_30 rfl ?_
    refine y_get C D_X5_clearest_31 fl_X5_15 (yc_o ha) rfl ?_
    refine y_iload_n C D_X5_clearest_34 rfl ?_
    refine y_bipush C D_X5_clearest_35 kb_6 ?_
    refine z_imul C D_X5_clearest_37 ?_
    refine y_iload C D_X5_clearest_38 rfl ?_
    refine z_iadd C D_X5_clearest_40 ?_
    refine z_ild C D_X5_clearest_41 (yc_m ha) (by omega) (by decide) (tr_at (by omega)) ?_
    rw [show y (21 + (s * 6 + g)) = me y s g from by rw [show 21 + (s * 6 + g) = 21 + 6 * s + g by omega]]
    refine y_istore C D_X5_clearest_42 (by decide) (qok_s rfl rfl) ?_
    refine y_iload C D_X5_clearest_44 rfl ?_
    refine y_iload C D_X5_clearest_46 rfl ?_
    refine y_icmp_le C D_X5_clearest_48 (n_le (by omega) (by omega)) (fun c_48 => ?_) (fun c_48 => ?_)
    · refine z_iinc (n := 1) C D_X5_clearest_68 rfl (by decide) (qok_s rfl rfl) ?_
      refine y_goto C D_X5_clearest_71 ?_
      refine y_fg 7 ?_
      have e : bq y s (g + 1) = bq y s g := by 
        by_cases c : g < y 0
        · rw [bq_s hg1 c, if_neg (by omega)]
        · exact bq_e (by omega)
      rw [e] at z
      exact z
    · refine y_iload_n C D_X5_clearest_51 rfl ?_
      refine y_iload C D_X5_clearest_52 rfl ?_
      refine z_callSN C D_X5_clearest_54 lk_X5_68 (c_X6_hasBit (by omega) (by omega)) rfl rfl (Nat.le_of_ble_eq_true rfl) (Nat.le_of_ble_eq_true rfl) ⟨Nat.zero_le _, Nat.zero_le _⟩ ?_
      refine z_ifeqB C D_X5_clearest_57 (fun c_57 => ?_) (fun c_57 => ?_)
      · refine z_iinc (n := 1) C D_X5_clearest_68 rfl (by decide) (qok_s rfl rfl) ?_
        refine y_goto C D_X5_clearest_71 ?_
        refine y_fg 7 ?_
        have e : bq y s (g + 1) = bq y s g := by 
          exact bq_e (by have := mt hh.mpr c_57; omega)
        rw [e] at z
        exact z
      · refine y_iload C D_X5_clearest_60 rfl ?_
        refine y_istore C D_X5_clearest_62 (by decide) (qok_s rfl rfl) ?_
        refine y_iload C D_X5_clearest_64 rfl ?_
        refine y_istore C D_X5_clearest_66 (by decide) (qok_s rfl rfl) ?_
        refine z_iinc (n := 1) C D_X5_clearest_68 rfl (by decide) (qok_s rfl rfl) ?_
        refine y_goto C D_X5_clearest_71 ?_
        refine y_fg 7 ?_
        have e : bq y s (g + 1) = g := by 
          rw [bq_s hg1 (hh.mp c_57), if_pos (by omega)]
        rw [e] at z
        exact z
theorem c_X5_clearest0 (ha : a + 2 < h.length) {s : Nat} (h1 : s < 5) (h01 : 1 ≤ y 0) (h06 : y 0 ≤ 6) (hB : ∀ k, y k < 2000) : Ct l G yX5_clearest 1 [qr G a, .int (nI s), .int (nI (2 ^ y 0 - 1)), .int (nI 0)] (yc G h a y) (some (.int (nI (mx y s (y 0 - 1))))) (yc G h a y) := by
  refine ctm_intro (maxL := 8) kw_X5_clearest (by decide) (by decide) [some (qr G a), some (.int (nI s)), some (.int (nI (2 ^ y 0 - 1))), some (.int (nI 0)), none, none, none, none] rfl (Nat.le_of_ble_eq_true rfl) ?_
  intro X _ hcl hsl _ _ C E
  have hm := mk64 (y 0) (by omega)
  have hb0 : me y s 0 < 2000 := hB _
  refine y_ldc C D_X5_clearest_0 lk_X5_67 ?_
  refine y_istore C D_X5_clearest_2 (by decide) (qok_s rfl rfl) ?_
  refine y_iload_n C D_X5_clearest_4 rfl ?_
  refine y_iconst C D_X5_clearest_5 ki_0 ?_
  refine z_callS C D_X5_clearest_6 lk_X5_55 (c_X5_hasRoom (by omega) (by omega)) rfl rfl (Nat.le_of_ble_eq_true rfl) (Nat.le_of_ble_eq_true rfl) ⟨Nat.zero_le _, Nat.zero_le _⟩ ?_
  refine z_ifneB C D_X5_clearest_9 (fun c_9 => ?_) (fun c_9 => absurd ⟨h1, by decide⟩ c_9)
  refine y_iload_n C D_X5_clearest_15 rfl ?_
  refine y_iconst C D_X5_clearest_16 ki_1 ?_
  refine y_isub C D_X5_clearest_17 ?_
  refine y_top (show nI 0 - nI 1 = (-1 : Int32) from by decide) ?_
  refine y_istore C D_X5_clearest_18 (by decide) (qok_s rfl rfl) ?_
  refine y_iconst C D_X5_clearest_20 ki_0 ?_
  refine y_istore C D_X5_clearest_21 (by decide) (qok_s rfl rfl) ?_
  skip
  refine y_iload C D_X5_clearest_23 rfl ?_
  refine y_bipush C D_X5_clearest_25 kb_6 ?_
  refine y_icmp_ge C D_X5_clearest_27 (n_le (by omega) (by omega)) (fun c_27 => absurd c_27 (by decide)) (fun c_27 => ?_)
  refine y_aload_n C D_X5_clearest_30 rfl ?_
  refine y_get C D_X5_clearest_31 fl_X5_15 (yc_o ha) rfl ?_
  refine y_iload_n C D_X5_clearest_34 rfl ?_
  refine y_bipush C D_X5_clearest_35 kb_6 ?_
  refine z_imul C D_X5_clearest_37 ?_
  refine y_iload C D_X5_clearest_38 rfl ?_
  refine z_iadd C D_X5_clearest_40 ?_
  refine z_ild C D_X5_clearest_41 (yc_m ha) (by omega) (by decide) (tr_at (by omega)) ?_
  rw [show y (21 + (s * 6 + 0)) = me y s 0 from by rw [show 21 + (s * 6 + 0) = 21 + 6 * s + 0 by omega]]
  refine y_istore C D_X5_clearest_42 (by decide) (qok_s rfl rfl) ?_
  refine y_iload C D_X5_clearest_44 rfl ?_
  refine y_iload C D_X5_clearest_46 rfl ?_
  refine y_icmp_le C D_X5_clearest_48 (show nI (me y s 0) ≤ (-1 : Int32) ↔ False from by rw [Int32.le_iff_toInt_le, nI_int (by omega)]; exact iff_of_false (by show ¬ ((me y s 0 : Nat) : Int) ≤ -1; omega) id) (fun c_48 => c_48.elim) (fun c_48 => ?_)
  refine y_iload_n C D_X5_clearest_51 rfl ?_
  refine y_iload C D_X5_clearest_52 rfl ?_
  refine z_callSN C D_X5_clearest_54 lk_X5_68 (c_X6_hasBit (by omega) (by omega)) rfl rfl (Nat.le_of_ble_eq_true rfl) (Nat.le_of_ble_eq_true rfl) ⟨Nat.zero_le _, Nat.zero_le _⟩ ?_
  refine z_ifeqB C D_X5_clearest_57 (fun c_57 => absurd ((hs_mask (y 0) (by omega) 0 (by decide)).mpr (by omega)) c_57) (fun c_57 => ?_)
  refine y_iload C D_X5_clearest_60 rfl ?_
  refine y_istore C D_X5_clearest_62 (by decide) (qok_s rfl rfl) ?_
  refine y_iload C D_X5_clearest_64 rfl ?_
  refine y_istore C D_X5_clearest_66 (by decide) (qok_s rfl rfl) ?_
  refine z_iinc (n := 1) C D_X5_clearest_68 rfl (by decide) (qok_s rfl rfl) ?_
  refine y_goto C D_X5_clearest_71 ?_
  have z := lp_X5_clearest0 ha h1 h01 h06 hB C E 5 1 (by decide) (by decide)
  have e : bq y s 1 = 0 := by rw [bq, Nat.min_eq_left (by omega)]; rfl
  rw [e] at z
  refine y_fg 7 ?_
  exact z
end
section
variable {l : Launch} {G : qG} {h h1 : List va_E} {i : Nat → Nat} {A : Nat → Nat → Nat} {B : Nat → Nat → Int32} {fin : Nat} {n : Nat} {lf : Nat} {b : Nat → Nat} {y : Nat → Nat} {sz : Nat} {old : Nat} {w : Nat → Nat → Nat} {c : Nat} {f : Nat → Nat} {ln : Nat → Int32} {rz : Nat → Int32} {it : Nat → Nat → Int32} {im : Nat → Nat → Nat}
theorem c_X2_findingNY {ra : Nat} {x0 x1 : Int32} {g : Nat → Int32} (q : Rat G h ra x0 x1 g) (hl : x0 = -1) {x n : Int32} : Ct l G yX2_findingAt 1 [qr G ra, .int x, .int n] h (some (.int (nI 1))) h := by
  have w := c_X2_findingN (l := l) (G := G) (h := h) (sz := x1) (it := g) (x := x) (n := n) q.lt hl
  rw [q.eq] at w
  exact w
theorem c_X2_findingAtY {ra z : Nat} {x0 : Int32} {g : Nat → Int32} (q : Rat G h ra x0 (nI z) g) (hz : z ≤ 40) (hl : ¬ x0 = -1) {x n : Int32} : Ct l G yX2_findingAt 1 [qr G ra, .int x, .int n] h (some (.int (nI (if hld x n z then 0 else 2)))) h := by
  have w := c_X2_findingAt (l := l) (G := G) (h := h) (it := g) (x := x) (n := n) q.lt hz hl
  rw [q.eq] at w
  exact w
theorem c_X2_isMissingY {ra : Nat} {x0 x1 : Int32} {g : Nat → Int32} (q : Rat G h ra x0 x1 g) : Ct l G yX2_isMissing 0 [qr G ra] h (some (.int (bI (x0 = -1)))) h := by
  have w := c_X2_isMissing (l := l) (G := G) (h := h) (ln := x0) (sz := x1) (it := g) q.lt
  rw [q.eq] at w
  exact w
theorem c_X2_layY {ra : Nat} {x0 x1 : Int32} {g : Nat → Int32} (q : Rat G h ra x0 x1 g) {x n : Int32} : Ct l G yX2_lay 1 [qr G ra, .int x, .int n] h none (rc G h ra x n (fun _ => 0)) := by
  have w := c_X2_lay (l := l) (G := G) (h := h) (ln := x0) (sz := x1) (it := g) (x := x) (n := n) q.lt
  rw [q.eq] at w
  exact w
theorem c_X2_putY {ra la o : Nat} {x1 v : Int32} {g : Nat → Int32} (q : Rat G h ra (nI la) x1 g) (hl : la < 3) (ho : o < 40) : Ct l G yX2_put 0 [qr G ra, .int (nI o), .int v] h (some (.int (lnI la v))) (rc G h ra (nI la) x1 (upd g o (lnI la v))) := by
  have w := c_X2_put (l := l) (G := G) (h := h) (sz := x1) (it := g) (v := v) q.lt hl ho
  rw [q.eq] at w
  exact w
theorem c_X5_clearestY {a : Nat} {z : Nat → Nat} (q : Yat G h a z) {s : Nat} (h1 : s < 5) (h01 : 1 ≤ z 0) (h06 : z 0 ≤ 6) (hB : ∀ k, z k < 2000) : Ct l G yX5_clearest 1 [qr G a, .int (nI s), .int (nI (2 ^ z 0 - 1)), .int (nI 0)] h (some (.int (nI (mx z s (z 0 - 1))))) h := by
  have w := c_X5_clearest0 (l := l) (G := G) (h := h) (y := z) q.lt h1 h01 h06 hB
  rw [q.eq] at w
  exact w
theorem ac_eq (h1 : h[98]? = some (.inr (0, [.int (nI c), qr G 99]))) (h2 : h[99]? = some (qI G 16 (tr 16 (fun k => nI (f k))))) : ac G h c f = h := by
  unfold ac
  rw [set_same h1, set_same h2]
theorem c_X6_mostB (I : CI G (h) (i) (A) (B) (fin) (n) (lf) (b) (y) (sz) (old) (w) (c) (f) (ln) (rz) (it) (im)) (h3 : y 3 ≤ 5) {x w1 : Int32} (hx : ¬ isx x (y 3) ∨ ¬ isx w1 2) : Ct l G yX6_most 2 [qr G 0, .int (x), .int (w1)] (h) (some (.int (-1000001))) (h) := by
  refine ctm_intro (maxL := 4) kw_X6_most (by decide) (by decide) [some (qr G 0), some (.int (x)), some (.int (w1)), none] rfl (Nat.le_of_ble_eq_true rfl) ?_
  intro X _ hcl hsl _ _ C E
  refine y_aload_n C D_X6_most_0 rfl ?_
  refine y_iload_n C D_X6_most_1 rfl ?_
  refine z_callV C D_X6_most_2 lk_X6_150 (c_X6_isSleeper I (by omega)) I.o rfl rfl (Nat.le_of_ble_eq_true rfl) (Nat.le_of_ble_eq_true rfl) ⟨Nat.zero_le _, Nat.zero_le _⟩ ?_
  refine z_ifeqB C D_X6_most_5 (fun c_5 => ?_) (fun c_5 => ?_)
  · refine y_ldc C D_X6_most_17 lk_X6_59 ?_
    exact y_iret C E D_X6_most_19 (rfl) (rfl)
  · refine y_iload_n C D_X6_most_8 rfl ?_
    refine y_if_lt C D_X6_most_9 Iff.rfl (fun c_9 => ?_) (fun c_9 => ?_)
    · refine y_ldc C D_X6_most_17 lk_X6_59 ?_
      exact y_iret C E D_X6_most_19 (rfl) (rfl)
    · refine y_iload_n C D_X6_most_12 rfl ?_
      refine y_iconst C D_X6_most_13 ki_1 ?_
      refine y_icmp_le C D_X6_most_14 Iff.rfl (fun c_14 => hx.elim (fun z => absurd c_5 z) (fun z => absurd ⟨Int32.not_lt.mp c_9, (ileS (by decide)).mp c_14⟩ z)) (fun c_14 => ?_)
      refine y_ldc C D_X6_most_17 lk_X6_59 ?_
      exact y_iret C E D_X6_most_19 (rfl) (rfl)
theorem c_X6_most0 (I : CI G (h) (i) (A) (B) (fin) (n) (lf) (b) (y) (sz) (old) (w) (c) (f) (ln) (rz) (it) (im)) (hV : Va y) (h4 : y 4 ≤ 999) {s : Nat} (hs1 : s < y 3) : Ct l G yX6_most 2 [qr G 0, .int (nI s), .int (nI 0)] (h) (some (.int (nI (mx y s (y 0 - 1))))) (h) := by
  refine ctm_intro (maxL := 4) kw_X6_most (by decide) (by decide) [some (qr G 0), some (.int (nI s)), some (.int (nI 0)), none] rfl (Nat.le_of_ble_eq_true rfl) ?_
  intro X _ hcl hsl _ _ C E
  have hV0 := hV.1
  have hV3 := hV.2.2.2.1
  have hV5 := hV.k64
  have hm := mk64 (y 0) (by omega)
  have hmx := mx_le (y := y) (p := s) (y 0 - 1)
  refine y_aload_n C D_X6_most_0 rfl ?_
  refine y_iload_n C D_X6_most_1 rfl ?_
  refine z_callV C D_X6_most_2 lk_X6_150 (c_X6_isSleeper I (by omega)) I.o rfl rfl (Nat.le_of_ble_eq_true rfl) (Nat.le_of_ble_eq_true rfl) ⟨Nat.zero_le _, Nat.zero_le _⟩ ?_
  refine y_top (bI_1 (isx_n (by omega) hs1)) ?_
  refine z_ifeq1 C D_X6_most_5 ?_
  refine y_iload_n C D_X6_most_8 rfl ?_
  refine y_if_lt C D_X6_most_9 (n_lt0 (by omega)) (fun q => q.elim) (fun _ => ?_)
  refine y_iload_n C D_X6_most_12 rfl ?_
  refine y_iconst C D_X6_most_13 ki_1 ?_
  refine y_icmp_le C D_X6_most_14 (n_le (by omega) (by omega)) (fun c_14 => ?_) (fun c_14 => absurd (by decide) c_14)
  refine y_aload_n C D_X6_most_20 rfl ?_
  refine y_get C D_X6_most_21 fl_X6_25 I.o rfl ?_
  refine y_iload_n C D_X6_most_24 rfl ?_
  refine y_aload_n C D_X6_most_25 rfl ?_
  refine y_get C D_X6_most_26 fl_X6_25 I.o rfl ?_
  refine y_get C D_X6_most_29 fl_X6_201 I.yd.o rfl ?_
  refine z_callS C D_X6_most_32 lk_X6_159 (c_X6_bit (by omega)) rfl rfl (Nat.le_of_ble_eq_true rfl) (Nat.le_of_ble_eq_true rfl) ⟨Nat.zero_le _, Nat.zero_le _⟩ ?_
  refine y_iconst C D_X6_most_35 ki_1 ?_
  refine z_isub C D_X6_most_36 (by omega) ?_
  refine y_iconst C D_X6_most_37 ki_0 ?_
  refine z_callV C D_X6_most_38 lk_X6_219 (c_X5_clearestY I.yd (by omega) (by omega) (by omega) (hV.lt (by omega))) I.yd.o rfl rfl (Nat.le_of_ble_eq_true rfl) (Nat.le_of_ble_eq_true rfl) ⟨Nat.zero_le _, Nat.zero_le _⟩ ?_
  refine y_istore_n C D_X6_most_41 (by decide) (qok_s rfl rfl) ?_
  refine y_iload_n C D_X6_most_42 rfl ?_
  refine z_ifne0 C D_X6_most_43 ?_
  refine y_iload_n C D_X6_most_46 rfl ?_
  refine y_goto C D_X6_most_47 ?_
  exact y_iret C E D_X6_most_59 (rfl) (rfl)
theorem c_X6_most1 (I : CI G (h) (i) (A) (B) (fin) (n) (lf) (b) (y) (sz) (old) (w) (c) (f) (ln) (rz) (it) (im)) (hV : Va y) (h4 : y 4 ≤ 999) {s : Nat} (hs1 : s < y 3) : Ct l G yX6_most 2 [qr G 0, .int (nI s), .int (nI 1)] (h) (some (.int (nI (me y s (mx y s (y 0 - 1)))))) (h) := by
  refine ctm_intro (maxL := 4) kw_X6_most (by decide) (by decide) [some (qr G 0), some (.int (nI s)), some (.int (nI 1)), none] rfl (Nat.le_of_ble_eq_true rfl) ?_
  intro X _ hcl hsl _ _ C E
  have hV0 := hV.1
  have hV3 := hV.2.2.2.1
  have hV5 := hV.k64
  have hm := mk64 (y 0) (by omega)
  have hmx := mx_le (y := y) (p := s) (y 0 - 1)
  refine y_aload_n C D_X6_most_0 rfl ?_
  refine y_iload_n C D_X6_most_1 rfl ?_
  refine z_callV C D_X6_most_2 lk_X6_150 (c_X6_isSleeper I (by omega)) I.o rfl rfl (Nat.le_of_ble_eq_true rfl) (Nat.le_of_ble_eq_true rfl) ⟨Nat.zero_le _, Nat.zero_le _⟩ ?_
  refine y_top (bI_1 (isx_n (by omega) hs1)) ?_
  refine z_ifeq1 C D_X6_most_5 ?_
  refine y_iload_n C D_X6_most_8 rfl ?_
  refine y_if_lt C D_X6_most_9 (n_lt0 (by omega)) (fun q => q.elim) (fun _ => ?_)
  refine y_iload_n C D_X6_most_12 rfl ?_
  refine y_iconst C D_X6_most_13 ki_1 ?_
  refine y_icmp_le C D_X6_most_14 (n_le (by omega) (by omega)) (fun c_14 => ?_) (fun c_14 => absurd (by decide) c_14)
  refine y_aload_n C D_X6_most_20 rfl ?_
  refine y_get C D_X6_most_21 fl_X6_25 I.o rfl ?_
  refine y_iload_n C D_X6_most_24 rfl ?_
  refine y_aload_n C D_X6_most_25 rfl ?_
  refine y_get C D_X6_most_26 fl_X6_25 I.o rfl ?_
  refine y_get C D_X6_most_29 fl_X6_201 I.yd.o rfl ?_
  refine z_callS C D_X6_most_32 lk_X6_159 (c_X6_bit (by omega)) rfl rfl (Nat.le_of_ble_eq_true rfl) (Nat.le_of_ble_eq_true rfl) ⟨Nat.zero_le _, Nat.zero_le _⟩ ?_
  refine y_iconst C D_X6_most_35 ki_1 ?_
  refine z_isub C D_X6_most_36 (by omega) ?_
  refine y_iconst C D_X6_most_37 ki_0 ?_
  refine z_callV C D_X6_most_38 lk_X6_219 (c_X5_clearestY I.yd (by omega) (by omega) (by omega) (hV.lt (by omega))) I.yd.o rfl rfl (Nat.le_of_ble_eq_true rfl) (Nat.le_of_ble_eq_true rfl) ⟨Nat.zero_le _, Nat.zero_le _⟩ ?_
  refine y_istore_n C D_X6_most_41 (by decide) (qok_s rfl rfl) ?_
  refine y_iload_n C D_X6_most_42 rfl ?_
  refine z_ifne1 C D_X6_most_43 ?_
  refine y_aload_n C D_X6_most_50 rfl ?_
  refine y_get C D_X6_most_51 fl_X6_25 I.o rfl ?_
  refine y_iload_n C D_X6_most_54 rfl ?_
  refine y_iload_n C D_X6_most_55 rfl ?_
  refine z_callV C D_X6_most_56 lk_X6_176 (c_X5_memoryOfY I.yd (by omega) (by omega)) I.yd.o rfl rfl (Nat.le_of_ble_eq_true rfl) (Nat.le_of_ble_eq_true rfl) ⟨Nat.zero_le _, Nat.zero_le _⟩ ?_
  exact y_iret C E D_X6_most_59 (rfl) (rfl)
theorem c_X6_forgetsB (I : CI G (h) (i) (A) (B) (fin) (n) (lf) (b) (y) (sz) (old) (w) (c) (f) (ln) (rz) (it) (im)) (h3 : y 3 ≤ 5) (h0 : y 0 ≤ 6) {x w1 : Int32} (hx : ¬ isx x (y 3) ∨ ¬ isx w1 (y 0)) : Ct l G yX6_forgets 3 [qr G 0, .int (x), .int (w1)] (h) (some (.int (-1000001))) (h) := by
  refine ctm_intro (maxL := 3) kw_X6_forgets (by decide) (by decide) [some (qr G 0), some (.int (x)), some (.int (w1))] rfl (Nat.le_of_ble_eq_true rfl) ?_
  intro X _ hcl hsl _ _ C E
  refine y_aload_n C D_X6_forgets_0 rfl ?_
  refine y_iload_n C D_X6_forgets_1 rfl ?_
  refine z_callV C D_X6_forgets_2 lk_X6_150 (c_X6_isSleeper I (by omega)) I.o rfl rfl (Nat.le_of_ble_eq_true rfl) (Nat.le_of_ble_eq_true rfl) ⟨Nat.zero_le _, Nat.zero_le _⟩ ?_
  refine z_ifeqB C D_X6_forgets_5 (fun c_5 => ?_) (fun c_5 => ?_)
  · refine y_ldc C D_X6_forgets_32 lk_X6_59 ?_
    exact y_iret C E D_X6_forgets_34 (rfl) (rfl)
  · refine y_aload_n C D_X6_forgets_8 rfl ?_
    refine y_iload_n C D_X6_forgets_9 rfl ?_
    refine z_callV C D_X6_forgets_10 lk_X6_173 (c_X6_isGrave I (by omega)) I.o rfl rfl (Nat.le_of_ble_eq_true rfl) (Nat.le_of_ble_eq_true rfl) ⟨Nat.zero_le _, Nat.zero_le _⟩ ?_
    refine z_ifeqB C D_X6_forgets_13 (fun c_13 => ?_) (fun c_13 => hx.elim (fun z => absurd c_5 z) (fun z => absurd c_13 z))
    refine y_ldc C D_X6_forgets_32 lk_X6_59 ?_
    exact y_iret C E D_X6_forgets_34 (rfl) (rfl)
theorem c_X6_forgets (I : CI G (h) (i) (A) (B) (fin) (n) (lf) (b) (y) (sz) (old) (w) (c) (f) (ln) (rz) (it) (im)) (hV : Va y) (h4 : y 4 ≤ 999) {s g : Nat} (hs1 : s < y 3) (hg1 : g < y 0) : Ct l G yX6_forgets 3 [qr G 0, .int (nI s), .int (nI g)] (h) (some (.int (fgt y (me y s g) 40 0))) (h) := by
  refine ctm_intro (maxL := 3) kw_X6_forgets (by decide) (by decide) [some (qr G 0), some (.int (nI s)), some (.int (nI g))] rfl (Nat.le_of_ble_eq_true rfl) ?_
  intro X _ hcl hsl _ _ C E
  have hV0 := hV.1
  have hV3 := hV.2.2.2.1
  have hV5 := hV.k64
  obtain ⟨fw, hS⟩ := I.s
  obtain ⟨z0, hs0⟩ := I.s0
  have hL := I.L
  refine y_aload_n C D_X6_forgets_0 rfl ?_
  refine y_iload_n C D_X6_forgets_1 rfl ?_
  refine z_callV C D_X6_forgets_2 lk_X6_150 (c_X6_isSleeper I (by omega)) I.o rfl rfl (Nat.le_of_ble_eq_true rfl) (Nat.le_of_ble_eq_true rfl) ⟨Nat.zero_le _, Nat.zero_le _⟩ ?_
  refine y_top (bI_1 (isx_n (by omega) hs1)) ?_
  refine z_ifeq1 C D_X6_forgets_5 ?_
  refine y_aload_n C D_X6_forgets_8 rfl ?_
  refine y_iload_n C D_X6_forgets_9 rfl ?_
  refine z_callV C D_X6_forgets_10 lk_X6_173 (c_X6_isGrave I (by omega)) I.o rfl rfl (Nat.le_of_ble_eq_true rfl) (Nat.le_of_ble_eq_true rfl) ⟨Nat.zero_le _, Nat.zero_le _⟩ ?_
  refine y_top (bI_1 (isx_n (by omega) hg1)) ?_
  refine z_ifeq1 C D_X6_forgets_13 ?_
  refine y_aload_n C D_X6_forgets_16 rfl ?_
  refine y_get C D_X6_forgets_17 fl_X6_43 I.o rfl ?_
  refine y_aload_n C D_X6_forgets_20 rfl ?_
  refine y_get C D_X6_forgets_21 fl_X6_25 I.o rfl ?_
  refine y_iload_n C D_X6_forgets_24 rfl ?_
  refine y_iload_n C D_X6_forgets_25 rfl ?_
  refine z_callV C D_X6_forgets_26 lk_X6_215 (c_X3_yearsTillForgotten I.yd hV h4 (by omega) (by omega)) hS rfl rfl (Nat.le_of_ble_eq_true rfl) (Nat.le_of_ble_eq_true rfl) ⟨Nat.zero_le _, Nat.zero_le _⟩ ?_
  refine y_goto C D_X6_forgets_29 ?_
  exact y_iret C E D_X6_forgets_34 (rfl) (rfl)
theorem c_X6_aheadS (I : CI G (h) (i) (A) (B) (fin) (n) (lf) (b) (y) (sz) (old) (w) (c) (f) (ln) (rz) (it) (im)) {x1 : Int32} (hz0 : y 0 = 0) : Ct l G yX6_ahead 2 [qr G 0, .int (x1)] (h) (some (.int (-1000002))) (h) := by
  refine ctm_intro (maxL := 2) kw_X6_ahead (by decide) (by decide) [some (qr G 0), some (.int (x1))] rfl (Nat.le_of_ble_eq_true rfl) ?_
  intro X _ hcl hsl _ _ C E
  refine y_aload_n C D_X6_ahead_0 rfl ?_
  refine z_callV C D_X6_ahead_1 lk_X6_135 (c_X6_noYard I (by omega)) I.o rfl rfl (Nat.le_of_ble_eq_true rfl) (Nat.le_of_ble_eq_true rfl) ⟨Nat.zero_le _, Nat.zero_le _⟩ ?_
  refine y_top (bI_1 hz0) ?_
  refine z_ifeq1 C D_X6_ahead_4 ?_
  refine y_ldc C D_X6_ahead_7 lk_X6_134 ?_
  exact y_iret C E D_X6_ahead_9 (rfl) (rfl)
theorem c_X6_dugS (I : CI G (h) (i) (A) (B) (fin) (n) (lf) (b) (y) (sz) (old) (w) (c) (f) (ln) (rz) (it) (im)) {x1 : Int32} (hz0 : y 0 = 0) : Ct l G yX6_dug 2 [qr G 0, .int (x1)] (h) (some (.int (-1000002))) (h) := by
  refine ctm_intro (maxL := 2) kw_X6_dug (by decide) (by decide) [some (qr G 0), some (.int (x1))] rfl (Nat.le_of_ble_eq_true rfl) ?_
  intro X _ hcl hsl _ _ C E
  refine y_aload_n C D_X6_dug_0 rfl ?_
  refine z_callV C D_X6_dug_1 lk_X6_135 (c_X6_noYard I (by omega)) I.o rfl rfl (Nat.le_of_ble_eq_true rfl) (Nat.le_of_ble_eq_true rfl) ⟨Nat.zero_le _, Nat.zero_le _⟩ ?_
  refine y_top (bI_1 hz0) ?_
  refine z_ifeq1 C D_X6_dug_4 ?_
  refine y_ldc C D_X6_dug_7 lk_X6_134 ?_
  exact y_iret C E D_X6_dug_9 (rfl) (rfl)
theorem c_X6_boundS (I : CI G (h) (i) (A) (B) (fin) (n) (lf) (b) (y) (sz) (old) (w) (c) (f) (ln) (rz) (it) (im)) {x1 : Int32} (hz0 : y 0 = 0) : Ct l G yX6_bound 2 [qr G 0, .int (x1)] (h) (some (.int (-1000002))) (h) := by
  refine ctm_intro (maxL := 2) kw_X6_bound (by decide) (by decide) [some (qr G 0), some (.int (x1))] rfl (Nat.le_of_ble_eq_true rfl) ?_
  intro X _ hcl hsl _ _ C E
  refine y_aload_n C D_X6_bound_0 rfl ?_
  refine z_callV C D_X6_bound_1 lk_X6_135 (c_X6_noYard I (by omega)) I.o rfl rfl (Nat.le_of_ble_eq_true rfl) (Nat.le_of_ble_eq_true rfl) ⟨Nat.zero_le _, Nat.zero_le _⟩ ?_
  refine y_top (bI_1 hz0) ?_
  refine z_ifeq1 C D_X6_bound_4 ?_
  refine y_ldc C D_X6_bound_7 lk_X6_134 ?_
  exact y_iret C E D_X6_bound_9 (rfl) (rfl)
theorem c_X6_firstDugS (I : CI G (h) (i) (A) (B) (fin) (n) (lf) (b) (y) (sz) (old) (w) (c) (f) (ln) (rz) (it) (im))  (hz0 : y 0 = 0) : Ct l G yX6_firstDug 2 [qr G 0] (h) (some (.int (-1000002))) (h) := by
  refine ctm_intro (maxL := 1) kw_X6_firstDug (by decide) (by decide) [some (qr G 0)] rfl (Nat.le_of_ble_eq_true rfl) ?_
  intro X _ hcl hsl _ _ C E
  refine y_aload_n C D_X6_firstDug_0 rfl ?_
  refine z_callV C D_X6_firstDug_1 lk_X6_135 (c_X6_noYard I (by omega)) I.o rfl rfl (Nat.le_of_ble_eq_true rfl) (Nat.le_of_ble_eq_true rfl) ⟨Nat.zero_le _, Nat.zero_le _⟩ ?_
  refine y_top (bI_1 hz0) ?_
  refine z_ifeq1 C D_X6_firstDug_4 ?_
  refine y_ldc C D_X6_firstDug_7 lk_X6_134 ?_
  refine y_goto C D_X6_firstDug_9 ?_
  exact y_iret C E D_X6_firstDug_23 (rfl) (rfl)
theorem c_X6_cheeseS (I : CI G (h) (i) (A) (B) (fin) (n) (lf) (b) (y) (sz) (old) (w) (c) (f) (ln) (rz) (it) (im)) {x1 : Int32} (hz0 : y 0 = 0) : Ct l G yX6_cheese 2 [qr G 0, .int (x1)] (h) (some (.int (-1000002))) (h) := by
  refine ctm_intro (maxL := 2) kw_X6_cheese (by decide) (by decide) [some (qr G 0), some (.int (x1))] rfl (Nat.le_of_ble_eq_true rfl) ?_
  intro X _ hcl hsl _ _ C E
  refine y_aload_n C D_X6_cheese_0 rfl ?_
  refine z_callV C D_X6_cheese_1 lk_X6_135 (c_X6_noYard I (by omega)) I.o rfl rfl (Nat.le_of_ble_eq_true rfl) (Nat.le_of_ble_eq_true rfl) ⟨Nat.zero_le _, Nat.zero_le _⟩ ?_
  refine y_top (bI_1 hz0) ?_
  refine z_ifeq1 C D_X6_cheese_4 ?_
  refine y_ldc C D_X6_cheese_7 lk_X6_134 ?_
  exact y_iret C E D_X6_cheese_9 (rfl) (rfl)
theorem c_X6_awakeS (I : CI G (h) (i) (A) (B) (fin) (n) (lf) (b) (y) (sz) (old) (w) (c) (f) (ln) (rz) (it) (im)) {x1 : Int32} {x2 : Int32} {x3 : Int32} (hz0 : y 0 = 0) : Ct l G yX6_awake 2 [qr G 0, .int (x1), .int (x2), .int (x3)] (h) (some (.long (-1000002))) (h) := by
  refine ctm_intro (maxL := 4) kw_X6_awake (by decide) (by decide) [some (qr G 0), some (.int (x1)), some (.int (x2)), some (.int (x3))] rfl (Nat.le_of_ble_eq_true rfl) ?_
  intro X _ hcl hsl _ _ C E
  refine y_aload_n C D_X6_awake_0 rfl ?_
  refine z_callV C D_X6_awake_1 lk_X6_135 (c_X6_noYard I (by omega)) I.o rfl rfl (Nat.le_of_ble_eq_true rfl) (Nat.le_of_ble_eq_true rfl) ⟨Nat.zero_le _, Nat.zero_le _⟩ ?_
  refine y_top (bI_1 hz0) ?_
  refine z_ifeq1 C D_X6_awake_4 ?_
  refine y_ldc2 C D_X6_awake_7 lk_X6_233 ?_
  exact y_lret C E D_X6_awake_10 (rfl) (rfl)
theorem c_X6_drawnS (I : CI G (h) (i) (A) (B) (fin) (n) (lf) (b) (y) (sz) (old) (w) (c) (f) (ln) (rz) (it) (im)) {x1 : Int32} {x2 : Int32} {x3 : Int32} (hz0 : y 0 = 0) : Ct l G yX6_drawn 2 [qr G 0, .int (x1), .int (x2), .int (x3)] (h) (some (.int (-1000002))) (h) := by
  refine ctm_intro (maxL := 5) kw_X6_drawn (by decide) (by decide) [some (qr G 0), some (.int (x1)), some (.int (x2)), some (.int (x3)), none] rfl (Nat.le_of_ble_eq_true rfl) ?_
  intro X _ hcl hsl _ _ C E
  refine y_aload_n C D_X6_drawn_0 rfl ?_
  refine z_callV C D_X6_drawn_1 lk_X6_135 (c_X6_noYard I (by omega)) I.o rfl rfl (Nat.le_of_ble_eq_true rfl) (Nat.le_of_ble_eq_true rfl) ⟨Nat.zero_le _, Nat.zero_le _⟩ ?_
  refine y_top (bI_1 hz0) ?_
  refine z_ifeq1 C D_X6_drawn_4 ?_
  refine y_ldc C D_X6_drawn_7 lk_X6_134 ?_
  exact y_iret C E D_X6_drawn_9 (rfl) (rfl)
theorem c_X6_whisperedS (I : CI G (h) (i) (A) (B) (fin) (n) (lf) (b) (y) (sz) (old) (w) (c) (f) (ln) (rz) (it) (im)) {x1 : Int32} {x2 : Int32} {x3 : Int32} {x4 : Int32} (hz0 : y 0 = 0) : Ct l G yX6_whispered 2 [qr G 0, .int (x1), .int (x2), .int (x3), .int (x4)] (h) (some (.int (-1000002))) (h) := by
  refine ctm_intro (maxL := 6) kw_X6_whispered (by decide) (by decide) [some (qr G 0), some (.int (x1)), some (.int (x2)), some (.int (x3)), some (.int (x4)), none] rfl (Nat.le_of_ble_eq_true rfl) ?_
  intro X _ hcl hsl _ _ C E
  refine y_aload_n C D_X6_whispered_0 rfl ?_
  refine z_callV C D_X6_whispered_1 lk_X6_135 (c_X6_noYard I (by omega)) I.o rfl rfl (Nat.le_of_ble_eq_true rfl) (Nat.le_of_ble_eq_true rfl) ⟨Nat.zero_le _, Nat.zero_le _⟩ ?_
  refine y_top (bI_1 hz0) ?_
  refine z_ifeq1 C D_X6_whispered_4 ?_
  refine y_ldc C D_X6_whispered_7 lk_X6_134 ?_
  exact y_iret C E D_X6_whispered_9 (rfl) (rfl)
theorem c_X6_suppersS (I : CI G (h) (i) (A) (B) (fin) (n) (lf) (b) (y) (sz) (old) (w) (c) (f) (ln) (rz) (it) (im)) {x1 : Int32} {x2 : Int32} {x3 : Int32} (hz0 : y 0 = 0) : Ct l G yX6_suppers 2 [qr G 0, .int (x1), .int (x2), .int (x3)] (h) (some (.int (-1000002))) (h) := by
  refine ctm_intro (maxL := 4) kw_X6_suppers (by decide) (by decide) [some (qr G 0), some (.int (x1)), some (.int (x2)), some (.int (x3))] rfl (Nat.le_of_ble_eq_true rfl) ?_
  intro X _ hcl hsl _ _ C E
  refine y_aload_n C D_X6_suppers_0 rfl ?_
  refine z_callV C D_X6_suppers_1 lk_X6_135 (c_X6_noYard I (by omega)) I.o rfl rfl (Nat.le_of_ble_eq_true rfl) (Nat.le_of_ble_eq_true rfl) ⟨Nat.zero_le _, Nat.zero_le _⟩ ?_
  refine y_top (bI_1 hz0) ?_
  refine z_ifeq1 C D_X6_suppers_4 ?_
  refine y_ldc C D_X6_suppers_7 lk_X6_134 ?_
  exact y_iret C E D_X6_suppers_9 (rfl) (rfl)
theorem c_X6_yearsS (I : CI G (h) (i) (A) (B) (fin) (n) (lf) (b) (y) (sz) (old) (w) (c) (f) (ln) (rz) (it) (im)) {x1 : Int32} (hz0 : y 0 = 0) : Ct l G yX6_years 2 [qr G 0, .int (x1)] (h) (some (.int (-1000002))) (h) := by
  refine ctm_intro (maxL := 3) kw_X6_years (by decide) (by decide) [some (qr G 0), some (.int (x1)), none] rfl (Nat.le_of_ble_eq_true rfl) ?_
  intro X _ hcl hsl _ _ C E
  refine y_aload_n C D_X6_years_0 rfl ?_
  refine z_callV C D_X6_years_1 lk_X6_135 (c_X6_noYard I (by omega)) I.o rfl rfl (Nat.le_of_ble_eq_true rfl) (Nat.le_of_ble_eq_true rfl) ⟨Nat.zero_le _, Nat.zero_le _⟩ ?_
  refine y_top (bI_1 hz0) ?_
  refine z_ifeq1 C D_X6_years_4 ?_
  refine y_ldc C D_X6_years_7 lk_X6_134 ?_
  exact y_iret C E D_X6_years_9 (rfl) (rfl)
theorem c_X6_aheadB (I : CI G (h) (i) (A) (B) (fin) (n) (lf) (b) (y) (sz) (old) (w) (c) (f) (ln) (rz) (it) (im)) (h01 : 1 ≤ y 0) (h0 : y 0 ≤ 6) {x : Int32} (hx : ¬ inr x 0 40) : Ct l G yX6_ahead 2 [qr G 0, .int (x)] (h) (some (.int (-1000001))) (h) := by
  refine ctm_intro (maxL := 2) kw_X6_ahead (by decide) (by decide) [some (qr G 0), some (.int (x))] rfl (Nat.le_of_ble_eq_true rfl) ?_
  intro X _ hcl hsl _ _ C E
  refine y_aload_n C D_X6_ahead_0 rfl ?_
  refine z_callV C D_X6_ahead_1 lk_X6_135 (c_X6_noYard I (by omega)) I.o rfl rfl (Nat.le_of_ble_eq_true rfl) (Nat.le_of_ble_eq_true rfl) ⟨Nat.zero_le _, Nat.zero_le _⟩ ?_
  refine y_top (bI_0 (by omega)) ?_
  refine z_ifeq0 C D_X6_ahead_4 ?_
  refine y_iload_n C D_X6_ahead_10 rfl ?_
  refine y_if_lt C D_X6_ahead_11 Iff.rfl (fun c_11 => ?_) (fun c_11 => ?_)
  · refine y_ldc C D_X6_ahead_20 lk_X6_59 ?_
    refine y_goto C D_X6_ahead_22 ?_
    exact y_iret C E D_X6_ahead_37 (rfl) (rfl)
  · refine y_iload_n C D_X6_ahead_14 rfl ?_
    refine y_bipush C D_X6_ahead_15 kb_40 ?_
    refine y_icmp_le C D_X6_ahead_17 Iff.rfl (fun c_17 => absurd ⟨Int32.not_lt.mp c_11, c_17⟩ hx) (fun c_17 => ?_)
    refine y_ldc C D_X6_ahead_20 lk_X6_59 ?_
    refine y_goto C D_X6_ahead_22 ?_
    exact y_iret C E D_X6_ahead_37 (rfl) (rfl)
theorem c_X6_ahead (I : CI G (h) (i) (A) (B) (fin) (n) (lf) (b) (y) (sz) (old) (w) (c) (f) (ln) (rz) (it) (im)) (hV : Va y) (h4 : y 4 ≤ 999) {n1 : Nat} (hn : n1 ≤ 40) : Ct l G yX6_ahead 6 [qr G 0, .int (nI n1)] (h) (some (.int (nI (yrs y n1 5)))) (yc G h 89 (yrs y n1)) := by
  refine ctm_intro (maxL := 2) kw_X6_ahead (by decide) (by decide) [some (qr G 0), some (.int (nI n1))] rfl (Nat.le_of_ble_eq_true rfl) ?_
  intro X _ hcl hsl _ _ C E
  have hV0 := hV.1
  have hV3 := hV.2.2.2.1
  have hV5 := hV.k64
  obtain ⟨fw, hS⟩ := I.s
  obtain ⟨z0, hs0⟩ := I.s0
  have hL := I.L
  refine y_aload_n C D_X6_ahead_0 rfl ?_
  refine z_callV C D_X6_ahead_1 lk_X6_135 (c_X6_noYard I (by omega)) I.o rfl rfl (Nat.le_of_ble_eq_true rfl) (Nat.le_of_ble_eq_true rfl) ⟨Nat.zero_le _, Nat.zero_le _⟩ ?_
  refine y_top (bI_0 (by omega)) ?_
  refine z_ifeq0 C D_X6_ahead_4 ?_
  refine y_iload_n C D_X6_ahead_10 rfl ?_
  refine y_if_lt C D_X6_ahead_11 (n_lt0 (by omega)) (fun q => q.elim) (fun _ => ?_)
  refine y_iload_n C D_X6_ahead_14 rfl ?_
  refine y_bipush C D_X6_ahead_15 kb_40 ?_
  refine y_icmp_le C D_X6_ahead_17 (n_le (by omega) (by omega)) (fun c_17 => ?_) (fun c_17 => absurd hn c_17)
  refine y_aload_n C D_X6_ahead_25 rfl ?_
  refine y_get C D_X6_ahead_26 fl_X6_43 I.o rfl ?_
  refine y_aload_n C D_X6_ahead_29 rfl ?_
  refine y_get C D_X6_ahead_30 fl_X6_25 I.o rfl ?_
  refine y_iload_n C D_X6_ahead_33 rfl ?_
  refine z_callV C D_X6_ahead_34 lk_X6_189 (c_X3_keptBehind hS I.sq hs0 I.yd hV h4 hn) hS rfl rfl (Nat.le_of_ble_eq_true rfl) (Nat.le_of_ble_eq_true rfl) ⟨Nat.zero_le _, Nat.zero_le _⟩ ?_
  exact y_iret C E D_X6_ahead_37 (rfl) (rfl)
theorem c_X6_dugB (I : CI G (h) (i) (A) (B) (fin) (n) (lf) (b) (y) (sz) (old) (w) (c) (f) (ln) (rz) (it) (im)) (h01 : 1 ≤ y 0) (h0 : y 0 ≤ 6) {x : Int32} (hx : ¬ isx x (y 0)) : Ct l G yX6_dug 2 [qr G 0, .int (x)] (h) (some (.int (-1000001))) (h) := by
  refine ctm_intro (maxL := 2) kw_X6_dug (by decide) (by decide) [some (qr G 0), some (.int (x))] rfl (Nat.le_of_ble_eq_true rfl) ?_
  intro X _ hcl hsl _ _ C E
  refine y_aload_n C D_X6_dug_0 rfl ?_
  refine z_callV C D_X6_dug_1 lk_X6_135 (c_X6_noYard I (by omega)) I.o rfl rfl (Nat.le_of_ble_eq_true rfl) (Nat.le_of_ble_eq_true rfl) ⟨Nat.zero_le _, Nat.zero_le _⟩ ?_
  refine y_top (bI_0 (by omega)) ?_
  refine z_ifeq0 C D_X6_dug_4 ?_
  refine y_aload_n C D_X6_dug_10 rfl ?_
  refine y_iload_n C D_X6_dug_11 rfl ?_
  refine z_callV C D_X6_dug_12 lk_X6_173 (c_X6_isGrave I (by omega)) I.o rfl rfl (Nat.le_of_ble_eq_true rfl) (Nat.le_of_ble_eq_true rfl) ⟨Nat.zero_le _, Nat.zero_le _⟩ ?_
  refine z_ifeqB C D_X6_dug_15 (fun c_15 => ?_) (fun c_15 => absurd c_15 hx)
  refine y_ldc C D_X6_dug_34 lk_X6_59 ?_
  exact y_iret C E D_X6_dug_36 (rfl) (rfl)
theorem c_X6_dug (I : CI G (h) (i) (A) (B) (fin) (n) (lf) (b) (y) (sz) (old) (w) (c) (f) (ln) (rz) (it) (im)) (hV : Va y) (h4 : y 4 ≤ 999) {g : Nat} (hg1 : g < y 0) : Ct l G yX6_dug 6 [qr G 0, .int (nI g)] (h) (some (.int (dugR 0 g 40 0 y))) (yc G h 89 (dugY 0 g 40 y)) := by
  refine ctm_intro (maxL := 2) kw_X6_dug (by decide) (by decide) [some (qr G 0), some (.int (nI g))] rfl (Nat.le_of_ble_eq_true rfl) ?_
  intro X _ hcl hsl _ _ C E
  have hV0 := hV.1
  have hV3 := hV.2.2.2.1
  have hV5 := hV.k64
  obtain ⟨fw, hS⟩ := I.s
  obtain ⟨z0, hs0⟩ := I.s0
  have hL := I.L
  refine y_aload_n C D_X6_dug_0 rfl ?_
  refine z_callV C D_X6_dug_1 lk_X6_135 (c_X6_noYard I (by omega)) I.o rfl rfl (Nat.le_of_ble_eq_true rfl) (Nat.le_of_ble_eq_true rfl) ⟨Nat.zero_le _, Nat.zero_le _⟩ ?_
  refine y_top (bI_0 (by omega)) ?_
  refine z_ifeq0 C D_X6_dug_4 ?_
  refine y_aload_n C D_X6_dug_10 rfl ?_
  refine y_iload_n C D_X6_dug_11 rfl ?_
  refine z_callV C D_X6_dug_12 lk_X6_173 (c_X6_isGrave I (by omega)) I.o rfl rfl (Nat.le_of_ble_eq_true rfl) (Nat.le_of_ble_eq_true rfl) ⟨Nat.zero_le _, Nat.zero_le _⟩ ?_
  refine y_top (bI_1 (isx_n (by omega) hg1)) ?_
  refine z_ifeq1 C D_X6_dug_15 ?_
  refine y_aload_n C D_X6_dug_18 rfl ?_
  refine y_get C D_X6_dug_19 fl_X6_43 I.o rfl ?_
  refine y_aload_n C D_X6_dug_22 rfl ?_
  refine y_get C D_X6_dug_23 fl_X6_25 I.o rfl ?_
  refine y_iload_n C D_X6_dug_26 rfl ?_
  refine y_iconst C D_X6_dug_27 ki_0 ?_
  refine z_callV C D_X6_dug_28 lk_X6_193 (c_X3_yearsTillDug hS I.sq hs0 I.yd hV h4 (by omega) (by decide)) hS rfl rfl (Nat.le_of_ble_eq_true rfl) (Nat.le_of_ble_eq_true rfl) ⟨Nat.zero_le _, Nat.zero_le _⟩ ?_
  refine y_goto C D_X6_dug_31 ?_
  exact y_iret C E D_X6_dug_36 (rfl) (rfl)
theorem c_X6_boundB (I : CI G (h) (i) (A) (B) (fin) (n) (lf) (b) (y) (sz) (old) (w) (c) (f) (ln) (rz) (it) (im)) (h01 : 1 ≤ y 0) (h0 : y 0 ≤ 6) {x : Int32} (hx : ¬ isx x (y 0)) : Ct l G yX6_bound 2 [qr G 0, .int (x)] (h) (some (.int (-1000001))) (h) := by
  refine ctm_intro (maxL := 2) kw_X6_bound (by decide) (by decide) [some (qr G 0), some (.int (x))] rfl (Nat.le_of_ble_eq_true rfl) ?_
  intro X _ hcl hsl _ _ C E
  refine y_aload_n C D_X6_bound_0 rfl ?_
  refine z_callV C D_X6_bound_1 lk_X6_135 (c_X6_noYard I (by omega)) I.o rfl rfl (Nat.le_of_ble_eq_true rfl) (Nat.le_of_ble_eq_true rfl) ⟨Nat.zero_le _, Nat.zero_le _⟩ ?_
  refine y_top (bI_0 (by omega)) ?_
  refine z_ifeq0 C D_X6_bound_4 ?_
  refine y_aload_n C D_X6_bound_10 rfl ?_
  refine y_iload_n C D_X6_bound_11 rfl ?_
  refine z_callV C D_X6_bound_12 lk_X6_173 (c_X6_isGrave I (by omega)) I.o rfl rfl (Nat.le_of_ble_eq_true rfl) (Nat.le_of_ble_eq_true rfl) ⟨Nat.zero_le _, Nat.zero_le _⟩ ?_
  refine z_ifeqB C D_X6_bound_15 (fun c_15 => ?_) (fun c_15 => absurd c_15 hx)
  refine y_ldc C D_X6_bound_34 lk_X6_59 ?_
  exact y_iret C E D_X6_bound_36 (rfl) (rfl)
theorem c_X6_bound (I : CI G (h) (i) (A) (B) (fin) (n) (lf) (b) (y) (sz) (old) (w) (c) (f) (ln) (rz) (it) (im)) (hV : Va y) (h4 : y 4 ≤ 999) {g : Nat} (hg1 : g < y 0) : Ct l G yX6_bound 6 [qr G 0, .int (nI g)] (h) (some (.int (dugR 1 g 40 0 y))) (yc G h 89 (dugY 1 g 40 y)) := by
  refine ctm_intro (maxL := 2) kw_X6_bound (by decide) (by decide) [some (qr G 0), some (.int (nI g))] rfl (Nat.le_of_ble_eq_true rfl) ?_
  intro X _ hcl hsl _ _ C E
  have hV0 := hV.1
  have hV3 := hV.2.2.2.1
  have hV5 := hV.k64
  obtain ⟨fw, hS⟩ := I.s
  obtain ⟨z0, hs0⟩ := I.s0
  have hL := I.L
  refine y_aload_n C D_X6_bound_0 rfl ?_
  refine z_callV C D_X6_bound_1 lk_X6_135 (c_X6_noYard I (by omega)) I.o rfl rfl (Nat.le_of_ble_eq_true rfl) (Nat.le_of_ble_eq_true rfl) ⟨Nat.zero_le _, Nat.zero_le _⟩ ?_
  refine y_top (bI_0 (by omega)) ?_
  refine z_ifeq0 C D_X6_bound_4 ?_
  refine y_aload_n C D_X6_bound_10 rfl ?_
  refine y_iload_n C D_X6_bound_11 rfl ?_
  refine z_callV C D_X6_bound_12 lk_X6_173 (c_X6_isGrave I (by omega)) I.o rfl rfl (Nat.le_of_ble_eq_true rfl) (Nat.le_of_ble_eq_true rfl) ⟨Nat.zero_le _, Nat.zero_le _⟩ ?_
  refine y_top (bI_1 (isx_n (by omega) hg1)) ?_
  refine z_ifeq1 C D_X6_bound_15 ?_
  refine y_aload_n C D_X6_bound_18 rfl ?_
  refine y_get C D_X6_bound_19 fl_X6_43 I.o rfl ?_
  refine y_aload_n C D_X6_bound_22 rfl ?_
  refine y_get C D_X6_bound_23 fl_X6_25 I.o rfl ?_
  refine y_iload_n C D_X6_bound_26 rfl ?_
  refine y_iconst C D_X6_bound_27 ki_1 ?_
  refine z_callV C D_X6_bound_28 lk_X6_193 (c_X3_yearsTillDug hS I.sq hs0 I.yd hV h4 (by omega) (by decide)) hS rfl rfl (Nat.le_of_ble_eq_true rfl) (Nat.le_of_ble_eq_true rfl) ⟨Nat.zero_le _, Nat.zero_le _⟩ ?_
  refine y_goto C D_X6_bound_31 ?_
  exact y_iret C E D_X6_bound_36 (rfl) (rfl)
theorem c_X6_firstDug (I : CI G (h) (i) (A) (B) (fin) (n) (lf) (b) (y) (sz) (old) (w) (c) (f) (ln) (rz) (it) (im)) (hV : Va y) (h4 : y 4 ≤ 999) : Ct l G yX6_firstDug 6 [qr G 0] (h) (some (.int (nO (gdF y 40 0)))) (yc G h 89 (gdY y 40 0)) := by
  refine ctm_intro (maxL := 1) kw_X6_firstDug (by decide) (by decide) [some (qr G 0)] rfl (Nat.le_of_ble_eq_true rfl) ?_
  intro X _ hcl hsl _ _ C E
  have hV0 := hV.1
  have hV3 := hV.2.2.2.1
  have hV5 := hV.k64
  obtain ⟨fw, hS⟩ := I.s
  obtain ⟨z0, hs0⟩ := I.s0
  have hL := I.L
  refine y_aload_n C D_X6_firstDug_0 rfl ?_
  refine z_callV C D_X6_firstDug_1 lk_X6_135 (c_X6_noYard I (by omega)) I.o rfl rfl (Nat.le_of_ble_eq_true rfl) (Nat.le_of_ble_eq_true rfl) ⟨Nat.zero_le _, Nat.zero_le _⟩ ?_
  refine y_top (bI_0 (by omega)) ?_
  refine z_ifeq0 C D_X6_firstDug_4 ?_
  refine y_aload_n C D_X6_firstDug_12 rfl ?_
  refine y_get C D_X6_firstDug_13 fl_X6_43 I.o rfl ?_
  refine y_aload_n C D_X6_firstDug_16 rfl ?_
  refine y_get C D_X6_firstDug_17 fl_X6_25 I.o rfl ?_
  refine z_callV C D_X6_firstDug_20 lk_X6_197 (c_X3_graveDugFirst hS I.sq hs0 I.yd hV h4) hS rfl rfl (Nat.le_of_ble_eq_true rfl) (Nat.le_of_ble_eq_true rfl) ⟨Nat.zero_le _, Nat.zero_le _⟩ ?_
  exact y_iret C E D_X6_firstDug_23 (rfl) (rfl)
theorem c_X6_cheeseB (I : CI G (h) (i) (A) (B) (fin) (n) (lf) (b) (y) (sz) (old) (w) (c) (f) (ln) (rz) (it) (im)) (h01 : 1 ≤ y 0) (h0 : y 0 ≤ 6) {x : Int32} (hx : ¬ inr x 1 40) : Ct l G yX6_cheese 2 [qr G 0, .int (x)] (h) (some (.int (-1000001))) (h) := by
  refine ctm_intro (maxL := 2) kw_X6_cheese (by decide) (by decide) [some (qr G 0), some (.int (x))] rfl (Nat.le_of_ble_eq_true rfl) ?_
  intro X _ hcl hsl _ _ C E
  refine y_aload_n C D_X6_cheese_0 rfl ?_
  refine z_callV C D_X6_cheese_1 lk_X6_135 (c_X6_noYard I (by omega)) I.o rfl rfl (Nat.le_of_ble_eq_true rfl) (Nat.le_of_ble_eq_true rfl) ⟨Nat.zero_le _, Nat.zero_le _⟩ ?_
  refine y_top (bI_0 (by omega)) ?_
  refine z_ifeq0 C D_X6_cheese_4 ?_
  refine y_iload_n C D_X6_cheese_10 rfl ?_
  refine y_iconst C D_X6_cheese_11 ki_1 ?_
  refine y_icmp_lt C D_X6_cheese_12 Iff.rfl (fun c_12 => ?_) (fun c_12 => ?_)
  · refine y_ldc C D_X6_cheese_21 lk_X6_59 ?_
    refine y_goto C D_X6_cheese_23 ?_
    exact y_iret C E D_X6_cheese_38 (rfl) (rfl)
  · refine y_iload_n C D_X6_cheese_15 rfl ?_
    refine y_bipush C D_X6_cheese_16 kb_40 ?_
    refine y_icmp_le C D_X6_cheese_18 Iff.rfl (fun c_18 => absurd ⟨Int32.not_lt.mp c_12, c_18⟩ hx) (fun c_18 => ?_)
    refine y_ldc C D_X6_cheese_21 lk_X6_59 ?_
    refine y_goto C D_X6_cheese_23 ?_
    exact y_iret C E D_X6_cheese_38 (rfl) (rfl)
theorem c_X6_cheese (I : CI G (h) (i) (A) (B) (fin) (n) (lf) (b) (y) (sz) (old) (w) (c) (f) (ln) (rz) (it) (im)) (hV : Va y) (h4 : y 4 ≤ 999) {n1 : Nat} (h1 : 1 ≤ n1) (hn : n1 ≤ 40) : Ct l G yX6_cheese 6 [qr G 0, .int (nI n1)] (h) (some (.int (nI (chS y n1)))) (yc G h 89 (chN y n1)) := by
  refine ctm_intro (maxL := 2) kw_X6_cheese (by decide) (by decide) [some (qr G 0), some (.int (nI n1))] rfl (Nat.le_of_ble_eq_true rfl) ?_
  intro X _ hcl hsl _ _ C E
  have hV0 := hV.1
  have hV3 := hV.2.2.2.1
  have hV5 := hV.k64
  obtain ⟨fw, hS⟩ := I.s
  obtain ⟨z0, hs0⟩ := I.s0
  have hL := I.L
  refine y_aload_n C D_X6_cheese_0 rfl ?_
  refine z_callV C D_X6_cheese_1 lk_X6_135 (c_X6_noYard I (by omega)) I.o rfl rfl (Nat.le_of_ble_eq_true rfl) (Nat.le_of_ble_eq_true rfl) ⟨Nat.zero_le _, Nat.zero_le _⟩ ?_
  refine y_top (bI_0 (by omega)) ?_
  refine z_ifeq0 C D_X6_cheese_4 ?_
  refine y_iload_n C D_X6_cheese_10 rfl ?_
  refine y_iconst C D_X6_cheese_11 ki_1 ?_
  refine y_icmp_lt C D_X6_cheese_12 (n_lt (by omega) (by omega)) (fun c_12 => absurd c_12 (by omega)) (fun c_12 => ?_)
  refine y_iload_n C D_X6_cheese_15 rfl ?_
  refine y_bipush C D_X6_cheese_16 kb_40 ?_
  refine y_icmp_le C D_X6_cheese_18 (n_le (by omega) (by omega)) (fun c_18 => ?_) (fun c_18 => absurd hn c_18)
  refine y_aload_n C D_X6_cheese_26 rfl ?_
  refine y_get C D_X6_cheese_27 fl_X6_43 I.o rfl ?_
  refine y_aload_n C D_X6_cheese_30 rfl ?_
  refine y_get C D_X6_cheese_31 fl_X6_25 I.o rfl ?_
  refine y_iload_n C D_X6_cheese_34 rfl ?_
  refine z_callV C D_X6_cheese_35 lk_X6_230 (c_X3_suppersNeeded hS I.sq hs0 I.yd hV h4 hn) hS rfl rfl (Nat.le_of_ble_eq_true rfl) (Nat.le_of_ble_eq_true rfl) ⟨Nat.zero_le _, Nat.zero_le _⟩ ?_
  exact y_iret C E D_X6_cheese_38 (rfl) (rfl)
theorem c_X6_awakeB (I : CI G (h) (i) (A) (B) (fin) (n) (lf) (b) (y) (sz) (old) (w) (c) (f) (ln) (rz) (it) (im)) (h01 : 1 ≤ y 0) (h0 : y 0 ≤ 6) {x1 x2 x3 : Int32} (hx : ¬ isx x1 (y 0) ∨ ¬ inr x2 0 10 ∨ ¬ isx x3 2) : Ct l G yX6_awake 2 [qr G 0, .int (x1), .int (x2), .int (x3)] (h) (some (.long (-1000001))) (h) := by
  refine ctm_intro (maxL := 4) kw_X6_awake (by decide) (by decide) [some (qr G 0), some (.int (x1)), some (.int (x2)), some (.int (x3))] rfl (Nat.le_of_ble_eq_true rfl) ?_
  intro X _ hcl hsl _ _ C E
  refine y_aload_n C D_X6_awake_0 rfl ?_
  refine z_callV C D_X6_awake_1 lk_X6_135 (c_X6_noYard I (by omega)) I.o rfl rfl (Nat.le_of_ble_eq_true rfl) (Nat.le_of_ble_eq_true rfl) ⟨Nat.zero_le _, Nat.zero_le _⟩ ?_
  refine y_top (bI_0 (by omega)) ?_
  refine z_ifeq0 C D_X6_awake_4 ?_
  refine y_aload_n C D_X6_awake_11 rfl ?_
  refine y_iload_n C D_X6_awake_12 rfl ?_
  refine z_callV C D_X6_awake_13 lk_X6_173 (c_X6_isGrave I (by omega)) I.o rfl rfl (Nat.le_of_ble_eq_true rfl) (Nat.le_of_ble_eq_true rfl) ⟨Nat.zero_le _, Nat.zero_le _⟩ ?_
  refine z_ifeqB C D_X6_awake_16 (fun c_16 => ?_) (fun c_16 => ?_)
  · refine y_ldc2 C D_X6_awake_38 lk_X6_235 ?_
    exact y_lret C E D_X6_awake_41 (rfl) (rfl)
  · refine y_iload_n C D_X6_awake_19 rfl ?_
    refine y_if_lt C D_X6_awake_20 Iff.rfl (fun c_20 => ?_) (fun c_20 => ?_)
    · refine y_ldc2 C D_X6_awake_38 lk_X6_235 ?_
      exact y_lret C E D_X6_awake_41 (rfl) (rfl)
    · refine y_iload_n C D_X6_awake_23 rfl ?_
      refine y_bipush C D_X6_awake_24 kb_10 ?_
      refine y_icmp_gt C D_X6_awake_26 Iff.rfl (fun c_26 => ?_) (fun c_26 => ?_)
      · refine y_ldc2 C D_X6_awake_38 lk_X6_235 ?_
        exact y_lret C E D_X6_awake_41 (rfl) (rfl)
      · refine y_iload_n C D_X6_awake_29 rfl ?_
        refine y_if_lt C D_X6_awake_30 Iff.rfl (fun c_30 => ?_) (fun c_30 => ?_)
        · refine y_ldc2 C D_X6_awake_38 lk_X6_235 ?_
          exact y_lret C E D_X6_awake_41 (rfl) (rfl)
        · refine y_iload_n C D_X6_awake_33 rfl ?_
          refine y_iconst C D_X6_awake_34 ki_1 ?_
          refine y_icmp_le C D_X6_awake_35 Iff.rfl (fun c_35 => hx.elim (fun z => absurd c_16 z) (fun z => z.elim (fun z => absurd ⟨Int32.not_lt.mp c_20, Int32.not_lt.mp c_26⟩ z) (fun z => absurd ⟨Int32.not_lt.mp c_30, (ileS (by decide)).mp c_35⟩ z))) (fun c_35 => ?_)
          refine y_ldc2 C D_X6_awake_38 lk_X6_235 ?_
          exact y_lret C E D_X6_awake_41 (rfl) (rfl)
theorem c_X6_awake0 (I : CI G (h) (i) (A) (B) (fin) (n) (lf) (b) (y) (sz) (old) (w) (c) (f) (ln) (rz) (it) (im)) (hV : Va y) (h4 : y 4 ≤ 999) {g q : Nat} (hg1 : g < y 0) (hq : q ≤ 10) : Ct l G yX6_awake 5 [qr G 0, .int (nI g), .int (nI q), .int (nI 0)] (h) (some (.long (lN (chV q (dmN y g) 1)))) (h) := by
  refine ctm_intro (maxL := 4) kw_X6_awake (by decide) (by decide) [some (qr G 0), some (.int (nI g)), some (.int (nI q)), some (.int (nI 0))] rfl (Nat.le_of_ble_eq_true rfl) ?_
  intro X _ hcl hsl _ _ C E
  have hV0 := hV.1
  have hV3 := hV.2.2.2.1
  have hV5 := hV.k64
  obtain ⟨fw, hS⟩ := I.s
  obtain ⟨z0, hs0⟩ := I.s0
  have hL := I.L
  refine y_aload_n C D_X6_awake_0 rfl ?_
  refine z_callV C D_X6_awake_1 lk_X6_135 (c_X6_noYard I (by omega)) I.o rfl rfl (Nat.le_of_ble_eq_true rfl) (Nat.le_of_ble_eq_true rfl) ⟨Nat.zero_le _, Nat.zero_le _⟩ ?_
  refine y_top (bI_0 (by omega)) ?_
  refine z_ifeq0 C D_X6_awake_4 ?_
  refine y_aload_n C D_X6_awake_11 rfl ?_
  refine y_iload_n C D_X6_awake_12 rfl ?_
  refine z_callV C D_X6_awake_13 lk_X6_173 (c_X6_isGrave I (by omega)) I.o rfl rfl (Nat.le_of_ble_eq_true rfl) (Nat.le_of_ble_eq_true rfl) ⟨Nat.zero_le _, Nat.zero_le _⟩ ?_
  refine y_top (bI_1 (isx_n (by omega) hg1)) ?_
  refine z_ifeq1 C D_X6_awake_16 ?_
  refine y_iload_n C D_X6_awake_19 rfl ?_
  refine y_if_lt C D_X6_awake_20 (n_lt0 (by omega)) (fun q => q.elim) (fun _ => ?_)
  refine y_iload_n C D_X6_awake_23 rfl ?_
  refine y_bipush C D_X6_awake_24 kb_10 ?_
  refine y_icmp_gt C D_X6_awake_26 (n_lt (by omega) (by omega)) (fun c_26 => absurd c_26 (by omega)) (fun c_26 => ?_)
  refine y_iload_n C D_X6_awake_29 rfl ?_
  refine y_if_lt C D_X6_awake_30 (n_lt0 (by omega)) (fun q => q.elim) (fun _ => ?_)
  refine y_iload_n C D_X6_awake_33 rfl ?_
  refine y_iconst C D_X6_awake_34 ki_1 ?_
  refine y_icmp_le C D_X6_awake_35 (n_le (by omega) (by omega)) (fun c_35 => ?_) (fun c_35 => absurd (by decide) c_35)
  refine y_aload_n C D_X6_awake_42 rfl ?_
  refine y_get C D_X6_awake_43 fl_X6_43 I.o rfl ?_
  refine y_aload_n C D_X6_awake_46 rfl ?_
  refine y_get C D_X6_awake_47 fl_X6_25 I.o rfl ?_
  refine y_iload_n C D_X6_awake_50 rfl ?_
  refine y_iload_n C D_X6_awake_51 rfl ?_
  refine y_iload_n C D_X6_awake_52 rfl ?_
  refine z_ifne0 C D_X6_awake_53 ?_
  refine y_iconst C D_X6_awake_56 ki_1 ?_
  refine y_goto C D_X6_awake_57 ?_
  refine z_callV C D_X6_awake_61 lk_X6_237 (c_X3_chanceOfKeeping I.yd hV h4 (by omega) hq (by decide)) hS rfl rfl (Nat.le_of_ble_eq_true rfl) (Nat.le_of_ble_eq_true rfl) ⟨Nat.zero_le _, Nat.zero_le _⟩ ?_
  exact y_lret C E D_X6_awake_64 (rfl) (rfl)
theorem c_X6_awake1 (I : CI G (h) (i) (A) (B) (fin) (n) (lf) (b) (y) (sz) (old) (w) (c) (f) (ln) (rz) (it) (im)) (hV : Va y) (h4 : y 4 ≤ 999) {g q : Nat} (hg1 : g < y 0) (hq : q ≤ 10) : Ct l G yX6_awake 5 [qr G 0, .int (nI g), .int (nI q), .int (nI 1)] (h) (some (.long (lN (chV q (dmN y g) 0)))) (h) := by
  refine ctm_intro (maxL := 4) kw_X6_awake (by decide) (by decide) [some (qr G 0), some (.int (nI g)), some (.int (nI q)), some (.int (nI 1))] rfl (Nat.le_of_ble_eq_true rfl) ?_
  intro X _ hcl hsl _ _ C E
  have hV0 := hV.1
  have hV3 := hV.2.2.2.1
  have hV5 := hV.k64
  obtain ⟨fw, hS⟩ := I.s
  obtain ⟨z0, hs0⟩ := I.s0
  have hL := I.L
  refine y_aload_n C D_X6_awake_0 rfl ?_
  refine z_callV C D_X6_awake_1 lk_X6_135 (c_X6_noYard I (by omega)) I.o rfl rfl (Nat.le_of_ble_eq_true rfl) (Nat.le_of_ble_eq_true rfl) ⟨Nat.zero_le _, Nat.zero_le _⟩ ?_
  refine y_top (bI_0 (by omega)) ?_
  refine z_ifeq0 C D_X6_awake_4 ?_
  refine y_aload_n C D_X6_awake_11 rfl ?_
  refine y_iload_n C D_X6_awake_12 rfl ?_
  refine z_callV C D_X6_awake_13 lk_X6_173 (c_X6_isGrave I (by omega)) I.o rfl rfl (Nat.le_of_ble_eq_true rfl) (Nat.le_of_ble_eq_true rfl) ⟨Nat.zero_le _, Nat.zero_le _⟩ ?_
  refine y_top (bI_1 (isx_n (by omega) hg1)) ?_
  refine z_ifeq1 C D_X6_awake_16 ?_
  refine y_iload_n C D_X6_awake_19 rfl ?_
  refine y_if_lt C D_X6_awake_20 (n_lt0 (by omega)) (fun q => q.elim) (fun _ => ?_)
  refine y_iload_n C D_X6_awake_23 rfl ?_
  refine y_bipush C D_X6_awake_24 kb_10 ?_
  refine y_icmp_gt C D_X6_awake_26 (n_lt (by omega) (by omega)) (fun c_26 => absurd c_26 (by omega)) (fun c_26 => ?_)
  refine y_iload_n C D_X6_awake_29 rfl ?_
  refine y_if_lt C D_X6_awake_30 (n_lt0 (by omega)) (fun q => q.elim) (fun _ => ?_)
  refine y_iload_n C D_X6_awake_33 rfl ?_
  refine y_iconst C D_X6_awake_34 ki_1 ?_
  refine y_icmp_le C D_X6_awake_35 (n_le (by omega) (by omega)) (fun c_35 => ?_) (fun c_35 => absurd (by decide) c_35)
  refine y_aload_n C D_X6_awake_42 rfl ?_
  refine y_get C D_X6_awake_43 fl_X6_43 I.o rfl ?_
  refine y_aload_n C D_X6_awake_46 rfl ?_
  refine y_get C D_X6_awake_47 fl_X6_25 I.o rfl ?_
  refine y_iload_n C D_X6_awake_50 rfl ?_
  refine y_iload_n C D_X6_awake_51 rfl ?_
  refine y_iload_n C D_X6_awake_52 rfl ?_
  refine z_ifne1 C D_X6_awake_53 ?_
  refine y_iconst C D_X6_awake_60 ki_0 ?_
  refine z_callV C D_X6_awake_61 lk_X6_237 (c_X3_chanceOfKeeping I.yd hV h4 (by omega) hq (by decide)) hS rfl rfl (Nat.le_of_ble_eq_true rfl) (Nat.le_of_ble_eq_true rfl) ⟨Nat.zero_le _, Nat.zero_le _⟩ ?_
  exact y_lret C E D_X6_awake_64 (rfl) (rfl)
theorem c_X6_drawnB (I : CI G (h) (i) (A) (B) (fin) (n) (lf) (b) (y) (sz) (old) (w) (c) (f) (ln) (rz) (it) (im)) (h01 : 1 ≤ y 0) (h0 : y 0 ≤ 6) {x1 x2 x3 : Int32} (hx : ¬ inr x1 0 40 ∨ ¬ inr x2 1 999999 ∨ ¬ isx x3 2) : Ct l G yX6_drawn 2 [qr G 0, .int (x1), .int (x2), .int (x3)] (h) (some (.int (-1000001))) (h) := by
  refine ctm_intro (maxL := 5) kw_X6_drawn (by decide) (by decide) [some (qr G 0), some (.int (x1)), some (.int (x2)), some (.int (x3)), none] rfl (Nat.le_of_ble_eq_true rfl) ?_
  intro X _ hcl hsl _ _ C E
  refine y_aload_n C D_X6_drawn_0 rfl ?_
  refine z_callV C D_X6_drawn_1 lk_X6_135 (c_X6_noYard I (by omega)) I.o rfl rfl (Nat.le_of_ble_eq_true rfl) (Nat.le_of_ble_eq_true rfl) ⟨Nat.zero_le _, Nat.zero_le _⟩ ?_
  refine y_top (bI_0 (by omega)) ?_
  refine z_ifeq0 C D_X6_drawn_4 ?_
  refine y_iload_n C D_X6_drawn_10 rfl ?_
  refine y_if_lt C D_X6_drawn_11 Iff.rfl (fun c_11 => ?_) (fun c_11 => ?_)
  · refine y_ldc C D_X6_drawn_40 lk_X6_59 ?_
    exact y_iret C E D_X6_drawn_42 (rfl) (rfl)
  · refine y_iload_n C D_X6_drawn_14 rfl ?_
    refine y_bipush C D_X6_drawn_15 kb_40 ?_
    refine y_icmp_gt C D_X6_drawn_17 Iff.rfl (fun c_17 => ?_) (fun c_17 => ?_)
    · refine y_ldc C D_X6_drawn_40 lk_X6_59 ?_
      exact y_iret C E D_X6_drawn_42 (rfl) (rfl)
    · refine y_iload_n C D_X6_drawn_20 rfl ?_
      refine y_iconst C D_X6_drawn_21 ki_1 ?_
      refine y_icmp_lt C D_X6_drawn_22 Iff.rfl (fun c_22 => ?_) (fun c_22 => ?_)
      · refine y_ldc C D_X6_drawn_40 lk_X6_59 ?_
        exact y_iret C E D_X6_drawn_42 (rfl) (rfl)
      · refine y_iload_n C D_X6_drawn_25 rfl ?_
        refine y_ldc C D_X6_drawn_26 lk_X6_241 ?_
        rw [show (999999 : Int32) = nI 999999 from rfl]
        refine y_icmp_gt C D_X6_drawn_28 Iff.rfl (fun c_28 => ?_) (fun c_28 => ?_)
        · refine y_ldc C D_X6_drawn_40 lk_X6_59 ?_
          exact y_iret C E D_X6_drawn_42 (rfl) (rfl)
        · refine y_iload_n C D_X6_drawn_31 rfl ?_
          refine y_if_lt C D_X6_drawn_32 Iff.rfl (fun c_32 => ?_) (fun c_32 => ?_)
          · refine y_ldc C D_X6_drawn_40 lk_X6_59 ?_
            exact y_iret C E D_X6_drawn_42 (rfl) (rfl)
          · refine y_iload_n C D_X6_drawn_35 rfl ?_
            refine y_iconst C D_X6_drawn_36 ki_1 ?_
            refine y_icmp_le C D_X6_drawn_37 Iff.rfl (fun c_37 => hx.elim (fun z => absurd ⟨Int32.not_lt.mp c_11, Int32.not_lt.mp c_17⟩ z) (fun z => z.elim (fun z => absurd ⟨Int32.not_lt.mp c_22, Int32.not_lt.mp c_28⟩ z) (fun z => absurd ⟨Int32.not_lt.mp c_32, (ileS (by decide)).mp c_37⟩ z))) (fun c_37 => ?_)
            refine y_ldc C D_X6_drawn_40 lk_X6_59 ?_
            exact y_iret C E D_X6_drawn_42 (rfl) (rfl)
theorem c_X6_drawn0 (I : CI G (h) (i) (A) (B) (fin) (n) (lf) (b) (y) (sz) (old) (w) (c) (f) (ln) (rz) (it) (im)) (hV : Va y) (h4 : y 4 ≤ 999) {n1 s : Nat} (hn : n1 ≤ 40) (hs1 : 1 ≤ s) (hs2 : s ≤ 999999) : Ct l G yX6_drawn 6 [qr G 0, .int (nI n1), .int (nI s), .int (nI 0)] (h) (some (.int (nI (dwY y s n1 5)))) (yc G h 89 (dwY y s n1)) := by
  refine ctm_intro (maxL := 5) kw_X6_drawn (by decide) (by decide) [some (qr G 0), some (.int (nI n1)), some (.int (nI s)), some (.int (nI 0)), none] rfl (Nat.le_of_ble_eq_true rfl) ?_
  intro X _ hcl hsl _ _ C E
  have hV0 := hV.1
  have hV3 := hV.2.2.2.1
  have hV5 := hV.k64
  obtain ⟨fw, hS⟩ := I.s
  obtain ⟨z0, hs0⟩ := I.s0
  have hL := I.L
  refine y_aload_n C D_X6_drawn_0 rfl ?_
  refine z_callV C D_X6_drawn_1 lk_X6_135 (c_X6_noYard I (by omega)) I.o rfl rfl (Nat.le_of_ble_eq_true rfl) (Nat.le_of_ble_eq_true rfl) ⟨Nat.zero_le _, Nat.zero_le _⟩ ?_
  refine y_top (bI_0 (by omega)) ?_
  refine z_ifeq0 C D_X6_drawn_4 ?_
  refine y_iload_n C D_X6_drawn_10 rfl ?_
  refine y_if_lt C D_X6_drawn_11 (n_lt0 (by omega)) (fun q => q.elim) (fun _ => ?_)
  refine y_iload_n C D_X6_drawn_14 rfl ?_
  refine y_bipush C D_X6_drawn_15 kb_40 ?_
  refine y_icmp_gt C D_X6_drawn_17 (n_lt (by omega) (by omega)) (fun c_17 => absurd c_17 (by omega)) (fun c_17 => ?_)
  refine y_iload_n C D_X6_drawn_20 rfl ?_
  refine y_iconst C D_X6_drawn_21 ki_1 ?_
  refine y_icmp_lt C D_X6_drawn_22 (n_lt (by omega) (by omega)) (fun c_22 => absurd c_22 (by omega)) (fun c_22 => ?_)
  refine y_iload_n C D_X6_drawn_25 rfl ?_
  refine y_ldc C D_X6_drawn_26 lk_X6_241 ?_
  rw [show (999999 : Int32) = nI 999999 from rfl]
  refine y_icmp_gt C D_X6_drawn_28 (n_lt (by omega) (by omega)) (fun c_28 => absurd c_28 (by omega)) (fun c_28 => ?_)
  refine y_iload_n C D_X6_drawn_31 rfl ?_
  refine y_if_lt C D_X6_drawn_32 (n_lt0 (by omega)) (fun q => q.elim) (fun _ => ?_)
  refine y_iload_n C D_X6_drawn_35 rfl ?_
  refine y_iconst C D_X6_drawn_36 ki_1 ?_
  refine y_icmp_le C D_X6_drawn_37 (n_le (by omega) (by omega)) (fun c_37 => ?_) (fun c_37 => absurd (by decide) c_37)
  refine y_aload_n C D_X6_drawn_43 rfl ?_
  refine y_get C D_X6_drawn_44 fl_X6_43 I.o rfl ?_
  refine y_aload_n C D_X6_drawn_47 rfl ?_
  refine y_get C D_X6_drawn_48 fl_X6_25 I.o rfl ?_
  refine y_iload_n C D_X6_drawn_51 rfl ?_
  refine y_iload_n C D_X6_drawn_52 rfl ?_
  refine z_callV C D_X6_drawn_53 lk_X6_242 (c_X3_yearsByDraws hS I.sq hs0 I.yd hV h4 hn hs2) hS rfl rfl (Nat.le_of_ble_eq_true rfl) (Nat.le_of_ble_eq_true rfl) ⟨Nat.zero_le _, Nat.zero_le _⟩ ?_
  refine y_astore C D_X6_drawn_56 (by decide) (qok_s rfl rfl) ?_
  refine y_iload_n C D_X6_drawn_58 rfl ?_
  refine z_ifne0 C D_X6_drawn_59 ?_
  refine y_aload C D_X6_drawn_62 rfl ?_
  refine y_get C D_X6_drawn_64 fl_X6_147 (Yat.mk' (by omega)).o rfl ?_
  refine y_goto C D_X6_drawn_67 ?_
  exact y_iret C E D_X6_drawn_75 (rfl) (rfl)
theorem c_X6_drawn1 (I : CI G (h) (i) (A) (B) (fin) (n) (lf) (b) (y) (sz) (old) (w) (c) (f) (ln) (rz) (it) (im)) (hV : Va y) (h4 : y 4 ≤ 999) {n1 s : Nat} (hn : n1 ≤ 40) (hs1 : 1 ≤ s) (hs2 : s ≤ 999999) : Ct l G yX6_drawn 6 [qr G 0, .int (nI n1), .int (nI s), .int (nI 1)] (h) (some (.int (nI (smN (dwY y s n1) (dwY y s n1 3))))) (yc G h 89 (dwY y s n1)) := by
  refine ctm_intro (maxL := 5) kw_X6_drawn (by decide) (by decide) [some (qr G 0), some (.int (nI n1)), some (.int (nI s)), some (.int (nI 1)), none] rfl (Nat.le_of_ble_eq_true rfl) ?_
  intro X _ hcl hsl _ _ C E
  have hV0 := hV.1
  have hV3 := hV.2.2.2.1
  have hV5 := hV.k64
  obtain ⟨fw, hS⟩ := I.s
  obtain ⟨z0, hs0⟩ := I.s0
  have hL := I.L
  refine y_aload_n C D_X6_drawn_0 rfl ?_
  refine z_callV C D_X6_drawn_1 lk_X6_135 (c_X6_noYard I (by omega)) I.o rfl rfl (Nat.le_of_ble_eq_true rfl) (Nat.le_of_ble_eq_true rfl) ⟨Nat.zero_le _, Nat.zero_le _⟩ ?_
  refine y_top (bI_0 (by omega)) ?_
  refine z_ifeq0 C D_X6_drawn_4 ?_
  refine y_iload_n C D_X6_drawn_10 rfl ?_
  refine y_if_lt C D_X6_drawn_11 (n_lt0 (by omega)) (fun q => q.elim) (fun _ => ?_)
  refine y_iload_n C D_X6_drawn_14 rfl ?_
  refine y_bipush C D_X6_drawn_15 kb_40 ?_
  refine y_icmp_gt C D_X6_drawn_17 (n_lt (by omega) (by omega)) (fun c_17 => absurd c_17 (by omega)) (fun c_17 => ?_)
  refine y_iload_n C D_X6_drawn_20 rfl ?_
  refine y_iconst C D_X6_drawn_21 ki_1 ?_
  refine y_icmp_lt C D_X6_drawn_22 (n_lt (by omega) (by omega)) (fun c_22 => absurd c_22 (by omega)) (fun c_22 => ?_)
  refine y_iload_n C D_X6_drawn_25 rfl ?_
  refine y_ldc C D_X6_drawn_26 lk_X6_241 ?_
  rw [show (999999 : Int32) = nI 999999 from rfl]
  refine y_icmp_gt C D_X6_drawn_28 (n_lt (by omega) (by omega)) (fun c_28 => absurd c_28 (by omega)) (fun c_28 => ?_)
  refine y_iload_n C D_X6_drawn_31 rfl ?_
  refine y_if_lt C D_X6_drawn_32 (n_lt0 (by omega)) (fun q => q.elim) (fun _ => ?_)
  refine y_iload_n C D_X6_drawn_35 rfl ?_
  refine y_iconst C D_X6_drawn_36 ki_1 ?_
  refine y_icmp_le C D_X6_drawn_37 (n_le (by omega) (by omega)) (fun c_37 => ?_) (fun c_37 => absurd (by decide) c_37)
  refine y_aload_n C D_X6_drawn_43 rfl ?_
  refine y_get C D_X6_drawn_44 fl_X6_43 I.o rfl ?_
  refine y_aload_n C D_X6_drawn_47 rfl ?_
  refine y_get C D_X6_drawn_48 fl_X6_25 I.o rfl ?_
  refine y_iload_n C D_X6_drawn_51 rfl ?_
  refine y_iload_n C D_X6_drawn_52 rfl ?_
  refine z_callV C D_X6_drawn_53 lk_X6_242 (c_X3_yearsByDraws hS I.sq hs0 I.yd hV h4 hn hs2) hS rfl rfl (Nat.le_of_ble_eq_true rfl) (Nat.le_of_ble_eq_true rfl) ⟨Nat.zero_le _, Nat.zero_le _⟩ ?_
  refine y_astore C D_X6_drawn_56 (by decide) (qok_s rfl rfl) ?_
  refine y_iload_n C D_X6_drawn_58 rfl ?_
  refine z_ifne1 C D_X6_drawn_59 ?_
  refine y_aload C D_X6_drawn_70 rfl ?_
  refine z_callV C D_X6_drawn_72 lk_X6_246 (c_X5_allMemoryY (Yat.mk' (by omega)) (hV.dwY s n1)) (Yat.mk' (by omega)).o rfl rfl (Nat.le_of_ble_eq_true rfl) (Nat.le_of_ble_eq_true rfl) ⟨Nat.zero_le _, Nat.zero_le _⟩ ?_
  exact y_iret C E D_X6_drawn_75 (rfl) (rfl)
end
