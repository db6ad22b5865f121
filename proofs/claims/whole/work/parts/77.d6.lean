/-- the ring of the past against the reference's acts -/
def R3 (sz old : Nat) (w : Nat → Nat → Nat) (ac : Nat → Nat) : Prop := sz ≤ 24 ∧ old < 24 ∧ (∀ k, k < 24 → ∀ p, p < 5 → w k (11 + p) ≤ 1 ∧ w k (16 + p) ≤ 1) ∧ ∀ k, k < sz → Va (w ((old + k) % 24)) ∧ w ((old + k) % 24) 4 ≤ 999 ∧ ∀ j, j < 51 → w ((old + k) % 24) j = ac (51 * k + j)
theorem R3.kp {i : Nat → Nat} {A : Nat → Nat → Nat} {old : Nat} {w : Nat → Nat → Nat} (h : R3 (i 17) old w (A 16)) (hV : Va (A 5)) (h4 : A 5 4 ≤ 999) : R3 (ntI i 17) (kpO (i 17) old) (va_up w ((old + i 17) % 24) (A 5)) (ntA i A) := by
  obtain ⟨h1, h2, h3, h5⟩ := h
  have e17 : ntI i 17 = kpS (i 17) := up_eq _ _ _
  rw [e17]
  have hbits : ∀ k, k < 24 → ∀ p, p < 5 → va_up w ((old + i 17) % 24) (A 5) k (11 + p) ≤ 1 ∧ va_up w ((old + i 17) % 24) (A 5) k (16 + p) ≤ 1 := by
    intro k hk p hp
    by_cases c : k = (old + i 17) % 24
    · rw [c, up_eq]
      exact ⟨hV.sup p hp, hV.fev p hp⟩
    · rw [upw c]
      exact h3 k hk p hp
  unfold kpS kpO ntA
  by_cases c : i 17 < 24
  · rw [if_pos c, if_pos c, if_pos c]
    refine ⟨by omega, h2, hbits, fun k hk => ?_⟩
    by_cases d : k = i 17
    · subst d
      rw [up_eq]
      refine ⟨hV, h4, fun j hj => ?_⟩
      rw [cpy_in (by omega) (by omega)]
      exact congrArg (A 5) (by omega)
    · rw [upw (by omega)]
      obtain ⟨q1, q2, q3⟩ := h5 k (by omega)
      refine ⟨q1, q2, fun j hj => ?_⟩
      rw [cpy_out (by omega)]
      exact q3 j hj
  · rw [if_neg c, if_neg c, if_neg c]
    have e24 : i 17 = 24 := by omega
    refine ⟨by omega, by omega, hbits, fun k hk => ?_⟩
    by_cases d : k = 23
    · subst d
      rw [show ((old + 1) % 24 + 23) % 24 = (old + i 17) % 24 by omega, up_eq]
      refine ⟨hV, h4, fun j hj => ?_⟩
      rw [cpy_in (by omega) (by omega)]
      exact congrArg (A 5) (by omega)
    · rw [upw (by omega)]
      obtain ⟨q1, q2, q3⟩ := h5 (k + 1) (by omega)
      rw [show (old + (k + 1)) % 24 = ((old + 1) % 24 + k) % 24 by omega] at q1 q2 q3
      refine ⟨q1, q2, fun j hj => ?_⟩
      rw [cpy_out (by omega), cpy_in (by omega) (by omega), q3 j hj]
      exact congrArg (A 16) (by omega)
section
variable {l : Launch} {G : qG} {h h1 : List va_E} {i : Nat → Nat} {A : Nat → Nat → Nat} {B : Nat → Nat → Int32} {fin : Nat} {n : Nat} {lf : Nat} {b : Nat → Nat} {y : Nat → Nat} {sz : Nat} {old : Nat} {w : Nat → Nat → Nat} {c : Nat} {f : Nat → Nat} {ln : Nat → Int32} {rz : Nat → Int32} {it : Nat → Nat → Int32} {im : Nat → Nat → Nat}
theorem c_X6_yearsB (I : CI G (h) (i) (A) (B) (fin) (n) (lf) (b) (y) (sz) (old) (w) (c) (f) (ln) (rz) (it) (im)) (h01 : 1 ≤ y 0) (h0 : y 0 ≤ 6) {x : Int32} (hx : ¬ inr x 1 24) : Ct l G yX6_years 2 [qr G 0, .int (x)] (h) (some (.int (-1000001))) (h) := by
  refine ctm_intro (maxL := 3) kw_X6_years (by decide) (by decide) [some (qr G 0), some (.int (x)), none] rfl (Nat.le_of_ble_eq_true rfl) ?_
  intro X _ hcl hsl _ _ C E
  refine y_aload_n C D_X6_years_0 rfl ?_
  refine z_callV C D_X6_years_1 lk_X6_135 (c_X6_noYard I (by omega)) I.o rfl rfl (Nat.le_of_ble_eq_true rfl) (Nat.le_of_ble_eq_true rfl) ⟨Nat.zero_le _, Nat.zero_le _⟩ ?_
  refine y_top (bI_0 (by omega)) ?_
  refine z_ifeq0 C D_X6_years_4 ?_
  refine y_iload_n C D_X6_years_10 rfl ?_
  refine y_iconst C D_X6_years_11 ki_1 ?_
  refine y_icmp_lt C D_X6_years_12 Iff.rfl (fun c_12 => ?_) (fun c_12 => ?_)
  · refine y_ldc C D_X6_years_21 lk_X6_59 ?_
    exact y_iret C E D_X6_years_23 (rfl) (rfl)
  · refine y_iload_n C D_X6_years_15 rfl ?_
    refine y_bipush C D_X6_years_16 kb_24 ?_
    refine y_icmp_le C D_X6_years_18 Iff.rfl (fun c_18 => absurd ⟨Int32.not_lt.mp c_12, c_18⟩ hx) (fun c_18 => ?_)
    refine y_ldc C D_X6_years_21 lk_X6_59 ?_
    exact y_iret C E D_X6_years_23 (rfl) (rfl)
theorem c_X6_yearsF (I : CI G (h) (i) (A) (B) (fin) (n) (lf) (b) (y) (sz) (old) (w) (c) (f) (ln) (rz) (it) (im)) (hV : Va y) (h4 : y 4 ≤ 999) {n1 : Nat} (h1 : 1 ≤ n1) (h24 : n1 ≤ 24) (hf : 999 < y 4 + n1) : Ct l G yX6_years 2 [qr G 0, .int (nI n1)] (h) (some (.int (-1000003))) (h) := by
  refine ctm_intro (maxL := 3) kw_X6_years (by decide) (by decide) [some (qr G 0), some (.int (nI n1)), none] rfl (Nat.le_of_ble_eq_true rfl) ?_
  intro X _ hcl hsl _ _ C E
  have hV0 := hV.1
  have hV3 := hV.2.2.2.1
  have hV5 := hV.k64
  refine y_aload_n C D_X6_years_0 rfl ?_
  refine z_callV C D_X6_years_1 lk_X6_135 (c_X6_noYard I (by omega)) I.o rfl rfl (Nat.le_of_ble_eq_true rfl) (Nat.le_of_ble_eq_true rfl) ⟨Nat.zero_le _, Nat.zero_le _⟩ ?_
  refine y_top (bI_0 (by omega)) ?_
  refine z_ifeq0 C D_X6_years_4 ?_
  refine y_iload_n C D_X6_years_10 rfl ?_
  refine y_iconst C D_X6_years_11 ki_1 ?_
  refine y_icmp_lt C D_X6_years_12 (n_lt (by omega) (by omega)) (fun c_12 => absurd c_12 (by omega)) (fun c_12 => ?_)
  refine y_iload_n C D_X6_years_15 rfl ?_
  refine y_bipush C D_X6_years_16 kb_24 ?_
  refine y_icmp_le C D_X6_years_18 (n_le (by omega) (by omega)) (fun c_18 => ?_) (fun c_18 => absurd h24 c_18)
  refine y_aload_n C D_X6_years_24 rfl ?_
  refine y_get C D_X6_years_25 fl_X6_25 I.o rfl ?_
  refine y_get C D_X6_years_28 fl_X6_138 I.yd.o rfl ?_
  refine y_iload_n C D_X6_years_31 rfl ?_
  refine z_iadd C D_X6_years_32 ?_
  refine y_sipush C D_X6_years_33 kn_999 ?_
  refine y_icmp_le C D_X6_years_36 (n_le (by omega) (by omega)) (fun c_36 => absurd c_36 (by omega)) (fun c_36 => ?_)
  refine y_ldc C D_X6_years_39 lk_X6_107 ?_
  exact y_iret C E D_X6_years_41 (rfl) (rfl)
theorem lp_X6_years {i0 : Nat → Nat} {A0 : Nat → Nat → Nat} {B0 : Nat → Nat → Int32} {n1 : Nat} (h24 : n1 ≤ 24) : ∀ (m k : Nat) (i : Nat → Nat) (A : Nat → Nat → Nat) (h : List va_E) (old : Nat) (w : Nat → Nat → Nat), CI G (h) (i0) (A0) (B0) (i 3) (i 8) (i 9) (A 7) (A 5) (i 17) (old) (w) (i 24) (A 23) (ln) (rz) (it) (im) → R3 (i 17) old w (A 16) → Va (A 5) → A 5 4 + m ≤ 999 → k + m = n1 → ∃ h' old' w', CI G (h') (i0) (A0) (B0) (yI i m 3) (yI i m 8) (yI i m 9) (yA i A m 7) (yA i A m 5) (yI i m 17) (old') (w') (yI i m 24) (yA i A m 23) (ln) (rz) (it) (im) ∧ R3 (yI i m 17) old' w' (yA i A m 16) ∧ Va (yA i A m 5) ∧ yA i A m 5 4 ≤ 999 ∧ ∀ X : qX, X.2.1 = l → qC X G cX6_years 3 RX6 5 → qE X G (some .int) 0 0 (some (.int (nI (yA i A m 5 5)))) h' → Y X G 3 0 0 44 [some (qr G 0), some (.int (nI (n1))), some (.int (nI (k)))] [] h := by
  intro m
  induction m with
  | zero =>
    intro k i A h old w I hR hV h4 hk
    obtain rfl : k = n1 := by omega
    refine ⟨h, old, w, I, hR, hV, by show A 5 4 ≤ 999; omega, ?_⟩
    intro X hX C E
    subst hX
    refine y_iload_n C D_X6_years_44 rfl ?_
    refine y_iload_n C D_X6_years_45 rfl ?_
    refine y_icmp_ge C D_X6_years_46 (n_le (by omega) (by omega)) (fun c_46 => ?_) (fun c_46 => absurd (Nat.le_refl _) c_46)
    refine y_aload_n C D_X6_years_73 rfl ?_
    refine y_get C D_X6_years_74 fl_X6_25 I.o rfl ?_
    refine y_get C D_X6_years_77 fl_X6_147 I.yd.o rfl ?_
    exact y_iret C E D_X6_years_80 (rfl) (rfl)
  | succ m ih =>
    intro k i A h old w I hR hV h4 hk
    have I1 := I.kp
    have hL1 := I1.L
    have I2 := I1.y7 (z := yr (A 5))
    have hR2 := hR.kp hV (by omega)
    obtain ⟨h', old', w', J, hR', hV', h4', hY⟩ := ih (k + 1) (ntI i) (va_up (va_up A 16 (ntA i A)) 5 (yr (A 5))) _ _ _ I2 hR2 hV.yr (by show yr (A 5) 4 + m ≤ 999; rw [yr_4]; omega) (by omega)
    refine ⟨h', old', w', J, hR', hV', h4', fun X hX C E => ?_⟩
    have hY2 := hY X hX C E
    subst hX
    refine y_iload_n C D_X6_years_44 rfl ?_
    refine y_iload_n C D_X6_years_45 rfl ?_
    refine y_icmp_ge C D_X6_years_46 (n_le (by omega) (by omega)) (fun c_46 => absurd c_46 (by omega)) (fun c_46 => ?_)
    refine y_aload_n C D_X6_years_49 rfl ?_
    refine y_get C D_X6_years_50 fl_X6_32 I.o rfl ?_
    refine y_aload_n C D_X6_years_53 rfl ?_
    refine y_get C D_X6_years_54 fl_X6_25 I.o rfl ?_
    refine z_callVv C D_X6_years_57 lk_X6_141 (c_X1_kp I hV hR.2.1 hR.1) I.p rfl rfl (Nat.le_of_ble_eq_true rfl) (Nat.le_of_ble_eq_true rfl) ⟨Nat.zero_le _, Nat.zero_le _⟩ ?_
    refine y_aload_n C D_X6_years_60 rfl ?_
    refine y_get C D_X6_years_61 fl_X6_25 I1.o rfl ?_
    refine z_callVv C D_X6_years_64 lk_X6_144 (c_X5_passY I1.yd hV (by omega)) I1.yd.o rfl rfl (Nat.le_of_ble_eq_true rfl) (Nat.le_of_ble_eq_true rfl) ⟨Nat.zero_le _, Nat.zero_le _⟩ ?_
    refine z_iinc (n := 1) C D_X6_years_67 rfl (by decide) (qok_s rfl rfl) ?_
    refine y_goto C D_X6_years_70 ?_
    exact hY2
theorem c_X6_years {i0 : Nat → Nat} {A0 : Nat → Nat → Nat} {B0 : Nat → Nat → Int32} {n1 : Nat} (h1 : 1 ≤ n1) (h24 : n1 ≤ 24) (I : CI G (h) (i0) (A0) (B0) (i 3) (i 8) (i 9) (A 7) (A 5) (i 17) (old) (w) (i 24) (A 23) (ln) (rz) (it) (im)) (hR : R3 (i 17) old w (A 16)) (hV : Va (A 5)) (h4 : A 5 4 + n1 ≤ 999) : ∃ h' old' w', CI G (h') (i0) (A0) (B0) (yI i n1 3) (yI i n1 8) (yI i n1 9) (yA i A n1 7) (yA i A n1 5) (yI i n1 17) (old') (w') (yI i n1 24) (yA i A n1 23) (ln) (rz) (it) (im) ∧ R3 (yI i n1 17) old' w' (yA i A n1 16) ∧ Va (yA i A n1 5) ∧ yA i A n1 5 4 ≤ 999 ∧ Ct l G yX6_years 5 [qr G 0, .int (nI n1)] h (some (.int (nI (yA i A n1 5 5)))) h' := by
  obtain ⟨h', old', w', J, hR', hV', h4', hY⟩ := lp_X6_years (l := l) h24 n1 0 i A h old w I hR hV h4 (Nat.zero_add _)
  refine ⟨h', old', w', J, hR', hV', h4', ?_⟩
  have hV0 := hV.1
  refine ctm_intro (maxL := 3) kw_X6_years (by decide) (by decide) [some (qr G 0), some (.int (nI n1)), none] rfl (Nat.le_of_ble_eq_true rfl) ?_
  intro X hX hcl hsl _ _ C E
  have hY2 := hY X hX C E
  subst hX
  refine y_aload_n C D_X6_years_0 rfl ?_
  refine z_callV C D_X6_years_1 lk_X6_135 (c_X6_noYard I (by omega)) I.o rfl rfl (Nat.le_of_ble_eq_true rfl) (Nat.le_of_ble_eq_true rfl) ⟨Nat.zero_le _, Nat.zero_le _⟩ ?_
  refine y_top (bI_0 (by omega)) ?_
  refine z_ifeq0 C D_X6_years_4 ?_
  refine y_iload_n C D_X6_years_10 rfl ?_
  refine y_iconst C D_X6_years_11 ki_1 ?_
  refine y_icmp_lt C D_X6_years_12 (n_lt (by omega) (by omega)) (fun c_12 => absurd c_12 (by omega)) (fun c_12 => ?_)
  refine y_iload_n C D_X6_years_15 rfl ?_
  refine y_bipush C D_X6_years_16 kb_24 ?_
  refine y_icmp_le C D_X6_years_18 (n_le (by omega) (by omega)) (fun c_18 => ?_) (fun c_18 => absurd h24 c_18)
  refine y_aload_n C D_X6_years_24 rfl ?_
  refine y_get C D_X6_years_25 fl_X6_25 I.o rfl ?_
  refine y_get C D_X6_years_28 fl_X6_138 I.yd.o rfl ?_
  refine y_iload_n C D_X6_years_31 rfl ?_
  refine z_iadd C D_X6_years_32 ?_
  refine y_sipush C D_X6_years_33 kn_999 ?_
  refine y_icmp_le C D_X6_years_36 (n_le (by omega) (by omega)) (fun c_36 => ?_) (fun c_36 => absurd (by omega) c_36)
  refine y_iconst C D_X6_years_42 ki_0 ?_
  refine y_istore_n C D_X6_years_43 (by decide) (qok_s rfl rfl) ?_
  exact hY2
theorem c_X6_yardB (I : CI G (h) (i) (A) (B) (fin) (n) (lf) (b) (y) (sz) (old) (w) (c) (f) (ln) (rz) (it) (im)) (hn : n ≤ 120) (hb : ∀ k, b k < 256) {w0 : Nat} {r0 : Nat → Nat} (hr : ∀ k, k < 51 → r0 k = 0) (hq : ¬ (ps b n w0 r0).1 = true) (hle : (ps b n w0 r0).2.1 ≤ 120) : ∃ s2 e2 v2 x2 tok2 y2, Ct l G yX6_yard 7 [qr G 0] h (some (.int (-1000100 - nI (ps b n w0 r0).2.1))) (xc G (yc G h 3 y2) 0 (ps b n w0 r0).2.2.2 s2 e2 v2 x2 tok2 b) := by
  obtain ⟨ts, te, tv, tx, tok, hTp⟩ := I.t
  obtain ⟨z, hz⟩ := I.d
  have hL := I.L
  obtain ⟨lf2, e2, v2, x2, tok2, y2, r1, r2, hC⟩ := c_X4_read (l := l) (G := G) (h := h) (n := n) (lf := lf) (s := ts) (e := te) (v := tv) (x := tx) (tok := tok) (b := b) (y := z) (w := w0) (r0 := r0) (by omega) hn hb hr
  rw [hz.eq, xc_eq hTp I.tb, if_neg hq] at hC
  have e := r2 hq
  subst e
  refine ⟨(ps b n w0 r0).2.1, e2, v2, x2, tok2, y2, ?_⟩
  refine ctm_intro (maxL := 2) kw_X6_yard (by decide) (by decide) [some (qr G 0), none] rfl (Nat.le_of_ble_eq_true rfl) ?_
  intro X hX hcl hsl _ _ C E
  subst hX
  refine y_aload_n C D_X6_yard_0 rfl ?_
  refine y_get C D_X6_yard_1 fl_X6_18 I.o rfl ?_
  refine z_callV C D_X6_yard_4 lk_X6_108 (hC) hTp rfl rfl (Nat.le_of_ble_eq_true rfl) (Nat.le_of_ble_eq_true rfl) ⟨Nat.zero_le _, Nat.zero_le _⟩ ?_
  refine y_istore_n C D_X6_yard_7 (by decide) (qok_s rfl rfl) ?_
  refine y_iload_n C D_X6_yard_8 rfl ?_
  refine y_iconst C D_X6_yard_9 ki_m1 ?_
  refine y_icmp_eq C D_X6_yard_10 (show nI (ps b n w0 r0).2.1 = (-1 : Int32) ↔ False from iff_of_false (nI_m1 (by omega)) id) (fun c_10 => c_10.elim) (fun c_10 => ?_)
  refine y_ldc C D_X6_yard_13 lk_X6_112 ?_
  refine y_iload_n C D_X6_yard_15 rfl ?_
  refine y_isub C D_X6_yard_16 ?_
  exact y_iret C E D_X6_yard_17 (rfl) (rfl)
theorem c_X6_yard (I : CI G (h) (i) (A) (B) (fin) (n) (lf) (b) (y) (sz) (old) (w) (c) (f) (ln) (rz) (it) (im)) (hn : n ≤ 120) (hb : ∀ k, b k < 256) {w0 : Nat} {r0 Yn : Nat → Nat} (hr : ∀ k, k < 51 → r0 k = 0) (hq : (ps b n w0 r0).1 = true) (hV : Va Yn) (hY : ∀ k, k < 51 → dY (ps b n w0 r0).2.2.1 k = Yn k) : ∃ s2 e2 v2 x2 tok2, Ct l G yX6_yard 7 [qr G 0] h (some (.int (nI (Yn 3)))) ((yc G (xc G (yc G h 3 Yn) 0 lf s2 e2 v2 x2 tok2 b) 7 Yn).set 10 (pcl G 0 0)) := by
  obtain ⟨ts, te, tv, tx, tok, hTp⟩ := I.t
  obtain ⟨z, hz⟩ := I.d
  have hL := I.L
  obtain ⟨lf2, e2, v2, x2, tok2, y2, r1, r2, hC⟩ := c_X4_read (l := l) (G := G) (h := h) (n := n) (lf := lf) (s := ts) (e := te) (v := tv) (x := tx) (tok := tok) (b := b) (y := z) (w := w0) (r0 := r0) (by omega) hn hb hr
  rw [hz.eq, xc_eq hTp I.tb, if_pos hq] at hC
  obtain ⟨e, r3⟩ := r1 hq
  subst e
  rw [yc_c (y := y2) (z := Yn) (fun k hk => (r3 k hk).trans (hY k hk))] at hC
  have I1 := (I.y3 (z := Yn)).xca (n' := 0) (lf' := lf2) (s := (ps b n w0 r0).2.1) (e := e2) (v := v2) (x := x2) (tok := tok2) (b' := b)
  have hL1 := I1.L
  have hd1 : Yat G (xc G (yc G h 3 Yn) 0 lf2 (ps b n w0 r0).2.1 e2 v2 x2 tok2 b) 3 Yn := by
    rw [xy]
    exact Yat.mk' (by rw [xc_len]; omega)
  refine ⟨(ps b n w0 r0).2.1, e2, v2, x2, tok2, ?_⟩
  refine ctm_intro (maxL := 2) kw_X6_yard (by decide) (by decide) [some (qr G 0), none] rfl (Nat.le_of_ble_eq_true rfl) ?_
  intro X hX hcl hsl _ _ C E
  subst hX
  refine y_aload_n C D_X6_yard_0 rfl ?_
  refine y_get C D_X6_yard_1 fl_X6_18 I.o rfl ?_
  refine z_callV C D_X6_yard_4 lk_X6_108 (hC) hTp rfl rfl (Nat.le_of_ble_eq_true rfl) (Nat.le_of_ble_eq_true rfl) ⟨Nat.zero_le _, Nat.zero_le _⟩ ?_
  refine y_istore_n C D_X6_yard_7 (by decide) (qok_s rfl rfl) ?_
  refine y_iload_n C D_X6_yard_8 rfl ?_
  refine y_iconst C D_X6_yard_9 ki_m1 ?_
  refine y_icmp_eq C D_X6_yard_10 (iff_of_true (b := True) rfl trivial) (fun c_10 => ?_) (fun c_10 => absurd trivial c_10)
  refine y_aload_n C D_X6_yard_18 rfl ?_
  refine y_get C D_X6_yard_19 fl_X6_25 I1.o rfl ?_
  refine y_aload_n C D_X6_yard_22 rfl ?_
  refine y_get C D_X6_yard_23 fl_X6_18 I1.o rfl ?_
  refine y_get C D_X6_yard_26 fl_X6_113 (xc_o (by rw [yc_len]; omega)) rfl ?_
  refine z_callVv C D_X6_yard_29 lk_X6_116 (c_X5_becomeY I1.yd hd1 (by omega) hV.sup hV.fev) I1.yd.o rfl rfl (Nat.le_of_ble_eq_true rfl) (Nat.le_of_ble_eq_true rfl) ⟨Nat.zero_le _, Nat.zero_le _⟩ ?_
  have I2 := I1.y7 (z := Yn)
  have hL2 := I2.L
  have I3 := I2.p10 (z := 0) (z1 := 0)
  refine y_aload_n C D_X6_yard_32 rfl ?_
  refine y_get C D_X6_yard_33 fl_X6_32 I2.o rfl ?_
  refine z_callVv C D_X6_yard_36 lk_X6_120 (c_X1_clear I2.p I2.pq) I2.p rfl rfl (Nat.le_of_ble_eq_true rfl) (Nat.le_of_ble_eq_true rfl) ⟨Nat.zero_le _, Nat.zero_le _⟩ ?_
  refine y_aload_n C D_X6_yard_39 rfl ?_
  refine y_get C D_X6_yard_40 fl_X6_25 I3.o rfl ?_
  refine y_get C D_X6_yard_43 fl_X6_123 I3.yd.o rfl ?_
  exact y_iret C E D_X6_yard_46 (rfl) (rfl)
end
