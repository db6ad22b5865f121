theorem m1_lt {n : Nat} (h : n < 2 ^ 31) : (-1 : Int32) < nI n := by
  rw [Int32.lt_iff_toInt_lt, nI_int h]
  show (-1 : Int) < _
  omega
theorem m1_le {n : Nat} (h : n < 2 ^ 31) : (-1 : Int32) ≤ nI n := Int32.le_of_lt (m1_lt h)
section
variable {l : Launch} {G : qG} {h h1 : List va_E} {i : Nat → Nat} {A : Nat → Nat → Nat} {B : Nat → Nat → Int32} {fin : Nat} {n : Nat} {lf : Nat} {b : Nat → Nat} {y : Nat → Nat} {sz : Nat} {old : Nat} {w : Nat → Nat → Nat} {c : Nat} {f : Nat → Nat} {ln : Nat → Int32} {rz : Nat → Int32} {it : Nat → Nat → Int32} {im : Nat → Nat → Nat}
theorem c_X6_suppersB (I : CI G (h) (i) (A) (B) (fin) (n) (lf) (b) (y) (sz) (old) (w) (c) (f) (ln) (rz) (it) (im)) (h01 : 1 ≤ y 0) (h0 : y 0 ≤ 6) {x1 x2 x3 : Int32} (hx : ¬ isx x1 (2 ^ y 0) ∨ ¬ inr x2 1 3 ∨ x3 < -1) : Ct l G yX6_suppers 2 [qr G 0, .int (x1), .int (x2), .int (x3)] (h) (some (.int (-1000001))) (h) := by
  refine ctm_intro (maxL := 4) kw_X6_suppers (by decide) (by decide) [some (qr G 0), some (.int (x1)), some (.int (x2)), some (.int (x3))] rfl (Nat.le_of_ble_eq_true rfl) ?_
  intro X _ hcl hsl _ _ C E
  refine y_aload_n C D_X6_suppers_0 rfl ?_
  refine z_callV C D_X6_suppers_1 lk_X6_135 (c_X6_noYard I (by omega)) I.o rfl rfl (Nat.le_of_ble_eq_true rfl) (Nat.le_of_ble_eq_true rfl) ⟨Nat.zero_le _, Nat.zero_le _⟩ ?_
  refine y_top (bI_0 (by omega)) ?_
  refine z_ifeq0 C D_X6_suppers_4 ?_
  refine y_iload_n C D_X6_suppers_10 rfl ?_
  refine y_if_lt C D_X6_suppers_11 Iff.rfl (fun c_11 => ?_) (fun c_11 => ?_)
  · refine y_ldc C D_X6_suppers_43 lk_X6_59 ?_
    exact y_iret C E D_X6_suppers_45 (rfl) (rfl)
  · refine y_iload_n C D_X6_suppers_14 rfl ?_
    refine y_aload_n C D_X6_suppers_15 rfl ?_
    refine y_get C D_X6_suppers_16 fl_X6_25 I.o rfl ?_
    refine y_get C D_X6_suppers_19 fl_X6_201 I.yd.o rfl ?_
    refine z_callS C D_X6_suppers_22 lk_X6_159 (c_X6_bit (by omega)) rfl rfl (Nat.le_of_ble_eq_true rfl) (Nat.le_of_ble_eq_true rfl) ⟨Nat.zero_le _, Nat.zero_le _⟩ ?_
    refine y_icmp_ge C D_X6_suppers_25 Iff.rfl (fun c_25 => ?_) (fun c_25 => ?_)
    · refine y_ldc C D_X6_suppers_43 lk_X6_59 ?_
      exact y_iret C E D_X6_suppers_45 (rfl) (rfl)
    · refine y_iload_n C D_X6_suppers_28 rfl ?_
      refine y_iconst C D_X6_suppers_29 ki_1 ?_
      refine y_icmp_lt C D_X6_suppers_30 Iff.rfl (fun c_30 => ?_) (fun c_30 => ?_)
      · refine y_ldc C D_X6_suppers_43 lk_X6_59 ?_
        exact y_iret C E D_X6_suppers_45 (rfl) (rfl)
      · refine y_iload_n C D_X6_suppers_33 rfl ?_
        refine y_iconst C D_X6_suppers_34 ki_3 ?_
        refine y_icmp_gt C D_X6_suppers_35 Iff.rfl (fun c_35 => ?_) (fun c_35 => ?_)
        · refine y_ldc C D_X6_suppers_43 lk_X6_59 ?_
          exact y_iret C E D_X6_suppers_45 (rfl) (rfl)
        · refine y_iload_n C D_X6_suppers_38 rfl ?_
          refine y_iconst C D_X6_suppers_39 ki_m1 ?_
          refine y_icmp_ge C D_X6_suppers_40 Iff.rfl (fun c_40 => hx.elim (fun z => absurd ⟨Int32.not_lt.mp c_11, Int32.not_le.mp c_25⟩ z) (fun z => z.elim (fun z => absurd ⟨Int32.not_lt.mp c_30, Int32.not_lt.mp c_35⟩ z) (fun z => absurd c_40 (Int32.not_le.mpr z)))) (fun c_40 => ?_)
          refine y_ldc C D_X6_suppers_43 lk_X6_59 ?_
          exact y_iret C E D_X6_suppers_45 (rfl) (rfl)
theorem c_X6_suppersN (I : CI G (h) (i) (A) (B) (fin) (n) (lf) (b) (y) (sz) (old) (w) (c) (f) (ln) (rz) (it) (im)) (hV : Va y) (h4 : y 4 ≤ 999) {gs n1 b0 : Nat} (hg : gs < 2 ^ y 0) (h1 : 1 ≤ n1) (h3 : n1 ≤ 3) {x : Int32} (hx : ¬ x < -1) (hN : (fw y gs (2 ^ y 3) n1 (spn y (y 3)) b0 ((2 ^ y 3) ^ n1)).1 = none ∨ nI n1 ≤ x) : ∃ h', CI G (h') (i) (A) (B) (fin) (n) (lf) (b) (y) (sz) (old) (w) (c) (f) (ln) (rz) (it) (im) ∧ Ct l G yX6_suppers 9 [qr G 0, .int (nI gs), .int (nI n1), .int (x)] h (some (.int (-1000000))) h' := by
  have hV0 := hV.1
  have hV3 := hV.2.2.2.1
  have hV5 := hV.k64
  have hg64 : gs < 64 := Nat.lt_of_lt_of_le hg (Nat.pow_le_pow_right (by decide) hV0.2 : 2 ^ y 0 ≤ 2 ^ 6)
  have hpw : 2 ^ y 0 ≤ 64 := (Nat.pow_le_pow_right (by decide) hV0.2 : 2 ^ y 0 ≤ 2 ^ 6)
  obtain ⟨h', c', wf', gf', Z', S', I', R', hC⟩ := c_X3_find (l := l) (b0 := b0) I hV h4 hg64 h1 h3
  have hc16 := R'.le
  refine ⟨h', I', ?_⟩
  by_cases hlt : c' < 16
  · have hx2 : nI n1 ≤ x := by
      rcases hN with z | z
      · rcases R' with ⟨a, b⟩ | ⟨a, b, _⟩
        · omega
        · rw [z] at a
          cases a
      · exact z
    refine ctm_intro (maxL := 4) kw_X6_suppers (by decide) (by decide) [some (qr G 0), some (.int (nI gs)), some (.int (nI n1)), some (.int (x))] rfl (Nat.le_of_ble_eq_true rfl) ?_
    intro X hX hcl hsl _ _ C E
    subst hX
    obtain ⟨fw0, hS⟩ := I.s
    refine y_aload_n C D_X6_suppers_0 rfl ?_
    refine z_callV C D_X6_suppers_1 lk_X6_135 (c_X6_noYard I (by omega)) I.o rfl rfl (Nat.le_of_ble_eq_true rfl) (Nat.le_of_ble_eq_true rfl) ⟨Nat.zero_le _, Nat.zero_le _⟩ ?_
    refine y_top (bI_0 (by omega)) ?_
    refine z_ifeq0 C D_X6_suppers_4 ?_
    refine y_iload_n C D_X6_suppers_10 rfl ?_
    refine y_if_lt C D_X6_suppers_11 (n_lt0 (by omega)) (fun q => q.elim) (fun _ => ?_)
    refine y_iload_n C D_X6_suppers_14 rfl ?_
    refine y_aload_n C D_X6_suppers_15 rfl ?_
    refine y_get C D_X6_suppers_16 fl_X6_25 I.o rfl ?_
    refine y_get C D_X6_suppers_19 fl_X6_201 I.yd.o rfl ?_
    refine z_callS C D_X6_suppers_22 lk_X6_159 (c_X6_bit (by omega)) rfl rfl (Nat.le_of_ble_eq_true rfl) (Nat.le_of_ble_eq_true rfl) ⟨Nat.zero_le _, Nat.zero_le _⟩ ?_
    refine y_icmp_ge C D_X6_suppers_25 (n_le (by omega) (by omega)) (fun c_25 => absurd c_25 (by omega)) (fun c_25 => ?_)
    refine y_iload_n C D_X6_suppers_28 rfl ?_
    refine y_iconst C D_X6_suppers_29 ki_1 ?_
    refine y_icmp_lt C D_X6_suppers_30 (n_lt (by omega) (by omega)) (fun c_30 => absurd c_30 (by omega)) (fun c_30 => ?_)
    refine y_iload_n C D_X6_suppers_33 rfl ?_
    refine y_iconst C D_X6_suppers_34 ki_3 ?_
    refine y_icmp_gt C D_X6_suppers_35 (n_lt (by omega) (by omega)) (fun c_35 => absurd c_35 (by omega)) (fun c_35 => ?_)
    refine y_iload_n C D_X6_suppers_38 rfl ?_
    refine y_iconst C D_X6_suppers_39 ki_m1 ?_
    refine y_icmp_ge C D_X6_suppers_40 Iff.rfl (fun c_40 => ?_) (fun c_40 => absurd (Int32.not_lt.mp hx) c_40)
    refine y_aload_n C D_X6_suppers_46 rfl ?_
    refine y_get C D_X6_suppers_47 fl_X6_43 I.o rfl ?_
    refine y_aload_n C D_X6_suppers_50 rfl ?_
    refine y_get C D_X6_suppers_51 fl_X6_25 I.o rfl ?_
    refine y_iload_n C D_X6_suppers_54 rfl ?_
    refine y_iload_n C D_X6_suppers_55 rfl ?_
    refine z_callV C D_X6_suppers_56 lk_X6_204 (hC) hS rfl rfl (Nat.le_of_ble_eq_true rfl) (Nat.le_of_ble_eq_true rfl) ⟨Nat.zero_le _, Nat.zero_le _⟩ ?_
    refine y_top (bI_1 hlt) ?_
    refine z_ifeq1 C D_X6_suppers_59 ?_
    refine y_iload_n C D_X6_suppers_62 rfl ?_
    refine y_iload_n C D_X6_suppers_63 rfl ?_
    refine y_icmp_lt C D_X6_suppers_64 Iff.rfl (fun c_64 => absurd c_64 (Int32.not_lt.mpr hx2)) (fun c_64 => ?_)
    refine y_ldc C D_X6_suppers_67 lk_X6_208 ?_
    exact y_iret C E D_X6_suppers_69 (rfl) (rfl)
  · skip
    refine ctm_intro (maxL := 4) kw_X6_suppers (by decide) (by decide) [some (qr G 0), some (.int (nI gs)), some (.int (nI n1)), some (.int (x))] rfl (Nat.le_of_ble_eq_true rfl) ?_
    intro X hX hcl hsl _ _ C E
    subst hX
    obtain ⟨fw0, hS⟩ := I.s
    refine y_aload_n C D_X6_suppers_0 rfl ?_
    refine z_callV C D_X6_suppers_1 lk_X6_135 (c_X6_noYard I (by omega)) I.o rfl rfl (Nat.le_of_ble_eq_true rfl) (Nat.le_of_ble_eq_true rfl) ⟨Nat.zero_le _, Nat.zero_le _⟩ ?_
    refine y_top (bI_0 (by omega)) ?_
    refine z_ifeq0 C D_X6_suppers_4 ?_
    refine y_iload_n C D_X6_suppers_10 rfl ?_
    refine y_if_lt C D_X6_suppers_11 (n_lt0 (by omega)) (fun q => q.elim) (fun _ => ?_)
    refine y_iload_n C D_X6_suppers_14 rfl ?_
    refine y_aload_n C D_X6_suppers_15 rfl ?_
    refine y_get C D_X6_suppers_16 fl_X6_25 I.o rfl ?_
    refine y_get C D_X6_suppers_19 fl_X6_201 I.yd.o rfl ?_
    refine z_callS C D_X6_suppers_22 lk_X6_159 (c_X6_bit (by omega)) rfl rfl (Nat.le_of_ble_eq_true rfl) (Nat.le_of_ble_eq_true rfl) ⟨Nat.zero_le _, Nat.zero_le _⟩ ?_
    refine y_icmp_ge C D_X6_suppers_25 (n_le (by omega) (by omega)) (fun c_25 => absurd c_25 (by omega)) (fun c_25 => ?_)
    refine y_iload_n C D_X6_suppers_28 rfl ?_
    refine y_iconst C D_X6_suppers_29 ki_1 ?_
    refine y_icmp_lt C D_X6_suppers_30 (n_lt (by omega) (by omega)) (fun c_30 => absurd c_30 (by omega)) (fun c_30 => ?_)
    refine y_iload_n C D_X6_suppers_33 rfl ?_
    refine y_iconst C D_X6_suppers_34 ki_3 ?_
    refine y_icmp_gt C D_X6_suppers_35 (n_lt (by omega) (by omega)) (fun c_35 => absurd c_35 (by omega)) (fun c_35 => ?_)
    refine y_iload_n C D_X6_suppers_38 rfl ?_
    refine y_iconst C D_X6_suppers_39 ki_m1 ?_
    refine y_icmp_ge C D_X6_suppers_40 Iff.rfl (fun c_40 => ?_) (fun c_40 => absurd (Int32.not_lt.mp hx) c_40)
    refine y_aload_n C D_X6_suppers_46 rfl ?_
    refine y_get C D_X6_suppers_47 fl_X6_43 I.o rfl ?_
    refine y_aload_n C D_X6_suppers_50 rfl ?_
    refine y_get C D_X6_suppers_51 fl_X6_25 I.o rfl ?_
    refine y_iload_n C D_X6_suppers_54 rfl ?_
    refine y_iload_n C D_X6_suppers_55 rfl ?_
    refine z_callV C D_X6_suppers_56 lk_X6_204 (hC) hS rfl rfl (Nat.le_of_ble_eq_true rfl) (Nat.le_of_ble_eq_true rfl) ⟨Nat.zero_le _, Nat.zero_le _⟩ ?_
    refine y_top (bI_0 hlt) ?_
    refine z_ifeq0 C D_X6_suppers_59 ?_
    refine y_ldc C D_X6_suppers_67 lk_X6_208 ?_
    exact y_iret C E D_X6_suppers_69 (rfl) (rfl)
theorem c_X6_suppers_m (I : CI G (h) (i) (A) (B) (fin) (n) (lf) (b) (y) (sz) (old) (w) (c) (f) (ln) (rz) (it) (im)) (hV : Va y) (h4 : y 4 ≤ 999) {gs n1 b0 : Nat} (hg : gs < 2 ^ y 0) (h1 : 1 ≤ n1) (h3 : n1 ≤ 3) {q : Nat} (hL : (fw y gs (2 ^ y 3) n1 (spn y (y 3)) b0 ((2 ^ y 3) ^ n1)).1 = some q) : ∃ h', CI G (h') (i) (A) (B) (fin) (n) (lf) (b) (y) (sz) (old) (w) (c) (f) (ln) (rz) (it) (im) ∧ Ct l G yX6_suppers 9 [qr G 0, .int (nI gs), .int (nI n1), .int (-1)] h (some (.int (nI q))) h' := by
  have hV0 := hV.1
  have hV3 := hV.2.2.2.1
  have hV5 := hV.k64
  have hg64 : gs < 64 := Nat.lt_of_lt_of_le hg (Nat.pow_le_pow_right (by decide) hV0.2 : 2 ^ y 0 ≤ 2 ^ 6)
  have hpw : 2 ^ y 0 ≤ 64 := (Nat.pow_le_pow_right (by decide) hV0.2 : 2 ^ y 0 ≤ 2 ^ 6)
  obtain ⟨h', c', wf', gf', Z', S', I', R', hC⟩ := c_X3_find (l := l) (b0 := b0) I hV h4 hg64 h1 h3
  have hc16 := R'.le
  refine ⟨h', I', ?_⟩
  have hcq : c' = q ∧ q < 16 ∧ ∀ t, t < n1 → wf' t = wy (2 ^ y 3) n1 (fw y gs (2 ^ y 3) n1 (spn y (y 3)) b0 ((2 ^ y 3) ^ n1)).2 t := by
    rcases R' with ⟨a, b⟩ | ⟨a, b, c2⟩
    · rw [hL] at a
      cases a
    · rw [hL] at a
      cases a
      exact ⟨rfl, b, c2⟩
  obtain ⟨rfl, hlt, hwy⟩ := hcq
  refine ctm_intro (maxL := 4) kw_X6_suppers (by decide) (by decide) [some (qr G 0), some (.int (nI gs)), some (.int (nI n1)), some (.int (-1))] rfl (Nat.le_of_ble_eq_true rfl) ?_
  intro X hX hcl hsl _ _ C E
  subst hX
  obtain ⟨fw0, hS⟩ := I.s
  refine y_aload_n C D_X6_suppers_0 rfl ?_
  refine z_callV C D_X6_suppers_1 lk_X6_135 (c_X6_noYard I (by omega)) I.o rfl rfl (Nat.le_of_ble_eq_true rfl) (Nat.le_of_ble_eq_true rfl) ⟨Nat.zero_le _, Nat.zero_le _⟩ ?_
  refine y_top (bI_0 (by omega)) ?_
  refine z_ifeq0 C D_X6_suppers_4 ?_
  refine y_iload_n C D_X6_suppers_10 rfl ?_
  refine y_if_lt C D_X6_suppers_11 (n_lt0 (by omega)) (fun q => q.elim) (fun _ => ?_)
  refine y_iload_n C D_X6_suppers_14 rfl ?_
  refine y_aload_n C D_X6_suppers_15 rfl ?_
  refine y_get C D_X6_suppers_16 fl_X6_25 I.o rfl ?_
  refine y_get C D_X6_suppers_19 fl_X6_201 I.yd.o rfl ?_
  refine z_callS C D_X6_suppers_22 lk_X6_159 (c_X6_bit (by omega)) rfl rfl (Nat.le_of_ble_eq_true rfl) (Nat.le_of_ble_eq_true rfl) ⟨Nat.zero_le _, Nat.zero_le _⟩ ?_
  refine y_icmp_ge C D_X6_suppers_25 (n_le (by omega) (by omega)) (fun c_25 => absurd c_25 (by omega)) (fun c_25 => ?_)
  refine y_iload_n C D_X6_suppers_28 rfl ?_
  refine y_iconst C D_X6_suppers_29 ki_1 ?_
  refine y_icmp_lt C D_X6_suppers_30 (n_lt (by omega) (by omega)) (fun c_30 => absurd c_30 (by omega)) (fun c_30 => ?_)
  refine y_iload_n C D_X6_suppers_33 rfl ?_
  refine y_iconst C D_X6_suppers_34 ki_3 ?_
  refine y_icmp_gt C D_X6_suppers_35 (n_lt (by omega) (by omega)) (fun c_35 => absurd c_35 (by omega)) (fun c_35 => ?_)
  refine y_iload_n C D_X6_suppers_38 rfl ?_
  refine y_iconst C D_X6_suppers_39 ki_m1 ?_
  refine y_icmp_ge C D_X6_suppers_40 Iff.rfl (fun c_40 => ?_) (fun c_40 => absurd (by decide) c_40)
  refine y_aload_n C D_X6_suppers_46 rfl ?_
  refine y_get C D_X6_suppers_47 fl_X6_43 I.o rfl ?_
  refine y_aload_n C D_X6_suppers_50 rfl ?_
  refine y_get C D_X6_suppers_51 fl_X6_25 I.o rfl ?_
  refine y_iload_n C D_X6_suppers_54 rfl ?_
  refine y_iload_n C D_X6_suppers_55 rfl ?_
  refine z_callV C D_X6_suppers_56 lk_X6_204 (hC) hS rfl rfl (Nat.le_of_ble_eq_true rfl) (Nat.le_of_ble_eq_true rfl) ⟨Nat.zero_le _, Nat.zero_le _⟩ ?_
  refine y_top (bI_1 hlt) ?_
  refine z_ifeq1 C D_X6_suppers_59 ?_
  refine y_iload_n C D_X6_suppers_62 rfl ?_
  refine y_iload_n C D_X6_suppers_63 rfl ?_
  refine y_icmp_lt C D_X6_suppers_64 Iff.rfl (fun c_64 => ?_) (fun c_64 => absurd (m1_lt (by omega)) c_64)
  refine y_iload_n C D_X6_suppers_70 rfl ?_
  refine z_ifgeM C D_X6_suppers_71 ?_
  refine y_aload_n C D_X6_suppers_74 rfl ?_
  refine y_get C D_X6_suppers_75 fl_X6_43 I'.o rfl ?_
  refine y_get C D_X6_suppers_78 fl_X6_209 S'.o rfl ?_
  refine y_goto C D_X6_suppers_81 ?_
  exact y_iret C E D_X6_suppers_93 (rfl) (rfl)
theorem c_X6_suppers_j (I : CI G (h) (i) (A) (B) (fin) (n) (lf) (b) (y) (sz) (old) (w) (c) (f) (ln) (rz) (it) (im)) (hV : Va y) (h4 : y 4 ≤ 999) {gs n1 b0 : Nat} (hg : gs < 2 ^ y 0) (h1 : 1 ≤ n1) (h3 : n1 ≤ 3) {q t : Nat} (hL : (fw y gs (2 ^ y 3) n1 (spn y (y 3)) b0 ((2 ^ y 3) ^ n1)).1 = some q) (ht : t < n1) : ∃ h', CI G (h') (i) (A) (B) (fin) (n) (lf) (b) (y) (sz) (old) (w) (c) (f) (ln) (rz) (it) (im) ∧ Ct l G yX6_suppers 9 [qr G 0, .int (nI gs), .int (nI n1), .int (nI t)] h (some (.int (nI (wy (2 ^ y 3) n1 (fw y gs (2 ^ y 3) n1 (spn y (y 3)) b0 ((2 ^ y 3) ^ n1)).2 t)))) h' := by
  have hV0 := hV.1
  have hV3 := hV.2.2.2.1
  have hV5 := hV.k64
  have hg64 : gs < 64 := Nat.lt_of_lt_of_le hg (Nat.pow_le_pow_right (by decide) hV0.2 : 2 ^ y 0 ≤ 2 ^ 6)
  have hpw : 2 ^ y 0 ≤ 64 := (Nat.pow_le_pow_right (by decide) hV0.2 : 2 ^ y 0 ≤ 2 ^ 6)
  obtain ⟨h', c', wf', gf', Z', S', I', R', hC⟩ := c_X3_find (l := l) (b0 := b0) I hV h4 hg64 h1 h3
  have hc16 := R'.le
  refine ⟨h', I', ?_⟩
  have hcq : c' = q ∧ q < 16 ∧ ∀ t, t < n1 → wf' t = wy (2 ^ y 3) n1 (fw y gs (2 ^ y 3) n1 (spn y (y 3)) b0 ((2 ^ y 3) ^ n1)).2 t := by
    rcases R' with ⟨a, b⟩ | ⟨a, b, c2⟩
    · rw [hL] at a
      cases a
    · rw [hL] at a
      cases a
      exact ⟨rfl, b, c2⟩
  obtain ⟨rfl, hlt, hwy⟩ := hcq
  refine ctm_intro (maxL := 4) kw_X6_suppers (by decide) (by decide) [some (qr G 0), some (.int (nI gs)), some (.int (nI n1)), some (.int (nI t))] rfl (Nat.le_of_ble_eq_true rfl) ?_
  intro X hX hcl hsl _ _ C E
  subst hX
  obtain ⟨fw0, hS⟩ := I.s
  refine y_aload_n C D_X6_suppers_0 rfl ?_
  refine z_callV C D_X6_suppers_1 lk_X6_135 (c_X6_noYard I (by omega)) I.o rfl rfl (Nat.le_of_ble_eq_true rfl) (Nat.le_of_ble_eq_true rfl) ⟨Nat.zero_le _, Nat.zero_le _⟩ ?_
  refine y_top (bI_0 (by omega)) ?_
  refine z_ifeq0 C D_X6_suppers_4 ?_
  refine y_iload_n C D_X6_suppers_10 rfl ?_
  refine y_if_lt C D_X6_suppers_11 (n_lt0 (by omega)) (fun q => q.elim) (fun _ => ?_)
  refine y_iload_n C D_X6_suppers_14 rfl ?_
  refine y_aload_n C D_X6_suppers_15 rfl ?_
  refine y_get C D_X6_suppers_16 fl_X6_25 I.o rfl ?_
  refine y_get C D_X6_suppers_19 fl_X6_201 I.yd.o rfl ?_
  refine z_callS C D_X6_suppers_22 lk_X6_159 (c_X6_bit (by omega)) rfl rfl (Nat.le_of_ble_eq_true rfl) (Nat.le_of_ble_eq_true rfl) ⟨Nat.zero_le _, Nat.zero_le _⟩ ?_
  refine y_icmp_ge C D_X6_suppers_25 (n_le (by omega) (by omega)) (fun c_25 => absurd c_25 (by omega)) (fun c_25 => ?_)
  refine y_iload_n C D_X6_suppers_28 rfl ?_
  refine y_iconst C D_X6_suppers_29 ki_1 ?_
  refine y_icmp_lt C D_X6_suppers_30 (n_lt (by omega) (by omega)) (fun c_30 => absurd c_30 (by omega)) (fun c_30 => ?_)
  refine y_iload_n C D_X6_suppers_33 rfl ?_
  refine y_iconst C D_X6_suppers_34 ki_3 ?_
  refine y_icmp_gt C D_X6_suppers_35 (n_lt (by omega) (by omega)) (fun c_35 => absurd c_35 (by omega)) (fun c_35 => ?_)
  refine y_iload_n C D_X6_suppers_38 rfl ?_
  refine y_iconst C D_X6_suppers_39 ki_m1 ?_
  refine y_icmp_ge C D_X6_suppers_40 Iff.rfl (fun c_40 => ?_) (fun c_40 => absurd (m1_le (by omega)) c_40)
  refine y_aload_n C D_X6_suppers_46 rfl ?_
  refine y_get C D_X6_suppers_47 fl_X6_43 I.o rfl ?_
  refine y_aload_n C D_X6_suppers_50 rfl ?_
  refine y_get C D_X6_suppers_51 fl_X6_25 I.o rfl ?_
  refine y_iload_n C D_X6_suppers_54 rfl ?_
  refine y_iload_n C D_X6_suppers_55 rfl ?_
  refine z_callV C D_X6_suppers_56 lk_X6_204 (hC) hS rfl rfl (Nat.le_of_ble_eq_true rfl) (Nat.le_of_ble_eq_true rfl) ⟨Nat.zero_le _, Nat.zero_le _⟩ ?_
  refine y_top (bI_1 hlt) ?_
  refine z_ifeq1 C D_X6_suppers_59 ?_
  refine y_iload_n C D_X6_suppers_62 rfl ?_
  refine y_iload_n C D_X6_suppers_63 rfl ?_
  refine y_icmp_lt C D_X6_suppers_64 (n_lt (by omega) (by omega)) (fun c_64 => ?_) (fun c_64 => absurd ht c_64)
  refine y_iload_n C D_X6_suppers_70 rfl ?_
  refine y_if_ge C D_X6_suppers_71 (n_ge0 (by omega)) (fun _ => ?_) (fun q => absurd trivial q)
  refine y_aload_n C D_X6_suppers_84 rfl ?_
  refine y_get C D_X6_suppers_85 fl_X6_43 I'.o rfl ?_
  refine y_get C D_X6_suppers_88 fl_X6_212 S'.o rfl ?_
  refine y_iload_n C D_X6_suppers_91 rfl ?_
  refine z_ild C D_X6_suppers_92 S'.w (by omega) (by decide) (tr_at (by omega)) ?_
  exact y_iret C E D_X6_suppers_93 (by rw [hwy t ht]) (rfl)
end
