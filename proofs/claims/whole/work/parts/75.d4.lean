theorem neg_le {x : Int32} (h : x < 0) {n : Nat} (hn : n < 2 ^ 31) : x ≤ nI n := by
  rw [Int32.lt_iff_toInt_lt] at h
  rw [Int32.le_iff_toInt_le, nI_int hn]
  have : (0 : Int32).toInt = 0 := rfl
  omega
theorem hld_isx {x : Int32} {z : Nat} (hz : z ≤ 40) : hld x (nI 1) z ↔ isx x z := by
  rw [hld_plc (by decide) hz]
  unfold plc
  constructor
  · intro q
    rw [show z - 1 + 1 = z by omega] at q
    exact q.2
  · intro q
    have h1 : 1 ≤ z := by
      obtain ⟨j, h1, _⟩ := isx_of (by omega) q
      omega
    rw [show z - 1 + 1 = z by omega]
    exact ⟨h1, q⟩
theorem tr_cpy {f g : Nat → Int32} {o q n : Nat} (h1 : o + n ≤ 40) (h2 : q + n ≤ 40) : va_cpy (tr 40 f) (tr 40 g) o q n = tr 40 (va_cpy f g o q n) := by
  funext k
  by_cases c : q ≤ k ∧ k < q + n
  · rw [cpy_in c.1 c.2, tr_at (by omega), tr_at (by omega), cpy_in c.1 c.2]
  · rw [cpy_out (by omega)]
    unfold tr
    split
    · rw [cpy_out (by omega)]
    · rfl
section
variable {l : Launch} {G : qG} {h h1 : List va_E} {i : Nat → Nat} {A : Nat → Nat → Nat} {B : Nat → Nat → Int32} {fin : Nat} {n : Nat} {lf : Nat} {b : Nat → Nat} {y : Nat → Nat} {sz : Nat} {old : Nat} {w : Nat → Nat → Nat} {c : Nat} {f : Nat → Nat} {ln : Nat → Int32} {rz : Nat → Int32} {it : Nat → Nat → Int32} {im : Nat → Nat → Nat}
theorem c_X6_rowB (I : CI G (h) (i) (A) (B) (fin) (n) (lf) (b) (y) (sz) (old) (w) (c) (f) (ln) (rz) (it) (im)) {x1 x2 x3 : Int32} (hx : ¬ isx x1 8 ∨ ¬ isx x2 3 ∨ nI 40 < x3) : Ct l G yX6_row 2 [qr G 0, .int (x1), .int (x2), .int (x3)] (h) (some (.int (-1000001))) (h) := by
  refine ctm_intro (maxL := 4) kw_X6_row (by decide) (by decide) [some (qr G 0), some (.int (x1)), some (.int (x2)), some (.int (x3))] rfl (Nat.le_of_ble_eq_true rfl) ?_
  intro X _ hcl hsl _ _ C E
  refine y_iload_n C D_X6_row_0 rfl ?_
  refine z_callS C D_X6_row_1 lk_X6_55 (c_X6_isRow) rfl rfl (Nat.le_of_ble_eq_true rfl) (Nat.le_of_ble_eq_true rfl) ⟨Nat.zero_le _, Nat.zero_le _⟩ ?_
  refine z_ifeqB C D_X6_row_4 (fun c_4 => ?_) (fun c_4 => ?_)
  · refine y_ldc C D_X6_row_22 lk_X6_59 ?_
    exact y_iret C E D_X6_row_24 (rfl) (rfl)
  · refine y_iload_n C D_X6_row_7 rfl ?_
    refine y_if_lt C D_X6_row_8 Iff.rfl (fun c_8 => ?_) (fun c_8 => ?_)
    · refine y_ldc C D_X6_row_22 lk_X6_59 ?_
      exact y_iret C E D_X6_row_24 (rfl) (rfl)
    · refine y_iload_n C D_X6_row_11 rfl ?_
      refine y_iconst C D_X6_row_12 ki_2 ?_
      refine y_icmp_gt C D_X6_row_13 Iff.rfl (fun c_13 => ?_) (fun c_13 => ?_)
      · refine y_ldc C D_X6_row_22 lk_X6_59 ?_
        exact y_iret C E D_X6_row_24 (rfl) (rfl)
      · refine y_iload_n C D_X6_row_16 rfl ?_
        refine y_bipush C D_X6_row_17 kb_40 ?_
        refine y_icmp_le C D_X6_row_19 Iff.rfl (fun c_19 => hx.elim (fun z => absurd c_4 z) (fun z => z.elim (fun z => absurd ⟨Int32.not_lt.mp c_8, (ileS (by decide)).mp (Int32.not_lt.mp c_13)⟩ z) (fun z => absurd c_19 (Int32.not_le.mpr z)))) (fun c_19 => ?_)
        refine y_ldc C D_X6_row_22 lk_X6_59 ?_
        exact y_iret C E D_X6_row_24 (rfl) (rfl)
theorem c_X6_rowZ (I : CI G (h) (i) (A) (B) (fin) (n) (lf) (b) (y) (sz) (old) (w) (c) (f) (ln) (rz) (it) (im)) {q la : Nat} {x : Int32} (hq : q < 8) (hla : la < 3) (hx : x < 0) : Ct l G yX6_row 2 [qr G 0, .int (nI q), .int (nI la), .int (x)] (h) (some (.int (-1000010 - nI 4))) (h.set 0 (dcl G 4)) := by
  refine ctm_intro (maxL := 4) kw_X6_row (by decide) (by decide) [some (qr G 0), some (.int (nI q)), some (.int (nI la)), some (.int (x))] rfl (Nat.le_of_ble_eq_true rfl) ?_
  intro X _ hcl hsl _ _ C E
  refine y_iload_n C D_X6_row_0 rfl ?_
  refine z_callS C D_X6_row_1 lk_X6_55 (c_X6_isRow) rfl rfl (Nat.le_of_ble_eq_true rfl) (Nat.le_of_ble_eq_true rfl) ⟨Nat.zero_le _, Nat.zero_le _⟩ ?_
  refine y_top (bI_1 (isx_n (by omega) hq)) ?_
  refine z_ifeq1 C D_X6_row_4 ?_
  refine y_iload_n C D_X6_row_7 rfl ?_
  refine y_if_lt C D_X6_row_8 (n_lt0 (by omega)) (fun q => q.elim) (fun _ => ?_)
  refine y_iload_n C D_X6_row_11 rfl ?_
  refine y_iconst C D_X6_row_12 ki_2 ?_
  refine y_icmp_gt C D_X6_row_13 (n_lt (by omega) (by omega)) (fun c_13 => absurd c_13 (by omega)) (fun c_13 => ?_)
  refine y_iload_n C D_X6_row_16 rfl ?_
  refine y_bipush C D_X6_row_17 kb_40 ?_
  refine y_icmp_le C D_X6_row_19 Iff.rfl (fun c_19 => ?_) (fun c_19 => absurd (neg_le hx (by decide)) c_19)
  refine y_iload_n C D_X6_row_25 rfl ?_
  refine y_if_ge C D_X6_row_26 Iff.rfl (fun c_26 => absurd c_26 (Int32.not_le.mpr hx)) (fun c_26 => ?_)
  refine y_aload_n C D_X6_row_29 rfl ?_
  refine y_iconst C D_X6_row_30 ki_4 ?_
  refine z_callV C D_X6_row_31 lk_X6_60 (c_X6_found I) I.o rfl rfl (Nat.le_of_ble_eq_true rfl) (Nat.le_of_ble_eq_true rfl) ⟨Nat.zero_le _, Nat.zero_le _⟩ ?_
  exact y_iret C E D_X6_row_34 (rfl) (rfl)
theorem c_X6_row (I : CI G (h) (i) (A) (B) (fin) (n) (lf) (b) (y) (sz) (old) (w) (c) (f) (ln) (rz) (it) (im)) {q la n1 : Nat} (hq : q < 8) (hla : la < 3) (hn : n1 ≤ 40) : Ct l G yX6_row 2 [qr G 0, .int (nI q), .int (nI la), .int (nI n1)] (h) (some (.int (nI n1))) ((rc G h (100 + 2 * q) (nI la) (nI n1) (fun _ => 0)).set 0 (dcl G 0)) := by
  refine ctm_intro (maxL := 4) kw_X6_row (by decide) (by decide) [some (qr G 0), some (.int (nI q)), some (.int (nI la)), some (.int (nI n1))] rfl (Nat.le_of_ble_eq_true rfl) ?_
  intro X _ hcl hsl _ _ C E
  refine y_iload_n C D_X6_row_0 rfl ?_
  refine z_callS C D_X6_row_1 lk_X6_55 (c_X6_isRow) rfl rfl (Nat.le_of_ble_eq_true rfl) (Nat.le_of_ble_eq_true rfl) ⟨Nat.zero_le _, Nat.zero_le _⟩ ?_
  refine y_top (bI_1 (isx_n (by omega) hq)) ?_
  refine z_ifeq1 C D_X6_row_4 ?_
  refine y_iload_n C D_X6_row_7 rfl ?_
  refine y_if_lt C D_X6_row_8 (n_lt0 (by omega)) (fun q => q.elim) (fun _ => ?_)
  refine y_iload_n C D_X6_row_11 rfl ?_
  refine y_iconst C D_X6_row_12 ki_2 ?_
  refine y_icmp_gt C D_X6_row_13 (n_lt (by omega) (by omega)) (fun c_13 => absurd c_13 (by omega)) (fun c_13 => ?_)
  refine y_iload_n C D_X6_row_16 rfl ?_
  refine y_bipush C D_X6_row_17 kb_40 ?_
  refine y_icmp_le C D_X6_row_19 (n_le (by omega) (by omega)) (fun c_19 => ?_) (fun c_19 => absurd hn c_19)
  refine y_iload_n C D_X6_row_25 rfl ?_
  refine y_if_ge C D_X6_row_26 (n_ge0 (by omega)) (fun _ => ?_) (fun q => absurd trivial q)
  refine y_aload_n C D_X6_row_35 rfl ?_
  refine y_get C D_X6_row_36 fl_X6_11 I.o rfl ?_
  refine y_iload_n C D_X6_row_39 rfl ?_
  refine z_ald (t0 := 2) C D_X6_row_40 I.rs rfl (by omega) (by decide) (rfR_at (by omega)) ?_
  refine y_iload_n C D_X6_row_41 rfl ?_
  refine y_iload_n C D_X6_row_42 rfl ?_
  refine z_callVv C D_X6_row_43 lk_X6_64 (c_X2_layY (I.rw q hq)) (I.rw q hq).1 rfl rfl (Nat.le_of_ble_eq_true rfl) (Nat.le_of_ble_eq_true rfl) ⟨Nat.zero_le _, Nat.zero_le _⟩ ?_
  have I1 := I.rca hq (x1 := nI la) (x2 := nI n1) (g := fun _ => 0)
  refine y_aload_n C D_X6_row_46 rfl ?_
  refine y_iload_n C D_X6_row_47 rfl ?_
  refine z_callV C D_X6_row_48 lk_X6_68 (c_X6_sound I1) I1.o rfl rfl (Nat.le_of_ble_eq_true rfl) (Nat.le_of_ble_eq_true rfl) ⟨Nat.zero_le _, Nat.zero_le _⟩ ?_
  exact y_iret C E D_X6_row_51 (rfl) (rfl)
theorem c_X6_setB (I : CI G (h) (i) (A) (B) (fin) (n) (lf) (b) (y) (sz) (old) (w) (c) (f) (ln) (rz) (it) (im)) {x1 x2 x3 : Int32} (hx : ¬ isx x1 8) : Ct l G yX6_set 2 [qr G 0, .int (x1), .int (x2), .int (x3)] (h) (some (.int (-1000001))) (h) := by
  refine ctm_intro (maxL := 6) kw_X6_set (by decide) (by decide) [some (qr G 0), some (.int (x1)), some (.int (x2)), some (.int (x3)), none, none] rfl (Nat.le_of_ble_eq_true rfl) ?_
  intro X _ hcl hsl _ _ C E
  refine y_iload_n C D_X6_set_0 rfl ?_
  refine z_callS C D_X6_set_1 lk_X6_55 (c_X6_isRow) rfl rfl (Nat.le_of_ble_eq_true rfl) (Nat.le_of_ble_eq_true rfl) ⟨Nat.zero_le _, Nat.zero_le _⟩ ?_
  refine z_ifneB C D_X6_set_4 (fun c_4 => absurd c_4 hx) (fun c_4 => ?_)
  refine y_ldc C D_X6_set_7 lk_X6_59 ?_
  exact y_iret C E D_X6_set_9 (rfl) (rfl)
theorem nI_m1 {n : Nat} (h : n < 2 ^ 31) : ¬ nI n = -1 := fun z => by
  have := congrArg Int32.toInt z
  rw [nI_int h] at this
  exact absurd this (by show ¬ ((n : Nat) : Int) = -1; omega)
theorem c_X6_setN (I : CI G (h) (i) (A) (B) (fin) (n) (lf) (b) (y) (sz) (old) (w) (c) (f) (ln) (rz) (it) (im)) {q : Nat} {x v : Int32} (hq : q < 8) (hl : ln q = -1) : Ct l G yX6_set 2 [qr G 0, .int (nI q), .int (x), .int (v)] (h) (some (.int (-1000010 - nI 1))) (h.set 0 (dcl G 1)) := by
  refine ctm_intro (maxL := 6) kw_X6_set (by decide) (by decide) [some (qr G 0), some (.int (nI q)), some (.int (x)), some (.int (v)), none, none] rfl (Nat.le_of_ble_eq_true rfl) ?_
  intro X _ hcl hsl _ _ C E
  refine y_iload_n C D_X6_set_0 rfl ?_
  refine z_callS C D_X6_set_1 lk_X6_55 (c_X6_isRow) rfl rfl (Nat.le_of_ble_eq_true rfl) (Nat.le_of_ble_eq_true rfl) ⟨Nat.zero_le _, Nat.zero_le _⟩ ?_
  refine y_top (bI_1 (isx_n (by omega) hq)) ?_
  refine z_ifne1 C D_X6_set_4 ?_
  refine y_aload_n C D_X6_set_10 rfl ?_
  refine y_get C D_X6_set_11 fl_X6_11 I.o rfl ?_
  refine y_iload_n C D_X6_set_14 rfl ?_
  refine z_ald (t0 := 2) C D_X6_set_15 I.rs rfl (by omega) (by decide) (rfR_at (by omega)) ?_
  refine y_astore C D_X6_set_16 (by decide) (qok_s rfl rfl) ?_
  refine y_aload C D_X6_set_18 rfl ?_
  refine y_iload_n C D_X6_set_20 rfl ?_
  refine y_iconst C D_X6_set_21 ki_1 ?_
  refine z_callV C D_X6_set_22 lk_X6_71 (c_X2_findingNY (I.rw q hq) hl) (I.rw q hq).1 rfl rfl (Nat.le_of_ble_eq_true rfl) (Nat.le_of_ble_eq_true rfl) ⟨Nat.zero_le _, Nat.zero_le _⟩ ?_
  refine y_istore C D_X6_set_25 (by decide) (qok_s rfl rfl) ?_
  refine y_iload C D_X6_set_27 rfl ?_
  refine z_ifeq1 C D_X6_set_29 ?_
  refine y_aload_n C D_X6_set_32 rfl ?_
  refine y_iload C D_X6_set_33 rfl ?_
  refine z_callV C D_X6_set_35 lk_X6_60 (c_X6_found I) I.o rfl rfl (Nat.le_of_ble_eq_true rfl) (Nat.le_of_ble_eq_true rfl) ⟨Nat.zero_le _, Nat.zero_le _⟩ ?_
  refine y_goto C D_X6_set_38 ?_
  exact y_iret C E D_X6_set_52 (rfl) (rfl)
theorem c_X6_setP (I : CI G (h) (i) (A) (B) (fin) (n) (lf) (b) (y) (sz) (old) (w) (c) (f) (ln) (rz) (it) (im)) {q la z : Nat} {x v : Int32} (hq : q < 8) (hla : la < 3) (hz40 : z ≤ 40) (hl : ln q = nI la) (hz : rz q = nI z) (hx : ¬ isx x z) : Ct l G yX6_set 2 [qr G 0, .int (nI q), .int (x), .int (v)] (h) (some (.int (-1000010 - nI 2))) (h.set 0 (dcl G 2)) := by
  refine ctm_intro (maxL := 6) kw_X6_set (by decide) (by decide) [some (qr G 0), some (.int (nI q)), some (.int (x)), some (.int (v)), none, none] rfl (Nat.le_of_ble_eq_true rfl) ?_
  intro X _ hcl hsl _ _ C E
  have R := I.rw q hq
  rw [hl, hz] at R
  have hne : ¬ nI la = -1 := nI_m1 (by omega)
  refine y_iload_n C D_X6_set_0 rfl ?_
  refine z_callS C D_X6_set_1 lk_X6_55 (c_X6_isRow) rfl rfl (Nat.le_of_ble_eq_true rfl) (Nat.le_of_ble_eq_true rfl) ⟨Nat.zero_le _, Nat.zero_le _⟩ ?_
  refine y_top (bI_1 (isx_n (by omega) hq)) ?_
  refine z_ifne1 C D_X6_set_4 ?_
  refine y_aload_n C D_X6_set_10 rfl ?_
  refine y_get C D_X6_set_11 fl_X6_11 I.o rfl ?_
  refine y_iload_n C D_X6_set_14 rfl ?_
  refine z_ald (t0 := 2) C D_X6_set_15 I.rs rfl (by omega) (by decide) (rfR_at (by omega)) ?_
  refine y_astore C D_X6_set_16 (by decide) (qok_s rfl rfl) ?_
  refine y_aload C D_X6_set_18 rfl ?_
  refine y_iload_n C D_X6_set_20 rfl ?_
  refine y_iconst C D_X6_set_21 ki_1 ?_
  refine z_callV C D_X6_set_22 lk_X6_71 (c_X2_findingAtY R hz40 hne) R.1 rfl rfl (Nat.le_of_ble_eq_true rfl) (Nat.le_of_ble_eq_true rfl) ⟨Nat.zero_le _, Nat.zero_le _⟩ ?_
  refine y_top (congrArg nI (if_neg (fun z => hx ((hld_isx hz40).mp z)))) ?_
  refine y_istore C D_X6_set_25 (by decide) (qok_s rfl rfl) ?_
  refine y_iload C D_X6_set_27 rfl ?_
  refine y_if_eq C D_X6_set_29 (n_eq0 (by omega)) (fun c_29 => absurd c_29 (by decide)) (fun c_29 => ?_)
  refine y_aload_n C D_X6_set_32 rfl ?_
  refine y_iload C D_X6_set_33 rfl ?_
  refine z_callV C D_X6_set_35 lk_X6_60 (c_X6_found I) I.o rfl rfl (Nat.le_of_ble_eq_true rfl) (Nat.le_of_ble_eq_true rfl) ⟨Nat.zero_le _, Nat.zero_le _⟩ ?_
  refine y_goto C D_X6_set_38 ?_
  exact y_iret C E D_X6_set_52 (rfl) (rfl)
theorem c_X6_set (I : CI G (h) (i) (A) (B) (fin) (n) (lf) (b) (y) (sz) (old) (w) (c) (f) (ln) (rz) (it) (im)) {q la z o : Nat} {v : Int32} (hq : q < 8) (hla : la < 3) (hz40 : z ≤ 40) (hl : ln q = nI la) (hz : rz q = nI z) (ho : o < z) : Ct l G yX6_set 2 [qr G 0, .int (nI q), .int (nI o), .int (v)] (h) (some (.int (lnI la v))) ((rc G h (100 + 2 * q) (nI la) (nI z) (upd (it q) o (lnI la v))).set 0 (dcl G 0)) := by
  refine ctm_intro (maxL := 6) kw_X6_set (by decide) (by decide) [some (qr G 0), some (.int (nI q)), some (.int (nI o)), some (.int (v)), none, none] rfl (Nat.le_of_ble_eq_true rfl) ?_
  intro X _ hcl hsl _ _ C E
  have R := I.rw q hq
  rw [hl, hz] at R
  have hne : ¬ nI la = -1 := nI_m1 (by omega)
  refine y_iload_n C D_X6_set_0 rfl ?_
  refine z_callS C D_X6_set_1 lk_X6_55 (c_X6_isRow) rfl rfl (Nat.le_of_ble_eq_true rfl) (Nat.le_of_ble_eq_true rfl) ⟨Nat.zero_le _, Nat.zero_le _⟩ ?_
  refine y_top (bI_1 (isx_n (by omega) hq)) ?_
  refine z_ifne1 C D_X6_set_4 ?_
  refine y_aload_n C D_X6_set_10 rfl ?_
  refine y_get C D_X6_set_11 fl_X6_11 I.o rfl ?_
  refine y_iload_n C D_X6_set_14 rfl ?_
  refine z_ald (t0 := 2) C D_X6_set_15 I.rs rfl (by omega) (by decide) (rfR_at (by omega)) ?_
  refine y_astore C D_X6_set_16 (by decide) (qok_s rfl rfl) ?_
  refine y_aload C D_X6_set_18 rfl ?_
  refine y_iload_n C D_X6_set_20 rfl ?_
  refine y_iconst C D_X6_set_21 ki_1 ?_
  refine z_callV C D_X6_set_22 lk_X6_71 (c_X2_findingAtY R hz40 hne) R.1 rfl rfl (Nat.le_of_ble_eq_true rfl) (Nat.le_of_ble_eq_true rfl) ⟨Nat.zero_le _, Nat.zero_le _⟩ ?_
  refine y_top (congrArg nI (if_pos ((hld_isx hz40).mpr (isx_n (by omega) ho)))) ?_
  refine y_istore C D_X6_set_25 (by decide) (qok_s rfl rfl) ?_
  refine y_iload C D_X6_set_27 rfl ?_
  refine z_ifeq0 C D_X6_set_29 ?_
  refine y_aload_n C D_X6_set_41 rfl ?_
  refine y_aload C D_X6_set_42 rfl ?_
  refine y_iload_n C D_X6_set_44 rfl ?_
  refine y_iload_n C D_X6_set_45 rfl ?_
  refine z_callV C D_X6_set_46 lk_X6_75 (c_X2_putY R hla (by omega)) R.1 rfl rfl (Nat.le_of_ble_eq_true rfl) (Nat.le_of_ble_eq_true rfl) ⟨Nat.zero_le _, Nat.zero_le _⟩ ?_
  have I1 := I.rca hq (x1 := nI la) (x2 := nI z) (g := upd (it q) o (lnI la v))
  refine z_callV C D_X6_set_49 lk_X6_68 (c_X6_sound I1) I1.o rfl rfl (Nat.le_of_ble_eq_true rfl) (Nat.le_of_ble_eq_true rfl) ⟨Nat.zero_le _, Nat.zero_le _⟩ ?_
  exact y_iret C E D_X6_set_52 (rfl) (rfl)
theorem c_X6_dropB (I : CI G (h) (i) (A) (B) (fin) (n) (lf) (b) (y) (sz) (old) (w) (c) (f) (ln) (rz) (it) (im)) {x1 : Int32} (hx : ¬ isx x1 8) : Ct l G yX6_drop 2 [qr G 0, .int (x1)] (h) (some (.int (-1000001))) (h) := by
  refine ctm_intro (maxL := 4) kw_X6_drop (by decide) (by decide) [some (qr G 0), some (.int (x1)), none, none] rfl (Nat.le_of_ble_eq_true rfl) ?_
  intro X _ hcl hsl _ _ C E
  refine y_iload_n C D_X6_drop_0 rfl ?_
  refine z_callS C D_X6_drop_1 lk_X6_55 (c_X6_isRow) rfl rfl (Nat.le_of_ble_eq_true rfl) (Nat.le_of_ble_eq_true rfl) ⟨Nat.zero_le _, Nat.zero_le _⟩ ?_
  refine z_ifneB C D_X6_drop_4 (fun c_4 => absurd c_4 hx) (fun c_4 => ?_)
  refine y_ldc C D_X6_drop_7 lk_X6_59 ?_
  exact y_iret C E D_X6_drop_9 (rfl) (rfl)
theorem c_X6_dropN (I : CI G (h) (i) (A) (B) (fin) (n) (lf) (b) (y) (sz) (old) (w) (c) (f) (ln) (rz) (it) (im)) {q : Nat} (hq : q < 8) (hl : ln q = -1) : Ct l G yX6_drop 2 [qr G 0, .int (nI q)] (h) (some (.int (-1000010 - nI 1))) (h.set 0 (dcl G 1)) := by
  refine ctm_intro (maxL := 4) kw_X6_drop (by decide) (by decide) [some (qr G 0), some (.int (nI q)), none, none] rfl (Nat.le_of_ble_eq_true rfl) ?_
  intro X _ hcl hsl _ _ C E
  refine y_iload_n C D_X6_drop_0 rfl ?_
  refine z_callS C D_X6_drop_1 lk_X6_55 (c_X6_isRow) rfl rfl (Nat.le_of_ble_eq_true rfl) (Nat.le_of_ble_eq_true rfl) ⟨Nat.zero_le _, Nat.zero_le _⟩ ?_
  refine y_top (bI_1 (isx_n (by omega) hq)) ?_
  refine z_ifne1 C D_X6_drop_4 ?_
  refine y_aload_n C D_X6_drop_10 rfl ?_
  refine y_get C D_X6_drop_11 fl_X6_11 I.o rfl ?_
  refine y_iload_n C D_X6_drop_14 rfl ?_
  refine z_ald (t0 := 2) C D_X6_drop_15 I.rs rfl (by omega) (by decide) (rfR_at (by omega)) ?_
  refine y_astore_n C D_X6_drop_16 (by decide) (qok_s rfl rfl) ?_
  refine y_aload_n C D_X6_drop_17 rfl ?_
  refine z_callV C D_X6_drop_18 lk_X6_78 (c_X2_isMissingY (I.rw q hq)) (I.rw q hq).1 rfl rfl (Nat.le_of_ble_eq_true rfl) (Nat.le_of_ble_eq_true rfl) ⟨Nat.zero_le _, Nat.zero_le _⟩ ?_
  refine y_top (bI_1 hl) ?_
  refine z_ifeq1 C D_X6_drop_21 ?_
  refine y_aload_n C D_X6_drop_24 rfl ?_
  refine y_iconst C D_X6_drop_25 ki_1 ?_
  refine z_callV C D_X6_drop_26 lk_X6_60 (c_X6_found I) I.o rfl rfl (Nat.le_of_ble_eq_true rfl) (Nat.le_of_ble_eq_true rfl) ⟨Nat.zero_le _, Nat.zero_le _⟩ ?_
  exact y_iret C E D_X6_drop_29 (rfl) (rfl)
theorem c_X6_drop (I : CI G (h) (i) (A) (B) (fin) (n) (lf) (b) (y) (sz) (old) (w) (c) (f) (ln) (rz) (it) (im)) {q la z : Nat} (hq : q < 8) (hla : la < 3) (hz40 : z ≤ 40) (hl : ln q = nI la) (hz : rz q = nI z) : Ct l G yX6_drop 2 [qr G 0, .int (nI q)] (h) (some (.int (nI z))) ((rc G h (100 + 2 * q) (-1) (nI 0) (fun _ => 0)).set 0 (dcl G 0)) := by
  refine ctm_intro (maxL := 4) kw_X6_drop (by decide) (by decide) [some (qr G 0), some (.int (nI q)), none, none] rfl (Nat.le_of_ble_eq_true rfl) ?_
  intro X _ hcl hsl _ _ C E
  have R := I.rw q hq
  rw [hl, hz] at R
  have hne : ¬ nI la = -1 := nI_m1 (by omega)
  refine y_iload_n C D_X6_drop_0 rfl ?_
  refine z_callS C D_X6_drop_1 lk_X6_55 (c_X6_isRow) rfl rfl (Nat.le_of_ble_eq_true rfl) (Nat.le_of_ble_eq_true rfl) ⟨Nat.zero_le _, Nat.zero_le _⟩ ?_
  refine y_top (bI_1 (isx_n (by omega) hq)) ?_
  refine z_ifne1 C D_X6_drop_4 ?_
  refine y_aload_n C D_X6_drop_10 rfl ?_
  refine y_get C D_X6_drop_11 fl_X6_11 I.o rfl ?_
  refine y_iload_n C D_X6_drop_14 rfl ?_
  refine z_ald (t0 := 2) C D_X6_drop_15 I.rs rfl (by omega) (by decide) (rfR_at (by omega)) ?_
  refine y_astore_n C D_X6_drop_16 (by decide) (qok_s rfl rfl) ?_
  refine y_aload_n C D_X6_drop_17 rfl ?_
  refine z_callV C D_X6_drop_18 lk_X6_78 (c_X2_isMissingY R) R.1 rfl rfl (Nat.le_of_ble_eq_true rfl) (Nat.le_of_ble_eq_true rfl) ⟨Nat.zero_le _, Nat.zero_le _⟩ ?_
  refine y_top (bI_0 hne) ?_
  refine z_ifeq0 C D_X6_drop_21 ?_
  refine y_aload_n C D_X6_drop_30 rfl ?_
  refine y_get C D_X6_drop_31 fl_X6_100 R.1 rfl ?_
  refine y_istore_n C D_X6_drop_34 (by decide) (qok_s rfl rfl) ?_
  refine y_aload_n C D_X6_drop_35 rfl ?_
  refine y_iconst C D_X6_drop_36 ki_m1 ?_
  refine y_iconst C D_X6_drop_37 ki_0 ?_
  refine z_callVv C D_X6_drop_38 lk_X6_64 (c_X2_layY R) R.1 rfl rfl (Nat.le_of_ble_eq_true rfl) (Nat.le_of_ble_eq_true rfl) ⟨Nat.zero_le _, Nat.zero_le _⟩ ?_
  have I1 := I.rca hq (x1 := -1) (x2 := nI 0) (g := fun _ => 0)
  refine y_aload_n C D_X6_drop_41 rfl ?_
  refine y_iload_n C D_X6_drop_42 rfl ?_
  refine z_callV C D_X6_drop_43 lk_X6_68 (c_X6_sound I1) I1.o rfl rfl (Nat.le_of_ble_eq_true rfl) (Nat.le_of_ble_eq_true rfl) ⟨Nat.zero_le _, Nat.zero_le _⟩ ?_
  exact y_iret C E D_X6_drop_46 (rfl) (rfl)
theorem c_X6_copyB (I : CI G (h) (i) (A) (B) (fin) (n) (lf) (b) (y) (sz) (old) (w) (c) (f) (ln) (rz) (it) (im)) {x1 x2 x3 x4 x5 : Int32} (hx : ¬ isx x1 8 ∨ ¬ isx x3 8) : Ct l G yX6_copy 2 [qr G 0, .int (x1), .int (x2), .int (x3), .int (x4), .int (x5)] (h) (some (.int (-1000001))) (h) := by
  refine ctm_intro (maxL := 8) kw_X6_copy (by decide) (by decide) [some (qr G 0), some (.int (x1)), some (.int (x2)), some (.int (x3)), some (.int (x4)), some (.int (x5)), none, none] rfl (Nat.le_of_ble_eq_true rfl) ?_
  intro X _ hcl hsl _ _ C E
  refine y_iload_n C D_X6_copy_0 rfl ?_
  refine z_callS C D_X6_copy_1 lk_X6_55 (c_X6_isRow) rfl rfl (Nat.le_of_ble_eq_true rfl) (Nat.le_of_ble_eq_true rfl) ⟨Nat.zero_le _, Nat.zero_le _⟩ ?_
  refine z_ifeqB C D_X6_copy_4 (fun c_4 => ?_) (fun c_4 => ?_)
  · refine y_ldc C D_X6_copy_14 lk_X6_59 ?_
    exact y_iret C E D_X6_copy_16 (rfl) (rfl)
  · refine y_iload_n C D_X6_copy_7 rfl ?_
    refine z_callS C D_X6_copy_8 lk_X6_55 (c_X6_isRow) rfl rfl (Nat.le_of_ble_eq_true rfl) (Nat.le_of_ble_eq_true rfl) ⟨Nat.zero_le _, Nat.zero_le _⟩ ?_
    refine z_ifneB C D_X6_copy_11 (fun c_11 => hx.elim (fun z => absurd c_4 z) (fun z => absurd c_11 z)) (fun c_11 => ?_)
    refine y_ldc C D_X6_copy_14 lk_X6_59 ?_
    exact y_iret C E D_X6_copy_16 (rfl) (rfl)
theorem c_X6_copyN1 (I : CI G (h) (i) (A) (B) (fin) (n) (lf) (b) (y) (sz) (old) (w) (c) (f) (ln) (rz) (it) (im)) {qa qb : Nat} {x1 x2 x3 : Int32} (hqa : qa < 8) (hqb : qb < 8) (hl : ln qa = -1) : Ct l G yX6_copy 2 [qr G 0, .int (nI qa), .int (x1), .int (nI qb), .int (x2), .int (x3)] (h) (some (.int (-1000010 - nI 1))) (h.set 0 (dcl G 1)) := by
  refine ctm_intro (maxL := 8) kw_X6_copy (by decide) (by decide) [some (qr G 0), some (.int (nI qa)), some (.int (x1)), some (.int (nI qb)), some (.int (x2)), some (.int (x3)), none, none] rfl (Nat.le_of_ble_eq_true rfl) ?_
  intro X _ hcl hsl _ _ C E
  have Ra := I.rw qa hqa
  have Rb := I.rw qb hqb
  refine y_iload_n C D_X6_copy_0 rfl ?_
  refine z_callS C D_X6_copy_1 lk_X6_55 (c_X6_isRow) rfl rfl (Nat.le_of_ble_eq_true rfl) (Nat.le_of_ble_eq_true rfl) ⟨Nat.zero_le _, Nat.zero_le _⟩ ?_
  refine y_top (bI_1 (isx_n (by omega) hqa)) ?_
  refine z_ifeq1 C D_X6_copy_4 ?_
  refine y_iload_n C D_X6_copy_7 rfl ?_
  refine z_callS C D_X6_copy_8 lk_X6_55 (c_X6_isRow) rfl rfl (Nat.le_of_ble_eq_true rfl) (Nat.le_of_ble_eq_true rfl) ⟨Nat.zero_le _, Nat.zero_le _⟩ ?_
  refine y_top (bI_1 (isx_n (by omega) hqb)) ?_
  refine z_ifne1 C D_X6_copy_11 ?_
  refine y_aload_n C D_X6_copy_17 rfl ?_
  refine y_get C D_X6_copy_18 fl_X6_11 I.o rfl ?_
  refine y_iload_n C D_X6_copy_21 rfl ?_
  refine z_ald (t0 := 2) C D_X6_copy_22 I.rs rfl (by omega) (by decide) (rfR_at (by omega)) ?_
  refine y_astore C D_X6_copy_23 (by decide) (qok_s rfl rfl) ?_
  refine y_aload_n C D_X6_copy_25 rfl ?_
  refine y_get C D_X6_copy_26 fl_X6_11 I.o rfl ?_
  refine y_iload_n C D_X6_copy_29 rfl ?_
  refine z_ald (t0 := 2) C D_X6_copy_30 I.rs rfl (by omega) (by decide) (rfR_at (by omega)) ?_
  refine y_astore C D_X6_copy_31 (by decide) (qok_s rfl rfl) ?_
  refine y_aload C D_X6_copy_33 rfl ?_
  refine z_callV C D_X6_copy_35 lk_X6_78 (c_X2_isMissingY Ra) Ra.1 rfl rfl (Nat.le_of_ble_eq_true rfl) (Nat.le_of_ble_eq_true rfl) ⟨Nat.zero_le _, Nat.zero_le _⟩ ?_
  refine y_top (bI_1 hl) ?_
  refine z_ifne1 C D_X6_copy_38 ?_
  refine y_aload_n C D_X6_copy_49 rfl ?_
  refine y_iconst C D_X6_copy_50 ki_1 ?_
  refine z_callV C D_X6_copy_51 lk_X6_60 (c_X6_found I) I.o rfl rfl (Nat.le_of_ble_eq_true rfl) (Nat.le_of_ble_eq_true rfl) ⟨Nat.zero_le _, Nat.zero_le _⟩ ?_
  exact y_iret C E D_X6_copy_54 (rfl) (rfl)
theorem c_X6_copyN2 (I : CI G (h) (i) (A) (B) (fin) (n) (lf) (b) (y) (sz) (old) (w) (c) (f) (ln) (rz) (it) (im)) {qa qb la za : Nat} {x1 x2 x3 : Int32} (hqa : qa < 8) (hqb : qb < 8) (hla : la < 3) (hza40 : za ≤ 40) (hl : ln qa = nI la) (hz : rz qa = nI za) (hl2 : ln qb = -1) : Ct l G yX6_copy 2 [qr G 0, .int (nI qa), .int (x1), .int (nI qb), .int (x2), .int (x3)] (h) (some (.int (-1000010 - nI 1))) (h.set 0 (dcl G 1)) := by
  refine ctm_intro (maxL := 8) kw_X6_copy (by decide) (by decide) [some (qr G 0), some (.int (nI qa)), some (.int (x1)), some (.int (nI qb)), some (.int (x2)), some (.int (x3)), none, none] rfl (Nat.le_of_ble_eq_true rfl) ?_
  intro X _ hcl hsl _ _ C E
  have Ra := I.rw qa hqa
  rw [hl, hz] at Ra
  have hne : ¬ nI la = -1 := nI_m1 (by omega)
  have Rb := I.rw qb hqb
  refine y_iload_n C D_X6_copy_0 rfl ?_
  refine z_callS C D_X6_copy_1 lk_X6_55 (c_X6_isRow) rfl rfl (Nat.le_of_ble_eq_true rfl) (Nat.le_of_ble_eq_true rfl) ⟨Nat.zero_le _, Nat.zero_le _⟩ ?_
  refine y_top (bI_1 (isx_n (by omega) hqa)) ?_
  refine z_ifeq1 C D_X6_copy_4 ?_
  refine y_iload_n C D_X6_copy_7 rfl ?_
  refine z_callS C D_X6_copy_8 lk_X6_55 (c_X6_isRow) rfl rfl (Nat.le_of_ble_eq_true rfl) (Nat.le_of_ble_eq_true rfl) ⟨Nat.zero_le _, Nat.zero_le _⟩ ?_
  refine y_top (bI_1 (isx_n (by omega) hqb)) ?_
  refine z_ifne1 C D_X6_copy_11 ?_
  refine y_aload_n C D_X6_copy_17 rfl ?_
  refine y_get C D_X6_copy_18 fl_X6_11 I.o rfl ?_
  refine y_iload_n C D_X6_copy_21 rfl ?_
  refine z_ald (t0 := 2) C D_X6_copy_22 I.rs rfl (by omega) (by decide) (rfR_at (by omega)) ?_
  refine y_astore C D_X6_copy_23 (by decide) (qok_s rfl rfl) ?_
  refine y_aload_n C D_X6_copy_25 rfl ?_
  refine y_get C D_X6_copy_26 fl_X6_11 I.o rfl ?_
  refine y_iload_n C D_X6_copy_29 rfl ?_
  refine z_ald (t0 := 2) C D_X6_copy_30 I.rs rfl (by omega) (by decide) (rfR_at (by omega)) ?_
  refine y_astore C D_X6_copy_31 (by decide) (qok_s rfl rfl) ?_
  refine y_aload C D_X6_copy_33 rfl ?_
  refine z_callV C D_X6_copy_35 lk_X6_78 (c_X2_isMissingY Ra) Ra.1 rfl rfl (Nat.le_of_ble_eq_true rfl) (Nat.le_of_ble_eq_true rfl) ⟨Nat.zero_le _, Nat.zero_le _⟩ ?_
  refine y_top (bI_0 hne) ?_
  refine z_ifne0 C D_X6_copy_38 ?_
  refine y_aload C D_X6_copy_41 rfl ?_
  refine z_callV C D_X6_copy_43 lk_X6_78 (c_X2_isMissingY Rb) Rb.1 rfl rfl (Nat.le_of_ble_eq_true rfl) (Nat.le_of_ble_eq_true rfl) ⟨Nat.zero_le _, Nat.zero_le _⟩ ?_
  refine y_top (bI_1 hl2) ?_
  refine z_ifeq1 C D_X6_copy_46 ?_
  refine y_aload_n C D_X6_copy_49 rfl ?_
  refine y_iconst C D_X6_copy_50 ki_1 ?_
  refine z_callV C D_X6_copy_51 lk_X6_60 (c_X6_found I) I.o rfl rfl (Nat.le_of_ble_eq_true rfl) (Nat.le_of_ble_eq_true rfl) ⟨Nat.zero_le _, Nat.zero_le _⟩ ?_
  exact y_iret C E D_X6_copy_54 (rfl) (rfl)
theorem c_X6_copyS (I : CI G (h) (i) (A) (B) (fin) (n) (lf) (b) (y) (sz) (old) (w) (c) (f) (ln) (rz) (it) (im)) {qa qb la za lb zb : Nat} {x1 x2 x3 : Int32} (hqa : qa < 8) (hqb : qb < 8) (hla : la < 3) (hza40 : za ≤ 40) (hl : ln qa = nI la) (hz : rz qa = nI za) (hlb : lb < 3) (hzb40 : zb ≤ 40) (hl2 : ln qb = nI lb) (hz2 : rz qb = nI zb) (hd : la ≠ lb) : Ct l G yX6_copy 2 [qr G 0, .int (nI qa), .int (x1), .int (nI qb), .int (x2), .int (x3)] (h) (some (.int (-1000010 - nI 5))) (h.set 0 (dcl G 5)) := by
  refine ctm_intro (maxL := 8) kw_X6_copy (by decide) (by decide) [some (qr G 0), some (.int (nI qa)), some (.int (x1)), some (.int (nI qb)), some (.int (x2)), some (.int (x3)), none, none] rfl (Nat.le_of_ble_eq_true rfl) ?_
  intro X _ hcl hsl _ _ C E
  have Ra := I.rw qa hqa
  rw [hl, hz] at Ra
  have hne : ¬ nI la = -1 := nI_m1 (by omega)
  have Rb := I.rw qb hqb
  rw [hl2, hz2] at Rb
  have hne2 : ¬ nI lb = -1 := nI_m1 (by omega)
  refine y_iload_n C D_X6_copy_0 rfl ?_
  refine z_callS C D_X6_copy_1 lk_X6_55 (c_X6_isRow) rfl rfl (Nat.le_of_ble_eq_true rfl) (Nat.le_of_ble_eq_true rfl) ⟨Nat.zero_le _, Nat.zero_le _⟩ ?_
  refine y_top (bI_1 (isx_n (by omega) hqa)) ?_
  refine z_ifeq1 C D_X6_copy_4 ?_
  refine y_iload_n C D_X6_copy_7 rfl ?_
  refine z_callS C D_X6_copy_8 lk_X6_55 (c_X6_isRow) rfl rfl (Nat.le_of_ble_eq_true rfl) (Nat.le_of_ble_eq_true rfl) ⟨Nat.zero_le _, Nat.zero_le _⟩ ?_
  refine y_top (bI_1 (isx_n (by omega) hqb)) ?_
  refine z_ifne1 C D_X6_copy_11 ?_
  refine y_aload_n C D_X6_copy_17 rfl ?_
  refine y_get C D_X6_copy_18 fl_X6_11 I.o rfl ?_
  refine y_iload_n C D_X6_copy_21 rfl ?_
  refine z_ald (t0 := 2) C D_X6_copy_22 I.rs rfl (by omega) (by decide) (rfR_at (by omega)) ?_
  refine y_astore C D_X6_copy_23 (by decide) (qok_s rfl rfl) ?_
  refine y_aload_n C D_X6_copy_25 rfl ?_
  refine y_get C D_X6_copy_26 fl_X6_11 I.o rfl ?_
  refine y_iload_n C D_X6_copy_29 rfl ?_
  refine z_ald (t0 := 2) C D_X6_copy_30 I.rs rfl (by omega) (by decide) (rfR_at (by omega)) ?_
  refine y_astore C D_X6_copy_31 (by decide) (qok_s rfl rfl) ?_
  refine y_aload C D_X6_copy_33 rfl ?_
  refine z_callV C D_X6_copy_35 lk_X6_78 (c_X2_isMissingY Ra) Ra.1 rfl rfl (Nat.le_of_ble_eq_true rfl) (Nat.le_of_ble_eq_true rfl) ⟨Nat.zero_le _, Nat.zero_le _⟩ ?_
  refine y_top (bI_0 hne) ?_
  refine z_ifne0 C D_X6_copy_38 ?_
  refine y_aload C D_X6_copy_41 rfl ?_
  refine z_callV C D_X6_copy_43 lk_X6_78 (c_X2_isMissingY Rb) Rb.1 rfl rfl (Nat.le_of_ble_eq_true rfl) (Nat.le_of_ble_eq_true rfl) ⟨Nat.zero_le _, Nat.zero_le _⟩ ?_
  refine y_top (bI_0 hne2) ?_
  refine z_ifeq0 C D_X6_copy_46 ?_
  refine y_aload C D_X6_copy_55 rfl ?_
  refine y_get C D_X6_copy_57 fl_X6_82 Ra.1 rfl ?_
  refine y_aload C D_X6_copy_60 rfl ?_
  refine y_get C D_X6_copy_62 fl_X6_82 Rb.1 rfl ?_
  refine y_icmp_eq C D_X6_copy_65 (n_eq (by omega) (by omega)) (fun c_65 => absurd c_65 hd) (fun c_65 => ?_)
  refine y_aload_n C D_X6_copy_68 rfl ?_
  refine y_iconst C D_X6_copy_69 ki_5 ?_
  refine z_callV C D_X6_copy_70 lk_X6_60 (c_X6_found I) I.o rfl rfl (Nat.le_of_ble_eq_true rfl) (Nat.le_of_ble_eq_true rfl) ⟨Nat.zero_le _, Nat.zero_le _⟩ ?_
  exact y_iret C E D_X6_copy_73 (rfl) (rfl)
theorem c_X6_copyP (I : CI G (h) (i) (A) (B) (fin) (n) (lf) (b) (y) (sz) (old) (w) (c) (f) (ln) (rz) (it) (im)) {qa qb la za lb zb : Nat} {x1 x2 x3 : Int32} (hqa : qa < 8) (hqb : qb < 8) (hla : la < 3) (hza40 : za ≤ 40) (hl : ln qa = nI la) (hz : rz qa = nI za) (hlb : lb < 3) (hzb40 : zb ≤ 40) (hl2 : ln qb = nI lb) (hz2 : rz qb = nI zb) (hd : la = lb) (hp : ¬ (hld x1 x3 za ∧ hld x2 x3 zb)) : Ct l G yX6_copy 2 [qr G 0, .int (nI qa), .int (x1), .int (nI qb), .int (x2), .int (x3)] (h) (some (.int (-1000010 - nI 2))) (h.set 0 (dcl G 2)) := by
  refine ctm_intro (maxL := 8) kw_X6_copy (by decide) (by decide) [some (qr G 0), some (.int (nI qa)), some (.int (x1)), some (.int (nI qb)), some (.int (x2)), some (.int (x3)), none, none] rfl (Nat.le_of_ble_eq_true rfl) ?_
  intro X _ hcl hsl _ _ C E
  have Ra := I.rw qa hqa
  rw [hl, hz] at Ra
  have hne : ¬ nI la = -1 := nI_m1 (by omega)
  have Rb := I.rw qb hqb
  rw [hl2, hz2] at Rb
  have hne2 : ¬ nI lb = -1 := nI_m1 (by omega)
  refine y_iload_n C D_X6_copy_0 rfl ?_
  refine z_callS C D_X6_copy_1 lk_X6_55 (c_X6_isRow) rfl rfl (Nat.le_of_ble_eq_true rfl) (Nat.le_of_ble_eq_true rfl) ⟨Nat.zero_le _, Nat.zero_le _⟩ ?_
  refine y_top (bI_1 (isx_n (by omega) hqa)) ?_
  refine z_ifeq1 C D_X6_copy_4 ?_
  refine y_iload_n C D_X6_copy_7 rfl ?_
  refine z_callS C D_X6_copy_8 lk_X6_55 (c_X6_isRow) rfl rfl (Nat.le_of_ble_eq_true rfl) (Nat.le_of_ble_eq_true rfl) ⟨Nat.zero_le _, Nat.zero_le _⟩ ?_
  refine y_top (bI_1 (isx_n (by omega) hqb)) ?_
  refine z_ifne1 C D_X6_copy_11 ?_
  refine y_aload_n C D_X6_copy_17 rfl ?_
  refine y_get C D_X6_copy_18 fl_X6_11 I.o rfl ?_
  refine y_iload_n C D_X6_copy_21 rfl ?_
  refine z_ald (t0 := 2) C D_X6_copy_22 I.rs rfl (by omega) (by decide) (rfR_at (by omega)) ?_
  refine y_astore C D_X6_copy_23 (by decide) (qok_s rfl rfl) ?_
  refine y_aload_n C D_X6_copy_25 rfl ?_
  refine y_get C D_X6_copy_26 fl_X6_11 I.o rfl ?_
  refine y_iload_n C D_X6_copy_29 rfl ?_
  refine z_ald (t0 := 2) C D_X6_copy_30 I.rs rfl (by omega) (by decide) (rfR_at (by omega)) ?_
  refine y_astore C D_X6_copy_31 (by decide) (qok_s rfl rfl) ?_
  refine y_aload C D_X6_copy_33 rfl ?_
  refine z_callV C D_X6_copy_35 lk_X6_78 (c_X2_isMissingY Ra) Ra.1 rfl rfl (Nat.le_of_ble_eq_true rfl) (Nat.le_of_ble_eq_true rfl) ⟨Nat.zero_le _, Nat.zero_le _⟩ ?_
  refine y_top (bI_0 hne) ?_
  refine z_ifne0 C D_X6_copy_38 ?_
  refine y_aload C D_X6_copy_41 rfl ?_
  refine z_callV C D_X6_copy_43 lk_X6_78 (c_X2_isMissingY Rb) Rb.1 rfl rfl (Nat.le_of_ble_eq_true rfl) (Nat.le_of_ble_eq_true rfl) ⟨Nat.zero_le _, Nat.zero_le _⟩ ?_
  refine y_top (bI_0 hne2) ?_
  refine z_ifeq0 C D_X6_copy_46 ?_
  refine y_aload C D_X6_copy_55 rfl ?_
  refine y_get C D_X6_copy_57 fl_X6_82 Ra.1 rfl ?_
  refine y_aload C D_X6_copy_60 rfl ?_
  refine y_get C D_X6_copy_62 fl_X6_82 Rb.1 rfl ?_
  refine y_icmp_eq C D_X6_copy_65 (n_eq (by omega) (by omega)) (fun c_65 => ?_) (fun c_65 => absurd hd c_65)
  refine y_aload C D_X6_copy_74 rfl ?_
  refine y_iload_n C D_X6_copy_76 rfl ?_
  refine y_iload C D_X6_copy_77 rfl ?_
  refine z_callV C D_X6_copy_79 lk_X6_86 (c_X2_holdsY Ra hza40) Ra.1 rfl rfl (Nat.le_of_ble_eq_true rfl) (Nat.le_of_ble_eq_true rfl) ⟨Nat.zero_le _, Nat.zero_le _⟩ ?_
  refine z_ifeqB C D_X6_copy_82 (fun c_82 => ?_) (fun c_82 => ?_)
  · refine y_aload_n C D_X6_copy_97 rfl ?_
    refine y_iconst C D_X6_copy_98 ki_2 ?_
    refine z_callV C D_X6_copy_99 lk_X6_60 (c_X6_found I) I.o rfl rfl (Nat.le_of_ble_eq_true rfl) (Nat.le_of_ble_eq_true rfl) ⟨Nat.zero_le _, Nat.zero_le _⟩ ?_
    exact y_iret C E D_X6_copy_102 (rfl) (rfl)
  · refine y_aload C D_X6_copy_85 rfl ?_
    refine y_iload C D_X6_copy_87 rfl ?_
    refine y_iload C D_X6_copy_89 rfl ?_
    refine z_callV C D_X6_copy_91 lk_X6_86 (c_X2_holdsY Rb hzb40) Rb.1 rfl rfl (Nat.le_of_ble_eq_true rfl) (Nat.le_of_ble_eq_true rfl) ⟨Nat.zero_le _, Nat.zero_le _⟩ ?_
    refine z_ifneB C D_X6_copy_94 (fun c_94 => absurd ⟨c_82, c_94⟩ hp) (fun c_94 => ?_)
    refine y_aload_n C D_X6_copy_97 rfl ?_
    refine y_iconst C D_X6_copy_98 ki_2 ?_
    refine z_callV C D_X6_copy_99 lk_X6_60 (c_X6_found I) I.o rfl rfl (Nat.le_of_ble_eq_true rfl) (Nat.le_of_ble_eq_true rfl) ⟨Nat.zero_le _, Nat.zero_le _⟩ ?_
    exact y_iret C E D_X6_copy_102 (rfl) (rfl)
theorem c_X6_copy (I : CI G (h) (i) (A) (B) (fin) (n) (lf) (b) (y) (sz) (old) (w) (c) (f) (ln) (rz) (it) (im)) {qa qb la za lb zb : Nat} {o q n1 : Nat} (hqa : qa < 8) (hqb : qb < 8) (hla : la < 3) (hza40 : za ≤ 40) (hl : ln qa = nI la) (hz : rz qa = nI za) (hlb : lb < 3) (hzb40 : zb ≤ 40) (hl2 : ln qb = nI lb) (hz2 : rz qb = nI zb) (hd : la = lb) (ho1 : o + n1 ≤ za) (ho2 : q + n1 ≤ zb) : Ct l G yX6_copy 2 [qr G 0, .int (nI qa), .int (nI o), .int (nI qb), .int (nI q), .int (nI n1)] (h) (some (.int (nI n1))) ((rc G h (100 + 2 * qb) (nI lb) (nI zb) (va_cpy (it qa) (it qb) o q n1)).set 0 (dcl G 0)) := by
  refine ctm_intro (maxL := 8) kw_X6_copy (by decide) (by decide) [some (qr G 0), some (.int (nI qa)), some (.int (nI o)), some (.int (nI qb)), some (.int (nI q)), some (.int (nI n1)), none, none] rfl (Nat.le_of_ble_eq_true rfl) ?_
  intro X _ hcl hsl _ _ C E
  have Ra := I.rw qa hqa
  rw [hl, hz] at Ra
  have hne : ¬ nI la = -1 := nI_m1 (by omega)
  have Rb := I.rw qb hqb
  rw [hl2, hz2] at Rb
  have hne2 : ¬ nI lb = -1 := nI_m1 (by omega)
  refine y_iload_n C D_X6_copy_0 rfl ?_
  refine z_callS C D_X6_copy_1 lk_X6_55 (c_X6_isRow) rfl rfl (Nat.le_of_ble_eq_true rfl) (Nat.le_of_ble_eq_true rfl) ⟨Nat.zero_le _, Nat.zero_le _⟩ ?_
  refine y_top (bI_1 (isx_n (by omega) hqa)) ?_
  refine z_ifeq1 C D_X6_copy_4 ?_
  refine y_iload_n C D_X6_copy_7 rfl ?_
  refine z_callS C D_X6_copy_8 lk_X6_55 (c_X6_isRow) rfl rfl (Nat.le_of_ble_eq_true rfl) (Nat.le_of_ble_eq_true rfl) ⟨Nat.zero_le _, Nat.zero_le _⟩ ?_
  refine y_top (bI_1 (isx_n (by omega) hqb)) ?_
  refine z_ifne1 C D_X6_copy_11 ?_
  refine y_aload_n C D_X6_copy_17 rfl ?_
  refine y_get C D_X6_copy_18 fl_X6_11 I.o rfl ?_
  refine y_iload_n C D_X6_copy_21 rfl ?_
  refine z_ald (t0 := 2) C D_X6_copy_22 I.rs rfl (by omega) (by decide) (rfR_at (by omega)) ?_
  refine y_astore C D_X6_copy_23 (by decide) (qok_s rfl rfl) ?_
  refine y_aload_n C D_X6_copy_25 rfl ?_
  refine y_get C D_X6_copy_26 fl_X6_11 I.o rfl ?_
  refine y_iload_n C D_X6_copy_29 rfl ?_
  refine z_ald (t0 := 2) C D_X6_copy_30 I.rs rfl (by omega) (by decide) (rfR_at (by omega)) ?_
  refine y_astore C D_X6_copy_31 (by decide) (qok_s rfl rfl) ?_
  refine y_aload C D_X6_copy_33 rfl ?_
  refine z_callV C D_X6_copy_35 lk_X6_78 (c_X2_isMissingY Ra) Ra.1 rfl rfl (Nat.le_of_ble_eq_true rfl) (Nat.le_of_ble_eq_true rfl) ⟨Nat.zero_le _, Nat.zero_le _⟩ ?_
  refine y_top (bI_0 hne) ?_
  refine z_ifne0 C D_X6_copy_38 ?_
  refine y_aload C D_X6_copy_41 rfl ?_
  refine z_callV C D_X6_copy_43 lk_X6_78 (c_X2_isMissingY Rb) Rb.1 rfl rfl (Nat.le_of_ble_eq_true rfl) (Nat.le_of_ble_eq_true rfl) ⟨Nat.zero_le _, Nat.zero_le _⟩ ?_
  refine y_top (bI_0 hne2) ?_
  refine z_ifeq0 C D_X6_copy_46 ?_
  refine y_aload C D_X6_copy_55 rfl ?_
  refine y_get C D_X6_copy_57 fl_X6_82 Ra.1 rfl ?_
  refine y_aload C D_X6_copy_60 rfl ?_
  refine y_get C D_X6_copy_62 fl_X6_82 Rb.1 rfl ?_
  refine y_icmp_eq C D_X6_copy_65 (n_eq (by omega) (by omega)) (fun c_65 => ?_) (fun c_65 => absurd hd c_65)
  refine y_aload C D_X6_copy_74 rfl ?_
  refine y_iload_n C D_X6_copy_76 rfl ?_
  refine y_iload C D_X6_copy_77 rfl ?_
  refine z_callV C D_X6_copy_79 lk_X6_86 (c_X2_holdsY Ra hza40) Ra.1 rfl rfl (Nat.le_of_ble_eq_true rfl) (Nat.le_of_ble_eq_true rfl) ⟨Nat.zero_le _, Nat.zero_le _⟩ ?_
  refine y_top (bI_1 (hld_n hza40 ho1)) ?_
  refine z_ifeq1 C D_X6_copy_82 ?_
  refine y_aload C D_X6_copy_85 rfl ?_
  refine y_iload C D_X6_copy_87 rfl ?_
  refine y_iload C D_X6_copy_89 rfl ?_
  refine z_callV C D_X6_copy_91 lk_X6_86 (c_X2_holdsY Rb hzb40) Rb.1 rfl rfl (Nat.le_of_ble_eq_true rfl) (Nat.le_of_ble_eq_true rfl) ⟨Nat.zero_le _, Nat.zero_le _⟩ ?_
  refine y_top (bI_1 (hld_n hzb40 ho2)) ?_
  refine z_ifne1 C D_X6_copy_94 ?_
  refine y_aload C D_X6_copy_103 rfl ?_
  refine y_get C D_X6_copy_105 fl_X6_90 Ra.1 rfl ?_
  refine y_iload_n C D_X6_copy_108 rfl ?_
  refine y_aload C D_X6_copy_109 rfl ?_
  refine y_get C D_X6_copy_111 fl_X6_90 Rb.1 rfl ?_
  refine y_iload C D_X6_copy_114 rfl ?_
  refine y_iload C D_X6_copy_116 rfl ?_
  have eo : (nI o).toNatClampNeg = o := nI_clamp (by omega)
  have eq : (nI q).toNatClampNeg = q := nI_clamp (by omega)
  have en : (nI n1).toNatClampNeg = n1 := nI_clamp (by omega)
  have hw : h.set (100 + 2 * qb + 1) (qI G 40 (va_cpy (tr 40 (it qa)) (tr 40 (it qb)) (nI o).toNatClampNeg (nI q).toNatClampNeg (nI n1).toNatClampNeg)) = rc G h (100 + 2 * qb) (nI lb) (nI zb) (va_cpy (it qa) (it qb) o q n1) := by
    rw [eo, eq, en, tr_cpy (by omega) (by omega)]
    unfold rc
    rw [set_same Rb.1]
  refine y_copy C D_X6_copy_118 lk_X6_94 Ra.2 Rb.2 (nI_pos (by omega)) (nI_pos (by omega)) (nI_pos (by omega)) (by rw [eo, en]; omega) (by rw [eq, en]; omega) (Nat.le_of_ble_eq_true rfl) (Nat.le_of_ble_eq_true rfl) hw ?_
  have I1 := I.rca hqb (x1 := nI lb) (x2 := nI zb) (g := va_cpy (it qa) (it qb) o q n1)
  refine y_aload_n C D_X6_copy_121 rfl ?_
  refine y_iload C D_X6_copy_122 rfl ?_
  refine z_callV C D_X6_copy_124 lk_X6_68 (c_X6_sound I1) I1.o rfl rfl (Nat.le_of_ble_eq_true rfl) (Nat.le_of_ble_eq_true rfl) ⟨Nat.zero_le _, Nat.zero_le _⟩ ?_
  exact y_iret C E D_X6_copy_127 (rfl) (rfl)
theorem c_X6_whoB (I : CI G (h) (i) (A) (B) (fin) (n) (lf) (b) (y) (sz) (old) (w) (c) (f) (ln) (rz) (it) (im)) (h3 : y 3 ≤ 5) {x1 x2 x3 x4 : Int32} (hx : ¬ isx x1 (y 3) ∨ ¬ isx x2 8 ∨ ¬ inr x4 1 12) : Ct l G yX6_who 2 [qr G 0, .int (x1), .int (x2), .int (x3), .int (x4)] (h) (some (.int (-1000001))) (h) := by
  refine ctm_intro (maxL := 6) kw_X6_who (by decide) (by decide) [some (qr G 0), some (.int (x1)), some (.int (x2)), some (.int (x3)), some (.int (x4)), none] rfl (Nat.le_of_ble_eq_true rfl) ?_
  intro X _ hcl hsl _ _ C E
  refine y_aload_n C D_X6_who_0 rfl ?_
  refine y_iload_n C D_X6_who_1 rfl ?_
  refine z_callV C D_X6_who_2 lk_X6_150 (c_X6_isSleeper I (by omega)) I.o rfl rfl (Nat.le_of_ble_eq_true rfl) (Nat.le_of_ble_eq_true rfl) ⟨Nat.zero_le _, Nat.zero_le _⟩ ?_
  refine z_ifeqB C D_X6_who_5 (fun c_5 => ?_) (fun c_5 => ?_)
  · refine y_ldc C D_X6_who_28 lk_X6_59 ?_
    exact y_iret C E D_X6_who_30 (rfl) (rfl)
  · refine y_iload_n C D_X6_who_8 rfl ?_
    refine z_callS C D_X6_who_9 lk_X6_55 (c_X6_isRow) rfl rfl (Nat.le_of_ble_eq_true rfl) (Nat.le_of_ble_eq_true rfl) ⟨Nat.zero_le _, Nat.zero_le _⟩ ?_
    refine z_ifeqB C D_X6_who_12 (fun c_12 => ?_) (fun c_12 => ?_)
    · refine y_ldc C D_X6_who_28 lk_X6_59 ?_
      exact y_iret C E D_X6_who_30 (rfl) (rfl)
    · refine y_iload C D_X6_who_15 rfl ?_
      refine y_iconst C D_X6_who_17 ki_1 ?_
      refine y_icmp_lt C D_X6_who_18 Iff.rfl (fun c_18 => ?_) (fun c_18 => ?_)
      · refine y_ldc C D_X6_who_28 lk_X6_59 ?_
        exact y_iret C E D_X6_who_30 (rfl) (rfl)
      · refine y_iload C D_X6_who_21 rfl ?_
        refine y_bipush C D_X6_who_23 kb_12 ?_
        refine y_icmp_le C D_X6_who_25 Iff.rfl (fun c_25 => hx.elim (fun z => absurd c_5 z) (fun z => z.elim (fun z => absurd c_12 z) (fun z => absurd ⟨Int32.not_lt.mp c_18, c_25⟩ z))) (fun c_25 => ?_)
        refine y_ldc C D_X6_who_28 lk_X6_59 ?_
        exact y_iret C E D_X6_who_30 (rfl) (rfl)
theorem c_X6_whoN (I : CI G (h) (i) (A) (B) (fin) (n) (lf) (b) (y) (sz) (old) (w) (c) (f) (ln) (rz) (it) (im)) (h3 : y 3 ≤ 5) {s q n1 : Nat} {x : Int32} (hs1 : s < y 3) (hq : q < 8) (h1 : 1 ≤ n1) (hn : n1 ≤ 12) (hl : ln q = -1) : Ct l G yX6_who 2 [qr G 0, .int (nI s), .int (nI q), .int (x), .int (nI n1)] (h) (some (.int (-1000010 - nI 1))) (h.set 0 (dcl G 1)) := by
  refine ctm_intro (maxL := 6) kw_X6_who (by decide) (by decide) [some (qr G 0), some (.int (nI s)), some (.int (nI q)), some (.int (x)), some (.int (nI n1)), none] rfl (Nat.le_of_ble_eq_true rfl) ?_
  intro X _ hcl hsl _ _ C E
  refine y_aload_n C D_X6_who_0 rfl ?_
  refine y_iload_n C D_X6_who_1 rfl ?_
  refine z_callV C D_X6_who_2 lk_X6_150 (c_X6_isSleeper I (by omega)) I.o rfl rfl (Nat.le_of_ble_eq_true rfl) (Nat.le_of_ble_eq_true rfl) ⟨Nat.zero_le _, Nat.zero_le _⟩ ?_
  refine y_top (bI_1 (isx_n (by omega) hs1)) ?_
  refine z_ifeq1 C D_X6_who_5 ?_
  refine y_iload_n C D_X6_who_8 rfl ?_
  refine z_callS C D_X6_who_9 lk_X6_55 (c_X6_isRow) rfl rfl (Nat.le_of_ble_eq_true rfl) (Nat.le_of_ble_eq_true rfl) ⟨Nat.zero_le _, Nat.zero_le _⟩ ?_
  refine y_top (bI_1 (isx_n (by omega) hq)) ?_
  refine z_ifeq1 C D_X6_who_12 ?_
  refine y_iload C D_X6_who_15 rfl ?_
  refine y_iconst C D_X6_who_17 ki_1 ?_
  refine y_icmp_lt C D_X6_who_18 (n_lt (by omega) (by omega)) (fun c_18 => absurd c_18 (by omega)) (fun c_18 => ?_)
  refine y_iload C D_X6_who_21 rfl ?_
  refine y_bipush C D_X6_who_23 kb_12 ?_
  refine y_icmp_le C D_X6_who_25 (n_le (by omega) (by omega)) (fun c_25 => ?_) (fun c_25 => absurd hn c_25)
  refine y_aload_n C D_X6_who_31 rfl ?_
  refine y_get C D_X6_who_32 fl_X6_11 I.o rfl ?_
  refine y_iload_n C D_X6_who_35 rfl ?_
  refine z_ald (t0 := 2) C D_X6_who_36 I.rs rfl (by omega) (by decide) (rfR_at (by omega)) ?_
  refine y_iload_n C D_X6_who_37 rfl ?_
  refine y_iload C D_X6_who_38 rfl ?_
  refine z_callV C D_X6_who_40 lk_X6_71 (c_X2_findingNY (I.rw q hq) hl) (I.rw q hq).1 rfl rfl (Nat.le_of_ble_eq_true rfl) (Nat.le_of_ble_eq_true rfl) ⟨Nat.zero_le _, Nat.zero_le _⟩ ?_
  refine y_istore C D_X6_who_43 (by decide) (qok_s rfl rfl) ?_
  refine y_iload C D_X6_who_45 rfl ?_
  refine z_ifeq1 C D_X6_who_47 ?_
  refine y_aload_n C D_X6_who_50 rfl ?_
  refine y_iload C D_X6_who_51 rfl ?_
  refine z_callV C D_X6_who_53 lk_X6_60 (c_X6_found I) I.o rfl rfl (Nat.le_of_ble_eq_true rfl) (Nat.le_of_ble_eq_true rfl) ⟨Nat.zero_le _, Nat.zero_le _⟩ ?_
  refine y_goto C D_X6_who_56 ?_
  exact y_iret C E D_X6_who_84 (rfl) (rfl)
theorem c_X6_whoP (I : CI G (h) (i) (A) (B) (fin) (n) (lf) (b) (y) (sz) (old) (w) (c) (f) (ln) (rz) (it) (im)) (h3 : y 3 ≤ 5) {s q n1 la z : Nat} {x : Int32} (hs1 : s < y 3) (hq : q < 8) (h1 : 1 ≤ n1) (hn : n1 ≤ 12) (hla : la < 3) (hz40 : z ≤ 40) (hl : ln q = nI la) (hz : rz q = nI z) (hx : ¬ plc x n1 z) : Ct l G yX6_who 2 [qr G 0, .int (nI s), .int (nI q), .int (x), .int (nI n1)] (h) (some (.int (-1000010 - nI 2))) (h.set 0 (dcl G 2)) := by
  refine ctm_intro (maxL := 6) kw_X6_who (by decide) (by decide) [some (qr G 0), some (.int (nI s)), some (.int (nI q)), some (.int (x)), some (.int (nI n1)), none] rfl (Nat.le_of_ble_eq_true rfl) ?_
  intro X _ hcl hsl _ _ C E
  have R := I.rw q hq
  rw [hl, hz] at R
  have hne : ¬ nI la = -1 := nI_m1 (by omega)
  refine y_aload_n C D_X6_who_0 rfl ?_
  refine y_iload_n C D_X6_who_1 rfl ?_
  refine z_callV C D_X6_who_2 lk_X6_150 (c_X6_isSleeper I (by omega)) I.o rfl rfl (Nat.le_of_ble_eq_true rfl) (Nat.le_of_ble_eq_true rfl) ⟨Nat.zero_le _, Nat.zero_le _⟩ ?_
  refine y_top (bI_1 (isx_n (by omega) hs1)) ?_
  refine z_ifeq1 C D_X6_who_5 ?_
  refine y_iload_n C D_X6_who_8 rfl ?_
  refine z_callS C D_X6_who_9 lk_X6_55 (c_X6_isRow) rfl rfl (Nat.le_of_ble_eq_true rfl) (Nat.le_of_ble_eq_true rfl) ⟨Nat.zero_le _, Nat.zero_le _⟩ ?_
  refine y_top (bI_1 (isx_n (by omega) hq)) ?_
  refine z_ifeq1 C D_X6_who_12 ?_
  refine y_iload C D_X6_who_15 rfl ?_
  refine y_iconst C D_X6_who_17 ki_1 ?_
  refine y_icmp_lt C D_X6_who_18 (n_lt (by omega) (by omega)) (fun c_18 => absurd c_18 (by omega)) (fun c_18 => ?_)
  refine y_iload C D_X6_who_21 rfl ?_
  refine y_bipush C D_X6_who_23 kb_12 ?_
  refine y_icmp_le C D_X6_who_25 (n_le (by omega) (by omega)) (fun c_25 => ?_) (fun c_25 => absurd hn c_25)
  refine y_aload_n C D_X6_who_31 rfl ?_
  refine y_get C D_X6_who_32 fl_X6_11 I.o rfl ?_
  refine y_iload_n C D_X6_who_35 rfl ?_
  refine z_ald (t0 := 2) C D_X6_who_36 I.rs rfl (by omega) (by decide) (rfR_at (by omega)) ?_
  refine y_iload_n C D_X6_who_37 rfl ?_
  refine y_iload C D_X6_who_38 rfl ?_
  refine z_callV C D_X6_who_40 lk_X6_71 (c_X2_findingAtY R hz40 hne) R.1 rfl rfl (Nat.le_of_ble_eq_true rfl) (Nat.le_of_ble_eq_true rfl) ⟨Nat.zero_le _, Nat.zero_le _⟩ ?_
  refine y_top (congrArg nI (if_neg (fun z => hx ((hld_plc (by omega) hz40).mp z)))) ?_
  refine y_istore C D_X6_who_43 (by decide) (qok_s rfl rfl) ?_
  refine y_iload C D_X6_who_45 rfl ?_
  refine y_if_eq C D_X6_who_47 (n_eq0 (by omega)) (fun c_47 => absurd c_47 (by decide)) (fun c_47 => ?_)
  refine y_aload_n C D_X6_who_50 rfl ?_
  refine y_iload C D_X6_who_51 rfl ?_
  refine z_callV C D_X6_who_53 lk_X6_60 (c_X6_found I) I.o rfl rfl (Nat.le_of_ble_eq_true rfl) (Nat.le_of_ble_eq_true rfl) ⟨Nat.zero_le _, Nat.zero_le _⟩ ?_
  refine y_goto C D_X6_who_56 ?_
  exact y_iret C E D_X6_who_84 (rfl) (rfl)
theorem c_X6_who (I : CI G (h) (i) (A) (B) (fin) (n) (lf) (b) (y) (sz) (old) (w) (c) (f) (ln) (rz) (it) (im)) (hV : Va y) (h4 : y 4 ≤ 999) {s q n1 la z o : Nat} (hs1 : s < y 3) (hq : q < 8) (h1 : 1 ≤ n1) (hn : n1 ≤ 12) (hla : la < 3) (hz40 : z ≤ 40) (hl : ln q = nI la) (hz : rz q = nI z) (ho : o + n1 ≤ z) : ∃ z1 : Nat → Nat, Ct l G yX6_who 7 [qr G 0, .int (nI s), .int (nI q), .int (nI o), .int (nI n1)] h (some (.int (nI (whoN (it q) o y s n1 5)))) ((yc G h 89 z1).set 0 (dcl G 0)) := by
  have hV0 := hV.1
  have hV3 := hV.2.2.2.1
  have hV5 := hV.k64
  obtain ⟨fw, hS⟩ := I.s
  obtain ⟨z0, hs0⟩ := I.s0
  have hL := I.L
  refine ⟨kbU (it q) o y s n1 z0 5, ?_⟩
  refine ctm_intro (maxL := 6) kw_X6_who (by decide) (by decide) [some (qr G 0), some (.int (nI s)), some (.int (nI q)), some (.int (nI o)), some (.int (nI n1)), none] rfl (Nat.le_of_ble_eq_true rfl) ?_
  intro X _ hcl hsl _ _ C E
  have R := I.rw q hq
  rw [hl, hz] at R
  have hne : ¬ nI la = -1 := nI_m1 (by omega)
  refine y_aload_n C D_X6_who_0 rfl ?_
  refine y_iload_n C D_X6_who_1 rfl ?_
  refine z_callV C D_X6_who_2 lk_X6_150 (c_X6_isSleeper I (by omega)) I.o rfl rfl (Nat.le_of_ble_eq_true rfl) (Nat.le_of_ble_eq_true rfl) ⟨Nat.zero_le _, Nat.zero_le _⟩ ?_
  refine y_top (bI_1 (isx_n (by omega) hs1)) ?_
  refine z_ifeq1 C D_X6_who_5 ?_
  refine y_iload_n C D_X6_who_8 rfl ?_
  refine z_callS C D_X6_who_9 lk_X6_55 (c_X6_isRow) rfl rfl (Nat.le_of_ble_eq_true rfl) (Nat.le_of_ble_eq_true rfl) ⟨Nat.zero_le _, Nat.zero_le _⟩ ?_
  refine y_top (bI_1 (isx_n (by omega) hq)) ?_
  refine z_ifeq1 C D_X6_who_12 ?_
  refine y_iload C D_X6_who_15 rfl ?_
  refine y_iconst C D_X6_who_17 ki_1 ?_
  refine y_icmp_lt C D_X6_who_18 (n_lt (by omega) (by omega)) (fun c_18 => absurd c_18 (by omega)) (fun c_18 => ?_)
  refine y_iload C D_X6_who_21 rfl ?_
  refine y_bipush C D_X6_who_23 kb_12 ?_
  refine y_icmp_le C D_X6_who_25 (n_le (by omega) (by omega)) (fun c_25 => ?_) (fun c_25 => absurd hn c_25)
  refine y_aload_n C D_X6_who_31 rfl ?_
  refine y_get C D_X6_who_32 fl_X6_11 I.o rfl ?_
  refine y_iload_n C D_X6_who_35 rfl ?_
  refine z_ald (t0 := 2) C D_X6_who_36 I.rs rfl (by omega) (by decide) (rfR_at (by omega)) ?_
  refine y_iload_n C D_X6_who_37 rfl ?_
  refine y_iload C D_X6_who_38 rfl ?_
  refine z_callV C D_X6_who_40 lk_X6_71 (c_X2_findingAtY R hz40 hne) R.1 rfl rfl (Nat.le_of_ble_eq_true rfl) (Nat.le_of_ble_eq_true rfl) ⟨Nat.zero_le _, Nat.zero_le _⟩ ?_
  refine y_top (congrArg nI (if_pos (hld_n hz40 ho))) ?_
  refine y_istore C D_X6_who_43 (by decide) (qok_s rfl rfl) ?_
  refine y_iload C D_X6_who_45 rfl ?_
  refine z_ifeq0 C D_X6_who_47 ?_
  refine y_aload_n C D_X6_who_59 rfl ?_
  refine y_aload_n C D_X6_who_60 rfl ?_
  refine y_get C D_X6_who_61 fl_X6_43 I.o rfl ?_
  refine y_aload_n C D_X6_who_64 rfl ?_
  refine y_get C D_X6_who_65 fl_X6_25 I.o rfl ?_
  refine y_iload_n C D_X6_who_68 rfl ?_
  refine y_aload_n C D_X6_who_69 rfl ?_
  refine y_get C D_X6_who_70 fl_X6_11 I.o rfl ?_
  refine y_iload_n C D_X6_who_73 rfl ?_
  refine z_ald (t0 := 2) C D_X6_who_74 I.rs rfl (by omega) (by decide) (rfR_at (by omega)) ?_
  refine y_iload_n C D_X6_who_75 rfl ?_
  refine y_iload C D_X6_who_76 rfl ?_
  refine z_callV C D_X6_who_78 lk_X6_223 (c_X3_kindsBy hS I.sq hs0 I.yd R (by omega) hz40 hV h4 hs1 ho (by omega)) hS rfl rfl (Nat.le_of_ble_eq_true rfl) (Nat.le_of_ble_eq_true rfl) ⟨Nat.zero_le _, Nat.zero_le _⟩ ?_
  have I1 := I.y89 (z := kbU (it q) o y s n1 z0 5)
  refine z_callV C D_X6_who_81 lk_X6_68 (c_X6_sound I1) I1.o rfl rfl (Nat.le_of_ble_eq_true rfl) (Nat.le_of_ble_eq_true rfl) ⟨Nat.zero_le _, Nat.zero_le _⟩ ?_
  exact y_iret C E D_X6_who_84 (rfl) (rfl)
theorem c_X6_whisperedB (I : CI G (h) (i) (A) (B) (fin) (n) (lf) (b) (y) (sz) (old) (w) (c) (f) (ln) (rz) (it) (im)) (h01 : 1 ≤ y 0) (h0 : y 0 ≤ 6) {x1 x2 x3 x4 : Int32} (hx : ¬ isx x1 (y 0) ∨ ¬ isx x2 8 ∨ ¬ inr x4 1 6) : Ct l G yX6_whispered 2 [qr G 0, .int (x1), .int (x2), .int (x3), .int (x4)] (h) (some (.int (-1000001))) (h) := by
  refine ctm_intro (maxL := 6) kw_X6_whispered (by decide) (by decide) [some (qr G 0), some (.int (x1)), some (.int (x2)), some (.int (x3)), some (.int (x4)), none] rfl (Nat.le_of_ble_eq_true rfl) ?_
  intro X _ hcl hsl _ _ C E
  refine y_aload_n C D_X6_whispered_0 rfl ?_
  refine z_callV C D_X6_whispered_1 lk_X6_135 (c_X6_noYard I (by omega)) I.o rfl rfl (Nat.le_of_ble_eq_true rfl) (Nat.le_of_ble_eq_true rfl) ⟨Nat.zero_le _, Nat.zero_le _⟩ ?_
  refine y_top (bI_0 (by omega)) ?_
  refine z_ifeq0 C D_X6_whispered_4 ?_
  refine y_aload_n C D_X6_whispered_10 rfl ?_
  refine y_iload_n C D_X6_whispered_11 rfl ?_
  refine z_callV C D_X6_whispered_12 lk_X6_173 (c_X6_isGrave I (by omega)) I.o rfl rfl (Nat.le_of_ble_eq_true rfl) (Nat.le_of_ble_eq_true rfl) ⟨Nat.zero_le _, Nat.zero_le _⟩ ?_
  refine z_ifeqB C D_X6_whispered_15 (fun c_15 => ?_) (fun c_15 => ?_)
  · refine y_ldc C D_X6_whispered_38 lk_X6_59 ?_
    exact y_iret C E D_X6_whispered_40 (rfl) (rfl)
  · refine y_iload_n C D_X6_whispered_18 rfl ?_
    refine z_callS C D_X6_whispered_19 lk_X6_55 (c_X6_isRow) rfl rfl (Nat.le_of_ble_eq_true rfl) (Nat.le_of_ble_eq_true rfl) ⟨Nat.zero_le _, Nat.zero_le _⟩ ?_
    refine z_ifeqB C D_X6_whispered_22 (fun c_22 => ?_) (fun c_22 => ?_)
    · refine y_ldc C D_X6_whispered_38 lk_X6_59 ?_
      exact y_iret C E D_X6_whispered_40 (rfl) (rfl)
    · refine y_iload C D_X6_whispered_25 rfl ?_
      refine y_iconst C D_X6_whispered_27 ki_1 ?_
      refine y_icmp_lt C D_X6_whispered_28 Iff.rfl (fun c_28 => ?_) (fun c_28 => ?_)
      · refine y_ldc C D_X6_whispered_38 lk_X6_59 ?_
        exact y_iret C E D_X6_whispered_40 (rfl) (rfl)
      · refine y_iload C D_X6_whispered_31 rfl ?_
        refine y_bipush C D_X6_whispered_33 kb_6 ?_
        refine y_icmp_le C D_X6_whispered_35 Iff.rfl (fun c_35 => hx.elim (fun z => absurd c_15 z) (fun z => z.elim (fun z => absurd c_22 z) (fun z => absurd ⟨Int32.not_lt.mp c_28, c_35⟩ z))) (fun c_35 => ?_)
        refine y_ldc C D_X6_whispered_38 lk_X6_59 ?_
        exact y_iret C E D_X6_whispered_40 (rfl) (rfl)
theorem c_X6_whisperedN (I : CI G (h) (i) (A) (B) (fin) (n) (lf) (b) (y) (sz) (old) (w) (c) (f) (ln) (rz) (it) (im)) (h01 : 1 ≤ y 0) (h0 : y 0 ≤ 6) {s q n1 : Nat} {x : Int32} (hs1 : s < y 0) (hq : q < 8) (h1 : 1 ≤ n1) (hn : n1 ≤ 6) (hl : ln q = -1) : Ct l G yX6_whispered 2 [qr G 0, .int (nI s), .int (nI q), .int (x), .int (nI n1)] (h) (some (.int (-1000010 - nI 1))) (h.set 0 (dcl G 1)) := by
  refine ctm_intro (maxL := 6) kw_X6_whispered (by decide) (by decide) [some (qr G 0), some (.int (nI s)), some (.int (nI q)), some (.int (x)), some (.int (nI n1)), none] rfl (Nat.le_of_ble_eq_true rfl) ?_
  intro X _ hcl hsl _ _ C E
  refine y_aload_n C D_X6_whispered_0 rfl ?_
  refine z_callV C D_X6_whispered_1 lk_X6_135 (c_X6_noYard I (by omega)) I.o rfl rfl (Nat.le_of_ble_eq_true rfl) (Nat.le_of_ble_eq_true rfl) ⟨Nat.zero_le _, Nat.zero_le _⟩ ?_
  refine y_top (bI_0 (by omega)) ?_
  refine z_ifeq0 C D_X6_whispered_4 ?_
  refine y_aload_n C D_X6_whispered_10 rfl ?_
  refine y_iload_n C D_X6_whispered_11 rfl ?_
  refine z_callV C D_X6_whispered_12 lk_X6_173 (c_X6_isGrave I (by omega)) I.o rfl rfl (Nat.le_of_ble_eq_true rfl) (Nat.le_of_ble_eq_true rfl) ⟨Nat.zero_le _, Nat.zero_le _⟩ ?_
  refine y_top (bI_1 (isx_n (by omega) hs1)) ?_
  refine z_ifeq1 C D_X6_whispered_15 ?_
  refine y_iload_n C D_X6_whispered_18 rfl ?_
  refine z_callS C D_X6_whispered_19 lk_X6_55 (c_X6_isRow) rfl rfl (Nat.le_of_ble_eq_true rfl) (Nat.le_of_ble_eq_true rfl) ⟨Nat.zero_le _, Nat.zero_le _⟩ ?_
  refine y_top (bI_1 (isx_n (by omega) hq)) ?_
  refine z_ifeq1 C D_X6_whispered_22 ?_
  refine y_iload C D_X6_whispered_25 rfl ?_
  refine y_iconst C D_X6_whispered_27 ki_1 ?_
  refine y_icmp_lt C D_X6_whispered_28 (n_lt (by omega) (by omega)) (fun c_28 => absurd c_28 (by omega)) (fun c_28 => ?_)
  refine y_iload C D_X6_whispered_31 rfl ?_
  refine y_bipush C D_X6_whispered_33 kb_6 ?_
  refine y_icmp_le C D_X6_whispered_35 (n_le (by omega) (by omega)) (fun c_35 => ?_) (fun c_35 => absurd hn c_35)
  refine y_aload_n C D_X6_whispered_41 rfl ?_
  refine y_get C D_X6_whispered_42 fl_X6_11 I.o rfl ?_
  refine y_iload_n C D_X6_whispered_45 rfl ?_
  refine z_ald (t0 := 2) C D_X6_whispered_46 I.rs rfl (by omega) (by decide) (rfR_at (by omega)) ?_
  refine y_iload_n C D_X6_whispered_47 rfl ?_
  refine y_iload C D_X6_whispered_48 rfl ?_
  refine z_callV C D_X6_whispered_50 lk_X6_71 (c_X2_findingNY (I.rw q hq) hl) (I.rw q hq).1 rfl rfl (Nat.le_of_ble_eq_true rfl) (Nat.le_of_ble_eq_true rfl) ⟨Nat.zero_le _, Nat.zero_le _⟩ ?_
  refine y_istore C D_X6_whispered_53 (by decide) (qok_s rfl rfl) ?_
  refine y_iload C D_X6_whispered_55 rfl ?_
  refine z_ifeq1 C D_X6_whispered_57 ?_
  refine y_aload_n C D_X6_whispered_60 rfl ?_
  refine y_iload C D_X6_whispered_61 rfl ?_
  refine z_callV C D_X6_whispered_63 lk_X6_60 (c_X6_found I) I.o rfl rfl (Nat.le_of_ble_eq_true rfl) (Nat.le_of_ble_eq_true rfl) ⟨Nat.zero_le _, Nat.zero_le _⟩ ?_
  refine y_goto C D_X6_whispered_66 ?_
  exact y_iret C E D_X6_whispered_94 (rfl) (rfl)
theorem c_X6_whisperedP (I : CI G (h) (i) (A) (B) (fin) (n) (lf) (b) (y) (sz) (old) (w) (c) (f) (ln) (rz) (it) (im)) (h01 : 1 ≤ y 0) (h0 : y 0 ≤ 6) {s q n1 la z : Nat} {x : Int32} (hs1 : s < y 0) (hq : q < 8) (h1 : 1 ≤ n1) (hn : n1 ≤ 6) (hla : la < 3) (hz40 : z ≤ 40) (hl : ln q = nI la) (hz : rz q = nI z) (hx : ¬ plc x n1 z) : Ct l G yX6_whispered 2 [qr G 0, .int (nI s), .int (nI q), .int (x), .int (nI n1)] (h) (some (.int (-1000010 - nI 2))) (h.set 0 (dcl G 2)) := by
  refine ctm_intro (maxL := 6) kw_X6_whispered (by decide) (by decide) [some (qr G 0), some (.int (nI s)), some (.int (nI q)), some (.int (x)), some (.int (nI n1)), none] rfl (Nat.le_of_ble_eq_true rfl) ?_
  intro X _ hcl hsl _ _ C E
  have R := I.rw q hq
  rw [hl, hz] at R
  have hne : ¬ nI la = -1 := nI_m1 (by omega)
  refine y_aload_n C D_X6_whispered_0 rfl ?_
  refine z_callV C D_X6_whispered_1 lk_X6_135 (c_X6_noYard I (by omega)) I.o rfl rfl (Nat.le_of_ble_eq_true rfl) (Nat.le_of_ble_eq_true rfl) ⟨Nat.zero_le _, Nat.zero_le _⟩ ?_
  refine y_top (bI_0 (by omega)) ?_
  refine z_ifeq0 C D_X6_whispered_4 ?_
  refine y_aload_n C D_X6_whispered_10 rfl ?_
  refine y_iload_n C D_X6_whispered_11 rfl ?_
  refine z_callV C D_X6_whispered_12 lk_X6_173 (c_X6_isGrave I (by omega)) I.o rfl rfl (Nat.le_of_ble_eq_true rfl) (Nat.le_of_ble_eq_true rfl) ⟨Nat.zero_le _, Nat.zero_le _⟩ ?_
  refine y_top (bI_1 (isx_n (by omega) hs1)) ?_
  refine z_ifeq1 C D_X6_whispered_15 ?_
  refine y_iload_n C D_X6_whispered_18 rfl ?_
  refine z_callS C D_X6_whispered_19 lk_X6_55 (c_X6_isRow) rfl rfl (Nat.le_of_ble_eq_true rfl) (Nat.le_of_ble_eq_true rfl) ⟨Nat.zero_le _, Nat.zero_le _⟩ ?_
  refine y_top (bI_1 (isx_n (by omega) hq)) ?_
  refine z_ifeq1 C D_X6_whispered_22 ?_
  refine y_iload C D_X6_whispered_25 rfl ?_
  refine y_iconst C D_X6_whispered_27 ki_1 ?_
  refine y_icmp_lt C D_X6_whispered_28 (n_lt (by omega) (by omega)) (fun c_28 => absurd c_28 (by omega)) (fun c_28 => ?_)
  refine y_iload C D_X6_whispered_31 rfl ?_
  refine y_bipush C D_X6_whispered_33 kb_6 ?_
  refine y_icmp_le C D_X6_whispered_35 (n_le (by omega) (by omega)) (fun c_35 => ?_) (fun c_35 => absurd hn c_35)
  refine y_aload_n C D_X6_whispered_41 rfl ?_
  refine y_get C D_X6_whispered_42 fl_X6_11 I.o rfl ?_
  refine y_iload_n C D_X6_whispered_45 rfl ?_
  refine z_ald (t0 := 2) C D_X6_whispered_46 I.rs rfl (by omega) (by decide) (rfR_at (by omega)) ?_
  refine y_iload_n C D_X6_whispered_47 rfl ?_
  refine y_iload C D_X6_whispered_48 rfl ?_
  refine z_callV C D_X6_whispered_50 lk_X6_71 (c_X2_findingAtY R hz40 hne) R.1 rfl rfl (Nat.le_of_ble_eq_true rfl) (Nat.le_of_ble_eq_true rfl) ⟨Nat.zero_le _, Nat.zero_le _⟩ ?_
  refine y_top (congrArg nI (if_neg (fun z => hx ((hld_plc (by omega) hz40).mp z)))) ?_
  refine y_istore C D_X6_whispered_53 (by decide) (qok_s rfl rfl) ?_
  refine y_iload C D_X6_whispered_55 rfl ?_
  refine y_if_eq C D_X6_whispered_57 (n_eq0 (by omega)) (fun c_57 => absurd c_57 (by decide)) (fun c_57 => ?_)
  refine y_aload_n C D_X6_whispered_60 rfl ?_
  refine y_iload C D_X6_whispered_61 rfl ?_
  refine z_callV C D_X6_whispered_63 lk_X6_60 (c_X6_found I) I.o rfl rfl (Nat.le_of_ble_eq_true rfl) (Nat.le_of_ble_eq_true rfl) ⟨Nat.zero_le _, Nat.zero_le _⟩ ?_
  refine y_goto C D_X6_whispered_66 ?_
  exact y_iret C E D_X6_whispered_94 (rfl) (rfl)
theorem c_X6_whispered (I : CI G (h) (i) (A) (B) (fin) (n) (lf) (b) (y) (sz) (old) (w) (c) (f) (ln) (rz) (it) (im)) (hV : Va y) (h4 : y 4 ≤ 999) {s q n1 la z o : Nat} (hs1 : s < y 0) (hq : q < 8) (h1 : 1 ≤ n1) (hn : n1 ≤ 6) (hla : la < 3) (hz40 : z ≤ 40) (hl : ln q = nI la) (hz : rz q = nI z) (ho : o + n1 ≤ z) : ∃ z1 : Nat → Nat, Ct l G yX6_whispered 7 [qr G 0, .int (nI s), .int (nI q), .int (nI o), .int (nI n1)] h (some (.int (nI (whiN (it q) o y s n1 (y 3))))) ((yc G h 89 z1).set 0 (dcl G 0)) := by
  have hV0 := hV.1
  have hV3 := hV.2.2.2.1
  have hV5 := hV.k64
  obtain ⟨fw, hS⟩ := I.s
  obtain ⟨z0, hs0⟩ := I.s0
  have hL := I.L
  refine ⟨wbU (it q) o y s n1 z0 (y 3), ?_⟩
  refine ctm_intro (maxL := 6) kw_X6_whispered (by decide) (by decide) [some (qr G 0), some (.int (nI s)), some (.int (nI q)), some (.int (nI o)), some (.int (nI n1)), none] rfl (Nat.le_of_ble_eq_true rfl) ?_
  intro X _ hcl hsl _ _ C E
  have R := I.rw q hq
  rw [hl, hz] at R
  have hne : ¬ nI la = -1 := nI_m1 (by omega)
  refine y_aload_n C D_X6_whispered_0 rfl ?_
  refine z_callV C D_X6_whispered_1 lk_X6_135 (c_X6_noYard I (by omega)) I.o rfl rfl (Nat.le_of_ble_eq_true rfl) (Nat.le_of_ble_eq_true rfl) ⟨Nat.zero_le _, Nat.zero_le _⟩ ?_
  refine y_top (bI_0 (by omega)) ?_
  refine z_ifeq0 C D_X6_whispered_4 ?_
  refine y_aload_n C D_X6_whispered_10 rfl ?_
  refine y_iload_n C D_X6_whispered_11 rfl ?_
  refine z_callV C D_X6_whispered_12 lk_X6_173 (c_X6_isGrave I (by omega)) I.o rfl rfl (Nat.le_of_ble_eq_true rfl) (Nat.le_of_ble_eq_true rfl) ⟨Nat.zero_le _, Nat.zero_le _⟩ ?_
  refine y_top (bI_1 (isx_n (by omega) hs1)) ?_
  refine z_ifeq1 C D_X6_whispered_15 ?_
  refine y_iload_n C D_X6_whispered_18 rfl ?_
  refine z_callS C D_X6_whispered_19 lk_X6_55 (c_X6_isRow) rfl rfl (Nat.le_of_ble_eq_true rfl) (Nat.le_of_ble_eq_true rfl) ⟨Nat.zero_le _, Nat.zero_le _⟩ ?_
  refine y_top (bI_1 (isx_n (by omega) hq)) ?_
  refine z_ifeq1 C D_X6_whispered_22 ?_
  refine y_iload C D_X6_whispered_25 rfl ?_
  refine y_iconst C D_X6_whispered_27 ki_1 ?_
  refine y_icmp_lt C D_X6_whispered_28 (n_lt (by omega) (by omega)) (fun c_28 => absurd c_28 (by omega)) (fun c_28 => ?_)
  refine y_iload C D_X6_whispered_31 rfl ?_
  refine y_bipush C D_X6_whispered_33 kb_6 ?_
  refine y_icmp_le C D_X6_whispered_35 (n_le (by omega) (by omega)) (fun c_35 => ?_) (fun c_35 => absurd hn c_35)
  refine y_aload_n C D_X6_whispered_41 rfl ?_
  refine y_get C D_X6_whispered_42 fl_X6_11 I.o rfl ?_
  refine y_iload_n C D_X6_whispered_45 rfl ?_
  refine z_ald (t0 := 2) C D_X6_whispered_46 I.rs rfl (by omega) (by decide) (rfR_at (by omega)) ?_
  refine y_iload_n C D_X6_whispered_47 rfl ?_
  refine y_iload C D_X6_whispered_48 rfl ?_
  refine z_callV C D_X6_whispered_50 lk_X6_71 (c_X2_findingAtY R hz40 hne) R.1 rfl rfl (Nat.le_of_ble_eq_true rfl) (Nat.le_of_ble_eq_true rfl) ⟨Nat.zero_le _, Nat.zero_le _⟩ ?_
  refine y_top (congrArg nI (if_pos (hld_n hz40 ho))) ?_
  refine y_istore C D_X6_whispered_53 (by decide) (qok_s rfl rfl) ?_
  refine y_iload C D_X6_whispered_55 rfl ?_
  refine z_ifeq0 C D_X6_whispered_57 ?_
  refine y_aload_n C D_X6_whispered_69 rfl ?_
  refine y_aload_n C D_X6_whispered_70 rfl ?_
  refine y_get C D_X6_whispered_71 fl_X6_43 I.o rfl ?_
  refine y_aload_n C D_X6_whispered_74 rfl ?_
  refine y_get C D_X6_whispered_75 fl_X6_25 I.o rfl ?_
  refine y_iload_n C D_X6_whispered_78 rfl ?_
  refine y_aload_n C D_X6_whispered_79 rfl ?_
  refine y_get C D_X6_whispered_80 fl_X6_11 I.o rfl ?_
  refine y_iload_n C D_X6_whispered_83 rfl ?_
  refine z_ald (t0 := 2) C D_X6_whispered_84 I.rs rfl (by omega) (by decide) (rfR_at (by omega)) ?_
  refine y_iload_n C D_X6_whispered_85 rfl ?_
  refine y_iload C D_X6_whispered_86 rfl ?_
  refine z_callV C D_X6_whispered_88 lk_X6_227 (c_X3_whisperersBy hS I.sq hs0 I.yd R (by omega) hz40 hV h4 hs1 ho (by omega)) hS rfl rfl (Nat.le_of_ble_eq_true rfl) (Nat.le_of_ble_eq_true rfl) ⟨Nat.zero_le _, Nat.zero_le _⟩ ?_
  have I1 := I.y89 (z := wbU (it q) o y s n1 z0 (y 3))
  refine z_callV C D_X6_whispered_91 lk_X6_68 (c_X6_sound I1) I1.o rfl rfl (Nat.le_of_ble_eq_true rfl) (Nat.le_of_ble_eq_true rfl) ⟨Nat.zero_le _, Nat.zero_le _⟩ ?_
  exact y_iret C E D_X6_whispered_94 (rfl) (rfl)
end
