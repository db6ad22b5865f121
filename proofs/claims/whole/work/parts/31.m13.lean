section
variable {l : Launch} {G : qG} {U : List va_E} {i : Nat → Nat} {A : Nat → Nat → Nat} {B : Nat → Nat → Int32} {h : List va_E}
theorem c_X7_asLane {ln : Nat} {v : Int32} (hl : ln < 3) : Ct l G yX7_asLane 0 [.int (nI ln), .int v] (h) (some (.int (lnI ln v))) (h) := by
  refine ctm_intro (maxL := 2) kw_X7_asLane (by decide) (by decide) [some (.int (nI ln)), some (.int v)] rfl (Nat.le_of_ble_eq_true rfl) ?_
  intro X _ hcl hsl _ _ C E
  refine y_iload_n C D_X7_asLane_0 rfl ?_
  refine y_if_ne C D_X7_asLane_1 (n_eq0 (by omega)) (fun c_1 => ?_) (fun c_1 => ?_)
  · refine y_iload_n C D_X7_asLane_14 rfl ?_
    refine y_iconst C D_X7_asLane_15 ki_1 ?_
    refine y_icmp_ne C D_X7_asLane_16 (n_eq (by omega) (by omega)) (fun c_16 => ?_) (fun c_16 => ?_)
    · refine y_iload_n C D_X7_asLane_29 rfl ?_
      exact y_iret C E D_X7_asLane_30 (rv (by rw [lnI, if_neg c_1, if_neg c_16])) (rfl)
    · refine y_iload_n C D_X7_asLane_19 rfl ?_
      refine y_bipush C D_X7_asLane_20 kb_16 ?_
      refine y_ishl C D_X7_asLane_22 ?_
      refine y_bipush C D_X7_asLane_23 kb_16 ?_
      refine y_ishr C D_X7_asLane_25 ?_
      refine y_goto C D_X7_asLane_26 ?_
      exact y_iret C E D_X7_asLane_30 (rv (by rw [sh16, lnI, if_neg c_1, if_pos c_16])) (rfl)
  · refine y_iload_n C D_X7_asLane_4 rfl ?_
    refine y_bipush C D_X7_asLane_5 kb_24 ?_
    refine y_ishl C D_X7_asLane_7 ?_
    refine y_bipush C D_X7_asLane_8 kb_24 ?_
    refine y_ishr C D_X7_asLane_10 ?_
    refine y_goto C D_X7_asLane_11 ?_
    exact y_iret C E D_X7_asLane_30 (rv (by rw [sh24, lnI, if_pos c_1])) (rfl)
theorem c_X7_rowB (hU : U.length = 122) {x1 x2 x3 : Int32} (hx : ¬ isx x1 8 ∨ ¬ isx x2 3 ∨ nI 40 < x3) : Ct l G yX7_row 2 [qr G 122, .int x1, .int x2, .int x3] (hm G U i A B) (some (.int (-1000001))) (hm G U i A B) := by
  refine ctm_intro (maxL := 5) kw_X7_row (by decide) (by decide) [some (qr G 122), some (.int x1), some (.int x2), some (.int x3), none] rfl (Nat.le_of_ble_eq_true rfl) ?_
  intro X _ hcl hsl _ _ C E
  refine y_iload_n C D_X7_row_0 rfl ?_
  refine z_callS C D_X7_row_1 lk_X7_61 (c_X7_isRow) rfl rfl (Nat.le_of_ble_eq_true rfl) (Nat.le_of_ble_eq_true rfl) ⟨Nat.zero_le _, Nat.zero_le _⟩ ?_
  refine z_ifeqB C D_X7_row_4 (fun c_4 => ?_) (fun c_4 => ?_)
  · refine y_ldc C D_X7_row_25 lk_X7_67 ?_
    exact y_iret C E D_X7_row_27 (rfl) (rfl)
  · refine y_iload_n C D_X7_row_7 rfl ?_
    refine y_i2l C D_X7_row_8 ?_
    refine y_lconst C D_X7_row_9 rfl ?_
    refine y_ldc2 C D_X7_row_10 lk_X7_65 ?_
    refine z_callS C D_X7_row_13 lk_X7_57 (c_X7_in) rfl rfl (Nat.le_of_ble_eq_true rfl) (Nat.le_of_ble_eq_true rfl) ⟨Nat.zero_le _, Nat.zero_le _⟩ ?_
    refine y_top (bI_c (in_isx (z := 2) (n := 3) (by decide) rfl)) ?_
    refine z_ifeqB C D_X7_row_16 (fun c_16 => ?_) (fun c_16 => ?_)
    · refine y_ldc C D_X7_row_25 lk_X7_67 ?_
      exact y_iret C E D_X7_row_27 (rfl) (rfl)
    · refine y_iload_n C D_X7_row_19 rfl ?_
      refine y_bipush C D_X7_row_20 kb_40 ?_
      refine y_icmp_le C D_X7_row_22 Iff.rfl (fun c_22 => hx.elim (fun z => absurd c_4 z) (fun z => z.elim (fun z => absurd c_16 z) (fun z => absurd z (Int32.not_lt.mpr c_22)))) (fun c_22 => ?_)
      refine y_ldc C D_X7_row_25 lk_X7_67 ?_
      exact y_iret C E D_X7_row_27 (rfl) (rfl)
theorem c_X7_rowZ (hU : U.length = 122) {q ln : Nat} {x : Int32} (hq : q < 8) (hl : ln < 3) (hx : x < 0) : Ct l G yX7_row 2 [qr G 122, .int (nI q), .int (nI ln), .int x] (hm G U i A B) (some (.int (-1000010 - nI 4))) (hm G U (va_up i 3 4) A B) := by
  refine ctm_intro (maxL := 5) kw_X7_row (by decide) (by decide) [some (qr G 122), some (.int (nI q)), some (.int (nI ln)), some (.int x), none] rfl (Nat.le_of_ble_eq_true rfl) ?_
  intro X _ hcl hsl _ _ C E
  refine y_iload_n C D_X7_row_0 rfl ?_
  refine z_callS C D_X7_row_1 lk_X7_61 (c_X7_isRow) rfl rfl (Nat.le_of_ble_eq_true rfl) (Nat.le_of_ble_eq_true rfl) ⟨Nat.zero_le _, Nat.zero_le _⟩ ?_
  refine z_ifeqB C D_X7_row_4 (fun c_4 => absurd (isx_n (by decide) hq) c_4) (fun c_4 => ?_)
  refine y_iload_n C D_X7_row_7 rfl ?_
  refine y_i2l C D_X7_row_8 ?_
  refine y_lconst C D_X7_row_9 rfl ?_
  refine y_ldc2 C D_X7_row_10 lk_X7_65 ?_
  refine z_callS C D_X7_row_13 lk_X7_57 (c_X7_in) rfl rfl (Nat.le_of_ble_eq_true rfl) (Nat.le_of_ble_eq_true rfl) ⟨Nat.zero_le _, Nat.zero_le _⟩ ?_
  refine y_top (bI_c (in_isx (z := 2) (n := 3) (by decide) rfl)) ?_
  refine z_ifeqB C D_X7_row_16 (fun c_16 => absurd (isx_n (by decide) hl) c_16) (fun c_16 => ?_)
  refine y_iload_n C D_X7_row_19 rfl ?_
  refine y_bipush C D_X7_row_20 kb_40 ?_
  refine y_icmp_le C D_X7_row_22 Iff.rfl (fun c_22 => ?_) (fun c_22 => absurd (show x ≤ nI 40 by rw [Int32.le_iff_toInt_le]; have := Int32.lt_iff_toInt_lt.mp hx; have e : (0 : Int32).toInt = 0 := rfl; have e2 : (nI 40).toInt = 40 := nI_int (by decide); omega) c_22)
  refine y_iload_n C D_X7_row_28 rfl ?_
  refine y_if_ge C D_X7_row_29 Iff.rfl (fun c_29 => absurd hx (Int32.not_lt.mpr c_29)) (fun c_29 => ?_)
  refine y_aload_n C D_X7_row_32 rfl ?_
  refine y_iconst C D_X7_row_33 ki_4 ?_
  refine z_callV C D_X7_row_34 lk_X7_68 (c_X7_find hU) (hm_o hU) rfl rfl (Nat.le_of_ble_eq_true rfl) (Nat.le_of_ble_eq_true rfl) ⟨Nat.zero_le _, Nat.zero_le _⟩ ?_
  exact y_iret C E D_X7_row_37 (rfl) (rfl)
theorem lp_X7_row {X : qX} {q ln n : Nat} (hU : U.length = 122) (hq : q < 8) (C : qC X G cX7_row 5 RX7 2) (K : Y X G 5 0 0 81 [some (qr G 122), some (.int (nI (q))), some (.int (nI (ln))), some (.int (nI (n))), none] [] (hm G U i A (va_up B 2 (va_cpy (fun _ => (0 : Int32)) (B 2) 0 (40 * q) 40)))) : ∀ (m k : Nat) (B' : Nat → Nat → Int32), k + m = 40 → B' = va_up B 2 (va_cpy (fun _ => (0 : Int32)) (B 2) 0 (40 * q) k) → Y X G 5 0 0 55 [some (qr G 122), some (.int (nI (q))), some (.int (nI (ln))), some (.int (nI (n))), some (.int (nI (k)))] [] (hm G U i A B') := by
  intro m
  induction m with
  | zero =>
    intro k B' hk hB
    obtain rfl : k = 40 := by omega
    refine y_iload C D_X7_row_55 rfl ?_
    refine y_bipush C D_X7_row_57 kb_40 ?_
    refine y_icmp_ge C D_X7_row_59 (n_le (by omega) (by omega)) (fun c_59 => ?_) (fun c_59 => absurd (Nat.le_refl _) c_59)
    refine y_fg 4 ?_
    rw [hB]
    exact K
  | succ m ih =>
    intro k B' hk hB
    have e2 : B' 2 = va_cpy (fun _ => (0 : Int32)) (B 2) 0 (40 * q) k := by rw [hB]; exact up_eq _ _ _
    have es := cpy_step (fun _ => (0 : Int32)) (B 2) 0 (40 * q) k
    refine y_iload C D_X7_row_55 rfl ?_
    refine y_bipush C D_X7_row_57 kb_40 ?_
    refine y_icmp_ge C D_X7_row_59 (n_le (by omega) (by omega)) (fun c_59 => absurd c_59 (by omega)) (fun c_59 => ?_)
    refine y_aload_n C D_X7_row_62 rfl ?_
    refine y_get C D_X7_row_63 fl_X7_16 (hm_o hU) rfl ?_
    refine y_bipush C D_X7_row_66 kb_40 ?_
    refine y_iload_n C D_X7_row_68 rfl ?_
    refine z_imul C D_X7_row_69 ?_
    refine y_iload C D_X7_row_70 rfl ?_
    refine z_iadd C D_X7_row_72 ?_
    refine y_iconst C D_X7_row_73 ki_0 ?_
    refine z_ist C D_X7_row_74 (hm_items hU) (by omega) (by decide) (hm_witems hU _ _) ?_
    refine z_iinc (n := 1) C D_X7_row_75 rfl (by decide) (qok_s rfl rfl) ?_
    refine y_goto C D_X7_row_78 ?_
    exact ih (k + 1) _ (by omega) (by rw [e2, hB, bx_uu]; exact congrArg (va_up B 2) es)
theorem c_X7_row (hU : U.length = 122) {q ln n : Nat} (hq : q < 8) (hl : ln < 3) (hn : n ≤ 40) : Ct l G yX7_row 2 [qr G 122, .int (nI q), .int (nI ln), .int (nI n)] (hm G U i A B) (some (.int (nI n))) (hm G U (va_up i 3 0) (va_up A 0 (va_up (A 0) q ln)) (va_up (va_up B 1 (upd (B 1) q (nI n))) 2 (va_cpy (fun _ => (0 : Int32)) (B 2) 0 (40 * q) 40))) := by
  refine ctm_intro (maxL := 5) kw_X7_row (by decide) (by decide) [some (qr G 122), some (.int (nI q)), some (.int (nI ln)), some (.int (nI n)), none] rfl (Nat.le_of_ble_eq_true rfl) ?_
  intro X _ hcl hsl _ _ C E
  refine y_iload_n C D_X7_row_0 rfl ?_
  refine z_callS C D_X7_row_1 lk_X7_61 (c_X7_isRow) rfl rfl (Nat.le_of_ble_eq_true rfl) (Nat.le_of_ble_eq_true rfl) ⟨Nat.zero_le _, Nat.zero_le _⟩ ?_
  refine z_ifeqB C D_X7_row_4 (fun c_4 => absurd (isx_n (by decide) hq) c_4) (fun c_4 => ?_)
  refine y_iload_n C D_X7_row_7 rfl ?_
  refine y_i2l C D_X7_row_8 ?_
  refine y_lconst C D_X7_row_9 rfl ?_
  refine y_ldc2 C D_X7_row_10 lk_X7_65 ?_
  refine z_callS C D_X7_row_13 lk_X7_57 (c_X7_in) rfl rfl (Nat.le_of_ble_eq_true rfl) (Nat.le_of_ble_eq_true rfl) ⟨Nat.zero_le _, Nat.zero_le _⟩ ?_
  refine y_top (bI_c (in_isx (z := 2) (n := 3) (by decide) rfl)) ?_
  refine z_ifeqB C D_X7_row_16 (fun c_16 => absurd (isx_n (by decide) hl) c_16) (fun c_16 => ?_)
  refine y_iload_n C D_X7_row_19 rfl ?_
  refine y_bipush C D_X7_row_20 kb_40 ?_
  refine y_icmp_le C D_X7_row_22 (n_le (by omega) (by omega)) (fun c_22 => ?_) (fun c_22 => absurd hn c_22)
  refine y_iload_n C D_X7_row_28 rfl ?_
  refine y_if_ge C D_X7_row_29 (n_ge0 (by omega)) (fun _ => ?_) (fun q => absurd trivial q)
  refine y_aload_n C D_X7_row_38 rfl ?_
  refine y_get C D_X7_row_39 fl_X7_7 (hm_o hU) rfl ?_
  refine y_iload_n C D_X7_row_42 rfl ?_
  refine y_iload_n C D_X7_row_43 rfl ?_
  refine z_ist C D_X7_row_44 (hm_lanes hU) (by omega) (by decide) (hm_wlanes hU _ _) ?_
  refine y_aload_n C D_X7_row_45 rfl ?_
  refine y_get C D_X7_row_46 fl_X7_13 (hm_o hU) rfl ?_
  refine y_iload_n C D_X7_row_49 rfl ?_
  refine y_iload_n C D_X7_row_50 rfl ?_
  refine z_ist C D_X7_row_51 (hm_sizes hU) (by omega) (by decide) (hm_wsizes hU _ _) ?_
  refine y_iconst C D_X7_row_52 ki_0 ?_
  refine y_istore C D_X7_row_53 (by decide) (qok_s rfl rfl) ?_
  have e2 : va_up B 1 (upd (B 1) q (nI n)) 2 = B 2 := up_ne _ _ (by decide)
  refine lp_X7_row hU hq C ?_ 40 0 _ (by omega) (by rw [cpy_0]; exact (up_id _ 2).symm)
  rw [e2]
  refine y_aload_n C D_X7_row_81 rfl ?_
  refine y_iload_n C D_X7_row_82 rfl ?_
  refine z_callV C D_X7_row_83 lk_X7_72 (c_X7_well hU) (hm_o hU) rfl rfl (Nat.le_of_ble_eq_true rfl) (Nat.le_of_ble_eq_true rfl) ⟨Nat.zero_le _, Nat.zero_le _⟩ ?_
  exact y_iret C E D_X7_row_86 (rfl) (rfl)
theorem c_X7_dropB (hU : U.length = 122) {x0 : Int32} (hx : ¬ isx x0 8) : Ct l G yX7_drop 2 [qr G 122, .int x0] (hm G U i A B) (some (.int (-1000001))) (hm G U i A B) := by
  refine ctm_intro (maxL := 3) kw_X7_drop (by decide) (by decide) [some (qr G 122), some (.int x0), none] rfl (Nat.le_of_ble_eq_true rfl) ?_
  intro X _ hcl hsl _ _ C E
  refine y_iload_n C D_X7_drop_0 rfl ?_
  refine z_callS C D_X7_drop_1 lk_X7_61 (c_X7_isRow) rfl rfl (Nat.le_of_ble_eq_true rfl) (Nat.le_of_ble_eq_true rfl) ⟨Nat.zero_le _, Nat.zero_le _⟩ ?_
  refine z_ifneB C D_X7_drop_4 (fun c_4 => absurd c_4 hx) (fun c_4 => ?_)
  refine y_ldc C D_X7_drop_7 lk_X7_67 ?_
  exact y_iret C E D_X7_drop_9 (rfl) (rfl)
theorem c_X7_dropN (hU : U.length = 122) {q : Nat} (hq : q < 8) (hz : B 1 q = -1) : Ct l G yX7_drop 2 [qr G 122, .int (nI q)] (hm G U i A B) (some (.int (-1000010 - nI 1))) (hm G U (va_up i 3 1) A B) := by
  refine ctm_intro (maxL := 3) kw_X7_drop (by decide) (by decide) [some (qr G 122), some (.int (nI q)), none] rfl (Nat.le_of_ble_eq_true rfl) ?_
  intro X _ hcl hsl _ _ C E
  refine y_iload_n C D_X7_drop_0 rfl ?_
  refine z_callS C D_X7_drop_1 lk_X7_61 (c_X7_isRow) rfl rfl (Nat.le_of_ble_eq_true rfl) (Nat.le_of_ble_eq_true rfl) ⟨Nat.zero_le _, Nat.zero_le _⟩ ?_
  refine z_ifneB C D_X7_drop_4 (fun c_4 => ?_) (fun c_4 => absurd (isx_n (by decide) hq) c_4)
  refine y_aload_n C D_X7_drop_10 rfl ?_
  refine y_get C D_X7_drop_11 fl_X7_13 (hm_o hU) rfl ?_
  refine y_iload_n C D_X7_drop_14 rfl ?_
  refine z_ild C D_X7_drop_15 (hm_sizes hU) (by omega) (by decide) rfl ?_
  rw [hz]
  refine z_ifgeM C D_X7_drop_16 ?_
  refine y_aload_n C D_X7_drop_19 rfl ?_
  refine y_iconst C D_X7_drop_20 ki_1 ?_
  refine z_callV C D_X7_drop_21 lk_X7_68 (c_X7_find hU) (hm_o hU) rfl rfl (Nat.le_of_ble_eq_true rfl) (Nat.le_of_ble_eq_true rfl) ⟨Nat.zero_le _, Nat.zero_le _⟩ ?_
  exact y_iret C E D_X7_drop_24 (rfl) (rfl)
theorem c_X7_drop (hU : U.length = 122) {q z : Nat} (hq : q < 8) (hz : B 1 q = nI z) (hz40 : z ≤ 40) : Ct l G yX7_drop 2 [qr G 122, .int (nI q)] (hm G U i A B) (some (.int (nI z))) (hm G U (va_up i 3 0) A (va_up B 1 (upd (B 1) q (-1)))) := by
  refine ctm_intro (maxL := 3) kw_X7_drop (by decide) (by decide) [some (qr G 122), some (.int (nI q)), none] rfl (Nat.le_of_ble_eq_true rfl) ?_
  intro X _ hcl hsl _ _ C E
  refine y_iload_n C D_X7_drop_0 rfl ?_
  refine z_callS C D_X7_drop_1 lk_X7_61 (c_X7_isRow) rfl rfl (Nat.le_of_ble_eq_true rfl) (Nat.le_of_ble_eq_true rfl) ⟨Nat.zero_le _, Nat.zero_le _⟩ ?_
  refine z_ifneB C D_X7_drop_4 (fun c_4 => ?_) (fun c_4 => absurd (isx_n (by decide) hq) c_4)
  refine y_aload_n C D_X7_drop_10 rfl ?_
  refine y_get C D_X7_drop_11 fl_X7_13 (hm_o hU) rfl ?_
  refine y_iload_n C D_X7_drop_14 rfl ?_
  refine z_ild C D_X7_drop_15 (hm_sizes hU) (by omega) (by decide) rfl ?_
  rw [hz]
  refine y_if_ge C D_X7_drop_16 (n_ge0 (by omega)) (fun _ => ?_) (fun q => absurd trivial q)
  refine y_aload_n C D_X7_drop_25 rfl ?_
  refine y_get C D_X7_drop_26 fl_X7_13 (hm_o hU) rfl ?_
  refine y_iload_n C D_X7_drop_29 rfl ?_
  refine z_ild C D_X7_drop_30 (hm_sizes hU) (by omega) (by decide) rfl ?_
  rw [hz]
  refine y_istore_n C D_X7_drop_31 (by decide) (qok_s rfl rfl) ?_
  refine y_aload_n C D_X7_drop_32 rfl ?_
  refine y_get C D_X7_drop_33 fl_X7_13 (hm_o hU) rfl ?_
  refine y_iload_n C D_X7_drop_36 rfl ?_
  refine y_iconst C D_X7_drop_37 ki_m1 ?_
  refine z_ist C D_X7_drop_38 (hm_sizes hU) (by omega) (by decide) (hm_wsizes hU _ _) ?_
  refine y_aload_n C D_X7_drop_39 rfl ?_
  refine y_iload_n C D_X7_drop_40 rfl ?_
  refine z_callV C D_X7_drop_41 lk_X7_72 (c_X7_well hU) (hm_o hU) rfl rfl (Nat.le_of_ble_eq_true rfl) (Nat.le_of_ble_eq_true rfl) ⟨Nat.zero_le _, Nat.zero_le _⟩ ?_
  exact y_iret C E D_X7_drop_44 (rfl) (rfl)
theorem c_X7_setB (hU : U.length = 122) {x0 x1 x2 : Int32} (hx : ¬ isx x0 8) : Ct l G yX7_set 2 [qr G 122, .int x0, .int x1, .int x2] (hm G U i A B) (some (.int (-1000001))) (hm G U i A B) := by
  refine ctm_intro (maxL := 4) kw_X7_set (by decide) (by decide) [some (qr G 122), some (.int x0), some (.int x1), some (.int x2)] rfl (Nat.le_of_ble_eq_true rfl) ?_
  intro X _ hcl hsl _ _ C E
  refine y_iload_n C D_X7_set_0 rfl ?_
  refine z_callS C D_X7_set_1 lk_X7_61 (c_X7_isRow) rfl rfl (Nat.le_of_ble_eq_true rfl) (Nat.le_of_ble_eq_true rfl) ⟨Nat.zero_le _, Nat.zero_le _⟩ ?_
  refine z_ifneB C D_X7_set_4 (fun c_4 => absurd c_4 hx) (fun c_4 => ?_)
  refine y_ldc C D_X7_set_7 lk_X7_67 ?_
  exact y_iret C E D_X7_set_9 (rfl) (rfl)
theorem c_X7_setN (hU : U.length = 122) {q : Nat} {x v : Int32} (hq : q < 8) (hz : B 1 q = -1) : Ct l G yX7_set 2 [qr G 122, .int (nI q), .int x, .int v] (hm G U i A B) (some (.int (-1000010 - nI 1))) (hm G U (va_up i 3 1) A B) := by
  refine ctm_intro (maxL := 4) kw_X7_set (by decide) (by decide) [some (qr G 122), some (.int (nI q)), some (.int x), some (.int v)] rfl (Nat.le_of_ble_eq_true rfl) ?_
  intro X _ hcl hsl _ _ C E
  refine y_iload_n C D_X7_set_0 rfl ?_
  refine z_callS C D_X7_set_1 lk_X7_61 (c_X7_isRow) rfl rfl (Nat.le_of_ble_eq_true rfl) (Nat.le_of_ble_eq_true rfl) ⟨Nat.zero_le _, Nat.zero_le _⟩ ?_
  refine z_ifneB C D_X7_set_4 (fun c_4 => ?_) (fun c_4 => absurd (isx_n (by decide) hq) c_4)
  refine y_aload_n C D_X7_set_10 rfl ?_
  refine y_get C D_X7_set_11 fl_X7_13 (hm_o hU) rfl ?_
  refine y_iload_n C D_X7_set_14 rfl ?_
  refine z_ild C D_X7_set_15 (hm_sizes hU) (by omega) (by decide) rfl ?_
  rw [hz]
  refine z_ifgeM C D_X7_set_16 ?_
  refine y_aload_n C D_X7_set_19 rfl ?_
  refine y_iconst C D_X7_set_20 ki_1 ?_
  refine z_callV C D_X7_set_21 lk_X7_68 (c_X7_find hU) (hm_o hU) rfl rfl (Nat.le_of_ble_eq_true rfl) (Nat.le_of_ble_eq_true rfl) ⟨Nat.zero_le _, Nat.zero_le _⟩ ?_
  exact y_iret C E D_X7_set_24 (rfl) (rfl)
theorem c_X7_setP (hU : U.length = 122) {q z : Nat} {v : Int32} (hq : q < 8) (hz : B 1 q = nI z) (hz40 : z ≤ 40) {x : Int32} (hx : ¬ isx x z) : Ct l G yX7_set 2 [qr G 122, .int (nI q), .int x, .int v] (hm G U i A B) (some (.int (-1000010 - nI 2))) (hm G U (va_up i 3 2) A B) := by
  refine ctm_intro (maxL := 4) kw_X7_set (by decide) (by decide) [some (qr G 122), some (.int (nI q)), some (.int x), some (.int v)] rfl (Nat.le_of_ble_eq_true rfl) ?_
  intro X _ hcl hsl _ _ C E
  refine y_iload_n C D_X7_set_0 rfl ?_
  refine z_callS C D_X7_set_1 lk_X7_61 (c_X7_isRow) rfl rfl (Nat.le_of_ble_eq_true rfl) (Nat.le_of_ble_eq_true rfl) ⟨Nat.zero_le _, Nat.zero_le _⟩ ?_
  refine z_ifneB C D_X7_set_4 (fun c_4 => ?_) (fun c_4 => absurd (isx_n (by decide) hq) c_4)
  refine y_aload_n C D_X7_set_10 rfl ?_
  refine y_get C D_X7_set_11 fl_X7_13 (hm_o hU) rfl ?_
  refine y_iload_n C D_X7_set_14 rfl ?_
  refine z_ild C D_X7_set_15 (hm_sizes hU) (by omega) (by decide) rfl ?_
  rw [hz]
  refine y_if_ge C D_X7_set_16 (n_ge0 (by omega)) (fun _ => ?_) (fun q => absurd trivial q)
  refine y_iload_n C D_X7_set_25 rfl ?_
  refine y_i2l C D_X7_set_26 ?_
  refine y_lconst C D_X7_set_27 rfl ?_
  refine y_aload_n C D_X7_set_28 rfl ?_
  refine y_get C D_X7_set_29 fl_X7_13 (hm_o hU) rfl ?_
  refine y_iload_n C D_X7_set_32 rfl ?_
  refine z_ild C D_X7_set_33 (hm_sizes hU) (by omega) (by decide) rfl ?_
  rw [hz]
  refine y_iconst C D_X7_set_34 ki_1 ?_
  refine y_isub C D_X7_set_35 ?_
  refine y_i2l C D_X7_set_36 ?_
  refine z_callS C D_X7_set_37 lk_X7_57 (c_X7_in) rfl rfl (Nat.le_of_ble_eq_true rfl) (Nat.le_of_ble_eq_true rfl) ⟨Nat.zero_le _, Nat.zero_le _⟩ ?_
  refine y_top (bI_c (in_isx (n := z) (by omega) (nI_sub1 (by omega)))) ?_
  refine z_ifneB C D_X7_set_40 (fun c_40 => absurd c_40 hx) (fun c_40 => ?_)
  refine y_aload_n C D_X7_set_43 rfl ?_
  refine y_iconst C D_X7_set_44 ki_2 ?_
  refine z_callV C D_X7_set_45 lk_X7_68 (c_X7_find hU) (hm_o hU) rfl rfl (Nat.le_of_ble_eq_true rfl) (Nat.le_of_ble_eq_true rfl) ⟨Nat.zero_le _, Nat.zero_le _⟩ ?_
  exact y_iret C E D_X7_set_48 (rfl) (rfl)
theorem c_X7_set (hU : U.length = 122) {q z : Nat} {v : Int32} (hq : q < 8) (hz : B 1 q = nI z) (hz40 : z ≤ 40) {o : Nat} (ho : o < z) (hl : A 0 q < 3) : Ct l G yX7_set 2 [qr G 122, .int (nI q), .int (nI o), .int v] (hm G U i A B) (some (.int (lnI (A 0 q) v))) (hm G U (va_up i 3 0) A (va_up B 2 (upd (B 2) (40 * q + o) (lnI (A 0 q) v)))) := by
  refine ctm_intro (maxL := 4) kw_X7_set (by decide) (by decide) [some (qr G 122), some (.int (nI q)), some (.int (nI o)), some (.int v)] rfl (Nat.le_of_ble_eq_true rfl) ?_
  intro X _ hcl hsl _ _ C E
  refine y_iload_n C D_X7_set_0 rfl ?_
  refine z_callS C D_X7_set_1 lk_X7_61 (c_X7_isRow) rfl rfl (Nat.le_of_ble_eq_true rfl) (Nat.le_of_ble_eq_true rfl) ⟨Nat.zero_le _, Nat.zero_le _⟩ ?_
  refine z_ifneB C D_X7_set_4 (fun c_4 => ?_) (fun c_4 => absurd (isx_n (by decide) hq) c_4)
  refine y_aload_n C D_X7_set_10 rfl ?_
  refine y_get C D_X7_set_11 fl_X7_13 (hm_o hU) rfl ?_
  refine y_iload_n C D_X7_set_14 rfl ?_
  refine z_ild C D_X7_set_15 (hm_sizes hU) (by omega) (by decide) rfl ?_
  rw [hz]
  refine y_if_ge C D_X7_set_16 (n_ge0 (by omega)) (fun _ => ?_) (fun q => absurd trivial q)
  refine y_iload_n C D_X7_set_25 rfl ?_
  refine y_i2l C D_X7_set_26 ?_
  refine y_lconst C D_X7_set_27 rfl ?_
  refine y_aload_n C D_X7_set_28 rfl ?_
  refine y_get C D_X7_set_29 fl_X7_13 (hm_o hU) rfl ?_
  refine y_iload_n C D_X7_set_32 rfl ?_
  refine z_ild C D_X7_set_33 (hm_sizes hU) (by omega) (by decide) rfl ?_
  rw [hz]
  refine y_iconst C D_X7_set_34 ki_1 ?_
  refine y_isub C D_X7_set_35 ?_
  refine y_i2l C D_X7_set_36 ?_
  refine z_callS C D_X7_set_37 lk_X7_57 (c_X7_in) rfl rfl (Nat.le_of_ble_eq_true rfl) (Nat.le_of_ble_eq_true rfl) ⟨Nat.zero_le _, Nat.zero_le _⟩ ?_
  refine y_top (bI_c (in_isx (n := z) (by omega) (nI_sub1 (by omega)))) ?_
  refine z_ifneB C D_X7_set_40 (fun c_40 => ?_) (fun c_40 => absurd (isx_n (by omega) ho) c_40)
  refine y_aload_n C D_X7_set_49 rfl ?_
  refine y_get C D_X7_set_50 fl_X7_16 (hm_o hU) rfl ?_
  refine y_bipush C D_X7_set_53 kb_40 ?_
  refine y_iload_n C D_X7_set_55 rfl ?_
  refine z_imul C D_X7_set_56 ?_
  refine y_iload_n C D_X7_set_57 rfl ?_
  refine z_iadd C D_X7_set_58 ?_
  refine y_aload_n C D_X7_set_59 rfl ?_
  refine y_get C D_X7_set_60 fl_X7_7 (hm_o hU) rfl ?_
  refine y_iload_n C D_X7_set_63 rfl ?_
  refine z_ild C D_X7_set_64 (hm_lanes hU) (by omega) (by decide) rfl ?_
  refine y_iload_n C D_X7_set_65 rfl ?_
  refine z_callS C D_X7_set_66 lk_X7_75 (c_X7_asLane hl) rfl rfl (Nat.le_of_ble_eq_true rfl) (Nat.le_of_ble_eq_true rfl) ⟨Nat.zero_le _, Nat.zero_le _⟩ ?_
  refine z_ist C D_X7_set_69 (hm_items hU) (by omega) (by decide) (hm_witems hU _ _) ?_
  refine y_aload_n C D_X7_set_70 rfl ?_
  refine y_aload_n C D_X7_set_71 rfl ?_
  refine y_get C D_X7_set_72 fl_X7_16 (hm_o hU) rfl ?_
  refine y_bipush C D_X7_set_75 kb_40 ?_
  refine y_iload_n C D_X7_set_77 rfl ?_
  refine z_imul C D_X7_set_78 ?_
  refine y_iload_n C D_X7_set_79 rfl ?_
  refine z_iadd C D_X7_set_80 ?_
  refine z_ild C D_X7_set_81 (hm_items hU) (by omega) (by decide) rfl ?_
  refine z_callV C D_X7_set_82 lk_X7_72 (c_X7_well hU) (hm_o hU) rfl rfl (Nat.le_of_ble_eq_true rfl) (Nat.le_of_ble_eq_true rfl) ⟨Nat.zero_le _, Nat.zero_le _⟩ ?_
  exact y_iret C E D_X7_set_85 (rv (by rw [up_eq]; exact pk_us)) (rfl)
theorem c_X7_feedB (hU : U.length = 122) {x : Int32} (hx : ¬ isx x 256) : Ct l G yX7_feed 1 [qr G 122, .int x] (hm G U i A B) (some (.int (-1000001))) (hm G U i A B) := by
  refine ctm_intro (maxL := 2) kw_X7_feed (by decide) (by decide) [some (qr G 122), some (.int x)] rfl (Nat.le_of_ble_eq_true rfl) ?_
  intro X _ hcl hsl _ _ C E
  refine y_iload_n C D_X7_feed_0 rfl ?_
  refine y_i2l C D_X7_feed_1 ?_
  refine y_lconst C D_X7_feed_2 rfl ?_
  refine y_ldc2 C D_X7_feed_3 lk_X7_79 ?_
  refine z_callS C D_X7_feed_6 lk_X7_57 (c_X7_in) rfl rfl (Nat.le_of_ble_eq_true rfl) (Nat.le_of_ble_eq_true rfl) ⟨Nat.zero_le _, Nat.zero_le _⟩ ?_
  refine y_top (bI_c (in_isx (z := 255) (n := 256) (by decide) rfl)) ?_
  refine z_ifneB C D_X7_feed_9 (fun c_9 => absurd c_9 hx) (fun c_9 => ?_)
  refine y_ldc C D_X7_feed_12 lk_X7_67 ?_
  exact y_iret C E D_X7_feed_14 (rfl) (rfl)
theorem c_X7_feedF (hU : U.length = 122) {b : Nat} (hb : b < 256) (hi : i 8 = 120) : Ct l G yX7_feed 1 [qr G 122, .int (nI b)] (hm G U i A B) (some (.int (-1000003))) (hm G U i A B) := by
  refine ctm_intro (maxL := 2) kw_X7_feed (by decide) (by decide) [some (qr G 122), some (.int (nI b))] rfl (Nat.le_of_ble_eq_true rfl) ?_
  intro X _ hcl hsl _ _ C E
  refine y_iload_n C D_X7_feed_0 rfl ?_
  refine y_i2l C D_X7_feed_1 ?_
  refine y_lconst C D_X7_feed_2 rfl ?_
  refine y_ldc2 C D_X7_feed_3 lk_X7_79 ?_
  refine z_callS C D_X7_feed_6 lk_X7_57 (c_X7_in) rfl rfl (Nat.le_of_ble_eq_true rfl) (Nat.le_of_ble_eq_true rfl) ⟨Nat.zero_le _, Nat.zero_le _⟩ ?_
  refine y_top (bI_c (in_isx (z := 255) (n := 256) (by decide) rfl)) ?_
  refine z_ifneB C D_X7_feed_9 (fun c_9 => ?_) (fun c_9 => absurd (isx_n (by decide) hb) c_9)
  refine y_aload_n C D_X7_feed_15 rfl ?_
  refine y_get C D_X7_feed_16 fl_X7_81 (hm_o hU) rfl ?_
  refine y_bipush C D_X7_feed_19 kb_120 ?_
  refine y_icmp_ne C D_X7_feed_21 (n_eq (by omega) (by omega)) (fun c_21 => absurd hi c_21) (fun c_21 => ?_)
  refine y_ldc C D_X7_feed_24 lk_X7_84 ?_
  exact y_iret C E D_X7_feed_26 (rfl) (rfl)
theorem c_X7_feed (hU : U.length = 122) {b : Nat} (hb : b < 256) (hi : i 8 < 120) : Ct l G yX7_feed 1 [qr G 122, .int (nI b)] (hm G U i A B) (some (.int (nI (i 8 + 1)))) (hm G U (va_up i 8 (i 8 + 1)) (va_up A 7 (va_up (A 7) (i 8) b)) B) := by
  refine ctm_intro (maxL := 2) kw_X7_feed (by decide) (by decide) [some (qr G 122), some (.int (nI b))] rfl (Nat.le_of_ble_eq_true rfl) ?_
  intro X _ hcl hsl _ _ C E
  refine y_iload_n C D_X7_feed_0 rfl ?_
  refine y_i2l C D_X7_feed_1 ?_
  refine y_lconst C D_X7_feed_2 rfl ?_
  refine y_ldc2 C D_X7_feed_3 lk_X7_79 ?_
  refine z_callS C D_X7_feed_6 lk_X7_57 (c_X7_in) rfl rfl (Nat.le_of_ble_eq_true rfl) (Nat.le_of_ble_eq_true rfl) ⟨Nat.zero_le _, Nat.zero_le _⟩ ?_
  refine y_top (bI_c (in_isx (z := 255) (n := 256) (by decide) rfl)) ?_
  refine z_ifneB C D_X7_feed_9 (fun c_9 => ?_) (fun c_9 => absurd (isx_n (by decide) hb) c_9)
  refine y_aload_n C D_X7_feed_15 rfl ?_
  refine y_get C D_X7_feed_16 fl_X7_81 (hm_o hU) rfl ?_
  refine y_bipush C D_X7_feed_19 kb_120 ?_
  refine y_icmp_ne C D_X7_feed_21 (n_eq (by omega) (by omega)) (fun c_21 => ?_) (fun c_21 => absurd c_21 (by omega))
  refine y_aload_n C D_X7_feed_27 rfl ?_
  refine y_get C D_X7_feed_28 fl_X7_25 (hm_o hU) rfl ?_
  refine y_aload_n C D_X7_feed_31 rfl ?_
  refine y_get C D_X7_feed_32 fl_X7_81 (hm_o hU) rfl ?_
  refine y_iload_n C D_X7_feed_35 rfl ?_
  refine z_ist C D_X7_feed_36 (hm_tape hU) (by omega) (by decide) (hm_wtape hU _ _) ?_
  refine y_aload_n C D_X7_feed_37 rfl ?_
  refine y_dup C D_X7_feed_38 rfl ?_
  refine y_get C D_X7_feed_39 fl_X7_81 (hm_o hU) rfl ?_
  refine y_iconst C D_X7_feed_42 ki_1 ?_
  refine z_iadd C D_X7_feed_43 ?_
  refine y_put C D_X7_feed_44 fl_X7_81 (hm_o hU) (Nat.le_of_ble_eq_true rfl) rfl rfl (hm_pbytes hU _) ?_
  refine y_aload_n C D_X7_feed_47 rfl ?_
  refine y_get C D_X7_feed_48 fl_X7_81 (hm_o hU) rfl ?_
  exact y_iret C E D_X7_feed_51 (rv (by rw [up_eq])) (rfl)
theorem c_X7_fault (hU : U.length = 122) : Ct l G yX7_fault 0 [qr G 122] (hm G U i A B) (some (.int (nI (i 9)))) (hm G U i A B) := by
  refine ctm_intro (maxL := 1) kw_X7_fault (by decide) (by decide) [some (qr G 122)] rfl (Nat.le_of_ble_eq_true rfl) ?_
  intro X _ hcl hsl _ _ C E
  refine y_aload_n C D_X7_fault_0 rfl ?_
  refine y_get C D_X7_fault_1 fl_X7_131 (hm_o hU) rfl ?_
  exact y_iret C E D_X7_fault_4 (rfl) (rfl)
theorem c_X7_status (hU : U.length = 122) : Ct l G yX7_status 0 [qr G 122] (hm G U i A B) (some (.int (nI (i 3)))) (hm G U i A B) := by
  refine ctm_intro (maxL := 1) kw_X7_status (by decide) (by decide) [some (qr G 122)] rfl (Nat.le_of_ble_eq_true rfl) ?_
  intro X _ hcl hsl _ _ C E
  refine y_aload_n C D_X7_status_0 rfl ?_
  refine y_get C D_X7_status_1 fl_X7_50 (hm_o hU) rfl ?_
  exact y_iret C E D_X7_status_4 (rfl) (rfl)
end
