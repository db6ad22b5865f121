section
variable {l : Launch} {G : qG} {U : List va_E} {i : Nat → Nat} {A : Nat → Nat → Nat} {B : Nat → Nat → Int32} {h : List va_E}
theorem c_X7_copyB (hU : U.length = 122) {x1 x2 x3 x4 x5 : Int32} (hx : ¬ isx x1 8 ∨ ¬ isx x3 8) : Ct l G yX7_copy 2 [qr G 122, .int x1, .int x2, .int x3, .int x4, .int x5] (hm G U i A B) (some (.int (-1000001))) (hm G U i A B) := by
  refine ctm_intro (maxL := 7) kw_X7_copy (by decide) (by decide) [some (qr G 122), some (.int x1), some (.int x2), some (.int x3), some (.int x4), some (.int x5), none] rfl (Nat.le_of_ble_eq_true rfl) ?_
  intro X _ hcl hsl _ _ C E
  refine y_iload_n C D_X7_copy_0 rfl ?_
  refine z_callS C D_X7_copy_1 lk_X7_61 (c_X7_isRow) rfl rfl (Nat.le_of_ble_eq_true rfl) (Nat.le_of_ble_eq_true rfl) ⟨Nat.zero_le _, Nat.zero_le _⟩ ?_
  refine z_ifeqB C D_X7_copy_4 (fun c_4 => ?_) (fun c_4 => ?_)
  · refine y_ldc C D_X7_copy_14 lk_X7_67 ?_
    exact y_iret C E D_X7_copy_16 (rfl) (rfl)
  · refine y_iload_n C D_X7_copy_7 rfl ?_
    refine z_callS C D_X7_copy_8 lk_X7_61 (c_X7_isRow) rfl rfl (Nat.le_of_ble_eq_true rfl) (Nat.le_of_ble_eq_true rfl) ⟨Nat.zero_le _, Nat.zero_le _⟩ ?_
    refine z_ifneB C D_X7_copy_11 (fun c_11 => hx.elim (fun z => absurd c_4 z) (fun z => absurd c_11 z)) (fun c_11 => ?_)
    refine y_ldc C D_X7_copy_14 lk_X7_67 ?_
    exact y_iret C E D_X7_copy_16 (rfl) (rfl)
theorem c_X7_copyN1 (hU : U.length = 122) {a b : Nat} {x1 x2 x3 : Int32} (ha : a < 8) (hb : b < 8) (hz : B 1 a = -1) : Ct l G yX7_copy 2 [qr G 122, .int (nI a), .int x1, .int (nI b), .int x2, .int x3] (hm G U i A B) (some (.int (-1000010 - nI 1))) (hm G U (va_up i 3 1) A B) := by
  refine ctm_intro (maxL := 7) kw_X7_copy (by decide) (by decide) [some (qr G 122), some (.int (nI a)), some (.int x1), some (.int (nI b)), some (.int x2), some (.int x3), none] rfl (Nat.le_of_ble_eq_true rfl) ?_
  intro X _ hcl hsl _ _ C E
  refine y_iload_n C D_X7_copy_0 rfl ?_
  refine z_callS C D_X7_copy_1 lk_X7_61 (c_X7_isRow) rfl rfl (Nat.le_of_ble_eq_true rfl) (Nat.le_of_ble_eq_true rfl) ⟨Nat.zero_le _, Nat.zero_le _⟩ ?_
  refine z_ifeqB C D_X7_copy_4 (fun c_4 => absurd (isx_n (by decide) ha) c_4) (fun c_4 => ?_)
  refine y_iload_n C D_X7_copy_7 rfl ?_
  refine z_callS C D_X7_copy_8 lk_X7_61 (c_X7_isRow) rfl rfl (Nat.le_of_ble_eq_true rfl) (Nat.le_of_ble_eq_true rfl) ⟨Nat.zero_le _, Nat.zero_le _⟩ ?_
  refine z_ifneB C D_X7_copy_11 (fun c_11 => ?_) (fun c_11 => absurd (isx_n (by decide) hb) c_11)
  refine y_aload_n C D_X7_copy_17 rfl ?_
  refine y_get C D_X7_copy_18 fl_X7_13 (hm_o hU) rfl ?_
  refine y_iload_n C D_X7_copy_21 rfl ?_
  refine z_ild C D_X7_copy_22 (hm_sizes hU) (by omega) (by decide) rfl ?_
  rw [hz]
  refine z_ifltM C D_X7_copy_23 ?_
  refine y_aload_n C D_X7_copy_35 rfl ?_
  refine y_iconst C D_X7_copy_36 ki_1 ?_
  refine z_callV C D_X7_copy_37 lk_X7_68 (c_X7_find hU) (hm_o hU) rfl rfl (Nat.le_of_ble_eq_true rfl) (Nat.le_of_ble_eq_true rfl) ⟨Nat.zero_le _, Nat.zero_le _⟩ ?_
  exact y_iret C E D_X7_copy_40 (rfl) (rfl)
theorem c_X7_copyN2 (hU : U.length = 122) {a b z1 : Nat} {x1 x2 x3 : Int32} (ha : a < 8) (hb : b < 8) (hz1 : B 1 a = nI z1) (hzl : z1 ≤ 40) (hz : B 1 b = -1) : Ct l G yX7_copy 2 [qr G 122, .int (nI a), .int x1, .int (nI b), .int x2, .int x3] (hm G U i A B) (some (.int (-1000010 - nI 1))) (hm G U (va_up i 3 1) A B) := by
  refine ctm_intro (maxL := 7) kw_X7_copy (by decide) (by decide) [some (qr G 122), some (.int (nI a)), some (.int x1), some (.int (nI b)), some (.int x2), some (.int x3), none] rfl (Nat.le_of_ble_eq_true rfl) ?_
  intro X _ hcl hsl _ _ C E
  refine y_iload_n C D_X7_copy_0 rfl ?_
  refine z_callS C D_X7_copy_1 lk_X7_61 (c_X7_isRow) rfl rfl (Nat.le_of_ble_eq_true rfl) (Nat.le_of_ble_eq_true rfl) ⟨Nat.zero_le _, Nat.zero_le _⟩ ?_
  refine z_ifeqB C D_X7_copy_4 (fun c_4 => absurd (isx_n (by decide) ha) c_4) (fun c_4 => ?_)
  refine y_iload_n C D_X7_copy_7 rfl ?_
  refine z_callS C D_X7_copy_8 lk_X7_61 (c_X7_isRow) rfl rfl (Nat.le_of_ble_eq_true rfl) (Nat.le_of_ble_eq_true rfl) ⟨Nat.zero_le _, Nat.zero_le _⟩ ?_
  refine z_ifneB C D_X7_copy_11 (fun c_11 => ?_) (fun c_11 => absurd (isx_n (by decide) hb) c_11)
  refine y_aload_n C D_X7_copy_17 rfl ?_
  refine y_get C D_X7_copy_18 fl_X7_13 (hm_o hU) rfl ?_
  refine y_iload_n C D_X7_copy_21 rfl ?_
  refine z_ild C D_X7_copy_22 (hm_sizes hU) (by omega) (by decide) rfl ?_
  rw [hz1]
  refine y_if_lt C D_X7_copy_23 (n_lt0 (by omega)) (fun q => q.elim) (fun _ => ?_)
  refine y_aload_n C D_X7_copy_26 rfl ?_
  refine y_get C D_X7_copy_27 fl_X7_13 (hm_o hU) rfl ?_
  refine y_iload_n C D_X7_copy_30 rfl ?_
  refine z_ild C D_X7_copy_31 (hm_sizes hU) (by omega) (by decide) rfl ?_
  rw [hz]
  refine z_ifgeM C D_X7_copy_32 ?_
  refine y_aload_n C D_X7_copy_35 rfl ?_
  refine y_iconst C D_X7_copy_36 ki_1 ?_
  refine z_callV C D_X7_copy_37 lk_X7_68 (c_X7_find hU) (hm_o hU) rfl rfl (Nat.le_of_ble_eq_true rfl) (Nat.le_of_ble_eq_true rfl) ⟨Nat.zero_le _, Nat.zero_le _⟩ ?_
  exact y_iret C E D_X7_copy_40 (rfl) (rfl)
theorem c_X7_copyS (hU : U.length = 122) {a b z1 z2 : Nat} {x1 x2 x3 : Int32} (ha : a < 8) (hb : b < 8) (hz1 : B 1 a = nI z1) (hzl : z1 ≤ 40) (hz2 : B 1 b = nI z2) (hzm : z2 ≤ 40) (hl1 : A 0 a < 3) (hl2 : A 0 b < 3) (hne : A 0 a ≠ A 0 b) : Ct l G yX7_copy 2 [qr G 122, .int (nI a), .int x1, .int (nI b), .int x2, .int x3] (hm G U i A B) (some (.int (-1000010 - nI 5))) (hm G U (va_up i 3 5) A B) := by
  refine ctm_intro (maxL := 7) kw_X7_copy (by decide) (by decide) [some (qr G 122), some (.int (nI a)), some (.int x1), some (.int (nI b)), some (.int x2), some (.int x3), none] rfl (Nat.le_of_ble_eq_true rfl) ?_
  intro X _ hcl hsl _ _ C E
  refine y_iload_n C D_X7_copy_0 rfl ?_
  refine z_callS C D_X7_copy_1 lk_X7_61 (c_X7_isRow) rfl rfl (Nat.le_of_ble_eq_true rfl) (Nat.le_of_ble_eq_true rfl) ⟨Nat.zero_le _, Nat.zero_le _⟩ ?_
  refine z_ifeqB C D_X7_copy_4 (fun c_4 => absurd (isx_n (by decide) ha) c_4) (fun c_4 => ?_)
  refine y_iload_n C D_X7_copy_7 rfl ?_
  refine z_callS C D_X7_copy_8 lk_X7_61 (c_X7_isRow) rfl rfl (Nat.le_of_ble_eq_true rfl) (Nat.le_of_ble_eq_true rfl) ⟨Nat.zero_le _, Nat.zero_le _⟩ ?_
  refine z_ifneB C D_X7_copy_11 (fun c_11 => ?_) (fun c_11 => absurd (isx_n (by decide) hb) c_11)
  refine y_aload_n C D_X7_copy_17 rfl ?_
  refine y_get C D_X7_copy_18 fl_X7_13 (hm_o hU) rfl ?_
  refine y_iload_n C D_X7_copy_21 rfl ?_
  refine z_ild C D_X7_copy_22 (hm_sizes hU) (by omega) (by decide) rfl ?_
  rw [hz1]
  refine y_if_lt C D_X7_copy_23 (n_lt0 (by omega)) (fun q => q.elim) (fun _ => ?_)
  refine y_aload_n C D_X7_copy_26 rfl ?_
  refine y_get C D_X7_copy_27 fl_X7_13 (hm_o hU) rfl ?_
  refine y_iload_n C D_X7_copy_30 rfl ?_
  refine z_ild C D_X7_copy_31 (hm_sizes hU) (by omega) (by decide) rfl ?_
  rw [hz2]
  refine y_if_ge C D_X7_copy_32 (n_ge0 (by omega)) (fun _ => ?_) (fun q => absurd trivial q)
  refine y_aload_n C D_X7_copy_41 rfl ?_
  refine y_get C D_X7_copy_42 fl_X7_7 (hm_o hU) rfl ?_
  refine y_iload_n C D_X7_copy_45 rfl ?_
  refine z_ild C D_X7_copy_46 (hm_lanes hU) (by omega) (by decide) rfl ?_
  refine y_aload_n C D_X7_copy_47 rfl ?_
  refine y_get C D_X7_copy_48 fl_X7_7 (hm_o hU) rfl ?_
  refine y_iload_n C D_X7_copy_51 rfl ?_
  refine z_ild C D_X7_copy_52 (hm_lanes hU) (by omega) (by decide) rfl ?_
  refine y_icmp_eq C D_X7_copy_53 (n_eq (by omega) (by omega)) (fun c_53 => absurd c_53 hne) (fun c_53 => ?_)
  refine y_aload_n C D_X7_copy_56 rfl ?_
  refine y_iconst C D_X7_copy_57 ki_5 ?_
  refine z_callV C D_X7_copy_58 lk_X7_68 (c_X7_find hU) (hm_o hU) rfl rfl (Nat.le_of_ble_eq_true rfl) (Nat.le_of_ble_eq_true rfl) ⟨Nat.zero_le _, Nat.zero_le _⟩ ?_
  exact y_iret C E D_X7_copy_61 (rfl) (rfl)
theorem c_X7_copyP (hU : U.length = 122) {a b z1 z2 : Nat} {x1 x2 x3 : Int32} (ha : a < 8) (hb : b < 8) (hz1 : B 1 a = nI z1) (hzl : z1 ≤ 40) (hz2 : B 1 b = nI z2) (hzm : z2 ≤ 40) (hl1 : A 0 a < 3) (hl2 : A 0 b < 3) (he : A 0 a = A 0 b) (hp : ¬ (hld x1 x3 z1 ∧ hld x2 x3 z2)) : Ct l G yX7_copy 2 [qr G 122, .int (nI a), .int x1, .int (nI b), .int x2, .int x3] (hm G U i A B) (some (.int (-1000010 - nI 2))) (hm G U (va_up i 3 2) A B) := by
  refine ctm_intro (maxL := 7) kw_X7_copy (by decide) (by decide) [some (qr G 122), some (.int (nI a)), some (.int x1), some (.int (nI b)), some (.int x2), some (.int x3), none] rfl (Nat.le_of_ble_eq_true rfl) ?_
  intro X _ hcl hsl _ _ C E
  refine y_iload_n C D_X7_copy_0 rfl ?_
  refine z_callS C D_X7_copy_1 lk_X7_61 (c_X7_isRow) rfl rfl (Nat.le_of_ble_eq_true rfl) (Nat.le_of_ble_eq_true rfl) ⟨Nat.zero_le _, Nat.zero_le _⟩ ?_
  refine z_ifeqB C D_X7_copy_4 (fun c_4 => absurd (isx_n (by decide) ha) c_4) (fun c_4 => ?_)
  refine y_iload_n C D_X7_copy_7 rfl ?_
  refine z_callS C D_X7_copy_8 lk_X7_61 (c_X7_isRow) rfl rfl (Nat.le_of_ble_eq_true rfl) (Nat.le_of_ble_eq_true rfl) ⟨Nat.zero_le _, Nat.zero_le _⟩ ?_
  refine z_ifneB C D_X7_copy_11 (fun c_11 => ?_) (fun c_11 => absurd (isx_n (by decide) hb) c_11)
  refine y_aload_n C D_X7_copy_17 rfl ?_
  refine y_get C D_X7_copy_18 fl_X7_13 (hm_o hU) rfl ?_
  refine y_iload_n C D_X7_copy_21 rfl ?_
  refine z_ild C D_X7_copy_22 (hm_sizes hU) (by omega) (by decide) rfl ?_
  rw [hz1]
  refine y_if_lt C D_X7_copy_23 (n_lt0 (by omega)) (fun q => q.elim) (fun _ => ?_)
  refine y_aload_n C D_X7_copy_26 rfl ?_
  refine y_get C D_X7_copy_27 fl_X7_13 (hm_o hU) rfl ?_
  refine y_iload_n C D_X7_copy_30 rfl ?_
  refine z_ild C D_X7_copy_31 (hm_sizes hU) (by omega) (by decide) rfl ?_
  rw [hz2]
  refine y_if_ge C D_X7_copy_32 (n_ge0 (by omega)) (fun _ => ?_) (fun q => absurd trivial q)
  refine y_aload_n C D_X7_copy_41 rfl ?_
  refine y_get C D_X7_copy_42 fl_X7_7 (hm_o hU) rfl ?_
  refine y_iload_n C D_X7_copy_45 rfl ?_
  refine z_ild C D_X7_copy_46 (hm_lanes hU) (by omega) (by decide) rfl ?_
  refine y_aload_n C D_X7_copy_47 rfl ?_
  refine y_get C D_X7_copy_48 fl_X7_7 (hm_o hU) rfl ?_
  refine y_iload_n C D_X7_copy_51 rfl ?_
  refine z_ild C D_X7_copy_52 (hm_lanes hU) (by omega) (by decide) rfl ?_
  refine y_icmp_eq C D_X7_copy_53 (n_eq (by omega) (by omega)) (fun c_53 => ?_) (fun c_53 => absurd he c_53)
  refine y_iload C D_X7_copy_62 rfl ?_
  refine y_if_lt C D_X7_copy_64 Iff.rfl (fun c_64 => ?_) (fun c_64 => ?_)
  · refine y_aload_n C D_X7_copy_108 rfl ?_
    refine y_iconst C D_X7_copy_109 ki_2 ?_
    refine z_callV C D_X7_copy_110 lk_X7_68 (c_X7_find hU) (hm_o hU) rfl rfl (Nat.le_of_ble_eq_true rfl) (Nat.le_of_ble_eq_true rfl) ⟨Nat.zero_le _, Nat.zero_le _⟩ ?_
    exact y_iret C E D_X7_copy_113 (rfl) (rfl)
  · refine y_iload_n C D_X7_copy_67 rfl ?_
    refine y_i2l C D_X7_copy_68 ?_
    refine y_lconst C D_X7_copy_69 rfl ?_
    refine y_aload_n C D_X7_copy_70 rfl ?_
    refine y_get C D_X7_copy_71 fl_X7_13 (hm_o hU) rfl ?_
    refine y_iload_n C D_X7_copy_74 rfl ?_
    refine z_ild C D_X7_copy_75 (hm_sizes hU) (by omega) (by decide) rfl ?_
    rw [hz1]
    refine y_i2l C D_X7_copy_76 ?_
    refine y_iload C D_X7_copy_77 rfl ?_
    refine y_i2l C D_X7_copy_79 ?_
    refine y_lsub C D_X7_copy_80 ?_
    refine z_callS C D_X7_copy_81 lk_X7_57 (c_X7_in) rfl rfl (Nat.le_of_ble_eq_true rfl) (Nat.le_of_ble_eq_true rfl) ⟨Nat.zero_le _, Nat.zero_le _⟩ ?_
    refine y_top (bI_c (in_hld hzl (Int32.not_lt.mp c_64))) ?_
    refine z_ifeqB C D_X7_copy_84 (fun c_84 => ?_) (fun c_84 => ?_)
    · refine y_aload_n C D_X7_copy_108 rfl ?_
      refine y_iconst C D_X7_copy_109 ki_2 ?_
      refine z_callV C D_X7_copy_110 lk_X7_68 (c_X7_find hU) (hm_o hU) rfl rfl (Nat.le_of_ble_eq_true rfl) (Nat.le_of_ble_eq_true rfl) ⟨Nat.zero_le _, Nat.zero_le _⟩ ?_
      exact y_iret C E D_X7_copy_113 (rfl) (rfl)
    · refine y_iload C D_X7_copy_87 rfl ?_
      refine y_i2l C D_X7_copy_89 ?_
      refine y_lconst C D_X7_copy_90 rfl ?_
      refine y_aload_n C D_X7_copy_91 rfl ?_
      refine y_get C D_X7_copy_92 fl_X7_13 (hm_o hU) rfl ?_
      refine y_iload_n C D_X7_copy_95 rfl ?_
      refine z_ild C D_X7_copy_96 (hm_sizes hU) (by omega) (by decide) rfl ?_
      rw [hz2]
      refine y_i2l C D_X7_copy_97 ?_
      refine y_iload C D_X7_copy_98 rfl ?_
      refine y_i2l C D_X7_copy_100 ?_
      refine y_lsub C D_X7_copy_101 ?_
      refine z_callS C D_X7_copy_102 lk_X7_57 (c_X7_in) rfl rfl (Nat.le_of_ble_eq_true rfl) (Nat.le_of_ble_eq_true rfl) ⟨Nat.zero_le _, Nat.zero_le _⟩ ?_
      refine y_top (bI_c (in_hld hzm (Int32.not_lt.mp c_64))) ?_
      refine z_ifneB C D_X7_copy_105 (fun c_105 => absurd ⟨c_84, c_105⟩ hp) (fun c_105 => ?_)
      refine y_aload_n C D_X7_copy_108 rfl ?_
      refine y_iconst C D_X7_copy_109 ki_2 ?_
      refine z_callV C D_X7_copy_110 lk_X7_68 (c_X7_find hU) (hm_o hU) rfl rfl (Nat.le_of_ble_eq_true rfl) (Nat.le_of_ble_eq_true rfl) ⟨Nat.zero_le _, Nat.zero_le _⟩ ?_
      exact y_iret C E D_X7_copy_113 (rfl) (rfl)
theorem lp_X7_copy_117 {X : qX} {a o b q n : Nat} (hU : U.length = 122) (ha : a < 8) (ho : o + n ≤ 40) (C : qC X G cX7_copy 7 RX7 2) (K : Y X G 7 0 0 151 [some (qr G 122), some (.int (nI (a))), some (.int (nI (o))), some (.int (nI (b))), some (.int (nI (q))), some (.int (nI (n))), none] [] (hm G U i A (va_up B 6 (va_cpy (B 2) (B 6) (40 * a + o) 0 n)))) : ∀ (m k : Nat) (B' : Nat → Nat → Int32), k + m = n → B' = va_up B 6 (va_cpy (B 2) (B 6) (40 * a + o) 0 k) → Y X G 7 0 0 117 [some (qr G 122), some (.int (nI (a))), some (.int (nI (o))), some (.int (nI (b))), some (.int (nI (q))), some (.int (nI (n))), some (.int (nI (k)))] [] (hm G U i A B') := by
  intro m
  induction m with
  | zero =>
    intro k B' hk hB
    obtain rfl : k = n := by omega
    refine y_iload C D_X7_copy_117 rfl ?_
    refine y_iload C D_X7_copy_119 rfl ?_
    refine y_icmp_ge C D_X7_copy_121 (n_le (by omega) (by omega)) (fun c_121 => ?_) (fun c_121 => absurd (Nat.le_refl _) c_121)
    refine y_fg 6 ?_
    rw [hB]
    exact K
  | succ m ih =>
    intro k B' hk hB
    have e6 : B' 6 = va_cpy (B 2) (B 6) (40 * a + o) 0 k := by rw [hB]; exact up_eq _ _ _
    have e2 : B' 2 = B 2 := by rw [hB]; exact up_ne _ _ (by decide)
    have es := cpy_step (B 2) (B 6) (40 * a + o) 0 k
    rw [Nat.zero_add] at es
    refine y_iload C D_X7_copy_117 rfl ?_
    refine y_iload C D_X7_copy_119 rfl ?_
    refine y_icmp_ge C D_X7_copy_121 (n_le (by omega) (by omega)) (fun c_121 => absurd c_121 (by omega)) (fun c_121 => ?_)
    refine y_aload_n C D_X7_copy_124 rfl ?_
    refine y_get C D_X7_copy_125 fl_X7_22 (hm_o hU) rfl ?_
    refine y_iload C D_X7_copy_128 rfl ?_
    refine y_aload_n C D_X7_copy_130 rfl ?_
    refine y_get C D_X7_copy_131 fl_X7_16 (hm_o hU) rfl ?_
    refine y_bipush C D_X7_copy_134 kb_40 ?_
    refine y_iload_n C D_X7_copy_136 rfl ?_
    refine z_imul C D_X7_copy_137 ?_
    refine y_iload_n C D_X7_copy_138 rfl ?_
    refine z_iadd C D_X7_copy_139 ?_
    refine y_iload C D_X7_copy_140 rfl ?_
    refine z_iadd C D_X7_copy_142 ?_
    refine z_ild C D_X7_copy_143 (hm_items hU) (by omega) (by decide) rfl ?_
    refine z_ist C D_X7_copy_144 (hm_moved hU) (by omega) (by decide) (hm_wmoved hU _ _) ?_
    refine z_iinc (n := 1) C D_X7_copy_145 rfl (by decide) (qok_s rfl rfl) ?_
    refine y_goto C D_X7_copy_148 ?_
    exact ih (k + 1) _ (by omega) (by rw [e6, e2, hB, bx_uu]; exact congrArg (va_up B 6) es)
theorem lp_X7_copy_154 {X : qX} {a o b q n : Nat} (hU : U.length = 122) (hb : b < 8) (ho : q + n ≤ 40) (C : qC X G cX7_copy 7 RX7 2) (K : Y X G 7 0 0 189 [some (qr G 122), some (.int (nI (a))), some (.int (nI (o))), some (.int (nI (b))), some (.int (nI (q))), some (.int (nI (n))), none] [] (hm G U i A (va_up B 2 (va_cpy (B 6) (B 2) 0 (40 * b + q) n)))) : ∀ (m k : Nat) (B' : Nat → Nat → Int32), k + m = n → B' = va_up B 2 (va_cpy (B 6) (B 2) 0 (40 * b + q) k) → Y X G 7 0 0 154 [some (qr G 122), some (.int (nI (a))), some (.int (nI (o))), some (.int (nI (b))), some (.int (nI (q))), some (.int (nI (n))), some (.int (nI (k)))] [] (hm G U i A B') := by
  intro m
  induction m with
  | zero =>
    intro k B' hk hB
    obtain rfl : k = n := by omega
    refine y_iload C D_X7_copy_154 rfl ?_
    refine y_iload C D_X7_copy_156 rfl ?_
    refine y_icmp_ge C D_X7_copy_158 (n_le (by omega) (by omega)) (fun c_158 => ?_) (fun c_158 => absurd (Nat.le_refl _) c_158)
    refine y_fg 6 ?_
    rw [hB]
    exact K
  | succ m ih =>
    intro k B' hk hB
    have e2 : B' 2 = va_cpy (B 6) (B 2) 0 (40 * b + q) k := by rw [hB]; exact up_eq _ _ _
    have e6 : B' 6 = B 6 := by rw [hB]; exact up_ne _ _ (by decide)
    have es := cpy_step (B 6) (B 2) 0 (40 * b + q) k
    rw [Nat.zero_add] at es
    refine y_iload C D_X7_copy_154 rfl ?_
    refine y_iload C D_X7_copy_156 rfl ?_
    refine y_icmp_ge C D_X7_copy_158 (n_le (by omega) (by omega)) (fun c_158 => absurd c_158 (by omega)) (fun c_158 => ?_)
    refine y_aload_n C D_X7_copy_161 rfl ?_
    refine y_get C D_X7_copy_162 fl_X7_16 (hm_o hU) rfl ?_
    refine y_bipush C D_X7_copy_165 kb_40 ?_
    refine y_iload_n C D_X7_copy_167 rfl ?_
    refine z_imul C D_X7_copy_168 ?_
    refine y_iload C D_X7_copy_169 rfl ?_
    refine z_iadd C D_X7_copy_171 ?_
    refine y_iload C D_X7_copy_172 rfl ?_
    refine z_iadd C D_X7_copy_174 ?_
    refine y_aload_n C D_X7_copy_175 rfl ?_
    refine y_get C D_X7_copy_176 fl_X7_22 (hm_o hU) rfl ?_
    refine y_iload C D_X7_copy_179 rfl ?_
    refine z_ild C D_X7_copy_181 (hm_moved hU) (by omega) (by decide) rfl ?_
    refine z_ist C D_X7_copy_182 (hm_items hU) (by omega) (by decide) (hm_witems hU _ _) ?_
    refine z_iinc (n := 1) C D_X7_copy_183 rfl (by decide) (qok_s rfl rfl) ?_
    refine y_goto C D_X7_copy_186 ?_
    exact ih (k + 1) _ (by omega) (by rw [e2, e6, hB, bx_uu]; exact congrArg (va_up B 2) es)
theorem c_X7_copy (hU : U.length = 122) {a b z1 z2 o q n : Nat} (ha : a < 8) (hb : b < 8) (hz1 : B 1 a = nI z1) (hzl : z1 ≤ 40) (hz2 : B 1 b = nI z2) (hzm : z2 ≤ 40) (hl1 : A 0 a < 3) (hl2 : A 0 b < 3) (he : A 0 a = A 0 b) (h1 : o + n ≤ z1) (h2 : q + n ≤ z2) : Ct l G yX7_copy 2 [qr G 122, .int (nI a), .int (nI o), .int (nI b), .int (nI q), .int (nI n)] (hm G U i A B) (some (.int (nI n))) (hm G U (va_up i 3 0) A (va_up (va_up B 6 (va_cpy (B 2) (B 6) (40 * a + o) 0 n)) 2 (va_cpy (B 2) (B 2) (40 * a + o) (40 * b + q) n))) := by
  refine ctm_intro (maxL := 7) kw_X7_copy (by decide) (by decide) [some (qr G 122), some (.int (nI a)), some (.int (nI o)), some (.int (nI b)), some (.int (nI q)), some (.int (nI n)), none] rfl (Nat.le_of_ble_eq_true rfl) ?_
  intro X _ hcl hsl _ _ C E
  refine y_iload_n C D_X7_copy_0 rfl ?_
  refine z_callS C D_X7_copy_1 lk_X7_61 (c_X7_isRow) rfl rfl (Nat.le_of_ble_eq_true rfl) (Nat.le_of_ble_eq_true rfl) ⟨Nat.zero_le _, Nat.zero_le _⟩ ?_
  refine z_ifeqB C D_X7_copy_4 (fun c_4 => absurd (isx_n (by decide) ha) c_4) (fun c_4 => ?_)
  refine y_iload_n C D_X7_copy_7 rfl ?_
  refine z_callS C D_X7_copy_8 lk_X7_61 (c_X7_isRow) rfl rfl (Nat.le_of_ble_eq_true rfl) (Nat.le_of_ble_eq_true rfl) ⟨Nat.zero_le _, Nat.zero_le _⟩ ?_
  refine z_ifneB C D_X7_copy_11 (fun c_11 => ?_) (fun c_11 => absurd (isx_n (by decide) hb) c_11)
  refine y_aload_n C D_X7_copy_17 rfl ?_
  refine y_get C D_X7_copy_18 fl_X7_13 (hm_o hU) rfl ?_
  refine y_iload_n C D_X7_copy_21 rfl ?_
  refine z_ild C D_X7_copy_22 (hm_sizes hU) (by omega) (by decide) rfl ?_
  rw [hz1]
  refine y_if_lt C D_X7_copy_23 (n_lt0 (by omega)) (fun q => q.elim) (fun _ => ?_)
  refine y_aload_n C D_X7_copy_26 rfl ?_
  refine y_get C D_X7_copy_27 fl_X7_13 (hm_o hU) rfl ?_
  refine y_iload_n C D_X7_copy_30 rfl ?_
  refine z_ild C D_X7_copy_31 (hm_sizes hU) (by omega) (by decide) rfl ?_
  rw [hz2]
  refine y_if_ge C D_X7_copy_32 (n_ge0 (by omega)) (fun _ => ?_) (fun q => absurd trivial q)
  refine y_aload_n C D_X7_copy_41 rfl ?_
  refine y_get C D_X7_copy_42 fl_X7_7 (hm_o hU) rfl ?_
  refine y_iload_n C D_X7_copy_45 rfl ?_
  refine z_ild C D_X7_copy_46 (hm_lanes hU) (by omega) (by decide) rfl ?_
  refine y_aload_n C D_X7_copy_47 rfl ?_
  refine y_get C D_X7_copy_48 fl_X7_7 (hm_o hU) rfl ?_
  refine y_iload_n C D_X7_copy_51 rfl ?_
  refine z_ild C D_X7_copy_52 (hm_lanes hU) (by omega) (by decide) rfl ?_
  refine y_icmp_eq C D_X7_copy_53 (n_eq (by omega) (by omega)) (fun c_53 => ?_) (fun c_53 => absurd he c_53)
  refine y_iload C D_X7_copy_62 rfl ?_
  refine y_if_lt C D_X7_copy_64 (n_lt0 (by omega)) (fun q => q.elim) (fun _ => ?_)
  refine y_iload_n C D_X7_copy_67 rfl ?_
  refine y_i2l C D_X7_copy_68 ?_
  refine y_lconst C D_X7_copy_69 rfl ?_
  refine y_aload_n C D_X7_copy_70 rfl ?_
  refine y_get C D_X7_copy_71 fl_X7_13 (hm_o hU) rfl ?_
  refine y_iload_n C D_X7_copy_74 rfl ?_
  refine z_ild C D_X7_copy_75 (hm_sizes hU) (by omega) (by decide) rfl ?_
  rw [hz1]
  refine y_i2l C D_X7_copy_76 ?_
  refine y_iload C D_X7_copy_77 rfl ?_
  refine y_i2l C D_X7_copy_79 ?_
  refine y_lsub C D_X7_copy_80 ?_
  refine z_callS C D_X7_copy_81 lk_X7_57 (c_X7_in) rfl rfl (Nat.le_of_ble_eq_true rfl) (Nat.le_of_ble_eq_true rfl) ⟨Nat.zero_le _, Nat.zero_le _⟩ ?_
  refine y_top (bI_c (in_hld hzl (nI_pos' (by omega)))) ?_
  refine z_ifeqB C D_X7_copy_84 (fun c_84 => absurd (hld_n hzl h1) c_84) (fun c_84 => ?_)
  refine y_iload C D_X7_copy_87 rfl ?_
  refine y_i2l C D_X7_copy_89 ?_
  refine y_lconst C D_X7_copy_90 rfl ?_
  refine y_aload_n C D_X7_copy_91 rfl ?_
  refine y_get C D_X7_copy_92 fl_X7_13 (hm_o hU) rfl ?_
  refine y_iload_n C D_X7_copy_95 rfl ?_
  refine z_ild C D_X7_copy_96 (hm_sizes hU) (by omega) (by decide) rfl ?_
  rw [hz2]
  refine y_i2l C D_X7_copy_97 ?_
  refine y_iload C D_X7_copy_98 rfl ?_
  refine y_i2l C D_X7_copy_100 ?_
  refine y_lsub C D_X7_copy_101 ?_
  refine z_callS C D_X7_copy_102 lk_X7_57 (c_X7_in) rfl rfl (Nat.le_of_ble_eq_true rfl) (Nat.le_of_ble_eq_true rfl) ⟨Nat.zero_le _, Nat.zero_le _⟩ ?_
  refine y_top (bI_c (in_hld hzm (nI_pos' (by omega)))) ?_
  refine z_ifneB C D_X7_copy_105 (fun c_105 => ?_) (fun c_105 => absurd (hld_n hzm h2) c_105)
  refine y_iconst C D_X7_copy_114 ki_0 ?_
  refine y_istore C D_X7_copy_115 (by decide) (qok_s rfl rfl) ?_
  refine lp_X7_copy_117 hU ha (by omega) C ?_ n 0 B (by omega) (by rw [cpy_0]; exact (up_id B 6).symm)
  refine y_iconst C D_X7_copy_151 ki_0 ?_
  refine y_istore C D_X7_copy_152 (by decide) (qok_s rfl rfl) ?_
  refine lp_X7_copy_154 hU hb (by omega) C ?_ n 0 _ (by omega) (by rw [cpy_0]; exact (up_id _ 2).symm)
  rw [up_eq, up_ne _ _ (by decide : (2 : Nat) ≠ 6), cpy_cpy]
  refine y_aload_n C D_X7_copy_189 rfl ?_
  refine y_iload C D_X7_copy_190 rfl ?_
  refine z_callV C D_X7_copy_192 lk_X7_72 (c_X7_well hU) (hm_o hU) rfl rfl (Nat.le_of_ble_eq_true rfl) (Nat.le_of_ble_eq_true rfl) ⟨Nat.zero_le _, Nat.zero_le _⟩ ?_
  exact y_iret C E D_X7_copy_195 (rfl) (rfl)
end
