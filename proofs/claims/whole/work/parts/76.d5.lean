section
variable {l : Launch} {G : qG} {h h1 : List va_E} {i : Nat → Nat} {A : Nat → Nat → Nat} {B : Nat → Nat → Int32} {fin : Nat} {n : Nat} {lf : Nat} {b : Nat → Nat} {y : Nat → Nat} {sz : Nat} {old : Nat} {w : Nat → Nat → Nat} {c : Nat} {f : Nat → Nat} {ln : Nat → Int32} {rz : Nat → Int32} {it : Nat → Nat → Int32} {im : Nat → Nat → Nat}
theorem c_X6_isOfKind_1_0  : Ct l G yX6_isOfKind 0 [.int (nI 1), .int (nI 0)] (h) (some (.int (bI (isK 1 0)))) (h) := by
  refine ctm_intro (maxL := 3) kw_X6_isOfKind (by decide) (by decide) [some (.int (nI 1)), some (.int (nI 0)), none] rfl (Nat.le_of_ble_eq_true rfl) ?_
  intro X _ hcl hsl _ _ C E
  refine y_iload_n C D_X6_isOfKind_0 rfl ?_
  refine y_iconst C D_X6_isOfKind_1 ki_1 ?_
  refine y_icmp_eq C D_X6_isOfKind_2 (n_eq (by omega) (by omega)) (fun c_2 => ?_) (fun c_2 => absurd (by decide) c_2)
  refine y_iconst C D_X6_isOfKind_15 ki_1 ?_
  refine y_goto C D_X6_isOfKind_16 ?_
  refine y_istore_n C D_X6_isOfKind_20 (by decide) (qok_s rfl rfl) ?_
  refine y_iload_n C D_X6_isOfKind_21 rfl ?_
  refine y_tabIn (off := 34) (tgt := 56) C D_X6_isOfKind_22 (by decide) (by decide) (by decide +kernel) (by decide) ?_
  refine y_iconst C D_X6_isOfKind_56 ki_1 ?_
  exact y_zret C E D_X6_isOfKind_57 nar_1 (rt_1 (by decide)) (rfl)
theorem c_X6_isOfKind_1_1  : Ct l G yX6_isOfKind 0 [.int (nI 1), .int (nI 1)] (h) (some (.int (bI (isK 1 1)))) (h) := by
  refine ctm_intro (maxL := 3) kw_X6_isOfKind (by decide) (by decide) [some (.int (nI 1)), some (.int (nI 1)), none] rfl (Nat.le_of_ble_eq_true rfl) ?_
  intro X _ hcl hsl _ _ C E
  refine y_iload_n C D_X6_isOfKind_0 rfl ?_
  refine y_iconst C D_X6_isOfKind_1 ki_1 ?_
  refine y_icmp_eq C D_X6_isOfKind_2 (n_eq (by omega) (by omega)) (fun c_2 => ?_) (fun c_2 => absurd (by decide) c_2)
  refine y_iconst C D_X6_isOfKind_15 ki_1 ?_
  refine y_goto C D_X6_isOfKind_16 ?_
  refine y_istore_n C D_X6_isOfKind_20 (by decide) (qok_s rfl rfl) ?_
  refine y_iload_n C D_X6_isOfKind_21 rfl ?_
  refine y_tabIn (off := 36) (tgt := 58) C D_X6_isOfKind_22 (by decide) (by decide) (by decide +kernel) (by decide) ?_
  refine y_iload_n C D_X6_isOfKind_58 rfl ?_
  exact y_zret C E D_X6_isOfKind_59 nar_1 (rt_1 (by decide)) (rfl)
theorem c_X6_isOfKind_1_2  : Ct l G yX6_isOfKind 0 [.int (nI 1), .int (nI 2)] (h) (some (.int (bI (isK 1 2)))) (h) := by
  refine ctm_intro (maxL := 3) kw_X6_isOfKind (by decide) (by decide) [some (.int (nI 1)), some (.int (nI 2)), none] rfl (Nat.le_of_ble_eq_true rfl) ?_
  intro X _ hcl hsl _ _ C E
  refine y_iload_n C D_X6_isOfKind_0 rfl ?_
  refine y_iconst C D_X6_isOfKind_1 ki_1 ?_
  refine y_icmp_eq C D_X6_isOfKind_2 (n_eq (by omega) (by omega)) (fun c_2 => ?_) (fun c_2 => absurd (by decide) c_2)
  refine y_iconst C D_X6_isOfKind_15 ki_1 ?_
  refine y_goto C D_X6_isOfKind_16 ?_
  refine y_istore_n C D_X6_isOfKind_20 (by decide) (qok_s rfl rfl) ?_
  refine y_iload_n C D_X6_isOfKind_21 rfl ?_
  refine y_tabIn (off := 48) (tgt := 70) C D_X6_isOfKind_22 (by decide) (by decide) (by decide +kernel) (by decide) ?_
  refine y_iload_n C D_X6_isOfKind_70 rfl ?_
  refine y_iload_n C D_X6_isOfKind_71 rfl ?_
  refine y_icmp_ne C D_X6_isOfKind_72 (n_eq (by omega) (by omega)) (fun c_72 => ?_) (fun c_72 => absurd c_72 (by decide))
  refine y_iconst C D_X6_isOfKind_79 ki_0 ?_
  exact y_zret C E D_X6_isOfKind_80 nar_0 (rt_0 (by decide)) (rfl)
theorem c_X6_isOfKind_1_3  : Ct l G yX6_isOfKind 0 [.int (nI 1), .int (nI 3)] (h) (some (.int (bI (isK 1 3)))) (h) := by
  refine ctm_intro (maxL := 3) kw_X6_isOfKind (by decide) (by decide) [some (.int (nI 1)), some (.int (nI 3)), none] rfl (Nat.le_of_ble_eq_true rfl) ?_
  intro X _ hcl hsl _ _ C E
  refine y_iload_n C D_X6_isOfKind_0 rfl ?_
  refine y_iconst C D_X6_isOfKind_1 ki_1 ?_
  refine y_icmp_eq C D_X6_isOfKind_2 (n_eq (by omega) (by omega)) (fun c_2 => ?_) (fun c_2 => absurd (by decide) c_2)
  refine y_iconst C D_X6_isOfKind_15 ki_1 ?_
  refine y_goto C D_X6_isOfKind_16 ?_
  refine y_istore_n C D_X6_isOfKind_20 (by decide) (qok_s rfl rfl) ?_
  refine y_iload_n C D_X6_isOfKind_21 rfl ?_
  refine y_tabIn (off := 48) (tgt := 70) C D_X6_isOfKind_22 (by decide) (by decide) (by decide +kernel) (by decide) ?_
  refine y_iload_n C D_X6_isOfKind_70 rfl ?_
  refine y_iload_n C D_X6_isOfKind_71 rfl ?_
  refine y_icmp_ne C D_X6_isOfKind_72 (n_eq (by omega) (by omega)) (fun c_72 => ?_) (fun c_72 => absurd c_72 (by decide))
  refine y_iconst C D_X6_isOfKind_79 ki_0 ?_
  exact y_zret C E D_X6_isOfKind_80 nar_0 (rt_0 (by decide)) (rfl)
theorem c_X6_isOfKind_1_4  : Ct l G yX6_isOfKind 0 [.int (nI 1), .int (nI 4)] (h) (some (.int (bI (isK 1 4)))) (h) := by
  refine ctm_intro (maxL := 3) kw_X6_isOfKind (by decide) (by decide) [some (.int (nI 1)), some (.int (nI 4)), none] rfl (Nat.le_of_ble_eq_true rfl) ?_
  intro X _ hcl hsl _ _ C E
  refine y_iload_n C D_X6_isOfKind_0 rfl ?_
  refine y_iconst C D_X6_isOfKind_1 ki_1 ?_
  refine y_icmp_eq C D_X6_isOfKind_2 (n_eq (by omega) (by omega)) (fun c_2 => ?_) (fun c_2 => absurd (by decide) c_2)
  refine y_iconst C D_X6_isOfKind_15 ki_1 ?_
  refine y_goto C D_X6_isOfKind_16 ?_
  refine y_istore_n C D_X6_isOfKind_20 (by decide) (qok_s rfl rfl) ?_
  refine y_iload_n C D_X6_isOfKind_21 rfl ?_
  refine y_tabIn (off := 38) (tgt := 60) C D_X6_isOfKind_22 (by decide) (by decide) (by decide +kernel) (by decide) ?_
  refine y_iload_n C D_X6_isOfKind_60 rfl ?_
  refine z_ifne1 C D_X6_isOfKind_61 ?_
  refine y_iconst C D_X6_isOfKind_68 ki_0 ?_
  exact y_zret C E D_X6_isOfKind_69 nar_0 (rt_0 (by decide)) (rfl)
theorem c_X6_isOfKind_1_5  : Ct l G yX6_isOfKind 0 [.int (nI 1), .int (nI 5)] (h) (some (.int (bI (isK 1 5)))) (h) := by
  refine ctm_intro (maxL := 3) kw_X6_isOfKind (by decide) (by decide) [some (.int (nI 1)), some (.int (nI 5)), none] rfl (Nat.le_of_ble_eq_true rfl) ?_
  intro X _ hcl hsl _ _ C E
  refine y_iload_n C D_X6_isOfKind_0 rfl ?_
  refine y_iconst C D_X6_isOfKind_1 ki_1 ?_
  refine y_icmp_eq C D_X6_isOfKind_2 (n_eq (by omega) (by omega)) (fun c_2 => ?_) (fun c_2 => absurd (by decide) c_2)
  refine y_iconst C D_X6_isOfKind_15 ki_1 ?_
  refine y_goto C D_X6_isOfKind_16 ?_
  refine y_istore_n C D_X6_isOfKind_20 (by decide) (qok_s rfl rfl) ?_
  refine y_iload_n C D_X6_isOfKind_21 rfl ?_
  refine y_tabOut (tgt := 70) C D_X6_isOfKind_22 (by decide) (by decide) ?_
  refine y_iload_n C D_X6_isOfKind_70 rfl ?_
  refine y_iload_n C D_X6_isOfKind_71 rfl ?_
  refine y_icmp_ne C D_X6_isOfKind_72 (n_eq (by omega) (by omega)) (fun c_72 => ?_) (fun c_72 => absurd c_72 (by decide))
  refine y_iconst C D_X6_isOfKind_79 ki_0 ?_
  exact y_zret C E D_X6_isOfKind_80 nar_0 (rt_0 (by decide)) (rfl)
theorem c_X6_isOfKind_2_0  : Ct l G yX6_isOfKind 0 [.int (nI 2), .int (nI 0)] (h) (some (.int (bI (isK 2 0)))) (h) := by
  refine ctm_intro (maxL := 3) kw_X6_isOfKind (by decide) (by decide) [some (.int (nI 2)), some (.int (nI 0)), none] rfl (Nat.le_of_ble_eq_true rfl) ?_
  intro X _ hcl hsl _ _ C E
  refine y_iload_n C D_X6_isOfKind_0 rfl ?_
  refine y_iconst C D_X6_isOfKind_1 ki_1 ?_
  refine y_icmp_eq C D_X6_isOfKind_2 (n_eq (by omega) (by omega)) (fun c_2 => absurd c_2 (by decide)) (fun c_2 => ?_)
  refine y_iload_n C D_X6_isOfKind_5 rfl ?_
  refine y_iconst C D_X6_isOfKind_6 ki_2 ?_
  refine y_icmp_eq C D_X6_isOfKind_7 (n_eq (by omega) (by omega)) (fun c_7 => ?_) (fun c_7 => absurd (by decide) c_7)
  refine y_iconst C D_X6_isOfKind_15 ki_1 ?_
  refine y_goto C D_X6_isOfKind_16 ?_
  refine y_istore_n C D_X6_isOfKind_20 (by decide) (qok_s rfl rfl) ?_
  refine y_iload_n C D_X6_isOfKind_21 rfl ?_
  refine y_tabIn (off := 34) (tgt := 56) C D_X6_isOfKind_22 (by decide) (by decide) (by decide +kernel) (by decide) ?_
  refine y_iconst C D_X6_isOfKind_56 ki_1 ?_
  exact y_zret C E D_X6_isOfKind_57 nar_1 (rt_1 (by decide)) (rfl)
theorem c_X6_isOfKind_2_1  : Ct l G yX6_isOfKind 0 [.int (nI 2), .int (nI 1)] (h) (some (.int (bI (isK 2 1)))) (h) := by
  refine ctm_intro (maxL := 3) kw_X6_isOfKind (by decide) (by decide) [some (.int (nI 2)), some (.int (nI 1)), none] rfl (Nat.le_of_ble_eq_true rfl) ?_
  intro X _ hcl hsl _ _ C E
  refine y_iload_n C D_X6_isOfKind_0 rfl ?_
  refine y_iconst C D_X6_isOfKind_1 ki_1 ?_
  refine y_icmp_eq C D_X6_isOfKind_2 (n_eq (by omega) (by omega)) (fun c_2 => absurd c_2 (by decide)) (fun c_2 => ?_)
  refine y_iload_n C D_X6_isOfKind_5 rfl ?_
  refine y_iconst C D_X6_isOfKind_6 ki_2 ?_
  refine y_icmp_eq C D_X6_isOfKind_7 (n_eq (by omega) (by omega)) (fun c_7 => ?_) (fun c_7 => absurd (by decide) c_7)
  refine y_iconst C D_X6_isOfKind_15 ki_1 ?_
  refine y_goto C D_X6_isOfKind_16 ?_
  refine y_istore_n C D_X6_isOfKind_20 (by decide) (qok_s rfl rfl) ?_
  refine y_iload_n C D_X6_isOfKind_21 rfl ?_
  refine y_tabIn (off := 36) (tgt := 58) C D_X6_isOfKind_22 (by decide) (by decide) (by decide +kernel) (by decide) ?_
  refine y_iload_n C D_X6_isOfKind_58 rfl ?_
  exact y_zret C E D_X6_isOfKind_59 nar_1 (rt_1 (by decide)) (rfl)
theorem c_X6_isOfKind_2_2  : Ct l G yX6_isOfKind 0 [.int (nI 2), .int (nI 2)] (h) (some (.int (bI (isK 2 2)))) (h) := by
  refine ctm_intro (maxL := 3) kw_X6_isOfKind (by decide) (by decide) [some (.int (nI 2)), some (.int (nI 2)), none] rfl (Nat.le_of_ble_eq_true rfl) ?_
  intro X _ hcl hsl _ _ C E
  refine y_iload_n C D_X6_isOfKind_0 rfl ?_
  refine y_iconst C D_X6_isOfKind_1 ki_1 ?_
  refine y_icmp_eq C D_X6_isOfKind_2 (n_eq (by omega) (by omega)) (fun c_2 => absurd c_2 (by decide)) (fun c_2 => ?_)
  refine y_iload_n C D_X6_isOfKind_5 rfl ?_
  refine y_iconst C D_X6_isOfKind_6 ki_2 ?_
  refine y_icmp_eq C D_X6_isOfKind_7 (n_eq (by omega) (by omega)) (fun c_7 => ?_) (fun c_7 => absurd (by decide) c_7)
  refine y_iconst C D_X6_isOfKind_15 ki_1 ?_
  refine y_goto C D_X6_isOfKind_16 ?_
  refine y_istore_n C D_X6_isOfKind_20 (by decide) (qok_s rfl rfl) ?_
  refine y_iload_n C D_X6_isOfKind_21 rfl ?_
  refine y_tabIn (off := 48) (tgt := 70) C D_X6_isOfKind_22 (by decide) (by decide) (by decide +kernel) (by decide) ?_
  refine y_iload_n C D_X6_isOfKind_70 rfl ?_
  refine y_iload_n C D_X6_isOfKind_71 rfl ?_
  refine y_icmp_ne C D_X6_isOfKind_72 (n_eq (by omega) (by omega)) (fun c_72 => absurd (by decide) c_72) (fun c_72 => ?_)
  refine y_iconst C D_X6_isOfKind_75 ki_1 ?_
  refine y_goto C D_X6_isOfKind_76 ?_
  exact y_zret C E D_X6_isOfKind_80 nar_1 (rt_1 (by decide)) (rfl)
theorem c_X6_isOfKind_2_3  : Ct l G yX6_isOfKind 0 [.int (nI 2), .int (nI 3)] (h) (some (.int (bI (isK 2 3)))) (h) := by
  refine ctm_intro (maxL := 3) kw_X6_isOfKind (by decide) (by decide) [some (.int (nI 2)), some (.int (nI 3)), none] rfl (Nat.le_of_ble_eq_true rfl) ?_
  intro X _ hcl hsl _ _ C E
  refine y_iload_n C D_X6_isOfKind_0 rfl ?_
  refine y_iconst C D_X6_isOfKind_1 ki_1 ?_
  refine y_icmp_eq C D_X6_isOfKind_2 (n_eq (by omega) (by omega)) (fun c_2 => absurd c_2 (by decide)) (fun c_2 => ?_)
  refine y_iload_n C D_X6_isOfKind_5 rfl ?_
  refine y_iconst C D_X6_isOfKind_6 ki_2 ?_
  refine y_icmp_eq C D_X6_isOfKind_7 (n_eq (by omega) (by omega)) (fun c_7 => ?_) (fun c_7 => absurd (by decide) c_7)
  refine y_iconst C D_X6_isOfKind_15 ki_1 ?_
  refine y_goto C D_X6_isOfKind_16 ?_
  refine y_istore_n C D_X6_isOfKind_20 (by decide) (qok_s rfl rfl) ?_
  refine y_iload_n C D_X6_isOfKind_21 rfl ?_
  refine y_tabIn (off := 48) (tgt := 70) C D_X6_isOfKind_22 (by decide) (by decide) (by decide +kernel) (by decide) ?_
  refine y_iload_n C D_X6_isOfKind_70 rfl ?_
  refine y_iload_n C D_X6_isOfKind_71 rfl ?_
  refine y_icmp_ne C D_X6_isOfKind_72 (n_eq (by omega) (by omega)) (fun c_72 => ?_) (fun c_72 => absurd c_72 (by decide))
  refine y_iconst C D_X6_isOfKind_79 ki_0 ?_
  exact y_zret C E D_X6_isOfKind_80 nar_0 (rt_0 (by decide)) (rfl)
theorem c_X6_isOfKind_2_4  : Ct l G yX6_isOfKind 0 [.int (nI 2), .int (nI 4)] (h) (some (.int (bI (isK 2 4)))) (h) := by
  refine ctm_intro (maxL := 3) kw_X6_isOfKind (by decide) (by decide) [some (.int (nI 2)), some (.int (nI 4)), none] rfl (Nat.le_of_ble_eq_true rfl) ?_
  intro X _ hcl hsl _ _ C E
  refine y_iload_n C D_X6_isOfKind_0 rfl ?_
  refine y_iconst C D_X6_isOfKind_1 ki_1 ?_
  refine y_icmp_eq C D_X6_isOfKind_2 (n_eq (by omega) (by omega)) (fun c_2 => absurd c_2 (by decide)) (fun c_2 => ?_)
  refine y_iload_n C D_X6_isOfKind_5 rfl ?_
  refine y_iconst C D_X6_isOfKind_6 ki_2 ?_
  refine y_icmp_eq C D_X6_isOfKind_7 (n_eq (by omega) (by omega)) (fun c_7 => ?_) (fun c_7 => absurd (by decide) c_7)
  refine y_iconst C D_X6_isOfKind_15 ki_1 ?_
  refine y_goto C D_X6_isOfKind_16 ?_
  refine y_istore_n C D_X6_isOfKind_20 (by decide) (qok_s rfl rfl) ?_
  refine y_iload_n C D_X6_isOfKind_21 rfl ?_
  refine y_tabIn (off := 38) (tgt := 60) C D_X6_isOfKind_22 (by decide) (by decide) (by decide +kernel) (by decide) ?_
  refine y_iload_n C D_X6_isOfKind_60 rfl ?_
  refine z_ifne1 C D_X6_isOfKind_61 ?_
  refine y_iconst C D_X6_isOfKind_68 ki_0 ?_
  exact y_zret C E D_X6_isOfKind_69 nar_0 (rt_0 (by decide)) (rfl)
theorem c_X6_isOfKind_2_5  : Ct l G yX6_isOfKind 0 [.int (nI 2), .int (nI 5)] (h) (some (.int (bI (isK 2 5)))) (h) := by
  refine ctm_intro (maxL := 3) kw_X6_isOfKind (by decide) (by decide) [some (.int (nI 2)), some (.int (nI 5)), none] rfl (Nat.le_of_ble_eq_true rfl) ?_
  intro X _ hcl hsl _ _ C E
  refine y_iload_n C D_X6_isOfKind_0 rfl ?_
  refine y_iconst C D_X6_isOfKind_1 ki_1 ?_
  refine y_icmp_eq C D_X6_isOfKind_2 (n_eq (by omega) (by omega)) (fun c_2 => absurd c_2 (by decide)) (fun c_2 => ?_)
  refine y_iload_n C D_X6_isOfKind_5 rfl ?_
  refine y_iconst C D_X6_isOfKind_6 ki_2 ?_
  refine y_icmp_eq C D_X6_isOfKind_7 (n_eq (by omega) (by omega)) (fun c_7 => ?_) (fun c_7 => absurd (by decide) c_7)
  refine y_iconst C D_X6_isOfKind_15 ki_1 ?_
  refine y_goto C D_X6_isOfKind_16 ?_
  refine y_istore_n C D_X6_isOfKind_20 (by decide) (qok_s rfl rfl) ?_
  refine y_iload_n C D_X6_isOfKind_21 rfl ?_
  refine y_tabOut (tgt := 70) C D_X6_isOfKind_22 (by decide) (by decide) ?_
  refine y_iload_n C D_X6_isOfKind_70 rfl ?_
  refine y_iload_n C D_X6_isOfKind_71 rfl ?_
  refine y_icmp_ne C D_X6_isOfKind_72 (n_eq (by omega) (by omega)) (fun c_72 => ?_) (fun c_72 => absurd c_72 (by decide))
  refine y_iconst C D_X6_isOfKind_79 ki_0 ?_
  exact y_zret C E D_X6_isOfKind_80 nar_0 (rt_0 (by decide)) (rfl)
theorem c_X6_isOfKind_3_0  : Ct l G yX6_isOfKind 0 [.int (nI 3), .int (nI 0)] (h) (some (.int (bI (isK 3 0)))) (h) := by
  refine ctm_intro (maxL := 3) kw_X6_isOfKind (by decide) (by decide) [some (.int (nI 3)), some (.int (nI 0)), none] rfl (Nat.le_of_ble_eq_true rfl) ?_
  intro X _ hcl hsl _ _ C E
  refine y_iload_n C D_X6_isOfKind_0 rfl ?_
  refine y_iconst C D_X6_isOfKind_1 ki_1 ?_
  refine y_icmp_eq C D_X6_isOfKind_2 (n_eq (by omega) (by omega)) (fun c_2 => absurd c_2 (by decide)) (fun c_2 => ?_)
  refine y_iload_n C D_X6_isOfKind_5 rfl ?_
  refine y_iconst C D_X6_isOfKind_6 ki_2 ?_
  refine y_icmp_eq C D_X6_isOfKind_7 (n_eq (by omega) (by omega)) (fun c_7 => absurd c_7 (by decide)) (fun c_7 => ?_)
  refine y_iload_n C D_X6_isOfKind_10 rfl ?_
  refine y_iconst C D_X6_isOfKind_11 ki_3 ?_
  refine y_icmp_ne C D_X6_isOfKind_12 (n_eq (by omega) (by omega)) (fun c_12 => absurd (by decide) c_12) (fun c_12 => ?_)
  refine y_iconst C D_X6_isOfKind_15 ki_1 ?_
  refine y_goto C D_X6_isOfKind_16 ?_
  refine y_istore_n C D_X6_isOfKind_20 (by decide) (qok_s rfl rfl) ?_
  refine y_iload_n C D_X6_isOfKind_21 rfl ?_
  refine y_tabIn (off := 34) (tgt := 56) C D_X6_isOfKind_22 (by decide) (by decide) (by decide +kernel) (by decide) ?_
  refine y_iconst C D_X6_isOfKind_56 ki_1 ?_
  exact y_zret C E D_X6_isOfKind_57 nar_1 (rt_1 (by decide)) (rfl)
theorem c_X6_isOfKind_3_1  : Ct l G yX6_isOfKind 0 [.int (nI 3), .int (nI 1)] (h) (some (.int (bI (isK 3 1)))) (h) := by
  refine ctm_intro (maxL := 3) kw_X6_isOfKind (by decide) (by decide) [some (.int (nI 3)), some (.int (nI 1)), none] rfl (Nat.le_of_ble_eq_true rfl) ?_
  intro X _ hcl hsl _ _ C E
  refine y_iload_n C D_X6_isOfKind_0 rfl ?_
  refine y_iconst C D_X6_isOfKind_1 ki_1 ?_
  refine y_icmp_eq C D_X6_isOfKind_2 (n_eq (by omega) (by omega)) (fun c_2 => absurd c_2 (by decide)) (fun c_2 => ?_)
  refine y_iload_n C D_X6_isOfKind_5 rfl ?_
  refine y_iconst C D_X6_isOfKind_6 ki_2 ?_
  refine y_icmp_eq C D_X6_isOfKind_7 (n_eq (by omega) (by omega)) (fun c_7 => absurd c_7 (by decide)) (fun c_7 => ?_)
  refine y_iload_n C D_X6_isOfKind_10 rfl ?_
  refine y_iconst C D_X6_isOfKind_11 ki_3 ?_
  refine y_icmp_ne C D_X6_isOfKind_12 (n_eq (by omega) (by omega)) (fun c_12 => absurd (by decide) c_12) (fun c_12 => ?_)
  refine y_iconst C D_X6_isOfKind_15 ki_1 ?_
  refine y_goto C D_X6_isOfKind_16 ?_
  refine y_istore_n C D_X6_isOfKind_20 (by decide) (qok_s rfl rfl) ?_
  refine y_iload_n C D_X6_isOfKind_21 rfl ?_
  refine y_tabIn (off := 36) (tgt := 58) C D_X6_isOfKind_22 (by decide) (by decide) (by decide +kernel) (by decide) ?_
  refine y_iload_n C D_X6_isOfKind_58 rfl ?_
  exact y_zret C E D_X6_isOfKind_59 nar_1 (rt_1 (by decide)) (rfl)
theorem c_X6_isOfKind_3_2  : Ct l G yX6_isOfKind 0 [.int (nI 3), .int (nI 2)] (h) (some (.int (bI (isK 3 2)))) (h) := by
  refine ctm_intro (maxL := 3) kw_X6_isOfKind (by decide) (by decide) [some (.int (nI 3)), some (.int (nI 2)), none] rfl (Nat.le_of_ble_eq_true rfl) ?_
  intro X _ hcl hsl _ _ C E
  refine y_iload_n C D_X6_isOfKind_0 rfl ?_
  refine y_iconst C D_X6_isOfKind_1 ki_1 ?_
  refine y_icmp_eq C D_X6_isOfKind_2 (n_eq (by omega) (by omega)) (fun c_2 => absurd c_2 (by decide)) (fun c_2 => ?_)
  refine y_iload_n C D_X6_isOfKind_5 rfl ?_
  refine y_iconst C D_X6_isOfKind_6 ki_2 ?_
  refine y_icmp_eq C D_X6_isOfKind_7 (n_eq (by omega) (by omega)) (fun c_7 => absurd c_7 (by decide)) (fun c_7 => ?_)
  refine y_iload_n C D_X6_isOfKind_10 rfl ?_
  refine y_iconst C D_X6_isOfKind_11 ki_3 ?_
  refine y_icmp_ne C D_X6_isOfKind_12 (n_eq (by omega) (by omega)) (fun c_12 => absurd (by decide) c_12) (fun c_12 => ?_)
  refine y_iconst C D_X6_isOfKind_15 ki_1 ?_
  refine y_goto C D_X6_isOfKind_16 ?_
  refine y_istore_n C D_X6_isOfKind_20 (by decide) (qok_s rfl rfl) ?_
  refine y_iload_n C D_X6_isOfKind_21 rfl ?_
  refine y_tabIn (off := 48) (tgt := 70) C D_X6_isOfKind_22 (by decide) (by decide) (by decide +kernel) (by decide) ?_
  refine y_iload_n C D_X6_isOfKind_70 rfl ?_
  refine y_iload_n C D_X6_isOfKind_71 rfl ?_
  refine y_icmp_ne C D_X6_isOfKind_72 (n_eq (by omega) (by omega)) (fun c_72 => ?_) (fun c_72 => absurd c_72 (by decide))
  refine y_iconst C D_X6_isOfKind_79 ki_0 ?_
  exact y_zret C E D_X6_isOfKind_80 nar_0 (rt_0 (by decide)) (rfl)
theorem c_X6_isOfKind_3_3  : Ct l G yX6_isOfKind 0 [.int (nI 3), .int (nI 3)] (h) (some (.int (bI (isK 3 3)))) (h) := by
  refine ctm_intro (maxL := 3) kw_X6_isOfKind (by decide) (by decide) [some (.int (nI 3)), some (.int (nI 3)), none] rfl (Nat.le_of_ble_eq_true rfl) ?_
  intro X _ hcl hsl _ _ C E
  refine y_iload_n C D_X6_isOfKind_0 rfl ?_
  refine y_iconst C D_X6_isOfKind_1 ki_1 ?_
  refine y_icmp_eq C D_X6_isOfKind_2 (n_eq (by omega) (by omega)) (fun c_2 => absurd c_2 (by decide)) (fun c_2 => ?_)
  refine y_iload_n C D_X6_isOfKind_5 rfl ?_
  refine y_iconst C D_X6_isOfKind_6 ki_2 ?_
  refine y_icmp_eq C D_X6_isOfKind_7 (n_eq (by omega) (by omega)) (fun c_7 => absurd c_7 (by decide)) (fun c_7 => ?_)
  refine y_iload_n C D_X6_isOfKind_10 rfl ?_
  refine y_iconst C D_X6_isOfKind_11 ki_3 ?_
  refine y_icmp_ne C D_X6_isOfKind_12 (n_eq (by omega) (by omega)) (fun c_12 => absurd (by decide) c_12) (fun c_12 => ?_)
  refine y_iconst C D_X6_isOfKind_15 ki_1 ?_
  refine y_goto C D_X6_isOfKind_16 ?_
  refine y_istore_n C D_X6_isOfKind_20 (by decide) (qok_s rfl rfl) ?_
  refine y_iload_n C D_X6_isOfKind_21 rfl ?_
  refine y_tabIn (off := 48) (tgt := 70) C D_X6_isOfKind_22 (by decide) (by decide) (by decide +kernel) (by decide) ?_
  refine y_iload_n C D_X6_isOfKind_70 rfl ?_
  refine y_iload_n C D_X6_isOfKind_71 rfl ?_
  refine y_icmp_ne C D_X6_isOfKind_72 (n_eq (by omega) (by omega)) (fun c_72 => absurd (by decide) c_72) (fun c_72 => ?_)
  refine y_iconst C D_X6_isOfKind_75 ki_1 ?_
  refine y_goto C D_X6_isOfKind_76 ?_
  exact y_zret C E D_X6_isOfKind_80 nar_1 (rt_1 (by decide)) (rfl)
theorem c_X6_isOfKind_3_4  : Ct l G yX6_isOfKind 0 [.int (nI 3), .int (nI 4)] (h) (some (.int (bI (isK 3 4)))) (h) := by
  refine ctm_intro (maxL := 3) kw_X6_isOfKind (by decide) (by decide) [some (.int (nI 3)), some (.int (nI 4)), none] rfl (Nat.le_of_ble_eq_true rfl) ?_
  intro X _ hcl hsl _ _ C E
  refine y_iload_n C D_X6_isOfKind_0 rfl ?_
  refine y_iconst C D_X6_isOfKind_1 ki_1 ?_
  refine y_icmp_eq C D_X6_isOfKind_2 (n_eq (by omega) (by omega)) (fun c_2 => absurd c_2 (by decide)) (fun c_2 => ?_)
  refine y_iload_n C D_X6_isOfKind_5 rfl ?_
  refine y_iconst C D_X6_isOfKind_6 ki_2 ?_
  refine y_icmp_eq C D_X6_isOfKind_7 (n_eq (by omega) (by omega)) (fun c_7 => absurd c_7 (by decide)) (fun c_7 => ?_)
  refine y_iload_n C D_X6_isOfKind_10 rfl ?_
  refine y_iconst C D_X6_isOfKind_11 ki_3 ?_
  refine y_icmp_ne C D_X6_isOfKind_12 (n_eq (by omega) (by omega)) (fun c_12 => absurd (by decide) c_12) (fun c_12 => ?_)
  refine y_iconst C D_X6_isOfKind_15 ki_1 ?_
  refine y_goto C D_X6_isOfKind_16 ?_
  refine y_istore_n C D_X6_isOfKind_20 (by decide) (qok_s rfl rfl) ?_
  refine y_iload_n C D_X6_isOfKind_21 rfl ?_
  refine y_tabIn (off := 38) (tgt := 60) C D_X6_isOfKind_22 (by decide) (by decide) (by decide +kernel) (by decide) ?_
  refine y_iload_n C D_X6_isOfKind_60 rfl ?_
  refine z_ifne1 C D_X6_isOfKind_61 ?_
  refine y_iconst C D_X6_isOfKind_68 ki_0 ?_
  exact y_zret C E D_X6_isOfKind_69 nar_0 (rt_0 (by decide)) (rfl)
theorem c_X6_isOfKind_3_5  : Ct l G yX6_isOfKind 0 [.int (nI 3), .int (nI 5)] (h) (some (.int (bI (isK 3 5)))) (h) := by
  refine ctm_intro (maxL := 3) kw_X6_isOfKind (by decide) (by decide) [some (.int (nI 3)), some (.int (nI 5)), none] rfl (Nat.le_of_ble_eq_true rfl) ?_
  intro X _ hcl hsl _ _ C E
  refine y_iload_n C D_X6_isOfKind_0 rfl ?_
  refine y_iconst C D_X6_isOfKind_1 ki_1 ?_
  refine y_icmp_eq C D_X6_isOfKind_2 (n_eq (by omega) (by omega)) (fun c_2 => absurd c_2 (by decide)) (fun c_2 => ?_)
  refine y_iload_n C D_X6_isOfKind_5 rfl ?_
  refine y_iconst C D_X6_isOfKind_6 ki_2 ?_
  refine y_icmp_eq C D_X6_isOfKind_7 (n_eq (by omega) (by omega)) (fun c_7 => absurd c_7 (by decide)) (fun c_7 => ?_)
  refine y_iload_n C D_X6_isOfKind_10 rfl ?_
  refine y_iconst C D_X6_isOfKind_11 ki_3 ?_
  refine y_icmp_ne C D_X6_isOfKind_12 (n_eq (by omega) (by omega)) (fun c_12 => absurd (by decide) c_12) (fun c_12 => ?_)
  refine y_iconst C D_X6_isOfKind_15 ki_1 ?_
  refine y_goto C D_X6_isOfKind_16 ?_
  refine y_istore_n C D_X6_isOfKind_20 (by decide) (qok_s rfl rfl) ?_
  refine y_iload_n C D_X6_isOfKind_21 rfl ?_
  refine y_tabOut (tgt := 70) C D_X6_isOfKind_22 (by decide) (by decide) ?_
  refine y_iload_n C D_X6_isOfKind_70 rfl ?_
  refine y_iload_n C D_X6_isOfKind_71 rfl ?_
  refine y_icmp_ne C D_X6_isOfKind_72 (n_eq (by omega) (by omega)) (fun c_72 => ?_) (fun c_72 => absurd c_72 (by decide))
  refine y_iconst C D_X6_isOfKind_79 ki_0 ?_
  exact y_zret C E D_X6_isOfKind_80 nar_0 (rt_0 (by decide)) (rfl)
theorem c_X6_isOfKind_4_0  : Ct l G yX6_isOfKind 0 [.int (nI 4), .int (nI 0)] (h) (some (.int (bI (isK 4 0)))) (h) := by
  refine ctm_intro (maxL := 3) kw_X6_isOfKind (by decide) (by decide) [some (.int (nI 4)), some (.int (nI 0)), none] rfl (Nat.le_of_ble_eq_true rfl) ?_
  intro X _ hcl hsl _ _ C E
  refine y_iload_n C D_X6_isOfKind_0 rfl ?_
  refine y_iconst C D_X6_isOfKind_1 ki_1 ?_
  refine y_icmp_eq C D_X6_isOfKind_2 (n_eq (by omega) (by omega)) (fun c_2 => absurd c_2 (by decide)) (fun c_2 => ?_)
  refine y_iload_n C D_X6_isOfKind_5 rfl ?_
  refine y_iconst C D_X6_isOfKind_6 ki_2 ?_
  refine y_icmp_eq C D_X6_isOfKind_7 (n_eq (by omega) (by omega)) (fun c_7 => absurd c_7 (by decide)) (fun c_7 => ?_)
  refine y_iload_n C D_X6_isOfKind_10 rfl ?_
  refine y_iconst C D_X6_isOfKind_11 ki_3 ?_
  refine y_icmp_ne C D_X6_isOfKind_12 (n_eq (by omega) (by omega)) (fun c_12 => ?_) (fun c_12 => absurd c_12 (by decide))
  refine y_iconst C D_X6_isOfKind_19 ki_0 ?_
  refine y_istore_n C D_X6_isOfKind_20 (by decide) (qok_s rfl rfl) ?_
  refine y_iload_n C D_X6_isOfKind_21 rfl ?_
  refine y_tabIn (off := 34) (tgt := 56) C D_X6_isOfKind_22 (by decide) (by decide) (by decide +kernel) (by decide) ?_
  refine y_iconst C D_X6_isOfKind_56 ki_1 ?_
  exact y_zret C E D_X6_isOfKind_57 nar_1 (rt_1 (by decide)) (rfl)
theorem c_X6_isOfKind_4_1  : Ct l G yX6_isOfKind 0 [.int (nI 4), .int (nI 1)] (h) (some (.int (bI (isK 4 1)))) (h) := by
  refine ctm_intro (maxL := 3) kw_X6_isOfKind (by decide) (by decide) [some (.int (nI 4)), some (.int (nI 1)), none] rfl (Nat.le_of_ble_eq_true rfl) ?_
  intro X _ hcl hsl _ _ C E
  refine y_iload_n C D_X6_isOfKind_0 rfl ?_
  refine y_iconst C D_X6_isOfKind_1 ki_1 ?_
  refine y_icmp_eq C D_X6_isOfKind_2 (n_eq (by omega) (by omega)) (fun c_2 => absurd c_2 (by decide)) (fun c_2 => ?_)
  refine y_iload_n C D_X6_isOfKind_5 rfl ?_
  refine y_iconst C D_X6_isOfKind_6 ki_2 ?_
  refine y_icmp_eq C D_X6_isOfKind_7 (n_eq (by omega) (by omega)) (fun c_7 => absurd c_7 (by decide)) (fun c_7 => ?_)
  refine y_iload_n C D_X6_isOfKind_10 rfl ?_
  refine y_iconst C D_X6_isOfKind_11 ki_3 ?_
  refine y_icmp_ne C D_X6_isOfKind_12 (n_eq (by omega) (by omega)) (fun c_12 => ?_) (fun c_12 => absurd c_12 (by decide))
  refine y_iconst C D_X6_isOfKind_19 ki_0 ?_
  refine y_istore_n C D_X6_isOfKind_20 (by decide) (qok_s rfl rfl) ?_
  refine y_iload_n C D_X6_isOfKind_21 rfl ?_
  refine y_tabIn (off := 36) (tgt := 58) C D_X6_isOfKind_22 (by decide) (by decide) (by decide +kernel) (by decide) ?_
  refine y_iload_n C D_X6_isOfKind_58 rfl ?_
  exact y_zret C E D_X6_isOfKind_59 nar_0 (rt_0 (by decide)) (rfl)
theorem c_X6_isOfKind_4_2  : Ct l G yX6_isOfKind 0 [.int (nI 4), .int (nI 2)] (h) (some (.int (bI (isK 4 2)))) (h) := by
  refine ctm_intro (maxL := 3) kw_X6_isOfKind (by decide) (by decide) [some (.int (nI 4)), some (.int (nI 2)), none] rfl (Nat.le_of_ble_eq_true rfl) ?_
  intro X _ hcl hsl _ _ C E
  refine y_iload_n C D_X6_isOfKind_0 rfl ?_
  refine y_iconst C D_X6_isOfKind_1 ki_1 ?_
  refine y_icmp_eq C D_X6_isOfKind_2 (n_eq (by omega) (by omega)) (fun c_2 => absurd c_2 (by decide)) (fun c_2 => ?_)
  refine y_iload_n C D_X6_isOfKind_5 rfl ?_
  refine y_iconst C D_X6_isOfKind_6 ki_2 ?_
  refine y_icmp_eq C D_X6_isOfKind_7 (n_eq (by omega) (by omega)) (fun c_7 => absurd c_7 (by decide)) (fun c_7 => ?_)
  refine y_iload_n C D_X6_isOfKind_10 rfl ?_
  refine y_iconst C D_X6_isOfKind_11 ki_3 ?_
  refine y_icmp_ne C D_X6_isOfKind_12 (n_eq (by omega) (by omega)) (fun c_12 => ?_) (fun c_12 => absurd c_12 (by decide))
  refine y_iconst C D_X6_isOfKind_19 ki_0 ?_
  refine y_istore_n C D_X6_isOfKind_20 (by decide) (qok_s rfl rfl) ?_
  refine y_iload_n C D_X6_isOfKind_21 rfl ?_
  refine y_tabIn (off := 48) (tgt := 70) C D_X6_isOfKind_22 (by decide) (by decide) (by decide +kernel) (by decide) ?_
  refine y_iload_n C D_X6_isOfKind_70 rfl ?_
  refine y_iload_n C D_X6_isOfKind_71 rfl ?_
  refine y_icmp_ne C D_X6_isOfKind_72 (n_eq (by omega) (by omega)) (fun c_72 => ?_) (fun c_72 => absurd c_72 (by decide))
  refine y_iconst C D_X6_isOfKind_79 ki_0 ?_
  exact y_zret C E D_X6_isOfKind_80 nar_0 (rt_0 (by decide)) (rfl)
theorem c_X6_isOfKind_4_3  : Ct l G yX6_isOfKind 0 [.int (nI 4), .int (nI 3)] (h) (some (.int (bI (isK 4 3)))) (h) := by
  refine ctm_intro (maxL := 3) kw_X6_isOfKind (by decide) (by decide) [some (.int (nI 4)), some (.int (nI 3)), none] rfl (Nat.le_of_ble_eq_true rfl) ?_
  intro X _ hcl hsl _ _ C E
  refine y_iload_n C D_X6_isOfKind_0 rfl ?_
  refine y_iconst C D_X6_isOfKind_1 ki_1 ?_
  refine y_icmp_eq C D_X6_isOfKind_2 (n_eq (by omega) (by omega)) (fun c_2 => absurd c_2 (by decide)) (fun c_2 => ?_)
  refine y_iload_n C D_X6_isOfKind_5 rfl ?_
  refine y_iconst C D_X6_isOfKind_6 ki_2 ?_
  refine y_icmp_eq C D_X6_isOfKind_7 (n_eq (by omega) (by omega)) (fun c_7 => absurd c_7 (by decide)) (fun c_7 => ?_)
  refine y_iload_n C D_X6_isOfKind_10 rfl ?_
  refine y_iconst C D_X6_isOfKind_11 ki_3 ?_
  refine y_icmp_ne C D_X6_isOfKind_12 (n_eq (by omega) (by omega)) (fun c_12 => ?_) (fun c_12 => absurd c_12 (by decide))
  refine y_iconst C D_X6_isOfKind_19 ki_0 ?_
  refine y_istore_n C D_X6_isOfKind_20 (by decide) (qok_s rfl rfl) ?_
  refine y_iload_n C D_X6_isOfKind_21 rfl ?_
  refine y_tabIn (off := 48) (tgt := 70) C D_X6_isOfKind_22 (by decide) (by decide) (by decide +kernel) (by decide) ?_
  refine y_iload_n C D_X6_isOfKind_70 rfl ?_
  refine y_iload_n C D_X6_isOfKind_71 rfl ?_
  refine y_icmp_ne C D_X6_isOfKind_72 (n_eq (by omega) (by omega)) (fun c_72 => ?_) (fun c_72 => absurd c_72 (by decide))
  refine y_iconst C D_X6_isOfKind_79 ki_0 ?_
  exact y_zret C E D_X6_isOfKind_80 nar_0 (rt_0 (by decide)) (rfl)
theorem c_X6_isOfKind_4_4  : Ct l G yX6_isOfKind 0 [.int (nI 4), .int (nI 4)] (h) (some (.int (bI (isK 4 4)))) (h) := by
  refine ctm_intro (maxL := 3) kw_X6_isOfKind (by decide) (by decide) [some (.int (nI 4)), some (.int (nI 4)), none] rfl (Nat.le_of_ble_eq_true rfl) ?_
  intro X _ hcl hsl _ _ C E
  refine y_iload_n C D_X6_isOfKind_0 rfl ?_
  refine y_iconst C D_X6_isOfKind_1 ki_1 ?_
  refine y_icmp_eq C D_X6_isOfKind_2 (n_eq (by omega) (by omega)) (fun c_2 => absurd c_2 (by decide)) (fun c_2 => ?_)
  refine y_iload_n C D_X6_isOfKind_5 rfl ?_
  refine y_iconst C D_X6_isOfKind_6 ki_2 ?_
  refine y_icmp_eq C D_X6_isOfKind_7 (n_eq (by omega) (by omega)) (fun c_7 => absurd c_7 (by decide)) (fun c_7 => ?_)
  refine y_iload_n C D_X6_isOfKind_10 rfl ?_
  refine y_iconst C D_X6_isOfKind_11 ki_3 ?_
  refine y_icmp_ne C D_X6_isOfKind_12 (n_eq (by omega) (by omega)) (fun c_12 => ?_) (fun c_12 => absurd c_12 (by decide))
  refine y_iconst C D_X6_isOfKind_19 ki_0 ?_
  refine y_istore_n C D_X6_isOfKind_20 (by decide) (qok_s rfl rfl) ?_
  refine y_iload_n C D_X6_isOfKind_21 rfl ?_
  refine y_tabIn (off := 38) (tgt := 60) C D_X6_isOfKind_22 (by decide) (by decide) (by decide +kernel) (by decide) ?_
  refine y_iload_n C D_X6_isOfKind_60 rfl ?_
  refine z_ifne0 C D_X6_isOfKind_61 ?_
  refine y_iconst C D_X6_isOfKind_64 ki_1 ?_
  refine y_goto C D_X6_isOfKind_65 ?_
  exact y_zret C E D_X6_isOfKind_69 nar_1 (rt_1 (by decide)) (rfl)
theorem c_X6_isOfKind_4_5  : Ct l G yX6_isOfKind 0 [.int (nI 4), .int (nI 5)] (h) (some (.int (bI (isK 4 5)))) (h) := by
  refine ctm_intro (maxL := 3) kw_X6_isOfKind (by decide) (by decide) [some (.int (nI 4)), some (.int (nI 5)), none] rfl (Nat.le_of_ble_eq_true rfl) ?_
  intro X _ hcl hsl _ _ C E
  refine y_iload_n C D_X6_isOfKind_0 rfl ?_
  refine y_iconst C D_X6_isOfKind_1 ki_1 ?_
  refine y_icmp_eq C D_X6_isOfKind_2 (n_eq (by omega) (by omega)) (fun c_2 => absurd c_2 (by decide)) (fun c_2 => ?_)
  refine y_iload_n C D_X6_isOfKind_5 rfl ?_
  refine y_iconst C D_X6_isOfKind_6 ki_2 ?_
  refine y_icmp_eq C D_X6_isOfKind_7 (n_eq (by omega) (by omega)) (fun c_7 => absurd c_7 (by decide)) (fun c_7 => ?_)
  refine y_iload_n C D_X6_isOfKind_10 rfl ?_
  refine y_iconst C D_X6_isOfKind_11 ki_3 ?_
  refine y_icmp_ne C D_X6_isOfKind_12 (n_eq (by omega) (by omega)) (fun c_12 => ?_) (fun c_12 => absurd c_12 (by decide))
  refine y_iconst C D_X6_isOfKind_19 ki_0 ?_
  refine y_istore_n C D_X6_isOfKind_20 (by decide) (qok_s rfl rfl) ?_
  refine y_iload_n C D_X6_isOfKind_21 rfl ?_
  refine y_tabOut (tgt := 70) C D_X6_isOfKind_22 (by decide) (by decide) ?_
  refine y_iload_n C D_X6_isOfKind_70 rfl ?_
  refine y_iload_n C D_X6_isOfKind_71 rfl ?_
  refine y_icmp_ne C D_X6_isOfKind_72 (n_eq (by omega) (by omega)) (fun c_72 => ?_) (fun c_72 => absurd c_72 (by decide))
  refine y_iconst C D_X6_isOfKind_79 ki_0 ?_
  exact y_zret C E D_X6_isOfKind_80 nar_0 (rt_0 (by decide)) (rfl)
theorem c_X6_isOfKind_5_0  : Ct l G yX6_isOfKind 0 [.int (nI 5), .int (nI 0)] (h) (some (.int (bI (isK 5 0)))) (h) := by
  refine ctm_intro (maxL := 3) kw_X6_isOfKind (by decide) (by decide) [some (.int (nI 5)), some (.int (nI 0)), none] rfl (Nat.le_of_ble_eq_true rfl) ?_
  intro X _ hcl hsl _ _ C E
  refine y_iload_n C D_X6_isOfKind_0 rfl ?_
  refine y_iconst C D_X6_isOfKind_1 ki_1 ?_
  refine y_icmp_eq C D_X6_isOfKind_2 (n_eq (by omega) (by omega)) (fun c_2 => absurd c_2 (by decide)) (fun c_2 => ?_)
  refine y_iload_n C D_X6_isOfKind_5 rfl ?_
  refine y_iconst C D_X6_isOfKind_6 ki_2 ?_
  refine y_icmp_eq C D_X6_isOfKind_7 (n_eq (by omega) (by omega)) (fun c_7 => absurd c_7 (by decide)) (fun c_7 => ?_)
  refine y_iload_n C D_X6_isOfKind_10 rfl ?_
  refine y_iconst C D_X6_isOfKind_11 ki_3 ?_
  refine y_icmp_ne C D_X6_isOfKind_12 (n_eq (by omega) (by omega)) (fun c_12 => ?_) (fun c_12 => absurd c_12 (by decide))
  refine y_iconst C D_X6_isOfKind_19 ki_0 ?_
  refine y_istore_n C D_X6_isOfKind_20 (by decide) (qok_s rfl rfl) ?_
  refine y_iload_n C D_X6_isOfKind_21 rfl ?_
  refine y_tabIn (off := 34) (tgt := 56) C D_X6_isOfKind_22 (by decide) (by decide) (by decide +kernel) (by decide) ?_
  refine y_iconst C D_X6_isOfKind_56 ki_1 ?_
  exact y_zret C E D_X6_isOfKind_57 nar_1 (rt_1 (by decide)) (rfl)
theorem c_X6_isOfKind_5_1  : Ct l G yX6_isOfKind 0 [.int (nI 5), .int (nI 1)] (h) (some (.int (bI (isK 5 1)))) (h) := by
  refine ctm_intro (maxL := 3) kw_X6_isOfKind (by decide) (by decide) [some (.int (nI 5)), some (.int (nI 1)), none] rfl (Nat.le_of_ble_eq_true rfl) ?_
  intro X _ hcl hsl _ _ C E
  refine y_iload_n C D_X6_isOfKind_0 rfl ?_
  refine y_iconst C D_X6_isOfKind_1 ki_1 ?_
  refine y_icmp_eq C D_X6_isOfKind_2 (n_eq (by omega) (by omega)) (fun c_2 => absurd c_2 (by decide)) (fun c_2 => ?_)
  refine y_iload_n C D_X6_isOfKind_5 rfl ?_
  refine y_iconst C D_X6_isOfKind_6 ki_2 ?_
  refine y_icmp_eq C D_X6_isOfKind_7 (n_eq (by omega) (by omega)) (fun c_7 => absurd c_7 (by decide)) (fun c_7 => ?_)
  refine y_iload_n C D_X6_isOfKind_10 rfl ?_
  refine y_iconst C D_X6_isOfKind_11 ki_3 ?_
  refine y_icmp_ne C D_X6_isOfKind_12 (n_eq (by omega) (by omega)) (fun c_12 => ?_) (fun c_12 => absurd c_12 (by decide))
  refine y_iconst C D_X6_isOfKind_19 ki_0 ?_
  refine y_istore_n C D_X6_isOfKind_20 (by decide) (qok_s rfl rfl) ?_
  refine y_iload_n C D_X6_isOfKind_21 rfl ?_
  refine y_tabIn (off := 36) (tgt := 58) C D_X6_isOfKind_22 (by decide) (by decide) (by decide +kernel) (by decide) ?_
  refine y_iload_n C D_X6_isOfKind_58 rfl ?_
  exact y_zret C E D_X6_isOfKind_59 nar_0 (rt_0 (by decide)) (rfl)
theorem c_X6_isOfKind_5_2  : Ct l G yX6_isOfKind 0 [.int (nI 5), .int (nI 2)] (h) (some (.int (bI (isK 5 2)))) (h) := by
  refine ctm_intro (maxL := 3) kw_X6_isOfKind (by decide) (by decide) [some (.int (nI 5)), some (.int (nI 2)), none] rfl (Nat.le_of_ble_eq_true rfl) ?_
  intro X _ hcl hsl _ _ C E
  refine y_iload_n C D_X6_isOfKind_0 rfl ?_
  refine y_iconst C D_X6_isOfKind_1 ki_1 ?_
  refine y_icmp_eq C D_X6_isOfKind_2 (n_eq (by omega) (by omega)) (fun c_2 => absurd c_2 (by decide)) (fun c_2 => ?_)
  refine y_iload_n C D_X6_isOfKind_5 rfl ?_
  refine y_iconst C D_X6_isOfKind_6 ki_2 ?_
  refine y_icmp_eq C D_X6_isOfKind_7 (n_eq (by omega) (by omega)) (fun c_7 => absurd c_7 (by decide)) (fun c_7 => ?_)
  refine y_iload_n C D_X6_isOfKind_10 rfl ?_
  refine y_iconst C D_X6_isOfKind_11 ki_3 ?_
  refine y_icmp_ne C D_X6_isOfKind_12 (n_eq (by omega) (by omega)) (fun c_12 => ?_) (fun c_12 => absurd c_12 (by decide))
  refine y_iconst C D_X6_isOfKind_19 ki_0 ?_
  refine y_istore_n C D_X6_isOfKind_20 (by decide) (qok_s rfl rfl) ?_
  refine y_iload_n C D_X6_isOfKind_21 rfl ?_
  refine y_tabIn (off := 48) (tgt := 70) C D_X6_isOfKind_22 (by decide) (by decide) (by decide +kernel) (by decide) ?_
  refine y_iload_n C D_X6_isOfKind_70 rfl ?_
  refine y_iload_n C D_X6_isOfKind_71 rfl ?_
  refine y_icmp_ne C D_X6_isOfKind_72 (n_eq (by omega) (by omega)) (fun c_72 => ?_) (fun c_72 => absurd c_72 (by decide))
  refine y_iconst C D_X6_isOfKind_79 ki_0 ?_
  exact y_zret C E D_X6_isOfKind_80 nar_0 (rt_0 (by decide)) (rfl)
theorem c_X6_isOfKind_5_3  : Ct l G yX6_isOfKind 0 [.int (nI 5), .int (nI 3)] (h) (some (.int (bI (isK 5 3)))) (h) := by
  refine ctm_intro (maxL := 3) kw_X6_isOfKind (by decide) (by decide) [some (.int (nI 5)), some (.int (nI 3)), none] rfl (Nat.le_of_ble_eq_true rfl) ?_
  intro X _ hcl hsl _ _ C E
  refine y_iload_n C D_X6_isOfKind_0 rfl ?_
  refine y_iconst C D_X6_isOfKind_1 ki_1 ?_
  refine y_icmp_eq C D_X6_isOfKind_2 (n_eq (by omega) (by omega)) (fun c_2 => absurd c_2 (by decide)) (fun c_2 => ?_)
  refine y_iload_n C D_X6_isOfKind_5 rfl ?_
  refine y_iconst C D_X6_isOfKind_6 ki_2 ?_
  refine y_icmp_eq C D_X6_isOfKind_7 (n_eq (by omega) (by omega)) (fun c_7 => absurd c_7 (by decide)) (fun c_7 => ?_)
  refine y_iload_n C D_X6_isOfKind_10 rfl ?_
  refine y_iconst C D_X6_isOfKind_11 ki_3 ?_
  refine y_icmp_ne C D_X6_isOfKind_12 (n_eq (by omega) (by omega)) (fun c_12 => ?_) (fun c_12 => absurd c_12 (by decide))
  refine y_iconst C D_X6_isOfKind_19 ki_0 ?_
  refine y_istore_n C D_X6_isOfKind_20 (by decide) (qok_s rfl rfl) ?_
  refine y_iload_n C D_X6_isOfKind_21 rfl ?_
  refine y_tabIn (off := 48) (tgt := 70) C D_X6_isOfKind_22 (by decide) (by decide) (by decide +kernel) (by decide) ?_
  refine y_iload_n C D_X6_isOfKind_70 rfl ?_
  refine y_iload_n C D_X6_isOfKind_71 rfl ?_
  refine y_icmp_ne C D_X6_isOfKind_72 (n_eq (by omega) (by omega)) (fun c_72 => ?_) (fun c_72 => absurd c_72 (by decide))
  refine y_iconst C D_X6_isOfKind_79 ki_0 ?_
  exact y_zret C E D_X6_isOfKind_80 nar_0 (rt_0 (by decide)) (rfl)
theorem c_X6_isOfKind_5_4  : Ct l G yX6_isOfKind 0 [.int (nI 5), .int (nI 4)] (h) (some (.int (bI (isK 5 4)))) (h) := by
  refine ctm_intro (maxL := 3) kw_X6_isOfKind (by decide) (by decide) [some (.int (nI 5)), some (.int (nI 4)), none] rfl (Nat.le_of_ble_eq_true rfl) ?_
  intro X _ hcl hsl _ _ C E
  refine y_iload_n C D_X6_isOfKind_0 rfl ?_
  refine y_iconst C D_X6_isOfKind_1 ki_1 ?_
  refine y_icmp_eq C D_X6_isOfKind_2 (n_eq (by omega) (by omega)) (fun c_2 => absurd c_2 (by decide)) (fun c_2 => ?_)
  refine y_iload_n C D_X6_isOfKind_5 rfl ?_
  refine y_iconst C D_X6_isOfKind_6 ki_2 ?_
  refine y_icmp_eq C D_X6_isOfKind_7 (n_eq (by omega) (by omega)) (fun c_7 => absurd c_7 (by decide)) (fun c_7 => ?_)
  refine y_iload_n C D_X6_isOfKind_10 rfl ?_
  refine y_iconst C D_X6_isOfKind_11 ki_3 ?_
  refine y_icmp_ne C D_X6_isOfKind_12 (n_eq (by omega) (by omega)) (fun c_12 => ?_) (fun c_12 => absurd c_12 (by decide))
  refine y_iconst C D_X6_isOfKind_19 ki_0 ?_
  refine y_istore_n C D_X6_isOfKind_20 (by decide) (qok_s rfl rfl) ?_
  refine y_iload_n C D_X6_isOfKind_21 rfl ?_
  refine y_tabIn (off := 38) (tgt := 60) C D_X6_isOfKind_22 (by decide) (by decide) (by decide +kernel) (by decide) ?_
  refine y_iload_n C D_X6_isOfKind_60 rfl ?_
  refine z_ifne0 C D_X6_isOfKind_61 ?_
  refine y_iconst C D_X6_isOfKind_64 ki_1 ?_
  refine y_goto C D_X6_isOfKind_65 ?_
  exact y_zret C E D_X6_isOfKind_69 nar_1 (rt_1 (by decide)) (rfl)
theorem c_X6_isOfKind_5_5  : Ct l G yX6_isOfKind 0 [.int (nI 5), .int (nI 5)] (h) (some (.int (bI (isK 5 5)))) (h) := by
  refine ctm_intro (maxL := 3) kw_X6_isOfKind (by decide) (by decide) [some (.int (nI 5)), some (.int (nI 5)), none] rfl (Nat.le_of_ble_eq_true rfl) ?_
  intro X _ hcl hsl _ _ C E
  refine y_iload_n C D_X6_isOfKind_0 rfl ?_
  refine y_iconst C D_X6_isOfKind_1 ki_1 ?_
  refine y_icmp_eq C D_X6_isOfKind_2 (n_eq (by omega) (by omega)) (fun c_2 => absurd c_2 (by decide)) (fun c_2 => ?_)
  refine y_iload_n C D_X6_isOfKind_5 rfl ?_
  refine y_iconst C D_X6_isOfKind_6 ki_2 ?_
  refine y_icmp_eq C D_X6_isOfKind_7 (n_eq (by omega) (by omega)) (fun c_7 => absurd c_7 (by decide)) (fun c_7 => ?_)
  refine y_iload_n C D_X6_isOfKind_10 rfl ?_
  refine y_iconst C D_X6_isOfKind_11 ki_3 ?_
  refine y_icmp_ne C D_X6_isOfKind_12 (n_eq (by omega) (by omega)) (fun c_12 => ?_) (fun c_12 => absurd c_12 (by decide))
  refine y_iconst C D_X6_isOfKind_19 ki_0 ?_
  refine y_istore_n C D_X6_isOfKind_20 (by decide) (qok_s rfl rfl) ?_
  refine y_iload_n C D_X6_isOfKind_21 rfl ?_
  refine y_tabOut (tgt := 70) C D_X6_isOfKind_22 (by decide) (by decide) ?_
  refine y_iload_n C D_X6_isOfKind_70 rfl ?_
  refine y_iload_n C D_X6_isOfKind_71 rfl ?_
  refine y_icmp_ne C D_X6_isOfKind_72 (n_eq (by omega) (by omega)) (fun c_72 => absurd (by decide) c_72) (fun c_72 => ?_)
  refine y_iconst C D_X6_isOfKind_75 ki_1 ?_
  refine y_goto C D_X6_isOfKind_76 ?_
  exact y_zret C E D_X6_isOfKind_80 nar_1 (rt_1 (by decide)) (rfl)
theorem c_X6_isOfKind {o k : Nat} (h1 : 1 ≤ o) (ho : o < 6) (hk : k < 6) : Ct l G yX6_isOfKind 0 [.int (nI o), .int (nI k)] h (some (.int (bI (isK o k)))) h := by
  rcases (by omega : o = 1 ∨ o = 2 ∨ o = 3 ∨ o = 4 ∨ o = 5) with rfl | rfl | rfl | rfl | rfl
  · rcases (by omega : k = 0 ∨ k = 1 ∨ k = 2 ∨ k = 3 ∨ k = 4 ∨ k = 5) with rfl | rfl | rfl | rfl | rfl | rfl
    · exact c_X6_isOfKind_1_0
    · exact c_X6_isOfKind_1_1
    · exact c_X6_isOfKind_1_2
    · exact c_X6_isOfKind_1_3
    · exact c_X6_isOfKind_1_4
    · exact c_X6_isOfKind_1_5
  · rcases (by omega : k = 0 ∨ k = 1 ∨ k = 2 ∨ k = 3 ∨ k = 4 ∨ k = 5) with rfl | rfl | rfl | rfl | rfl | rfl
    · exact c_X6_isOfKind_2_0
    · exact c_X6_isOfKind_2_1
    · exact c_X6_isOfKind_2_2
    · exact c_X6_isOfKind_2_3
    · exact c_X6_isOfKind_2_4
    · exact c_X6_isOfKind_2_5
  · rcases (by omega : k = 0 ∨ k = 1 ∨ k = 2 ∨ k = 3 ∨ k = 4 ∨ k = 5) with rfl | rfl | rfl | rfl | rfl | rfl
    · exact c_X6_isOfKind_3_0
    · exact c_X6_isOfKind_3_1
    · exact c_X6_isOfKind_3_2
    · exact c_X6_isOfKind_3_3
    · exact c_X6_isOfKind_3_4
    · exact c_X6_isOfKind_3_5
  · rcases (by omega : k = 0 ∨ k = 1 ∨ k = 2 ∨ k = 3 ∨ k = 4 ∨ k = 5) with rfl | rfl | rfl | rfl | rfl | rfl
    · exact c_X6_isOfKind_4_0
    · exact c_X6_isOfKind_4_1
    · exact c_X6_isOfKind_4_2
    · exact c_X6_isOfKind_4_3
    · exact c_X6_isOfKind_4_4
    · exact c_X6_isOfKind_4_5
  · rcases (by omega : k = 0 ∨ k = 1 ∨ k = 2 ∨ k = 3 ∨ k = 4 ∨ k = 5) with rfl | rfl | rfl | rfl | rfl | rfl
    · exact c_X6_isOfKind_5_0
    · exact c_X6_isOfKind_5_1
    · exact c_X6_isOfKind_5_2
    · exact c_X6_isOfKind_5_3
    · exact c_X6_isOfKind_5_4
    · exact c_X6_isOfKind_5_5
theorem c_X6_asB (I : CI G (h) (i) (A) (B) (fin) (n) (lf) (b) (y) (sz) (old) (w) (c) (f) (ln) (rz) (it) (im)) (h3 : y 3 ≤ 5) {x w1 : Int32} (hx : ¬ isx x (y 3) ∨ ¬ isx w1 6) : Ct l G yX6_as 2 [qr G 0, .int (x), .int (w1)] (h) (some (.int (-1000001))) (h) := by
  refine ctm_intro (maxL := 3) kw_X6_as (by decide) (by decide) [some (qr G 0), some (.int (x)), some (.int (w1))] rfl (Nat.le_of_ble_eq_true rfl) ?_
  intro X _ hcl hsl _ _ C E
  refine y_aload_n C D_X6_as_0 rfl ?_
  refine y_iload_n C D_X6_as_1 rfl ?_
  refine z_callV C D_X6_as_2 lk_X6_150 (c_X6_isSleeper I (by omega)) I.o rfl rfl (Nat.le_of_ble_eq_true rfl) (Nat.le_of_ble_eq_true rfl) ⟨Nat.zero_le _, Nat.zero_le _⟩ ?_
  refine z_ifeqB C D_X6_as_5 (fun c_5 => ?_) (fun c_5 => ?_)
  · refine y_ldc C D_X6_as_17 lk_X6_59 ?_
    exact y_iret C E D_X6_as_19 (rfl) (rfl)
  · refine y_iload_n C D_X6_as_8 rfl ?_
    refine y_if_lt C D_X6_as_9 Iff.rfl (fun c_9 => ?_) (fun c_9 => ?_)
    · refine y_ldc C D_X6_as_17 lk_X6_59 ?_
      exact y_iret C E D_X6_as_19 (rfl) (rfl)
    · refine y_iload_n C D_X6_as_12 rfl ?_
      refine y_iconst C D_X6_as_13 ki_5 ?_
      refine y_icmp_le C D_X6_as_14 Iff.rfl (fun c_14 => hx.elim (fun z => absurd c_5 z) (fun z => absurd ⟨Int32.not_lt.mp c_9, (ileS (by decide)).mp c_14⟩ z)) (fun c_14 => ?_)
      refine y_ldc C D_X6_as_17 lk_X6_59 ?_
      exact y_iret C E D_X6_as_19 (rfl) (rfl)
theorem c_X6_as (I : CI G (h) (i) (A) (B) (fin) (n) (lf) (b) (y) (sz) (old) (w) (c) (f) (ln) (rz) (it) (im)) (h3 : y 3 ≤ 5) {s k : Nat} (hs1 : s < y 3) (hk : k < 6) (ho1 : 1 ≤ y (6 + s)) (ho : y (6 + s) < 6) (hz : isK (y (6 + s)) k) : Ct l G yX6_as 2 [qr G 0, .int (nI s), .int (nI k)] (h) (some (.int (nI s))) (h.set 0 (dcl G 0)) := by
  refine ctm_intro (maxL := 3) kw_X6_as (by decide) (by decide) [some (qr G 0), some (.int (nI s)), some (.int (nI k))] rfl (Nat.le_of_ble_eq_true rfl) ?_
  intro X _ hcl hsl _ _ C E
  refine y_aload_n C D_X6_as_0 rfl ?_
  refine y_iload_n C D_X6_as_1 rfl ?_
  refine z_callV C D_X6_as_2 lk_X6_150 (c_X6_isSleeper I (by omega)) I.o rfl rfl (Nat.le_of_ble_eq_true rfl) (Nat.le_of_ble_eq_true rfl) ⟨Nat.zero_le _, Nat.zero_le _⟩ ?_
  refine y_top (bI_1 (isx_n (by omega) hs1)) ?_
  refine z_ifeq1 C D_X6_as_5 ?_
  refine y_iload_n C D_X6_as_8 rfl ?_
  refine y_if_lt C D_X6_as_9 (n_lt0 (by omega)) (fun q => q.elim) (fun _ => ?_)
  refine y_iload_n C D_X6_as_12 rfl ?_
  refine y_iconst C D_X6_as_13 ki_5 ?_
  refine y_icmp_le C D_X6_as_14 (n_le (by omega) (by omega)) (fun c_14 => ?_) (fun c_14 => absurd (by omega) c_14)
  refine y_aload_n C D_X6_as_20 rfl ?_
  refine y_get C D_X6_as_21 fl_X6_25 I.o rfl ?_
  refine y_get C D_X6_as_24 fl_X6_252 I.yd.o rfl ?_
  refine y_iload_n C D_X6_as_27 rfl ?_
  refine z_ild C D_X6_as_28 I.yd.k (by omega) (by decide) (tr_at (by omega)) ?_
  refine y_iload_n C D_X6_as_29 rfl ?_
  refine z_callS C D_X6_as_30 lk_X6_255 (c_X6_isOfKind ho1 ho hk) rfl rfl (Nat.le_of_ble_eq_true rfl) (Nat.le_of_ble_eq_true rfl) ⟨Nat.zero_le _, Nat.zero_le _⟩ ?_
  refine y_top (bI_1 hz) ?_
  refine z_ifeq1 C D_X6_as_33 ?_
  refine y_aload_n C D_X6_as_36 rfl ?_
  refine y_iload_n C D_X6_as_37 rfl ?_
  refine z_callV C D_X6_as_38 lk_X6_68 (c_X6_sound I) I.o rfl rfl (Nat.le_of_ble_eq_true rfl) (Nat.le_of_ble_eq_true rfl) ⟨Nat.zero_le _, Nat.zero_le _⟩ ?_
  refine y_goto C D_X6_as_41 ?_
  exact y_iret C E D_X6_as_49 (rfl) (rfl)
theorem c_X6_asK (I : CI G (h) (i) (A) (B) (fin) (n) (lf) (b) (y) (sz) (old) (w) (c) (f) (ln) (rz) (it) (im)) (h3 : y 3 ≤ 5) {s k : Nat} (hs1 : s < y 3) (hk : k < 6) (ho1 : 1 ≤ y (6 + s)) (ho : y (6 + s) < 6) (hz : ¬ isK (y (6 + s)) k) : Ct l G yX6_as 2 [qr G 0, .int (nI s), .int (nI k)] (h) (some (.int (-1000010 - nI 3))) (h.set 0 (dcl G 3)) := by
  refine ctm_intro (maxL := 3) kw_X6_as (by decide) (by decide) [some (qr G 0), some (.int (nI s)), some (.int (nI k))] rfl (Nat.le_of_ble_eq_true rfl) ?_
  intro X _ hcl hsl _ _ C E
  refine y_aload_n C D_X6_as_0 rfl ?_
  refine y_iload_n C D_X6_as_1 rfl ?_
  refine z_callV C D_X6_as_2 lk_X6_150 (c_X6_isSleeper I (by omega)) I.o rfl rfl (Nat.le_of_ble_eq_true rfl) (Nat.le_of_ble_eq_true rfl) ⟨Nat.zero_le _, Nat.zero_le _⟩ ?_
  refine y_top (bI_1 (isx_n (by omega) hs1)) ?_
  refine z_ifeq1 C D_X6_as_5 ?_
  refine y_iload_n C D_X6_as_8 rfl ?_
  refine y_if_lt C D_X6_as_9 (n_lt0 (by omega)) (fun q => q.elim) (fun _ => ?_)
  refine y_iload_n C D_X6_as_12 rfl ?_
  refine y_iconst C D_X6_as_13 ki_5 ?_
  refine y_icmp_le C D_X6_as_14 (n_le (by omega) (by omega)) (fun c_14 => ?_) (fun c_14 => absurd (by omega) c_14)
  refine y_aload_n C D_X6_as_20 rfl ?_
  refine y_get C D_X6_as_21 fl_X6_25 I.o rfl ?_
  refine y_get C D_X6_as_24 fl_X6_252 I.yd.o rfl ?_
  refine y_iload_n C D_X6_as_27 rfl ?_
  refine z_ild C D_X6_as_28 I.yd.k (by omega) (by decide) (tr_at (by omega)) ?_
  refine y_iload_n C D_X6_as_29 rfl ?_
  refine z_callS C D_X6_as_30 lk_X6_255 (c_X6_isOfKind ho1 ho hk) rfl rfl (Nat.le_of_ble_eq_true rfl) (Nat.le_of_ble_eq_true rfl) ⟨Nat.zero_le _, Nat.zero_le _⟩ ?_
  refine y_top (bI_0 hz) ?_
  refine z_ifeq0 C D_X6_as_33 ?_
  refine y_aload_n C D_X6_as_44 rfl ?_
  refine y_iconst C D_X6_as_45 ki_3 ?_
  refine z_callV C D_X6_as_46 lk_X6_60 (c_X6_found I) I.o rfl rfl (Nat.le_of_ble_eq_true rfl) (Nat.le_of_ble_eq_true rfl) ⟨Nat.zero_le _, Nat.zero_le _⟩ ?_
  exact y_iret C E D_X6_as_49 (rfl) (rfl)
theorem c_X6_askB (I : CI G (h) (i) (A) (B) (fin) (n) (lf) (b) (y) (sz) (old) (w) (c) (f) (ln) (rz) (it) (im)) (h3 : y 3 ≤ 5) {x w1 : Int32} (hx : ¬ isx x (y 3) ∨ ¬ isx w1 2) : Ct l G yX6_ask 2 [qr G 0, .int (x), .int (w1)] (h) (some (.int (-1000001))) (h) := by
  refine ctm_intro (maxL := 3) kw_X6_ask (by decide) (by decide) [some (qr G 0), some (.int (x)), some (.int (w1))] rfl (Nat.le_of_ble_eq_true rfl) ?_
  intro X _ hcl hsl _ _ C E
  refine y_aload_n C D_X6_ask_0 rfl ?_
  refine y_iload_n C D_X6_ask_1 rfl ?_
  refine z_callV C D_X6_ask_2 lk_X6_150 (c_X6_isSleeper I (by omega)) I.o rfl rfl (Nat.le_of_ble_eq_true rfl) (Nat.le_of_ble_eq_true rfl) ⟨Nat.zero_le _, Nat.zero_le _⟩ ?_
  refine z_ifeqB C D_X6_ask_5 (fun c_5 => ?_) (fun c_5 => ?_)
  · refine y_ldc C D_X6_ask_17 lk_X6_59 ?_
    exact y_iret C E D_X6_ask_19 (rfl) (rfl)
  · refine y_iload_n C D_X6_ask_8 rfl ?_
    refine y_if_lt C D_X6_ask_9 Iff.rfl (fun c_9 => ?_) (fun c_9 => ?_)
    · refine y_ldc C D_X6_ask_17 lk_X6_59 ?_
      exact y_iret C E D_X6_ask_19 (rfl) (rfl)
    · refine y_iload_n C D_X6_ask_12 rfl ?_
      refine y_iconst C D_X6_ask_13 ki_1 ?_
      refine y_icmp_le C D_X6_ask_14 Iff.rfl (fun c_14 => hx.elim (fun z => absurd c_5 z) (fun z => absurd ⟨Int32.not_lt.mp c_9, (ileS (by decide)).mp c_14⟩ z)) (fun c_14 => ?_)
      refine y_ldc C D_X6_ask_17 lk_X6_59 ?_
      exact y_iret C E D_X6_ask_19 (rfl) (rfl)
theorem c_X0_answer0Y (I : CI G (h) (i) (A) (B) (fin) (n) (lf) (b) (y) (sz) (old) (w) (c) (f) (ln) (rz) (it) (im)) (hV : Va y) {s : Nat} (hs1 : s < y 3) : Ct l G yX0_answer 12 [qr G 98, qr G 7, .int (nI s), .int (nI 0)] h (some (.int (szV y s))) (ac G h (bgC 0 (szL y s)) (bgF 0 f (szL y s))) := by
  have w := c_X0_answer0 (l := l) (G := G) (h := h) (c := c) (f := f) (by have := I.L; omega) I.yd hV hs1
  rw [ac_eq I.a I.al] at w
  exact w
theorem c_X6_ask0 (I : CI G (h) (i) (A) (B) (fin) (n) (lf) (b) (y) (sz) (old) (w) (c) (f) (ln) (rz) (it) (im)) (hV : Va y) {s : Nat} (hs1 : s < y 3) : Ct l G yX6_ask 13 [qr G 0, .int (nI s), .int (nI 0)] (h) (some (.int (szV y s))) (ac G h (bgC 0 (szL y s)) (bgF 0 f (szL y s))) := by
  refine ctm_intro (maxL := 3) kw_X6_ask (by decide) (by decide) [some (qr G 0), some (.int (nI s)), some (.int (nI 0))] rfl (Nat.le_of_ble_eq_true rfl) ?_
  intro X _ hcl hsl _ _ C E
  have hV0 := hV.1
  have hV3 := hV.2.2.2.1
  have hV5 := hV.k64
  refine y_aload_n C D_X6_ask_0 rfl ?_
  refine y_iload_n C D_X6_ask_1 rfl ?_
  refine z_callV C D_X6_ask_2 lk_X6_150 (c_X6_isSleeper I (by omega)) I.o rfl rfl (Nat.le_of_ble_eq_true rfl) (Nat.le_of_ble_eq_true rfl) ⟨Nat.zero_le _, Nat.zero_le _⟩ ?_
  refine y_top (bI_1 (isx_n (by omega) hs1)) ?_
  refine z_ifeq1 C D_X6_ask_5 ?_
  refine y_iload_n C D_X6_ask_8 rfl ?_
  refine y_if_lt C D_X6_ask_9 (n_lt0 (by omega)) (fun q => q.elim) (fun _ => ?_)
  refine y_iload_n C D_X6_ask_12 rfl ?_
  refine y_iconst C D_X6_ask_13 ki_1 ?_
  refine y_icmp_le C D_X6_ask_14 (n_le (by omega) (by omega)) (fun c_14 => ?_) (fun c_14 => absurd (by decide) c_14)
  refine y_aload_n C D_X6_ask_20 rfl ?_
  refine y_get C D_X6_ask_21 fl_X6_50 I.o rfl ?_
  refine y_aload_n C D_X6_ask_24 rfl ?_
  refine y_get C D_X6_ask_25 fl_X6_25 I.o rfl ?_
  refine y_iload_n C D_X6_ask_28 rfl ?_
  refine y_iload_n C D_X6_ask_29 rfl ?_
  refine z_callV C D_X6_ask_30 lk_X6_258 (c_X0_answer0Y I hV hs1) I.a rfl rfl (Nat.le_of_ble_eq_true rfl) (Nat.le_of_ble_eq_true rfl) ⟨Nat.zero_le _, Nat.zero_le _⟩ ?_
  exact y_iret C E D_X6_ask_33 (rfl) (rfl)
theorem c_X0_answer1Y (I : CI G (h) (i) (A) (B) (fin) (n) (lf) (b) (y) (sz) (old) (w) (c) (f) (ln) (rz) (it) (im)) (hV : Va y) {s : Nat} (hs1 : s < y 3) : Ct l G yX0_answer 12 [qr G 98, qr G 7, .int (nI s), .int (nI 1)] h (some (.int (mkV y s))) (ac G h (bgC 0 (mkL y s)) (bgF 0 f (mkL y s))) := by
  have w := c_X0_answer1 (l := l) (G := G) (h := h) (c := c) (f := f) (by have := I.L; omega) I.yd hV hs1
  rw [ac_eq I.a I.al] at w
  exact w
theorem c_X6_ask1 (I : CI G (h) (i) (A) (B) (fin) (n) (lf) (b) (y) (sz) (old) (w) (c) (f) (ln) (rz) (it) (im)) (hV : Va y) {s : Nat} (hs1 : s < y 3) : Ct l G yX6_ask 13 [qr G 0, .int (nI s), .int (nI 1)] (h) (some (.int (mkV y s))) (ac G h (bgC 0 (mkL y s)) (bgF 0 f (mkL y s))) := by
  refine ctm_intro (maxL := 3) kw_X6_ask (by decide) (by decide) [some (qr G 0), some (.int (nI s)), some (.int (nI 1))] rfl (Nat.le_of_ble_eq_true rfl) ?_
  intro X _ hcl hsl _ _ C E
  have hV0 := hV.1
  have hV3 := hV.2.2.2.1
  have hV5 := hV.k64
  refine y_aload_n C D_X6_ask_0 rfl ?_
  refine y_iload_n C D_X6_ask_1 rfl ?_
  refine z_callV C D_X6_ask_2 lk_X6_150 (c_X6_isSleeper I (by omega)) I.o rfl rfl (Nat.le_of_ble_eq_true rfl) (Nat.le_of_ble_eq_true rfl) ⟨Nat.zero_le _, Nat.zero_le _⟩ ?_
  refine y_top (bI_1 (isx_n (by omega) hs1)) ?_
  refine z_ifeq1 C D_X6_ask_5 ?_
  refine y_iload_n C D_X6_ask_8 rfl ?_
  refine y_if_lt C D_X6_ask_9 (n_lt0 (by omega)) (fun q => q.elim) (fun _ => ?_)
  refine y_iload_n C D_X6_ask_12 rfl ?_
  refine y_iconst C D_X6_ask_13 ki_1 ?_
  refine y_icmp_le C D_X6_ask_14 (n_le (by omega) (by omega)) (fun c_14 => ?_) (fun c_14 => absurd (by decide) c_14)
  refine y_aload_n C D_X6_ask_20 rfl ?_
  refine y_get C D_X6_ask_21 fl_X6_50 I.o rfl ?_
  refine y_aload_n C D_X6_ask_24 rfl ?_
  refine y_get C D_X6_ask_25 fl_X6_25 I.o rfl ?_
  refine y_iload_n C D_X6_ask_28 rfl ?_
  refine y_iload_n C D_X6_ask_29 rfl ?_
  refine z_callV C D_X6_ask_30 lk_X6_258 (c_X0_answer1Y I hV hs1) I.a rfl rfl (Nat.le_of_ble_eq_true rfl) (Nat.le_of_ble_eq_true rfl) ⟨Nat.zero_le _, Nat.zero_le _⟩ ?_
  exact y_iret C E D_X6_ask_33 (rfl) (rfl)
theorem lp_X6_rowsThere (I : CI G (h) (i) (A) (B) (fin) (n) (lf) (b) (y) (sz) (old) (w) (c) (f) (ln) (rz) (it) (im)) {X : qX} (C : qC X G cX6_rowsThere 3 RX6 1) (E : qE X G (some .int) 0 0 (some (.int (nI (rlN ln 8)))) h) : ∀ (m r : Nat), r + m = 8 → Y X G 3 0 0 4 [some (qr G 0), some (.int (nI (rlN ln r))), some (.int (nI (r)))] [] h := by
  intro m
  induction m with
  | zero =>
    intro r hr
    obtain rfl : r = 8 := by omega
    refine y_iload_n C D_X6_rowsThere_4 rfl ?_
    refine y_bipush C D_X6_rowsThere_5 kb_8 ?_
    refine y_icmp_ge C D_X6_rowsThere_7 (n_le (by omega) (by omega)) (fun c_7 => ?_) (fun c_7 => absurd (Nat.le_refl _) c_7)
    refine y_iload_n C D_X6_rowsThere_31 rfl ?_
    exact y_iret C E D_X6_rowsThere_32 (rfl) (rfl)
  | succ m ih =>
    intro r hr
    have hle := rlN_le ln r
    have z := ih (r + 1) (by omega)
    refine y_iload_n C D_X6_rowsThere_4 rfl ?_
    refine y_bipush C D_X6_rowsThere_5 kb_8 ?_
    refine y_icmp_ge C D_X6_rowsThere_7 (n_le (by omega) (by omega)) (fun c_7 => absurd c_7 (by omega)) (fun c_7 => ?_)
    refine y_aload_n C D_X6_rowsThere_10 rfl ?_
    refine y_get C D_X6_rowsThere_11 fl_X6_11 I.o rfl ?_
    refine y_iload_n C D_X6_rowsThere_14 rfl ?_
    refine z_ald (t0 := 2) C D_X6_rowsThere_15 I.rs rfl (by omega) (by decide) (rfR_at (by omega)) ?_
    refine z_callV C D_X6_rowsThere_16 lk_X6_78 (c_X2_isMissingY (I.rw r (by omega))) (I.rw r (by omega)).1 rfl rfl (Nat.le_of_ble_eq_true rfl) (Nat.le_of_ble_eq_true rfl) ⟨Nat.zero_le _, Nat.zero_le _⟩ ?_
    refine z_ifneB C D_X6_rowsThere_19 (fun c_19 => ?_) (fun c_19 => ?_)
    · refine z_iinc (n := 1) C D_X6_rowsThere_25 rfl (by decide) (qok_s rfl rfl) ?_
      refine y_goto C D_X6_rowsThere_28 ?_
      rw [rlN, if_pos c_19] at z
      exact z
    · refine z_iinc (n := 1) C D_X6_rowsThere_22 rfl (by decide) (qok_s rfl rfl) ?_
      refine z_iinc (n := 1) C D_X6_rowsThere_25 rfl (by decide) (qok_s rfl rfl) ?_
      refine y_goto C D_X6_rowsThere_28 ?_
      rw [rlN, if_neg c_19] at z
      exact z
theorem c_X6_rowsThere (I : CI G (h) (i) (A) (B) (fin) (n) (lf) (b) (y) (sz) (old) (w) (c) (f) (ln) (rz) (it) (im))  : Ct l G yX6_rowsThere 1 [qr G 0] (h) (some (.int (nI (rlN ln 8)))) (h) := by
  refine ctm_intro (maxL := 3) kw_X6_rowsThere (by decide) (by decide) [some (qr G 0), none, none] rfl (Nat.le_of_ble_eq_true rfl) ?_
  intro X _ hcl hsl _ _ C E
  refine y_iconst C D_X6_rowsThere_0 ki_0 ?_
  refine y_istore_n C D_X6_rowsThere_1 (by decide) (qok_s rfl rfl) ?_
  refine y_iconst C D_X6_rowsThere_2 ki_0 ?_
  refine y_istore_n C D_X6_rowsThere_3 (by decide) (qok_s rfl rfl) ?_
  exact lp_X6_rowsThere I C E 8 0 rfl
theorem c_X6_countB (I : CI G (h) (i) (A) (B) (fin) (n) (lf) (b) (y) (sz) (old) (w) (c) (f) (ln) (rz) (it) (im)) {x : Int32} (hx : ¬ isx x 8) : Ct l G yX6_count 2 [qr G 0, .int (x)] (h) (some (.int (-1000001))) (h) := by
  refine ctm_intro (maxL := 2) kw_X6_count (by decide) (by decide) [some (qr G 0), some (.int (x))] rfl (Nat.le_of_ble_eq_true rfl) ?_
  intro X _ hcl hsl _ _ C E
  refine y_iload_n C D_X6_count_0 rfl ?_
  refine y_tabOut (tgt := 109) C D_X6_count_1 ((isx_out (by decide) hx).imp id (fun z => by omega)) (by decide) ?_
  refine y_ldc C D_X6_count_109 lk_X6_59 ?_
  exact y_iret C E D_X6_count_111 (rfl) (rfl)
theorem c_X6_count0 (I : CI G (h) (i) (A) (B) (fin) (n) (lf) (b) (y) (sz) (old) (w) (c) (f) (ln) (rz) (it) (im))  : Ct l G yX6_count 2 [qr G 0, .int (nI 0)] (h) (some (.int (nI (rlN ln 8)))) (h) := by
  refine ctm_intro (maxL := 2) kw_X6_count (by decide) (by decide) [some (qr G 0), some (.int (nI 0))] rfl (Nat.le_of_ble_eq_true rfl) ?_
  intro X _ hcl hsl _ _ C E
  obtain ⟨ts, te, tv, tx, tok, hTp⟩ := I.t
  refine y_iload_n C D_X6_count_0 rfl ?_
  refine y_tabIn (off := 47) (tgt := 48) C D_X6_count_1 (by decide) (by decide) (by decide +kernel) (by decide) ?_
  refine y_aload_n C D_X6_count_48 rfl ?_
  refine z_callV C D_X6_count_49 lk_X6_267 (c_X6_rowsThere I) I.o rfl rfl (Nat.le_of_ble_eq_true rfl) (Nat.le_of_ble_eq_true rfl) ⟨Nat.zero_le _, Nat.zero_le _⟩ ?_
  exact y_iret C E D_X6_count_52 (rfl) (rfl)
theorem c_X6_count1 (I : CI G (h) (i) (A) (B) (fin) (n) (lf) (b) (y) (sz) (old) (w) (c) (f) (ln) (rz) (it) (im))  : Ct l G yX6_count 2 [qr G 0, .int (nI 1)] (h) (some (.int (nI (y 0)))) (h) := by
  refine ctm_intro (maxL := 2) kw_X6_count (by decide) (by decide) [some (qr G 0), some (.int (nI 1))] rfl (Nat.le_of_ble_eq_true rfl) ?_
  intro X _ hcl hsl _ _ C E
  obtain ⟨ts, te, tv, tx, tok, hTp⟩ := I.t
  refine y_iload_n C D_X6_count_0 rfl ?_
  refine y_tabIn (off := 52) (tgt := 53) C D_X6_count_1 (by decide) (by decide) (by decide +kernel) (by decide) ?_
  refine y_aload_n C D_X6_count_53 rfl ?_
  refine y_get C D_X6_count_54 fl_X6_25 I.o rfl ?_
  refine y_get C D_X6_count_57 fl_X6_201 I.yd.o rfl ?_
  exact y_iret C E D_X6_count_60 (rfl) (rfl)
theorem c_X6_count2 (I : CI G (h) (i) (A) (B) (fin) (n) (lf) (b) (y) (sz) (old) (w) (c) (f) (ln) (rz) (it) (im))  : Ct l G yX6_count 2 [qr G 0, .int (nI 2)] (h) (some (.int (nI (y 3)))) (h) := by
  refine ctm_intro (maxL := 2) kw_X6_count (by decide) (by decide) [some (qr G 0), some (.int (nI 2))] rfl (Nat.le_of_ble_eq_true rfl) ?_
  intro X _ hcl hsl _ _ C E
  obtain ⟨ts, te, tv, tx, tok, hTp⟩ := I.t
  refine y_iload_n C D_X6_count_0 rfl ?_
  refine y_tabIn (off := 60) (tgt := 61) C D_X6_count_1 (by decide) (by decide) (by decide +kernel) (by decide) ?_
  refine y_aload_n C D_X6_count_61 rfl ?_
  refine y_get C D_X6_count_62 fl_X6_25 I.o rfl ?_
  refine y_get C D_X6_count_65 fl_X6_123 I.yd.o rfl ?_
  exact y_iret C E D_X6_count_68 (rfl) (rfl)
theorem c_X6_count3 (I : CI G (h) (i) (A) (B) (fin) (n) (lf) (b) (y) (sz) (old) (w) (c) (f) (ln) (rz) (it) (im))  : Ct l G yX6_count 2 [qr G 0, .int (nI 3)] (h) (some (.int (nI (y 4)))) (h) := by
  refine ctm_intro (maxL := 2) kw_X6_count (by decide) (by decide) [some (qr G 0), some (.int (nI 3))] rfl (Nat.le_of_ble_eq_true rfl) ?_
  intro X _ hcl hsl _ _ C E
  obtain ⟨ts, te, tv, tx, tok, hTp⟩ := I.t
  refine y_iload_n C D_X6_count_0 rfl ?_
  refine y_tabIn (off := 68) (tgt := 69) C D_X6_count_1 (by decide) (by decide) (by decide +kernel) (by decide) ?_
  refine y_aload_n C D_X6_count_69 rfl ?_
  refine y_get C D_X6_count_70 fl_X6_25 I.o rfl ?_
  refine y_get C D_X6_count_73 fl_X6_138 I.yd.o rfl ?_
  exact y_iret C E D_X6_count_76 (rfl) (rfl)
theorem c_X6_count4 (I : CI G (h) (i) (A) (B) (fin) (n) (lf) (b) (y) (sz) (old) (w) (c) (f) (ln) (rz) (it) (im))  : Ct l G yX6_count 2 [qr G 0, .int (nI 4)] (h) (some (.int (nI (y 5)))) (h) := by
  refine ctm_intro (maxL := 2) kw_X6_count (by decide) (by decide) [some (qr G 0), some (.int (nI 4))] rfl (Nat.le_of_ble_eq_true rfl) ?_
  intro X _ hcl hsl _ _ C E
  obtain ⟨ts, te, tv, tx, tok, hTp⟩ := I.t
  refine y_iload_n C D_X6_count_0 rfl ?_
  refine y_tabIn (off := 76) (tgt := 77) C D_X6_count_1 (by decide) (by decide) (by decide +kernel) (by decide) ?_
  refine y_aload_n C D_X6_count_77 rfl ?_
  refine y_get C D_X6_count_78 fl_X6_25 I.o rfl ?_
  refine y_get C D_X6_count_81 fl_X6_147 I.yd.o rfl ?_
  exact y_iret C E D_X6_count_84 (rfl) (rfl)
theorem c_X6_count5 (I : CI G (h) (i) (A) (B) (fin) (n) (lf) (b) (y) (sz) (old) (w) (c) (f) (ln) (rz) (it) (im))  : Ct l G yX6_count 2 [qr G 0, .int (nI 5)] (h) (some (.int (nI (sb y 11)))) (h) := by
  refine ctm_intro (maxL := 2) kw_X6_count (by decide) (by decide) [some (qr G 0), some (.int (nI 5))] rfl (Nat.le_of_ble_eq_true rfl) ?_
  intro X _ hcl hsl _ _ C E
  obtain ⟨ts, te, tv, tx, tok, hTp⟩ := I.t
  refine y_iload_n C D_X6_count_0 rfl ?_
  refine y_tabIn (off := 84) (tgt := 85) C D_X6_count_1 (by decide) (by decide) (by decide +kernel) (by decide) ?_
  refine y_aload_n C D_X6_count_85 rfl ?_
  refine y_get C D_X6_count_86 fl_X6_25 I.o rfl ?_
  refine y_get C D_X6_count_89 fl_X6_153 I.yd.o rfl ?_
  exact y_iret C E D_X6_count_92 (rfl) (rfl)
theorem c_X6_count6 (I : CI G (h) (i) (A) (B) (fin) (n) (lf) (b) (y) (sz) (old) (w) (c) (f) (ln) (rz) (it) (im))  : Ct l G yX6_count 2 [qr G 0, .int (nI 6)] (h) (some (.int (nI (sz)))) (h) := by
  refine ctm_intro (maxL := 2) kw_X6_count (by decide) (by decide) [some (qr G 0), some (.int (nI 6))] rfl (Nat.le_of_ble_eq_true rfl) ?_
  intro X _ hcl hsl _ _ C E
  obtain ⟨ts, te, tv, tx, tok, hTp⟩ := I.t
  refine y_iload_n C D_X6_count_0 rfl ?_
  refine y_tabIn (off := 92) (tgt := 93) C D_X6_count_1 (by decide) (by decide) (by decide +kernel) (by decide) ?_
  refine y_aload_n C D_X6_count_93 rfl ?_
  refine y_get C D_X6_count_94 fl_X6_32 I.o rfl ?_
  refine y_get C D_X6_count_97 fl_X6_133 I.p rfl ?_
  exact y_iret C E D_X6_count_100 (rfl) (rfl)
theorem c_X6_count7 (I : CI G (h) (i) (A) (B) (fin) (n) (lf) (b) (y) (sz) (old) (w) (c) (f) (ln) (rz) (it) (im))  : Ct l G yX6_count 2 [qr G 0, .int (nI 7)] (h) (some (.int (nI (n)))) (h) := by
  refine ctm_intro (maxL := 2) kw_X6_count (by decide) (by decide) [some (qr G 0), some (.int (nI 7))] rfl (Nat.le_of_ble_eq_true rfl) ?_
  intro X _ hcl hsl _ _ C E
  obtain ⟨ts, te, tv, tx, tok, hTp⟩ := I.t
  refine y_iload_n C D_X6_count_0 rfl ?_
  refine y_tabIn (off := 100) (tgt := 101) C D_X6_count_1 (by decide) (by decide) (by decide +kernel) (by decide) ?_
  refine y_aload_n C D_X6_count_101 rfl ?_
  refine y_get C D_X6_count_102 fl_X6_18 I.o rfl ?_
  refine y_get C D_X6_count_105 fl_X6_106 hTp rfl ?_
  exact y_iret C E D_X6_count_108 (rfl) (rfl)
theorem xc_eq {s e v x : Nat} {tok : Int32} (h1 : h[2]? = some (.inr (4, xf G n lf s e v x tok))) (h2 : h[6]? = some (qI G 120 (tr 120 (fun k => nI (b k))))) : xc G h n lf s e v x tok b = h := by
  unfold xc
  rw [set_same h1, set_same h2]
theorem c_X6_feedB (I : CI G (h) (i) (A) (B) (fin) (n) (lf) (b) (y) (sz) (old) (w) (c) (f) (ln) (rz) (it) (im)) {x : Int32} (hx : ¬ isx x 256) : Ct l G yX6_feed 2 [qr G 0, .int (x)] (h) (some (.int (-1000001))) (h) := by
  refine ctm_intro (maxL := 2) kw_X6_feed (by decide) (by decide) [some (qr G 0), some (.int (x))] rfl (Nat.le_of_ble_eq_true rfl) ?_
  intro X _ hcl hsl _ _ C E
  refine y_iload_n C D_X6_feed_0 rfl ?_
  refine y_if_lt C D_X6_feed_1 Iff.rfl (fun c_1 => ?_) (fun c_1 => ?_)
  · refine y_ldc C D_X6_feed_11 lk_X6_59 ?_
    exact y_iret C E D_X6_feed_13 (rfl) (rfl)
  · refine y_iload_n C D_X6_feed_4 rfl ?_
    refine y_sipush C D_X6_feed_5 kn_255 ?_
    refine y_icmp_le C D_X6_feed_8 Iff.rfl (fun c_8 => absurd ⟨Int32.not_lt.mp c_1, (ileS (by decide)).mp c_8⟩ hx) (fun c_8 => ?_)
    refine y_ldc C D_X6_feed_11 lk_X6_59 ?_
    exact y_iret C E D_X6_feed_13 (rfl) (rfl)
theorem c_X6_feedF (I : CI G (h) (i) (A) (B) (fin) (n) (lf) (b) (y) (sz) (old) (w) (c) (f) (ln) (rz) (it) (im)) {q : Nat} (hq : q < 256) (hn : n = 120) : Ct l G yX6_feed 2 [qr G 0, .int (nI q)] h (some (.int (-1000003))) h := by
  obtain ⟨ts, te, tv, tx, tok, hTp⟩ := I.t
  have hL := I.L
  have w1 := c_X4_addF (l := l) (G := G) (h := h) (n := n) (lf := lf) (s := ts) (e := te) (v := tv) (x := tx) (tok := tok) (b := b) (c := q) (by omega) hn
  rw [xc_eq hTp I.tb] at w1
  refine ctm_intro (maxL := 2) kw_X6_feed (by decide) (by decide) [some (qr G 0), some (.int (nI q))] rfl (Nat.le_of_ble_eq_true rfl) ?_
  intro X hX hcl hsl _ _ C E
  subst hX
  refine y_iload_n C D_X6_feed_0 rfl ?_
  refine y_if_lt C D_X6_feed_1 (n_lt0 (by omega)) (fun q => q.elim) (fun _ => ?_)
  refine y_iload_n C D_X6_feed_4 rfl ?_
  refine y_sipush C D_X6_feed_5 kn_255 ?_
  refine y_icmp_le C D_X6_feed_8 (n_le (by omega) (by omega)) (fun c_8 => ?_) (fun c_8 => absurd (by omega) c_8)
  refine y_aload_n C D_X6_feed_14 rfl ?_
  refine y_get C D_X6_feed_15 fl_X6_18 I.o rfl ?_
  refine y_iload_n C D_X6_feed_18 rfl ?_
  refine z_callV C D_X6_feed_19 lk_X6_103 (w1) hTp rfl rfl (Nat.le_of_ble_eq_true rfl) (Nat.le_of_ble_eq_true rfl) ⟨Nat.zero_le _, Nat.zero_le _⟩ ?_
  refine z_ifeq0 C D_X6_feed_22 ?_
  refine y_ldc C D_X6_feed_35 lk_X6_107 ?_
  exact y_iret C E D_X6_feed_37 (rfl) (rfl)
theorem c_X6_feed (I : CI G (h) (i) (A) (B) (fin) (n) (lf) (b) (y) (sz) (old) (w) (c) (f) (ln) (rz) (it) (im)) {q : Nat} (hq : q < 256) (hn : n < 120) : ∃ ts te tv tx tok, Ct l G yX6_feed 2 [qr G 0, .int (nI q)] h (some (.int (nI (n + 1)))) (xc G h (n + 1) lf ts te tv tx tok (va_up b n q)) := by
  obtain ⟨ts, te, tv, tx, tok, hTp⟩ := I.t
  have hL := I.L
  have w1 := c_X4_add (l := l) (G := G) (h := h) (n := n) (lf := lf) (s := ts) (e := te) (v := tv) (x := tx) (tok := tok) (b := b) (c := q) (by omega) hn
  rw [xc_eq hTp I.tb] at w1
  refine ⟨ts, te, tv, tx, tok, ?_⟩
  refine ctm_intro (maxL := 2) kw_X6_feed (by decide) (by decide) [some (qr G 0), some (.int (nI q))] rfl (Nat.le_of_ble_eq_true rfl) ?_
  intro X hX hcl hsl _ _ C E
  subst hX
  refine y_iload_n C D_X6_feed_0 rfl ?_
  refine y_if_lt C D_X6_feed_1 (n_lt0 (by omega)) (fun q => q.elim) (fun _ => ?_)
  refine y_iload_n C D_X6_feed_4 rfl ?_
  refine y_sipush C D_X6_feed_5 kn_255 ?_
  refine y_icmp_le C D_X6_feed_8 (n_le (by omega) (by omega)) (fun c_8 => ?_) (fun c_8 => absurd (by omega) c_8)
  refine y_aload_n C D_X6_feed_14 rfl ?_
  refine y_get C D_X6_feed_15 fl_X6_18 I.o rfl ?_
  refine y_iload_n C D_X6_feed_18 rfl ?_
  refine z_callV C D_X6_feed_19 lk_X6_103 (w1) hTp rfl rfl (Nat.le_of_ble_eq_true rfl) (Nat.le_of_ble_eq_true rfl) ⟨Nat.zero_le _, Nat.zero_le _⟩ ?_
  have I1 := I.xca (n' := n + 1) (lf' := lf) (s := ts) (e := te) (v := tv) (x := tx) (tok := tok) (b' := va_up b n q)
  refine z_ifeq1 C D_X6_feed_22 ?_
  refine y_aload_n C D_X6_feed_25 rfl ?_
  refine y_get C D_X6_feed_26 fl_X6_18 I1.o rfl ?_
  refine y_get C D_X6_feed_29 fl_X6_106 (xc_o (by omega)) rfl ?_
  refine y_goto C D_X6_feed_32 ?_
  exact y_iret C E D_X6_feed_37 (rfl) (rfl)
theorem c_X6_imageB (I : CI G (h) (i) (A) (B) (fin) (n) (lf) (b) (y) (sz) (old) (w) (c) (f) (ln) (rz) (it) (im)) {x : Int32} (hx : ¬ isx x 2) : Ct l G yX6_image 2 [qr G 0, .int (x)] (h) (some (.int (-1000001))) (h) := by
  refine ctm_intro (maxL := 2) kw_X6_image (by decide) (by decide) [some (qr G 0), some (.int (x))] rfl (Nat.le_of_ble_eq_true rfl) ?_
  intro X _ hcl hsl _ _ C E
  refine y_iload_n C D_X6_image_0 rfl ?_
  refine y_if_lt C D_X6_image_1 Iff.rfl (fun c_1 => ?_) (fun c_1 => ?_)
  · refine y_ldc C D_X6_image_9 lk_X6_59 ?_
    exact y_iret C E D_X6_image_11 (rfl) (rfl)
  · refine y_iload_n C D_X6_image_4 rfl ?_
    refine y_iconst C D_X6_image_5 ki_2 ?_
    refine y_icmp_lt C D_X6_image_6 Iff.rfl (fun c_6 => absurd ⟨Int32.not_lt.mp c_1, c_6⟩ hx) (fun c_6 => ?_)
    refine y_ldc C D_X6_image_9 lk_X6_59 ?_
    exact y_iret C E D_X6_image_11 (rfl) (rfl)
theorem c_X6_restoreB (I : CI G (h) (i) (A) (B) (fin) (n) (lf) (b) (y) (sz) (old) (w) (c) (f) (ln) (rz) (it) (im)) {x : Int32} (hx : ¬ isx x 2) : Ct l G yX6_restore 2 [qr G 0, .int (x)] (h) (some (.int (-1000001))) (h) := by
  refine ctm_intro (maxL := 2) kw_X6_restore (by decide) (by decide) [some (qr G 0), some (.int (x))] rfl (Nat.le_of_ble_eq_true rfl) ?_
  intro X _ hcl hsl _ _ C E
  refine y_iload_n C D_X6_restore_0 rfl ?_
  refine y_if_lt C D_X6_restore_1 Iff.rfl (fun c_1 => ?_) (fun c_1 => ?_)
  · refine y_ldc C D_X6_restore_9 lk_X6_59 ?_
    exact y_iret C E D_X6_restore_11 (rfl) (rfl)
  · refine y_iload_n C D_X6_restore_4 rfl ?_
    refine y_iconst C D_X6_restore_5 ki_2 ?_
    refine y_icmp_lt C D_X6_restore_6 Iff.rfl (fun c_6 => absurd ⟨Int32.not_lt.mp c_1, c_6⟩ hx) (fun c_6 => ?_)
    refine y_ldc C D_X6_restore_9 lk_X6_59 ?_
    exact y_iret C E D_X6_restore_11 (rfl) (rfl)
theorem c_X6_imageS (I : CI G (h) (i) (A) (B) (fin) (n) (lf) (b) (y) (sz) (old) (w) (c) (f) (ln) (rz) (it) (im)) {q : Nat} (hq : q < 2) (hz0 : y 0 = 0) : Ct l G yX6_image 2 [qr G 0, .int (nI q)] (h) (some (.int (-1000002))) (h) := by
  refine ctm_intro (maxL := 2) kw_X6_image (by decide) (by decide) [some (qr G 0), some (.int (nI q))] rfl (Nat.le_of_ble_eq_true rfl) ?_
  intro X _ hcl hsl _ _ C E
  refine y_iload_n C D_X6_image_0 rfl ?_
  refine y_if_lt C D_X6_image_1 (n_lt0 (by omega)) (fun q => q.elim) (fun _ => ?_)
  refine y_iload_n C D_X6_image_4 rfl ?_
  refine y_iconst C D_X6_image_5 ki_2 ?_
  refine y_icmp_lt C D_X6_image_6 (n_lt (by omega) (by omega)) (fun c_6 => ?_) (fun c_6 => absurd hq c_6)
  refine y_aload_n C D_X6_image_12 rfl ?_
  refine z_callV C D_X6_image_13 lk_X6_135 (c_X6_noYard I (by omega)) I.o rfl rfl (Nat.le_of_ble_eq_true rfl) (Nat.le_of_ble_eq_true rfl) ⟨Nat.zero_le _, Nat.zero_le _⟩ ?_
  refine y_top (bI_1 hz0) ?_
  refine z_ifeq1 C D_X6_image_16 ?_
  refine y_ldc C D_X6_image_19 lk_X6_134 ?_
  exact y_iret C E D_X6_image_21 (rfl) (rfl)
theorem c_X6_image (I : CI G (h) (i) (A) (B) (fin) (n) (lf) (b) (y) (sz) (old) (w) (c) (f) (ln) (rz) (it) (im)) {q : Nat} (hq : q < 2) (hV : Va y) : Ct l G yX6_image 2 [qr G 0, .int (nI q)] (h) (some (.int (nI 1))) (yc G h (116 + 3 * q) y) := by
  refine ctm_intro (maxL := 2) kw_X6_image (by decide) (by decide) [some (qr G 0), some (.int (nI q))] rfl (Nat.le_of_ble_eq_true rfl) ?_
  intro X _ hcl hsl _ _ C E
  have hV0 := hV.1
  have hV3 := hV.2.2.2.1
  have hV5 := hV.k64
  refine y_iload_n C D_X6_image_0 rfl ?_
  refine y_if_lt C D_X6_image_1 (n_lt0 (by omega)) (fun q => q.elim) (fun _ => ?_)
  refine y_iload_n C D_X6_image_4 rfl ?_
  refine y_iconst C D_X6_image_5 ki_2 ?_
  refine y_icmp_lt C D_X6_image_6 (n_lt (by omega) (by omega)) (fun c_6 => ?_) (fun c_6 => absurd hq c_6)
  refine y_aload_n C D_X6_image_12 rfl ?_
  refine z_callV C D_X6_image_13 lk_X6_135 (c_X6_noYard I (by omega)) I.o rfl rfl (Nat.le_of_ble_eq_true rfl) (Nat.le_of_ble_eq_true rfl) ⟨Nat.zero_le _, Nat.zero_le _⟩ ?_
  refine y_top (bI_0 (by omega)) ?_
  refine z_ifeq0 C D_X6_image_16 ?_
  refine y_aload_n C D_X6_image_22 rfl ?_
  refine y_get C D_X6_image_23 fl_X6_36 I.o rfl ?_
  refine y_iload_n C D_X6_image_26 rfl ?_
  refine z_ald (t0 := 3) C D_X6_image_27 I.is rfl (by omega) (by decide) (ifY_at (by omega)) ?_
  refine y_aload_n C D_X6_image_28 rfl ?_
  refine y_get C D_X6_image_29 fl_X6_25 I.o rfl ?_
  refine z_callVv C D_X6_image_32 lk_X6_116 (c_X5_becomeY (I.iw q hq) I.yd (by omega) hV.sup hV.fev) (I.iw q hq).o rfl rfl (Nat.le_of_ble_eq_true rfl) (Nat.le_of_ble_eq_true rfl) ⟨Nat.zero_le _, Nat.zero_le _⟩ ?_
  refine y_iconst C D_X6_image_35 ki_1 ?_
  exact y_iret C E D_X6_image_36 (rfl) (rfl)
theorem c_X6_restoreS (I : CI G (h) (i) (A) (B) (fin) (n) (lf) (b) (y) (sz) (old) (w) (c) (f) (ln) (rz) (it) (im)) {q : Nat} (hq : q < 2) (hz0 : im q 0 = 0) : Ct l G yX6_restore 2 [qr G 0, .int (nI q)] (h) (some (.int (-1000002))) (h) := by
  refine ctm_intro (maxL := 2) kw_X6_restore (by decide) (by decide) [some (qr G 0), some (.int (nI q))] rfl (Nat.le_of_ble_eq_true rfl) ?_
  intro X _ hcl hsl _ _ C E
  refine y_iload_n C D_X6_restore_0 rfl ?_
  refine y_if_lt C D_X6_restore_1 (n_lt0 (by omega)) (fun q => q.elim) (fun _ => ?_)
  refine y_iload_n C D_X6_restore_4 rfl ?_
  refine y_iconst C D_X6_restore_5 ki_2 ?_
  refine y_icmp_lt C D_X6_restore_6 (n_lt (by omega) (by omega)) (fun c_6 => ?_) (fun c_6 => absurd hq c_6)
  refine y_aload_n C D_X6_restore_12 rfl ?_
  refine y_get C D_X6_restore_13 fl_X6_36 I.o rfl ?_
  refine y_iload_n C D_X6_restore_16 rfl ?_
  refine z_ald (t0 := 3) C D_X6_restore_17 I.is rfl (by omega) (by decide) (ifY_at (by omega)) ?_
  refine z_callV C D_X6_restore_18 lk_X6_249 (c_X5_isNoneY (I.iw q hq) (by omega)) (I.iw q hq).o rfl rfl (Nat.le_of_ble_eq_true rfl) (Nat.le_of_ble_eq_true rfl) ⟨Nat.zero_le _, Nat.zero_le _⟩ ?_
  refine y_top (bI_1 hz0) ?_
  refine z_ifeq1 C D_X6_restore_21 ?_
  refine y_ldc C D_X6_restore_24 lk_X6_134 ?_
  exact y_iret C E D_X6_restore_26 (rfl) (rfl)
theorem c_X6_restore (I : CI G (h) (i) (A) (B) (fin) (n) (lf) (b) (y) (sz) (old) (w) (c) (f) (ln) (rz) (it) (im)) {q : Nat} (hq : q < 2) (hV : Va (im q)) : Ct l G yX6_restore 2 [qr G 0, .int (nI q)] (h) (some (.int (nI 1))) ((yc G h 7 (im q)).set 10 (pcl G 0 0)) := by
  refine ctm_intro (maxL := 2) kw_X6_restore (by decide) (by decide) [some (qr G 0), some (.int (nI q))] rfl (Nat.le_of_ble_eq_true rfl) ?_
  intro X _ hcl hsl _ _ C E
  have hV0 := hV.1
  have hV3 := hV.2.2.2.1
  have hV5 := hV.k64
  refine y_iload_n C D_X6_restore_0 rfl ?_
  refine y_if_lt C D_X6_restore_1 (n_lt0 (by omega)) (fun q => q.elim) (fun _ => ?_)
  refine y_iload_n C D_X6_restore_4 rfl ?_
  refine y_iconst C D_X6_restore_5 ki_2 ?_
  refine y_icmp_lt C D_X6_restore_6 (n_lt (by omega) (by omega)) (fun c_6 => ?_) (fun c_6 => absurd hq c_6)
  refine y_aload_n C D_X6_restore_12 rfl ?_
  refine y_get C D_X6_restore_13 fl_X6_36 I.o rfl ?_
  refine y_iload_n C D_X6_restore_16 rfl ?_
  refine z_ald (t0 := 3) C D_X6_restore_17 I.is rfl (by omega) (by decide) (ifY_at (by omega)) ?_
  refine z_callV C D_X6_restore_18 lk_X6_249 (c_X5_isNoneY (I.iw q hq) (by omega)) (I.iw q hq).o rfl rfl (Nat.le_of_ble_eq_true rfl) (Nat.le_of_ble_eq_true rfl) ⟨Nat.zero_le _, Nat.zero_le _⟩ ?_
  refine y_top (bI_0 (by omega)) ?_
  refine z_ifeq0 C D_X6_restore_21 ?_
  refine y_aload_n C D_X6_restore_27 rfl ?_
  refine y_get C D_X6_restore_28 fl_X6_25 I.o rfl ?_
  refine y_aload_n C D_X6_restore_31 rfl ?_
  refine y_get C D_X6_restore_32 fl_X6_36 I.o rfl ?_
  refine y_iload_n C D_X6_restore_35 rfl ?_
  refine z_ald (t0 := 3) C D_X6_restore_36 I.is rfl (by omega) (by decide) (ifY_at (by omega)) ?_
  refine z_callVv C D_X6_restore_37 lk_X6_116 (c_X5_becomeY I.yd (I.iw q hq) (by omega) hV.sup hV.fev) I.yd.o rfl rfl (Nat.le_of_ble_eq_true rfl) (Nat.le_of_ble_eq_true rfl) ⟨Nat.zero_le _, Nat.zero_le _⟩ ?_
  have I1 := I.y7 (z := im q)
  refine y_aload_n C D_X6_restore_40 rfl ?_
  refine y_get C D_X6_restore_41 fl_X6_32 I1.o rfl ?_
  refine z_callVv C D_X6_restore_44 lk_X6_120 (c_X1_clear I1.p I1.pq) I1.p rfl rfl (Nat.le_of_ble_eq_true rfl) (Nat.le_of_ble_eq_true rfl) ⟨Nat.zero_le _, Nat.zero_le _⟩ ?_
  refine y_iconst C D_X6_restore_47 ki_1 ?_
  exact y_iret C E D_X6_restore_48 (rfl) (rfl)
theorem c_X6_undo0 (I : CI G (h) (i) (A) (B) (fin) (n) (lf) (b) (y) (sz) (old) (w) (c) (f) (ln) (rz) (it) (im)) (hz : sz = 0) : Ct l G yX6_undo 3 [qr G 0] (h) (some (.int (-1000002))) (h) := by
  refine ctm_intro (maxL := 1) kw_X6_undo (by decide) (by decide) [some (qr G 0)] rfl (Nat.le_of_ble_eq_true rfl) ?_
  intro X _ hcl hsl _ _ C E
  refine y_aload_n C D_X6_undo_0 rfl ?_
  refine y_get C D_X6_undo_1 fl_X6_32 I.o rfl ?_
  refine y_aload_n C D_X6_undo_4 rfl ?_
  refine y_get C D_X6_undo_5 fl_X6_25 I.o rfl ?_
  refine z_callV C D_X6_undo_8 lk_X6_129 (c_X1_giveBackS I.p I.pq hz) I.p rfl rfl (Nat.le_of_ble_eq_true rfl) (Nat.le_of_ble_eq_true rfl) ⟨Nat.zero_le _, Nat.zero_le _⟩ ?_
  refine z_ifeq0 C D_X6_undo_11 ?_
  refine y_ldc C D_X6_undo_24 lk_X6_134 ?_
  exact y_iret C E D_X6_undo_26 (rfl) (rfl)
theorem c_X6_undo (I : CI G (h) (i) (A) (B) (fin) (n) (lf) (b) (y) (sz) (old) (w) (c) (f) (ln) (rz) (it) (im)) (hb1 : ∀ i, i < 24 → ∀ k, k < 5 → w i (11 + k) ≤ 1) (hb2 : ∀ i, i < 24 → ∀ k, k < 5 → w i (16 + k) ≤ 1) (ho : old < 24) (h2 : 1 ≤ sz) (h3 : sz ≤ 24) : Ct l G yX6_undo 3 [qr G 0] (h) (some (.int (nI (sz - 1)))) (yc G (h.set 10 (pcl G (sz - 1) old)) 7 (w ((old + (sz - 1)) % 24))) := by
  refine ctm_intro (maxL := 1) kw_X6_undo (by decide) (by decide) [some (qr G 0)] rfl (Nat.le_of_ble_eq_true rfl) ?_
  intro X _ hcl hsl _ _ C E
  refine y_aload_n C D_X6_undo_0 rfl ?_
  refine y_get C D_X6_undo_1 fl_X6_32 I.o rfl ?_
  refine y_aload_n C D_X6_undo_4 rfl ?_
  refine y_get C D_X6_undo_5 fl_X6_25 I.o rfl ?_
  refine z_callV C D_X6_undo_8 lk_X6_129 (c_X1_giveBack I.p I.pq I.pw I.yd hb1 hb2 ho h2 h3) I.p rfl rfl (Nat.le_of_ble_eq_true rfl) (Nat.le_of_ble_eq_true rfl) ⟨Nat.zero_le _, Nat.zero_le _⟩ ?_
  have I1 := (I.p10 (z := sz - 1) (z1 := old)).y7 (z := w ((old + (sz - 1)) % 24))
  refine z_ifeq1 C D_X6_undo_11 ?_
  refine y_aload_n C D_X6_undo_14 rfl ?_
  refine y_get C D_X6_undo_15 fl_X6_32 I1.o rfl ?_
  refine y_get C D_X6_undo_18 fl_X6_133 I1.p rfl ?_
  refine y_goto C D_X6_undo_21 ?_
  exact y_iret C E D_X6_undo_26 (rfl) (rfl)
/-- the heap behind an act that was kept -/
def kpS (sz : Nat) : Nat := if sz < 24 then sz + 1 else 24
def kpO (sz old : Nat) : Nat := if sz < 24 then old else (old + 1) % 24
abbrev kp (G : qG) (h : List va_E) (y : Nat → Nat) (sz old : Nat) : List va_E := (yc G h (12 + 3 * ((old + sz) % 24)) y).set 10 (pcl G (kpS sz) (kpO sz old))
theorem c_X1_kp (I : CI G (h) (i) (A) (B) (fin) (n) (lf) (b) (y) (sz) (old) (w) (c) (f) (ln) (rz) (it) (im)) (hV : Va y) (ho : old < 24) (hs2 : sz ≤ 24) : Ct l G yX1_keep 2 [qr G 10, qr G 7] h none (kp G h y sz old) := by
  by_cases c : sz < 24
  · have w1 := c_X1_keep (l := l) I.p I.pq I.pw I.yd hV.sup hV.fev ho c
    unfold kp kpS kpO
    rw [if_pos c, if_pos c]
    exact w1
  · have w1 := c_X1_keepF (l := l) I.p I.pq I.pw I.yd hV.sup hV.fev ho (by omega)
    unfold kp kpS kpO
    rw [if_neg c, if_neg c, show (24 : Nat) = sz by omega]
    rw [show sz = 24 by omega] at w1 ⊢
    exact w1
theorem CI.kp (I : CI G (h) (i) (A) (B) (fin) (n) (lf) (b) (y) (sz) (old) (w) (c) (f) (ln) (rz) (it) (im)) : CI G (kp G h y sz old) (i) (A) (B) (fin) (n) (lf) (b) (y) (kpS sz) (kpO sz old) (va_up w ((old + sz) % 24) y) (c) (f) (ln) (rz) (it) (im) := (I.yp (q := (old + sz) % 24) (Nat.mod_lt _ (by decide)) (z := y)).p10
theorem Yat.psup {a v : Nat} {z : Nat → Nat} (q : Yat G h a z) (hv : v < 32) : h.set a (.inr (5, (yf G a z).set 6 (.int (nI v)))) = yc G h a (sS z 11 v) := by
  have w1 := yc_psuppers (G := G) (h := h) (a := a) (y := z) hv
  rw [q.eq] at w1
  exact w1
theorem Yat.pfev {a v : Nat} {z : Nat → Nat} (q : Yat G h a z) (hv : v < 32) : h.set a (.inr (5, (yf G a z).set 7 (.int (nI v)))) = yc G h a (sS z 16 v) := by
  have w1 := yc_pfevers (G := G) (h := h) (a := a) (y := z) hv
  rw [q.eq] at w1
  exact w1
theorem Yat.pkept {a v : Nat} {z : Nat → Nat} (q : Yat G h a z) : h.set a (.inr (5, (yf G a z).set 5 (.int (nI v)))) = yc G h a (va_up z 5 v) := by
  have w1 := yc_pkept (G := G) (h := h) (a := a) (y := z) v
  rw [q.eq] at w1
  exact w1
/-- one more in the set -/
theorem sS_up {z : Nat → Nat} {o s : Nat} (hb : ∀ k, k < 5 → z (o + k) ≤ 1) (hs1 : s < 5) (hz : z (o + s) = 0) (k : Nat) : sS z o (sb z o ||| 2 ^ s) k = va_up z (o + s) 1 k := by
  have e : sb (va_up z (o + s) 1) o = sb z o ||| 2 ^ s := by
    have h0 := hb 0 (by decide)
    have h1 := hb 1 (by decide)
    have h2 := hb 2 (by decide)
    have h3 := hb 3 (by decide)
    have h4 := hb 4 (by decide)
    have k0 : ∀ v, v < 32 → ∀ s, s < 5 → v / 2 ^ s % 2 = 0 → v ||| 2 ^ s = v + 2 ^ s := by decide +kernel
    rw [k0 (sb z o) (sb_lt hb) s hs1 ((sb_bit hb hs1).trans hz)]
    unfold sb va_up
    rcases (by omega : s = 0 ∨ s = 1 ∨ s = 2 ∨ s = 3 ∨ s = 4) with rfl | rfl | rfl | rfl | rfl
    · rw [if_pos (by omega), if_neg (by omega), if_neg (by omega), if_neg (by omega), if_neg (by omega)]
      rw [Nat.add_zero] at hz
      omega
    · rw [if_neg (by omega), if_pos (by omega), if_neg (by omega), if_neg (by omega), if_neg (by omega)]
      omega
    · rw [if_neg (by omega), if_neg (by omega), if_pos (by omega), if_neg (by omega), if_neg (by omega)]
      omega
    · rw [if_neg (by omega), if_neg (by omega), if_neg (by omega), if_pos (by omega), if_neg (by omega)]
      omega
    · rw [if_neg (by omega), if_neg (by omega), if_neg (by omega), if_neg (by omega), if_pos (by omega)]
      omega
  have hb' : ∀ k, k < 5 → va_up z (o + s) 1 (o + k) ≤ 1 := fun k hk => by
    unfold va_up
    split
    · decide
    · exact hb k hk
  by_cases c : o ≤ k ∧ k < o + 5
  · rw [sS_in c, ← e, sb_bit hb' (by omega), show o + (k - o) = k by omega]
  · rw [sS_out c, up_ne _ _ (by omega)]
theorem c_X6_supperB (I : CI G (h) (i) (A) (B) (fin) (n) (lf) (b) (y) (sz) (old) (w) (c) (f) (ln) (rz) (it) (im)) (h3 : y 3 ≤ 5) {x : Int32} (hx : ¬ isx x (y 3)) : Ct l G yX6_supper 3 [qr G 0, .int (x)] (h) (some (.int (-1000001))) (h) := by
  refine ctm_intro (maxL := 2) kw_X6_supper (by decide) (by decide) [some (qr G 0), some (.int (x))] rfl (Nat.le_of_ble_eq_true rfl) ?_
  intro X _ hcl hsl _ _ C E
  refine y_aload_n C D_X6_supper_0 rfl ?_
  refine y_iload_n C D_X6_supper_1 rfl ?_
  refine z_callV C D_X6_supper_2 lk_X6_150 (c_X6_isSleeper I (by omega)) I.o rfl rfl (Nat.le_of_ble_eq_true rfl) (Nat.le_of_ble_eq_true rfl) ⟨Nat.zero_le _, Nat.zero_le _⟩ ?_
  refine z_ifneB C D_X6_supper_5 (fun c_5 => absurd c_5 hx) (fun c_5 => ?_)
  refine y_ldc C D_X6_supper_8 lk_X6_59 ?_
  exact y_iret C E D_X6_supper_10 (rfl) (rfl)
theorem c_X6_supperS (I : CI G (h) (i) (A) (B) (fin) (n) (lf) (b) (y) (sz) (old) (w) (c) (f) (ln) (rz) (it) (im)) (hV : Va y) {s : Nat} (hs1 : s < y 3) (hz : y (11 + s) = 1) : Ct l G yX6_supper 3 [qr G 0, .int (nI s)] (h) (some (.int (-1000002))) (h) := by
  refine ctm_intro (maxL := 2) kw_X6_supper (by decide) (by decide) [some (qr G 0), some (.int (nI s))] rfl (Nat.le_of_ble_eq_true rfl) ?_
  intro X _ hcl hsl _ _ C E
  have hV0 := hV.1
  have hV3 := hV.2.2.2.1
  have hV5 := hV.k64
  have hb1 := sb_lt (o := 11) hV.sup
  have hbit := sb_hs (o := 11) hV.sup (by omega : s < 5)
  refine y_aload_n C D_X6_supper_0 rfl ?_
  refine y_iload_n C D_X6_supper_1 rfl ?_
  refine z_callV C D_X6_supper_2 lk_X6_150 (c_X6_isSleeper I (by omega)) I.o rfl rfl (Nat.le_of_ble_eq_true rfl) (Nat.le_of_ble_eq_true rfl) ⟨Nat.zero_le _, Nat.zero_le _⟩ ?_
  refine y_top (bI_1 (isx_n (by omega) hs1)) ?_
  refine z_ifne1 C D_X6_supper_5 ?_
  refine y_aload_n C D_X6_supper_11 rfl ?_
  refine y_get C D_X6_supper_12 fl_X6_25 I.o rfl ?_
  refine y_get C D_X6_supper_15 fl_X6_153 I.yd.o rfl ?_
  refine y_iload_n C D_X6_supper_18 rfl ?_
  refine z_callS C D_X6_supper_19 lk_X6_156 (c_X6_hasBit (by omega) (by omega)) rfl rfl (Nat.le_of_ble_eq_true rfl) (Nat.le_of_ble_eq_true rfl) ⟨Nat.zero_le _, Nat.zero_le _⟩ ?_
  refine y_top (bI_1 (hbit.mpr hz)) ?_
  refine z_ifeq1 C D_X6_supper_22 ?_
  refine y_ldc C D_X6_supper_25 lk_X6_134 ?_
  exact y_iret C E D_X6_supper_27 (rfl) (rfl)
theorem c_X6_supper (I : CI G (h) (i) (A) (B) (fin) (n) (lf) (b) (y) (sz) (old) (w) (c) (f) (ln) (rz) (it) (im)) (hV : Va y) (h4 : y 4 ≤ 999) (ho : old < 24) (hs2 : sz ≤ 24) {s : Nat} (hs1 : s < y 3) (hz : y (11 + s) = 0) : Ct l G yX6_supper 4 [qr G 0, .int (nI s)] (h) (some (.int (nI (ones (sb y 11 ||| 2 ^ s))))) (yc G (kp G h y sz old) 7 (sS y 11 (sb y 11 ||| 2 ^ s))) := by
  refine ctm_intro (maxL := 2) kw_X6_supper (by decide) (by decide) [some (qr G 0), some (.int (nI s))] rfl (Nat.le_of_ble_eq_true rfl) ?_
  intro X _ hcl hsl _ _ C E
  have hV0 := hV.1
  have hV3 := hV.2.2.2.1
  have hV5 := hV.k64
  have hb1 := sb_lt (o := 11) hV.sup
  have hbit := sb_hs (o := 11) hV.sup (by omega : s < 5)
  have hp5 : 2 ^ s < 32 := Nat.pow_lt_pow_right (by decide) (by omega : s < 5)
  have hv32 : sb y 11 ||| 2 ^ s < 32 := Nat.or_lt_two_pow (n := 5) hb1 hp5
  refine y_aload_n C D_X6_supper_0 rfl ?_
  refine y_iload_n C D_X6_supper_1 rfl ?_
  refine z_callV C D_X6_supper_2 lk_X6_150 (c_X6_isSleeper I (by omega)) I.o rfl rfl (Nat.le_of_ble_eq_true rfl) (Nat.le_of_ble_eq_true rfl) ⟨Nat.zero_le _, Nat.zero_le _⟩ ?_
  refine y_top (bI_1 (isx_n (by omega) hs1)) ?_
  refine z_ifne1 C D_X6_supper_5 ?_
  refine y_aload_n C D_X6_supper_11 rfl ?_
  refine y_get C D_X6_supper_12 fl_X6_25 I.o rfl ?_
  refine y_get C D_X6_supper_15 fl_X6_153 I.yd.o rfl ?_
  refine y_iload_n C D_X6_supper_18 rfl ?_
  refine z_callS C D_X6_supper_19 lk_X6_156 (c_X6_hasBit (by omega) (by omega)) rfl rfl (Nat.le_of_ble_eq_true rfl) (Nat.le_of_ble_eq_true rfl) ⟨Nat.zero_le _, Nat.zero_le _⟩ ?_
  refine y_top (bI_0 (fun z => by have := hbit.mp z; omega)) ?_
  refine z_ifeq0 C D_X6_supper_22 ?_
  refine y_aload_n C D_X6_supper_28 rfl ?_
  refine y_get C D_X6_supper_29 fl_X6_32 I.o rfl ?_
  refine y_aload_n C D_X6_supper_32 rfl ?_
  refine y_get C D_X6_supper_33 fl_X6_25 I.o rfl ?_
  refine z_callVv C D_X6_supper_36 lk_X6_141 (c_X1_kp I hV ho hs2) I.p rfl rfl (Nat.le_of_ble_eq_true rfl) (Nat.le_of_ble_eq_true rfl) ⟨Nat.zero_le _, Nat.zero_le _⟩ ?_
  have I1 := I.kp
  have hL1 := I1.L
  refine y_aload_n C D_X6_supper_39 rfl ?_
  refine y_get C D_X6_supper_40 fl_X6_25 I1.o rfl ?_
  refine y_dup C D_X6_supper_43 rfl ?_
  refine y_get C D_X6_supper_44 fl_X6_153 I1.yd.o rfl ?_
  refine y_iload_n C D_X6_supper_47 rfl ?_
  refine z_callS C D_X6_supper_48 lk_X6_159 (c_X6_bit (by omega)) rfl rfl (Nat.le_of_ble_eq_true rfl) (Nat.le_of_ble_eq_true rfl) ⟨Nat.zero_le _, Nat.zero_le _⟩ ?_
  refine z_ior C D_X6_supper_51 ?_
  refine y_put C D_X6_supper_52 fl_X6_153 I1.yd.o (Nat.le_of_ble_eq_true rfl) rfl rfl (I1.yd.psup hv32) ?_
  have I2 := I1.y7 (z := sS y 11 (sb y 11 ||| 2 ^ s))
  have hL2 := I2.L
  refine y_aload_n C D_X6_supper_55 rfl ?_
  refine y_get C D_X6_supper_56 fl_X6_25 I2.o rfl ?_
  refine y_get C D_X6_supper_59 fl_X6_153 (Yat.mk' (by omega)).o rfl ?_
  rw [sb_sS hv32]
  refine z_callS C D_X6_supper_62 lk_X6_162 (c_J6_bitCount hv32) rfl rfl (Nat.le_of_ble_eq_true rfl) (Nat.le_of_ble_eq_true rfl) ⟨Nat.zero_le _, Nat.zero_le _⟩ ?_
  exact y_iret C E D_X6_supper_65 (rfl) (rfl)
theorem c_X6_feverB (I : CI G (h) (i) (A) (B) (fin) (n) (lf) (b) (y) (sz) (old) (w) (c) (f) (ln) (rz) (it) (im)) (h3 : y 3 ≤ 5) {x : Int32} (hx : ¬ isx x (y 3)) : Ct l G yX6_fever 3 [qr G 0, .int (x)] (h) (some (.int (-1000001))) (h) := by
  refine ctm_intro (maxL := 2) kw_X6_fever (by decide) (by decide) [some (qr G 0), some (.int (x))] rfl (Nat.le_of_ble_eq_true rfl) ?_
  intro X _ hcl hsl _ _ C E
  refine y_aload_n C D_X6_fever_0 rfl ?_
  refine y_iload_n C D_X6_fever_1 rfl ?_
  refine z_callV C D_X6_fever_2 lk_X6_150 (c_X6_isSleeper I (by omega)) I.o rfl rfl (Nat.le_of_ble_eq_true rfl) (Nat.le_of_ble_eq_true rfl) ⟨Nat.zero_le _, Nat.zero_le _⟩ ?_
  refine z_ifneB C D_X6_fever_5 (fun c_5 => absurd c_5 hx) (fun c_5 => ?_)
  refine y_ldc C D_X6_fever_8 lk_X6_59 ?_
  exact y_iret C E D_X6_fever_10 (rfl) (rfl)
theorem c_X6_feverS (I : CI G (h) (i) (A) (B) (fin) (n) (lf) (b) (y) (sz) (old) (w) (c) (f) (ln) (rz) (it) (im)) (hV : Va y) {s : Nat} (hs1 : s < y 3) (hz : y (16 + s) = 1) : Ct l G yX6_fever 3 [qr G 0, .int (nI s)] (h) (some (.int (-1000002))) (h) := by
  refine ctm_intro (maxL := 2) kw_X6_fever (by decide) (by decide) [some (qr G 0), some (.int (nI s))] rfl (Nat.le_of_ble_eq_true rfl) ?_
  intro X _ hcl hsl _ _ C E
  have hV0 := hV.1
  have hV3 := hV.2.2.2.1
  have hV5 := hV.k64
  have hb1 := sb_lt (o := 16) hV.fev
  have hbit := sb_hs (o := 16) hV.fev (by omega : s < 5)
  refine y_aload_n C D_X6_fever_0 rfl ?_
  refine y_iload_n C D_X6_fever_1 rfl ?_
  refine z_callV C D_X6_fever_2 lk_X6_150 (c_X6_isSleeper I (by omega)) I.o rfl rfl (Nat.le_of_ble_eq_true rfl) (Nat.le_of_ble_eq_true rfl) ⟨Nat.zero_le _, Nat.zero_le _⟩ ?_
  refine y_top (bI_1 (isx_n (by omega) hs1)) ?_
  refine z_ifne1 C D_X6_fever_5 ?_
  refine y_aload_n C D_X6_fever_11 rfl ?_
  refine y_get C D_X6_fever_12 fl_X6_25 I.o rfl ?_
  refine y_get C D_X6_fever_15 fl_X6_167 I.yd.o rfl ?_
  refine y_iload_n C D_X6_fever_18 rfl ?_
  refine z_callS C D_X6_fever_19 lk_X6_156 (c_X6_hasBit (by omega) (by omega)) rfl rfl (Nat.le_of_ble_eq_true rfl) (Nat.le_of_ble_eq_true rfl) ⟨Nat.zero_le _, Nat.zero_le _⟩ ?_
  refine y_top (bI_1 (hbit.mpr hz)) ?_
  refine z_ifeq1 C D_X6_fever_22 ?_
  refine y_ldc C D_X6_fever_25 lk_X6_134 ?_
  exact y_iret C E D_X6_fever_27 (rfl) (rfl)
theorem c_X6_fever (I : CI G (h) (i) (A) (B) (fin) (n) (lf) (b) (y) (sz) (old) (w) (c) (f) (ln) (rz) (it) (im)) (hV : Va y) (h4 : y 4 ≤ 999) (ho : old < 24) (hs2 : sz ≤ 24) {s : Nat} (hs1 : s < y 3) (hz : y (16 + s) = 0) : Ct l G yX6_fever 4 [qr G 0, .int (nI s)] (h) (some (.int (nI (dr (sS y 16 (sb y 16 ||| 2 ^ s)) s)))) (yc G (kp G h y sz old) 7 (sS y 16 (sb y 16 ||| 2 ^ s))) := by
  refine ctm_intro (maxL := 2) kw_X6_fever (by decide) (by decide) [some (qr G 0), some (.int (nI s))] rfl (Nat.le_of_ble_eq_true rfl) ?_
  intro X _ hcl hsl _ _ C E
  have hV0 := hV.1
  have hV3 := hV.2.2.2.1
  have hV5 := hV.k64
  have hb1 := sb_lt (o := 16) hV.fev
  have hbit := sb_hs (o := 16) hV.fev (by omega : s < 5)
  have hp5 : 2 ^ s < 32 := Nat.pow_lt_pow_right (by decide) (by omega : s < 5)
  have hv32 : sb y 16 ||| 2 ^ s < 32 := Nat.or_lt_two_pow (n := 5) hb1 hp5
  have ez := sS_up (z := y) (o := 16) hV.fev (by omega : s < 5) hz
  have ef : sS y 16 (sb y 16 ||| 2 ^ s) = va_up y (16 + s) 1 := funext ez
  have hV2 : Va (sS y 16 (sb y 16 ||| 2 ^ s)) := by rw [ef]; exact hV.fev1 hs1
  have ey : sS y 16 (sb y 16 ||| 2 ^ s) 4 = y 4 := sS_out (by omega)
  refine y_aload_n C D_X6_fever_0 rfl ?_
  refine y_iload_n C D_X6_fever_1 rfl ?_
  refine z_callV C D_X6_fever_2 lk_X6_150 (c_X6_isSleeper I (by omega)) I.o rfl rfl (Nat.le_of_ble_eq_true rfl) (Nat.le_of_ble_eq_true rfl) ⟨Nat.zero_le _, Nat.zero_le _⟩ ?_
  refine y_top (bI_1 (isx_n (by omega) hs1)) ?_
  refine z_ifne1 C D_X6_fever_5 ?_
  refine y_aload_n C D_X6_fever_11 rfl ?_
  refine y_get C D_X6_fever_12 fl_X6_25 I.o rfl ?_
  refine y_get C D_X6_fever_15 fl_X6_167 I.yd.o rfl ?_
  refine y_iload_n C D_X6_fever_18 rfl ?_
  refine z_callS C D_X6_fever_19 lk_X6_156 (c_X6_hasBit (by omega) (by omega)) rfl rfl (Nat.le_of_ble_eq_true rfl) (Nat.le_of_ble_eq_true rfl) ⟨Nat.zero_le _, Nat.zero_le _⟩ ?_
  refine y_top (bI_0 (fun z => by have := hbit.mp z; omega)) ?_
  refine z_ifeq0 C D_X6_fever_22 ?_
  refine y_aload_n C D_X6_fever_28 rfl ?_
  refine y_get C D_X6_fever_29 fl_X6_32 I.o rfl ?_
  refine y_aload_n C D_X6_fever_32 rfl ?_
  refine y_get C D_X6_fever_33 fl_X6_25 I.o rfl ?_
  refine z_callVv C D_X6_fever_36 lk_X6_141 (c_X1_kp I hV ho hs2) I.p rfl rfl (Nat.le_of_ble_eq_true rfl) (Nat.le_of_ble_eq_true rfl) ⟨Nat.zero_le _, Nat.zero_le _⟩ ?_
  have I1 := I.kp
  have hL1 := I1.L
  refine y_aload_n C D_X6_fever_39 rfl ?_
  refine y_get C D_X6_fever_40 fl_X6_25 I1.o rfl ?_
  refine y_dup C D_X6_fever_43 rfl ?_
  refine y_get C D_X6_fever_44 fl_X6_167 I1.yd.o rfl ?_
  refine y_iload_n C D_X6_fever_47 rfl ?_
  refine z_callS C D_X6_fever_48 lk_X6_159 (c_X6_bit (by omega)) rfl rfl (Nat.le_of_ble_eq_true rfl) (Nat.le_of_ble_eq_true rfl) ⟨Nat.zero_le _, Nat.zero_le _⟩ ?_
  refine z_ior C D_X6_fever_51 ?_
  refine y_put C D_X6_fever_52 fl_X6_167 I1.yd.o (Nat.le_of_ble_eq_true rfl) rfl rfl (I1.yd.pfev hv32) ?_
  have I2 := I1.y7 (z := sS y 16 (sb y 16 ||| 2 ^ s))
  have hL2 := I2.L
  refine y_aload_n C D_X6_fever_55 rfl ?_
  refine y_get C D_X6_fever_56 fl_X6_25 I2.o rfl ?_
  refine y_iload_n C D_X6_fever_59 rfl ?_
  refine z_callV C D_X6_fever_60 lk_X6_170 (c_X5_dreamsOfY (Yat.mk' (by omega)) (by omega) hV2 (by rw [ey]; omega)) (Yat.mk' (by omega)).o rfl rfl (Nat.le_of_ble_eq_true rfl) (Nat.le_of_ble_eq_true rfl) ⟨Nat.zero_le _, Nat.zero_le _⟩ ?_
  exact y_iret C E D_X6_fever_63 (by rw [if_pos (by rw [show sS y 16 (sb y 16 ||| 2 ^ s) 3 = y 3 from sS_out (by omega)]; exact hs1)]) (rfl)
theorem c_X6_tellB (I : CI G (h) (i) (A) (B) (fin) (n) (lf) (b) (y) (sz) (old) (w) (c) (f) (ln) (rz) (it) (im)) (h3 : y 3 ≤ 5) (h0 : y 0 ≤ 6) {x w1 : Int32} (hx : ¬ isx x (y 3) ∨ ¬ isx w1 (y 0)) : Ct l G yX6_tell 3 [qr G 0, .int (x), .int (w1)] (h) (some (.int (-1000001))) (h) := by
  refine ctm_intro (maxL := 4) kw_X6_tell (by decide) (by decide) [some (qr G 0), some (.int (x)), some (.int (w1)), none] rfl (Nat.le_of_ble_eq_true rfl) ?_
  intro X _ hcl hsl _ _ C E
  refine y_aload_n C D_X6_tell_0 rfl ?_
  refine y_iload_n C D_X6_tell_1 rfl ?_
  refine z_callV C D_X6_tell_2 lk_X6_150 (c_X6_isSleeper I (by omega)) I.o rfl rfl (Nat.le_of_ble_eq_true rfl) (Nat.le_of_ble_eq_true rfl) ⟨Nat.zero_le _, Nat.zero_le _⟩ ?_
  refine z_ifeqB C D_X6_tell_5 (fun c_5 => ?_) (fun c_5 => ?_)
  · refine y_ldc C D_X6_tell_16 lk_X6_59 ?_
    exact y_iret C E D_X6_tell_18 (rfl) (rfl)
  · refine y_aload_n C D_X6_tell_8 rfl ?_
    refine y_iload_n C D_X6_tell_9 rfl ?_
    refine z_callV C D_X6_tell_10 lk_X6_173 (c_X6_isGrave I (by omega)) I.o rfl rfl (Nat.le_of_ble_eq_true rfl) (Nat.le_of_ble_eq_true rfl) ⟨Nat.zero_le _, Nat.zero_le _⟩ ?_
    refine z_ifneB C D_X6_tell_13 (fun c_13 => hx.elim (fun z => absurd c_5 z) (fun z => absurd c_13 z)) (fun c_13 => ?_)
    refine y_ldc C D_X6_tell_16 lk_X6_59 ?_
    exact y_iret C E D_X6_tell_18 (rfl) (rfl)
theorem c_X6_tellS (I : CI G (h) (i) (A) (B) (fin) (n) (lf) (b) (y) (sz) (old) (w) (c) (f) (ln) (rz) (it) (im)) (hV : Va y) {s g : Nat} (hs1 : s < y 3) (hg1 : g < y 0) (hz : ¬ hs (y 5) g) : Ct l G yX6_tell 3 [qr G 0, .int (nI s), .int (nI g)] (h) (some (.int (-1000002))) (h) := by
  refine ctm_intro (maxL := 4) kw_X6_tell (by decide) (by decide) [some (qr G 0), some (.int (nI s)), some (.int (nI g)), none] rfl (Nat.le_of_ble_eq_true rfl) ?_
  intro X _ hcl hsl _ _ C E
  have hV0 := hV.1
  have hV3 := hV.2.2.2.1
  have hV5 := hV.k64
  refine y_aload_n C D_X6_tell_0 rfl ?_
  refine y_iload_n C D_X6_tell_1 rfl ?_
  refine z_callV C D_X6_tell_2 lk_X6_150 (c_X6_isSleeper I (by omega)) I.o rfl rfl (Nat.le_of_ble_eq_true rfl) (Nat.le_of_ble_eq_true rfl) ⟨Nat.zero_le _, Nat.zero_le _⟩ ?_
  refine y_top (bI_1 (isx_n (by omega) hs1)) ?_
  refine z_ifeq1 C D_X6_tell_5 ?_
  refine y_aload_n C D_X6_tell_8 rfl ?_
  refine y_iload_n C D_X6_tell_9 rfl ?_
  refine z_callV C D_X6_tell_10 lk_X6_173 (c_X6_isGrave I (by omega)) I.o rfl rfl (Nat.le_of_ble_eq_true rfl) (Nat.le_of_ble_eq_true rfl) ⟨Nat.zero_le _, Nat.zero_le _⟩ ?_
  refine y_top (bI_1 (isx_n (by omega) hg1)) ?_
  refine z_ifne1 C D_X6_tell_13 ?_
  refine y_aload_n C D_X6_tell_19 rfl ?_
  refine y_get C D_X6_tell_20 fl_X6_25 I.o rfl ?_
  refine y_get C D_X6_tell_23 fl_X6_147 I.yd.o rfl ?_
  refine y_iload_n C D_X6_tell_26 rfl ?_
  refine z_callS C D_X6_tell_27 lk_X6_156 (c_X6_hasBit (by omega) (by omega)) rfl rfl (Nat.le_of_ble_eq_true rfl) (Nat.le_of_ble_eq_true rfl) ⟨Nat.zero_le _, Nat.zero_le _⟩ ?_
  refine y_top (bI_0 (hz)) ?_
  refine z_ifne0 C D_X6_tell_30 ?_
  refine y_ldc C D_X6_tell_33 lk_X6_134 ?_
  exact y_iret C E D_X6_tell_35 (rfl) (rfl)
theorem c_X6_tell (I : CI G (h) (i) (A) (B) (fin) (n) (lf) (b) (y) (sz) (old) (w) (c) (f) (ln) (rz) (it) (im)) (hV : Va y) (h4 : y 4 ≤ 999) (ho : old < 24) (hs2 : sz ≤ 24) {s g : Nat} (hs1 : s < y 3) (hg1 : g < y 0) (hz : hs (y 5) g) : Ct l G yX6_tell 4 [qr G 0, .int (nI s), .int (nI g)] (h) (some (.int (nI (me y s g)))) (yc G (kp G h y sz old) 7 (va_up y (21 + 6 * s + g) 27)) := by
  refine ctm_intro (maxL := 4) kw_X6_tell (by decide) (by decide) [some (qr G 0), some (.int (nI s)), some (.int (nI g)), none] rfl (Nat.le_of_ble_eq_true rfl) ?_
  intro X _ hcl hsl _ _ C E
  have hV0 := hV.1
  have hV3 := hV.2.2.2.1
  have hV5 := hV.k64
  refine y_aload_n C D_X6_tell_0 rfl ?_
  refine y_iload_n C D_X6_tell_1 rfl ?_
  refine z_callV C D_X6_tell_2 lk_X6_150 (c_X6_isSleeper I (by omega)) I.o rfl rfl (Nat.le_of_ble_eq_true rfl) (Nat.le_of_ble_eq_true rfl) ⟨Nat.zero_le _, Nat.zero_le _⟩ ?_
  refine y_top (bI_1 (isx_n (by omega) hs1)) ?_
  refine z_ifeq1 C D_X6_tell_5 ?_
  refine y_aload_n C D_X6_tell_8 rfl ?_
  refine y_iload_n C D_X6_tell_9 rfl ?_
  refine z_callV C D_X6_tell_10 lk_X6_173 (c_X6_isGrave I (by omega)) I.o rfl rfl (Nat.le_of_ble_eq_true rfl) (Nat.le_of_ble_eq_true rfl) ⟨Nat.zero_le _, Nat.zero_le _⟩ ?_
  refine y_top (bI_1 (isx_n (by omega) hg1)) ?_
  refine z_ifne1 C D_X6_tell_13 ?_
  refine y_aload_n C D_X6_tell_19 rfl ?_
  refine y_get C D_X6_tell_20 fl_X6_25 I.o rfl ?_
  refine y_get C D_X6_tell_23 fl_X6_147 I.yd.o rfl ?_
  refine y_iload_n C D_X6_tell_26 rfl ?_
  refine z_callS C D_X6_tell_27 lk_X6_156 (c_X6_hasBit (by omega) (by omega)) rfl rfl (Nat.le_of_ble_eq_true rfl) (Nat.le_of_ble_eq_true rfl) ⟨Nat.zero_le _, Nat.zero_le _⟩ ?_
  refine y_top (bI_1 (hz)) ?_
  refine z_ifne1 C D_X6_tell_30 ?_
  refine y_aload_n C D_X6_tell_36 rfl ?_
  refine y_get C D_X6_tell_37 fl_X6_32 I.o rfl ?_
  refine y_aload_n C D_X6_tell_40 rfl ?_
  refine y_get C D_X6_tell_41 fl_X6_25 I.o rfl ?_
  refine z_callVv C D_X6_tell_44 lk_X6_141 (c_X1_kp I hV ho hs2) I.p rfl rfl (Nat.le_of_ble_eq_true rfl) (Nat.le_of_ble_eq_true rfl) ⟨Nat.zero_le _, Nat.zero_le _⟩ ?_
  have I1 := I.kp
  have hL1 := I1.L
  refine y_aload_n C D_X6_tell_47 rfl ?_
  refine y_get C D_X6_tell_48 fl_X6_25 I1.o rfl ?_
  refine y_iload_n C D_X6_tell_51 rfl ?_
  refine y_iload_n C D_X6_tell_52 rfl ?_
  refine z_callV C D_X6_tell_53 lk_X6_176 (c_X5_memoryOfY I1.yd (by omega) (by omega)) I1.yd.o rfl rfl (Nat.le_of_ble_eq_true rfl) (Nat.le_of_ble_eq_true rfl) ⟨Nat.zero_le _, Nat.zero_le _⟩ ?_
  refine y_istore_n C D_X6_tell_56 (by decide) (qok_s rfl rfl) ?_
  refine y_aload_n C D_X6_tell_57 rfl ?_
  refine y_get C D_X6_tell_58 fl_X6_25 I1.o rfl ?_
  refine y_iload_n C D_X6_tell_61 rfl ?_
  refine y_iload_n C D_X6_tell_62 rfl ?_
  refine y_bipush C D_X6_tell_63 kb_27 ?_
  refine z_callVv C D_X6_tell_65 lk_X6_179 (c_X5_rememberY I1.yd (by omega) (by omega)) I1.yd.o rfl rfl (Nat.le_of_ble_eq_true rfl) (Nat.le_of_ble_eq_true rfl) ⟨Nat.zero_le _, Nat.zero_le _⟩ ?_
  refine y_iload_n C D_X6_tell_68 rfl ?_
  exact y_iret C E D_X6_tell_69 (rfl) (rfl)
theorem c_X6_buryB (I : CI G (h) (i) (A) (B) (fin) (n) (lf) (b) (y) (sz) (old) (w) (c) (f) (ln) (rz) (it) (im)) (h3 : y 3 ≤ 5) (h0 : y 0 ≤ 6) {x w1 : Int32} (hx : ¬ isx x (y 3) ∨ ¬ isx w1 (y 0)) : Ct l G yX6_bury 3 [qr G 0, .int (w1), .int (x)] (h) (some (.int (-1000001))) (h) := by
  refine ctm_intro (maxL := 3) kw_X6_bury (by decide) (by decide) [some (qr G 0), some (.int (w1)), some (.int (x))] rfl (Nat.le_of_ble_eq_true rfl) ?_
  intro X _ hcl hsl _ _ C E
  refine y_aload_n C D_X6_bury_0 rfl ?_
  refine y_iload_n C D_X6_bury_1 rfl ?_
  refine z_callV C D_X6_bury_2 lk_X6_150 (c_X6_isSleeper I (by omega)) I.o rfl rfl (Nat.le_of_ble_eq_true rfl) (Nat.le_of_ble_eq_true rfl) ⟨Nat.zero_le _, Nat.zero_le _⟩ ?_
  refine z_ifeqB C D_X6_bury_5 (fun c_5 => ?_) (fun c_5 => ?_)
  · refine y_ldc C D_X6_bury_16 lk_X6_59 ?_
    exact y_iret C E D_X6_bury_18 (rfl) (rfl)
  · refine y_aload_n C D_X6_bury_8 rfl ?_
    refine y_iload_n C D_X6_bury_9 rfl ?_
    refine z_callV C D_X6_bury_10 lk_X6_173 (c_X6_isGrave I (by omega)) I.o rfl rfl (Nat.le_of_ble_eq_true rfl) (Nat.le_of_ble_eq_true rfl) ⟨Nat.zero_le _, Nat.zero_le _⟩ ?_
    refine z_ifneB C D_X6_bury_13 (fun c_13 => hx.elim (fun z => absurd c_5 z) (fun z => absurd c_13 z)) (fun c_13 => ?_)
    refine y_ldc C D_X6_bury_16 lk_X6_59 ?_
    exact y_iret C E D_X6_bury_18 (rfl) (rfl)
theorem c_X6_buryS (I : CI G (h) (i) (A) (B) (fin) (n) (lf) (b) (y) (sz) (old) (w) (c) (f) (ln) (rz) (it) (im)) (hV : Va y) {s g : Nat} (hs1 : s < y 3) (hg1 : g < y 0) (hz : hs (y 5) g) : Ct l G yX6_bury 3 [qr G 0, .int (nI g), .int (nI s)] (h) (some (.int (-1000002))) (h) := by
  refine ctm_intro (maxL := 3) kw_X6_bury (by decide) (by decide) [some (qr G 0), some (.int (nI g)), some (.int (nI s))] rfl (Nat.le_of_ble_eq_true rfl) ?_
  intro X _ hcl hsl _ _ C E
  have hV0 := hV.1
  have hV3 := hV.2.2.2.1
  have hV5 := hV.k64
  refine y_aload_n C D_X6_bury_0 rfl ?_
  refine y_iload_n C D_X6_bury_1 rfl ?_
  refine z_callV C D_X6_bury_2 lk_X6_150 (c_X6_isSleeper I (by omega)) I.o rfl rfl (Nat.le_of_ble_eq_true rfl) (Nat.le_of_ble_eq_true rfl) ⟨Nat.zero_le _, Nat.zero_le _⟩ ?_
  refine y_top (bI_1 (isx_n (by omega) hs1)) ?_
  refine z_ifeq1 C D_X6_bury_5 ?_
  refine y_aload_n C D_X6_bury_8 rfl ?_
  refine y_iload_n C D_X6_bury_9 rfl ?_
  refine z_callV C D_X6_bury_10 lk_X6_173 (c_X6_isGrave I (by omega)) I.o rfl rfl (Nat.le_of_ble_eq_true rfl) (Nat.le_of_ble_eq_true rfl) ⟨Nat.zero_le _, Nat.zero_le _⟩ ?_
  refine y_top (bI_1 (isx_n (by omega) hg1)) ?_
  refine z_ifne1 C D_X6_bury_13 ?_
  refine y_aload_n C D_X6_bury_19 rfl ?_
  refine y_get C D_X6_bury_20 fl_X6_25 I.o rfl ?_
  refine y_get C D_X6_bury_23 fl_X6_147 I.yd.o rfl ?_
  refine y_iload_n C D_X6_bury_26 rfl ?_
  refine z_callS C D_X6_bury_27 lk_X6_156 (c_X6_hasBit (by omega) (by omega)) rfl rfl (Nat.le_of_ble_eq_true rfl) (Nat.le_of_ble_eq_true rfl) ⟨Nat.zero_le _, Nat.zero_le _⟩ ?_
  refine y_top (bI_1 (hz)) ?_
  refine z_ifeq1 C D_X6_bury_30 ?_
  refine y_ldc C D_X6_bury_33 lk_X6_134 ?_
  exact y_iret C E D_X6_bury_35 (rfl) (rfl)
theorem c_X6_bury (I : CI G (h) (i) (A) (B) (fin) (n) (lf) (b) (y) (sz) (old) (w) (c) (f) (ln) (rz) (it) (im)) (hV : Va y) (h4 : y 4 ≤ 999) (ho : old < 24) (hs2 : sz ≤ 24) {s g : Nat} (hs1 : s < y 3) (hg1 : g < y 0) (hz : ¬ hs (y 5) g) : Ct l G yX6_bury 4 [qr G 0, .int (nI g), .int (nI s)] (h) (some (.int (nI (y 5 ||| 2 ^ g)))) (yc G (kp G h y sz old) 7 (va_up (va_up y 5 (y 5 ||| 2 ^ g)) (21 + 6 * s + g) 27)) := by
  refine ctm_intro (maxL := 3) kw_X6_bury (by decide) (by decide) [some (qr G 0), some (.int (nI g)), some (.int (nI s))] rfl (Nat.le_of_ble_eq_true rfl) ?_
  intro X _ hcl hsl _ _ C E
  have hV0 := hV.1
  have hV3 := hV.2.2.2.1
  have hV5 := hV.k64
  refine y_aload_n C D_X6_bury_0 rfl ?_
  refine y_iload_n C D_X6_bury_1 rfl ?_
  refine z_callV C D_X6_bury_2 lk_X6_150 (c_X6_isSleeper I (by omega)) I.o rfl rfl (Nat.le_of_ble_eq_true rfl) (Nat.le_of_ble_eq_true rfl) ⟨Nat.zero_le _, Nat.zero_le _⟩ ?_
  refine y_top (bI_1 (isx_n (by omega) hs1)) ?_
  refine z_ifeq1 C D_X6_bury_5 ?_
  refine y_aload_n C D_X6_bury_8 rfl ?_
  refine y_iload_n C D_X6_bury_9 rfl ?_
  refine z_callV C D_X6_bury_10 lk_X6_173 (c_X6_isGrave I (by omega)) I.o rfl rfl (Nat.le_of_ble_eq_true rfl) (Nat.le_of_ble_eq_true rfl) ⟨Nat.zero_le _, Nat.zero_le _⟩ ?_
  refine y_top (bI_1 (isx_n (by omega) hg1)) ?_
  refine z_ifne1 C D_X6_bury_13 ?_
  refine y_aload_n C D_X6_bury_19 rfl ?_
  refine y_get C D_X6_bury_20 fl_X6_25 I.o rfl ?_
  refine y_get C D_X6_bury_23 fl_X6_147 I.yd.o rfl ?_
  refine y_iload_n C D_X6_bury_26 rfl ?_
  refine z_callS C D_X6_bury_27 lk_X6_156 (c_X6_hasBit (by omega) (by omega)) rfl rfl (Nat.le_of_ble_eq_true rfl) (Nat.le_of_ble_eq_true rfl) ⟨Nat.zero_le _, Nat.zero_le _⟩ ?_
  refine y_top (bI_0 (hz)) ?_
  refine z_ifeq0 C D_X6_bury_30 ?_
  refine y_aload_n C D_X6_bury_36 rfl ?_
  refine y_get C D_X6_bury_37 fl_X6_32 I.o rfl ?_
  refine y_aload_n C D_X6_bury_40 rfl ?_
  refine y_get C D_X6_bury_41 fl_X6_25 I.o rfl ?_
  refine z_callVv C D_X6_bury_44 lk_X6_141 (c_X1_kp I hV ho hs2) I.p rfl rfl (Nat.le_of_ble_eq_true rfl) (Nat.le_of_ble_eq_true rfl) ⟨Nat.zero_le _, Nat.zero_le _⟩ ?_
  have I1 := I.kp
  have hL1 := I1.L
  refine y_aload_n C D_X6_bury_47 rfl ?_
  refine y_get C D_X6_bury_48 fl_X6_25 I1.o rfl ?_
  refine y_dup C D_X6_bury_51 rfl ?_
  refine y_get C D_X6_bury_52 fl_X6_147 I1.yd.o rfl ?_
  refine y_iload_n C D_X6_bury_55 rfl ?_
  refine z_callS C D_X6_bury_56 lk_X6_159 (c_X6_bit (by omega)) rfl rfl (Nat.le_of_ble_eq_true rfl) (Nat.le_of_ble_eq_true rfl) ⟨Nat.zero_le _, Nat.zero_le _⟩ ?_
  refine z_ior C D_X6_bury_59 ?_
  refine y_put C D_X6_bury_60 fl_X6_147 I1.yd.o (Nat.le_of_ble_eq_true rfl) rfl rfl I1.yd.pkept ?_
  have I2 := I1.y7 (z := va_up y 5 (y 5 ||| 2 ^ g))
  have hL2 := I2.L
  refine y_aload_n C D_X6_bury_63 rfl ?_
  refine y_get C D_X6_bury_64 fl_X6_25 I2.o rfl ?_
  refine y_iload_n C D_X6_bury_67 rfl ?_
  refine y_iload_n C D_X6_bury_68 rfl ?_
  refine y_bipush C D_X6_bury_69 kb_27 ?_
  refine z_callVv C D_X6_bury_71 lk_X6_179 (c_X5_rememberY I2.yd (by omega) (by omega)) I2.yd.o rfl rfl (Nat.le_of_ble_eq_true rfl) (Nat.le_of_ble_eq_true rfl) ⟨Nat.zero_le _, Nat.zero_le _⟩ ?_
  have I3 := I2.y7 (z := va_up (va_up y 5 (y 5 ||| 2 ^ g)) (21 + 6 * s + g) 27)
  refine y_aload_n C D_X6_bury_74 rfl ?_
  refine y_get C D_X6_bury_75 fl_X6_25 I3.o rfl ?_
  refine y_get C D_X6_bury_78 fl_X6_147 I3.yd.o rfl ?_
  exact y_iret C E D_X6_bury_81 (by rw [up_ne _ _ (by omega), up_eq]) (by rw [yc_yc])
end
