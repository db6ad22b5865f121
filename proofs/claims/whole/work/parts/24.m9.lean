section
variable {l : Launch} {G : qG} {U : List va_E} {i : Nat → Nat} {A : Nat → Nat → Nat} {B : Nat → Nat → Int32} {h : List va_E}
theorem c_X7_whoB (hU : U.length = 122) (h3 : A 5 3 ≤ 5) {x1 x2 x3 x4 : Int32} (hx : ¬ isx x1 (A 5 3) ∨ ¬ isx x2 8 ∨ ¬ inr x4 1 12) : Ct l G yX7_who 6 [qr G 122, .int x1, .int x2, .int x3, .int x4] (hm G U i A B) (some (.int (-1000001))) (hm G U i A B) := by
  refine ctm_intro (maxL := 8) kw_X7_who (by decide) (by decide) [some (qr G 122), some (.int x1), some (.int x2), some (.int x3), some (.int x4), none, none, none] rfl (Nat.le_of_ble_eq_true rfl) ?_
  intro X _ hcl hsl _ _ C E
  refine y_aload_n C D_X7_who_0 rfl ?_
  refine y_iload_n C D_X7_who_1 rfl ?_
  refine z_callV C D_X7_who_2 lk_X7_171 (c_X7_isSleeper hU (by omega)) (hm_o hU) rfl rfl (Nat.le_of_ble_eq_true rfl) (Nat.le_of_ble_eq_true rfl) ⟨Nat.zero_le _, Nat.zero_le _⟩ ?_
  refine z_ifeqB C D_X7_who_5 (fun c_5 => ?_) (fun c_5 => ?_)
  · refine y_ldc C D_X7_who_28 lk_X7_67 ?_
    exact y_iret C E D_X7_who_30 (rfl) (rfl)
  · refine y_iload_n C D_X7_who_8 rfl ?_
    refine z_callS C D_X7_who_9 lk_X7_61 (c_X7_isRow) rfl rfl (Nat.le_of_ble_eq_true rfl) (Nat.le_of_ble_eq_true rfl) ⟨Nat.zero_le _, Nat.zero_le _⟩ ?_
    refine z_ifeqB C D_X7_who_12 (fun c_12 => ?_) (fun c_12 => ?_)
    · refine y_ldc C D_X7_who_28 lk_X7_67 ?_
      exact y_iret C E D_X7_who_30 (rfl) (rfl)
    · refine y_iload C D_X7_who_15 rfl ?_
      refine y_i2l C D_X7_who_17 ?_
      refine y_lconst C D_X7_who_18 rfl ?_
      refine y_ldc2 C D_X7_who_19 lk_X7_217 ?_
      refine z_callS C D_X7_who_22 lk_X7_57 (c_X7_in) rfl rfl (Nat.le_of_ble_eq_true rfl) (Nat.le_of_ble_eq_true rfl) ⟨Nat.zero_le _, Nat.zero_le _⟩ ?_
      refine y_top (bI_c (in_inr (y := 1) (z := 12) (a := 1) (b := 12) rfl rfl)) ?_
      refine z_ifneB C D_X7_who_25 (fun c_25 => hx.elim (fun z => absurd c_5 z) (fun z => z.elim (fun z => absurd c_12 z) (fun z => absurd c_25 z))) (fun c_25 => ?_)
      refine y_ldc C D_X7_who_28 lk_X7_67 ?_
      exact y_iret C E D_X7_who_30 (rfl) (rfl)
theorem c_X7_whoN (hU : U.length = 122) (h3 : A 5 3 ≤ 5) {s q n : Nat} {x : Int32} (hs1 : s < A 5 3) (hq : q < 8) (h1 : 1 ≤ n) (hn : n ≤ 12) (hz : B 1 q = -1) : Ct l G yX7_who 6 [qr G 122, .int (nI s), .int (nI q), .int x, .int (nI n)] (hm G U i A B) (some (.int (-1000010 - nI 1))) (hm G U (va_up i 3 1) A B) := by
  refine ctm_intro (maxL := 8) kw_X7_who (by decide) (by decide) [some (qr G 122), some (.int (nI s)), some (.int (nI q)), some (.int x), some (.int (nI n)), none, none, none] rfl (Nat.le_of_ble_eq_true rfl) ?_
  intro X _ hcl hsl _ _ C E
  refine y_aload_n C D_X7_who_0 rfl ?_
  refine y_iload_n C D_X7_who_1 rfl ?_
  refine z_callV C D_X7_who_2 lk_X7_171 (c_X7_isSleeper hU (by omega)) (hm_o hU) rfl rfl (Nat.le_of_ble_eq_true rfl) (Nat.le_of_ble_eq_true rfl) ⟨Nat.zero_le _, Nat.zero_le _⟩ ?_
  refine z_ifeqB C D_X7_who_5 (fun c_5 => absurd (isx_n (by omega) hs1) c_5) (fun c_5 => ?_)
  refine y_iload_n C D_X7_who_8 rfl ?_
  refine z_callS C D_X7_who_9 lk_X7_61 (c_X7_isRow) rfl rfl (Nat.le_of_ble_eq_true rfl) (Nat.le_of_ble_eq_true rfl) ⟨Nat.zero_le _, Nat.zero_le _⟩ ?_
  refine z_ifeqB C D_X7_who_12 (fun c_12 => absurd (isx_n (by decide) hq) c_12) (fun c_12 => ?_)
  refine y_iload C D_X7_who_15 rfl ?_
  refine y_i2l C D_X7_who_17 ?_
  refine y_lconst C D_X7_who_18 rfl ?_
  refine y_ldc2 C D_X7_who_19 lk_X7_217 ?_
  refine z_callS C D_X7_who_22 lk_X7_57 (c_X7_in) rfl rfl (Nat.le_of_ble_eq_true rfl) (Nat.le_of_ble_eq_true rfl) ⟨Nat.zero_le _, Nat.zero_le _⟩ ?_
  refine y_top (bI_c (in_inr (y := 1) (z := 12) (a := 1) (b := 12) rfl rfl)) ?_
  refine z_ifneB C D_X7_who_25 (fun c_25 => ?_) (fun c_25 => absurd (inr_n (by decide) h1 hn) c_25)
  refine y_aload_n C D_X7_who_31 rfl ?_
  refine y_iload_n C D_X7_who_32 rfl ?_
  refine y_iload_n C D_X7_who_33 rfl ?_
  refine y_iload C D_X7_who_34 rfl ?_
  refine z_callV C D_X7_who_36 lk_X7_219 (c_X7_lacksN hU hq hz) (hm_o hU) rfl rfl (Nat.le_of_ble_eq_true rfl) (Nat.le_of_ble_eq_true rfl) ⟨Nat.zero_le _, Nat.zero_le _⟩ ?_
  refine y_istore C D_X7_who_39 (by decide) (qok_s rfl rfl) ?_
  refine y_iload C D_X7_who_41 rfl ?_
  refine y_if_ge C D_X7_who_43 Iff.rfl (fun c_43 => absurd c_43 (by decide)) (fun c_43 => ?_)
  refine y_iload C D_X7_who_46 rfl ?_
  exact y_iret C E D_X7_who_48 (rfl) (rfl)
theorem c_X7_whoP (hU : U.length = 122) (h3 : A 5 3 ≤ 5) {s q n z : Nat} {x : Int32} (hs1 : s < A 5 3) (hq : q < 8) (h1 : 1 ≤ n) (hn : n ≤ 12) (hz : B 1 q = nI z) (hz40 : z ≤ 40) (hp : ¬ plc x n z) : Ct l G yX7_who 6 [qr G 122, .int (nI s), .int (nI q), .int x, .int (nI n)] (hm G U i A B) (some (.int (-1000010 - nI 2))) (hm G U (va_up i 3 2) A B) := by
  refine ctm_intro (maxL := 8) kw_X7_who (by decide) (by decide) [some (qr G 122), some (.int (nI s)), some (.int (nI q)), some (.int x), some (.int (nI n)), none, none, none] rfl (Nat.le_of_ble_eq_true rfl) ?_
  intro X _ hcl hsl _ _ C E
  refine y_aload_n C D_X7_who_0 rfl ?_
  refine y_iload_n C D_X7_who_1 rfl ?_
  refine z_callV C D_X7_who_2 lk_X7_171 (c_X7_isSleeper hU (by omega)) (hm_o hU) rfl rfl (Nat.le_of_ble_eq_true rfl) (Nat.le_of_ble_eq_true rfl) ⟨Nat.zero_le _, Nat.zero_le _⟩ ?_
  refine z_ifeqB C D_X7_who_5 (fun c_5 => absurd (isx_n (by omega) hs1) c_5) (fun c_5 => ?_)
  refine y_iload_n C D_X7_who_8 rfl ?_
  refine z_callS C D_X7_who_9 lk_X7_61 (c_X7_isRow) rfl rfl (Nat.le_of_ble_eq_true rfl) (Nat.le_of_ble_eq_true rfl) ⟨Nat.zero_le _, Nat.zero_le _⟩ ?_
  refine z_ifeqB C D_X7_who_12 (fun c_12 => absurd (isx_n (by decide) hq) c_12) (fun c_12 => ?_)
  refine y_iload C D_X7_who_15 rfl ?_
  refine y_i2l C D_X7_who_17 ?_
  refine y_lconst C D_X7_who_18 rfl ?_
  refine y_ldc2 C D_X7_who_19 lk_X7_217 ?_
  refine z_callS C D_X7_who_22 lk_X7_57 (c_X7_in) rfl rfl (Nat.le_of_ble_eq_true rfl) (Nat.le_of_ble_eq_true rfl) ⟨Nat.zero_le _, Nat.zero_le _⟩ ?_
  refine y_top (bI_c (in_inr (y := 1) (z := 12) (a := 1) (b := 12) rfl rfl)) ?_
  refine z_ifneB C D_X7_who_25 (fun c_25 => ?_) (fun c_25 => absurd (inr_n (by decide) h1 hn) c_25)
  refine y_aload_n C D_X7_who_31 rfl ?_
  refine y_iload_n C D_X7_who_32 rfl ?_
  refine y_iload_n C D_X7_who_33 rfl ?_
  refine y_iload C D_X7_who_34 rfl ?_
  refine z_callV C D_X7_who_36 lk_X7_219 (c_X7_lacksP hU hq (by omega) hz hz40 hp) (hm_o hU) rfl rfl (Nat.le_of_ble_eq_true rfl) (Nat.le_of_ble_eq_true rfl) ⟨Nat.zero_le _, Nat.zero_le _⟩ ?_
  refine y_istore C D_X7_who_39 (by decide) (qok_s rfl rfl) ?_
  refine y_iload C D_X7_who_41 rfl ?_
  refine y_if_ge C D_X7_who_43 Iff.rfl (fun c_43 => absurd c_43 (by decide)) (fun c_43 => ?_)
  refine y_iload C D_X7_who_46 rfl ?_
  exact y_iret C E D_X7_who_48 (rfl) (rfl)
theorem lp_X7_who {X : qX} {s q n o : Nat} {v5 : Int32} (hU : U.length = 122) (hV : Va (A 5)) (h4 : A 5 4 ≤ 999) (hs1 : s < A 5 3) (hq : q < 8) (hn : n ≤ 12) (ho : o + n ≤ 40) (C : qC X G cX7_who 8 RX7 6) (K : Y X G 8 0 0 110 [some (qr G 122), some (.int (nI (s))), some (.int (nI (q))), some (.int (nI (o))), some (.int (nI (n))), some (.int v5), some (.int (nI (whoN (B 2) (40 * q + o) (A 5) s n 5))), none] [] (hm G U i (asd A) B)) : ∀ (m k : Nat), k + m = 5 → Y X G 8 0 0 59 [some (qr G 122), some (.int (nI (s))), some (.int (nI (q))), some (.int (nI (o))), some (.int (nI (n))), some (.int v5), some (.int (nI (whoN (B 2) (40 * q + o) (A 5) s n k))), some (.int (nI (k + 1)))] [] (hm G U i (asd A) B) := by
  have v3 := hV.2.2.2.1
  intro m
  induction m with
  | zero =>
    intro k hk
    obtain rfl : k = 5 := by omega
    refine y_iload C D_X7_who_59 rfl ?_
    refine y_iconst C D_X7_who_61 ki_5 ?_
    refine y_icmp_gt C D_X7_who_62 (n_lt (by omega) (by omega)) (fun c_62 => ?_) (fun c_62 => absurd (by decide) c_62)
    refine y_fg 7 ?_
    exact K
  | succ m ih =>
    intro k hk
    have hVk := hV.kindd hs1 (show 1 ≤ k + 1 by omega) (show k + 1 ≤ 5 by omega)
    have f5 : va_up (asd A) 5 (va_up (A 5) (6 + s) (k + 1)) 5 = va_up (A 5) (6 + s) (k + 1) := up_eq _ _ _
    have f4 : va_up (A 5) (6 + s) (k + 1) 4 = A 5 4 := up_ne _ _ (by omega)
    refine y_iload C D_X7_who_59 rfl ?_
    refine y_iconst C D_X7_who_61 ki_5 ?_
    refine y_icmp_gt C D_X7_who_62 (n_lt (by omega) (by omega)) (fun c_62 => absurd c_62 (by omega)) (fun c_62 => ?_)
    refine y_aload_n C D_X7_who_65 rfl ?_
    refine y_get C D_X7_who_66 fl_X7_19 (hm_o hU) rfl ?_
    refine y_bipush C D_X7_who_69 kb_6 ?_
    refine y_iload_n C D_X7_who_71 rfl ?_
    refine z_iadd C D_X7_who_72 ?_
    refine y_iload C D_X7_who_73 rfl ?_
    refine z_ist C D_X7_who_75 (hm_st hU) (by omega) (by decide) (hm_wst hU _ _) ?_
    rw [asd_5]
    refine y_iload C D_X7_who_76 rfl ?_
    refine y_aload_n C D_X7_who_78 rfl ?_
    refine y_bipush C D_X7_who_79 kb_40 ?_
    refine y_iload_n C D_X7_who_81 rfl ?_
    refine z_imul C D_X7_who_82 ?_
    refine y_iload_n C D_X7_who_83 rfl ?_
    refine z_iadd C D_X7_who_84 ?_
    refine y_iload C D_X7_who_85 rfl ?_
    refine z_callV C D_X7_who_87 lk_X7_223 (c_X7_isSo hU (by rw [f5]; exact hVk) (by rw [f5, f4]; omega) (by omega)) (hm_o hU) rfl rfl (Nat.le_of_ble_eq_true rfl) (Nat.le_of_ble_eq_true rfl) ⟨Nat.zero_le _, Nat.zero_le _⟩ ?_
    rw [f5, asd_back2 rfl hV.far (hVk.yrs n).far]
    refine z_ifeqB C D_X7_who_90 (fun c_90 => ?_) (fun c_90 => ?_)
    · refine y_iconst C D_X7_who_100 ki_0 ?_
      refine z_ior C D_X7_who_101 ?_
      refine y_istore C D_X7_who_102 (by decide) (qok_s rfl rfl) ?_
      refine z_iinc (n := 1) C D_X7_who_104 rfl (by decide) (qok_s rfl rfl) ?_
      refine y_goto C D_X7_who_107 ?_
      have e : whoN (B 2) (40 * q + o) (A 5) s n (k + 1) = whoN (B 2) (40 * q + o) (A 5) s n k ||| 0 := by rw [whoN, if_neg c_90]
      have z := ih (k + 1) (by omega)
      rw [e] at z
      exact z
    · refine y_iconst C D_X7_who_93 ki_1 ?_
      refine y_iload C D_X7_who_94 rfl ?_
      refine z_ishl1 C D_X7_who_96 (by omega) ?_
      refine y_goto C D_X7_who_97 ?_
      refine z_ior C D_X7_who_101 ?_
      refine y_istore C D_X7_who_102 (by decide) (qok_s rfl rfl) ?_
      refine z_iinc (n := 1) C D_X7_who_104 rfl (by decide) (qok_s rfl rfl) ?_
      refine y_goto C D_X7_who_107 ?_
      have e : whoN (B 2) (40 * q + o) (A 5) s n (k + 1) = whoN (B 2) (40 * q + o) (A 5) s n k ||| 2 ^ (k + 1) := by rw [whoN, if_pos c_90]
      have z := ih (k + 1) (by omega)
      rw [e] at z
      exact z
theorem c_X7_who (hU : U.length = 122) {s q n z o : Nat} (hs1 : s < A 5 3) (hq : q < 8) (h1 : 1 ≤ n) (hn : n ≤ 12) (hz : B 1 q = nI z) (hz40 : z ≤ 40) (ho : o + n ≤ z) (hV : Va (A 5)) (h4 : A 5 4 ≤ 999) : Ct l G yX7_who 6 [qr G 122, .int (nI s), .int (nI q), .int (nI o), .int (nI n)] (hm G U i A B) (some (.int (nI (whoN (B 2) (40 * q + o) (A 5) s n 5)))) (hm G U (va_up i 3 0) (asd A) B) := by
  refine ctm_intro (maxL := 8) kw_X7_who (by decide) (by decide) [some (qr G 122), some (.int (nI s)), some (.int (nI q)), some (.int (nI o)), some (.int (nI n)), none, none, none] rfl (Nat.le_of_ble_eq_true rfl) ?_
  intro X _ hcl hsl _ _ C E
  have v3 := hV.2.2.2.1
  refine y_aload_n C D_X7_who_0 rfl ?_
  refine y_iload_n C D_X7_who_1 rfl ?_
  refine z_callV C D_X7_who_2 lk_X7_171 (c_X7_isSleeper hU (by omega)) (hm_o hU) rfl rfl (Nat.le_of_ble_eq_true rfl) (Nat.le_of_ble_eq_true rfl) ⟨Nat.zero_le _, Nat.zero_le _⟩ ?_
  refine z_ifeqB C D_X7_who_5 (fun c_5 => absurd (isx_n (by omega) hs1) c_5) (fun c_5 => ?_)
  refine y_iload_n C D_X7_who_8 rfl ?_
  refine z_callS C D_X7_who_9 lk_X7_61 (c_X7_isRow) rfl rfl (Nat.le_of_ble_eq_true rfl) (Nat.le_of_ble_eq_true rfl) ⟨Nat.zero_le _, Nat.zero_le _⟩ ?_
  refine z_ifeqB C D_X7_who_12 (fun c_12 => absurd (isx_n (by decide) hq) c_12) (fun c_12 => ?_)
  refine y_iload C D_X7_who_15 rfl ?_
  refine y_i2l C D_X7_who_17 ?_
  refine y_lconst C D_X7_who_18 rfl ?_
  refine y_ldc2 C D_X7_who_19 lk_X7_217 ?_
  refine z_callS C D_X7_who_22 lk_X7_57 (c_X7_in) rfl rfl (Nat.le_of_ble_eq_true rfl) (Nat.le_of_ble_eq_true rfl) ⟨Nat.zero_le _, Nat.zero_le _⟩ ?_
  refine y_top (bI_c (in_inr (y := 1) (z := 12) (a := 1) (b := 12) rfl rfl)) ?_
  refine z_ifneB C D_X7_who_25 (fun c_25 => ?_) (fun c_25 => absurd (inr_n (by decide) h1 hn) c_25)
  refine y_aload_n C D_X7_who_31 rfl ?_
  refine y_iload_n C D_X7_who_32 rfl ?_
  refine y_iload_n C D_X7_who_33 rfl ?_
  refine y_iload C D_X7_who_34 rfl ?_
  refine z_callV C D_X7_who_36 lk_X7_219 (c_X7_lacks hU hq (by omega) hz hz40 ⟨by omega, isx_n (by omega) (by omega)⟩) (hm_o hU) rfl rfl (Nat.le_of_ble_eq_true rfl) (Nat.le_of_ble_eq_true rfl) ⟨Nat.zero_le _, Nat.zero_le _⟩ ?_
  refine y_istore C D_X7_who_39 (by decide) (qok_s rfl rfl) ?_
  refine y_iload C D_X7_who_41 rfl ?_
  refine y_if_ge C D_X7_who_43 (n_ge0 (by omega)) (fun _ => ?_) (fun q => absurd trivial q)
  refine y_aload_n C D_X7_who_49 rfl ?_
  refine z_callVv C D_X7_who_50 lk_X7_188 (c_X7_putAside hU) (hm_o hU) rfl rfl (Nat.le_of_ble_eq_true rfl) (Nat.le_of_ble_eq_true rfl) ⟨Nat.zero_le _, Nat.zero_le _⟩ ?_
  refine y_iconst C D_X7_who_53 ki_0 ?_
  refine y_istore C D_X7_who_54 (by decide) (qok_s rfl rfl) ?_
  refine y_iconst C D_X7_who_56 ki_1 ?_
  refine y_istore C D_X7_who_57 (by decide) (qok_s rfl rfl) ?_
  refine lp_X7_who hU hV h4 hs1 hq hn (by omega) C ?_ 5 0 (by omega)
  refine y_aload_n C D_X7_who_110 rfl ?_
  refine y_iload C D_X7_who_111 rfl ?_
  refine z_callV C D_X7_who_113 lk_X7_72 (c_X7_well hU) (hm_o hU) rfl rfl (Nat.le_of_ble_eq_true rfl) (Nat.le_of_ble_eq_true rfl) ⟨Nat.zero_le _, Nat.zero_le _⟩ ?_
  exact y_iret C E D_X7_who_116 (rfl) (rfl)
theorem c_X7_whisperedS (hU : U.length = 122) {x0 x1 x2 x3 : Int32} (ht : i 4 = 0) : Ct l G yX7_whispered 6 [qr G 122, .int x0, .int x1, .int x2, .int x3] (hm G U i A B) (some (.int (-1000002))) (hm G U i A B) := by
  refine ctm_intro (maxL := 8) kw_X7_whispered (by decide) (by decide) [some (qr G 122), some (.int x0), some (.int x1), some (.int x2), some (.int x3), none, none, none] rfl (Nat.le_of_ble_eq_true rfl) ?_
  intro X _ hcl hsl _ _ C E
  refine y_aload_n C D_X7_whispered_0 rfl ?_
  refine y_get C D_X7_whispered_1 fl_X7_135 (hm_o hU) rfl ?_
  refine y_if_ne C D_X7_whispered_4 (n_eq0 (by omega)) (fun c_4 => absurd ht c_4) (fun c_4 => ?_)
  refine y_ldc C D_X7_whispered_7 lk_X7_162 ?_
  exact y_iret C E D_X7_whispered_9 (rfl) (rfl)
theorem c_X7_whisperedB (hU : U.length = 122) (h0 : A 5 0 ≤ 6) {x1 x2 x3 x4 : Int32} (ht : i 4 = 1) (hx : ¬ isx x1 (A 5 0) ∨ ¬ isx x2 8 ∨ ¬ inr x4 1 6) : Ct l G yX7_whispered 6 [qr G 122, .int x1, .int x2, .int x3, .int x4] (hm G U i A B) (some (.int (-1000001))) (hm G U i A B) := by
  refine ctm_intro (maxL := 8) kw_X7_whispered (by decide) (by decide) [some (qr G 122), some (.int x1), some (.int x2), some (.int x3), some (.int x4), none, none, none] rfl (Nat.le_of_ble_eq_true rfl) ?_
  intro X _ hcl hsl _ _ C E
  refine y_aload_n C D_X7_whispered_0 rfl ?_
  refine y_get C D_X7_whispered_1 fl_X7_135 (hm_o hU) rfl ?_
  refine y_if_ne C D_X7_whispered_4 (n_eq0 (by omega)) (fun c_4 => ?_) (fun c_4 => absurd c_4 (by omega))
  refine y_aload_n C D_X7_whispered_10 rfl ?_
  refine y_iload_n C D_X7_whispered_11 rfl ?_
  refine z_callV C D_X7_whispered_12 lk_X7_180 (c_X7_isGrave hU (by omega)) (hm_o hU) rfl rfl (Nat.le_of_ble_eq_true rfl) (Nat.le_of_ble_eq_true rfl) ⟨Nat.zero_le _, Nat.zero_le _⟩ ?_
  refine z_ifeqB C D_X7_whispered_15 (fun c_15 => ?_) (fun c_15 => ?_)
  · refine y_ldc C D_X7_whispered_38 lk_X7_67 ?_
    exact y_iret C E D_X7_whispered_40 (rfl) (rfl)
  · refine y_iload_n C D_X7_whispered_18 rfl ?_
    refine z_callS C D_X7_whispered_19 lk_X7_61 (c_X7_isRow) rfl rfl (Nat.le_of_ble_eq_true rfl) (Nat.le_of_ble_eq_true rfl) ⟨Nat.zero_le _, Nat.zero_le _⟩ ?_
    refine z_ifeqB C D_X7_whispered_22 (fun c_22 => ?_) (fun c_22 => ?_)
    · refine y_ldc C D_X7_whispered_38 lk_X7_67 ?_
      exact y_iret C E D_X7_whispered_40 (rfl) (rfl)
    · refine y_iload C D_X7_whispered_25 rfl ?_
      refine y_i2l C D_X7_whispered_27 ?_
      refine y_lconst C D_X7_whispered_28 rfl ?_
      refine y_ldc2 C D_X7_whispered_29 lk_X7_226 ?_
      refine z_callS C D_X7_whispered_32 lk_X7_57 (c_X7_in) rfl rfl (Nat.le_of_ble_eq_true rfl) (Nat.le_of_ble_eq_true rfl) ⟨Nat.zero_le _, Nat.zero_le _⟩ ?_
      refine y_top (bI_c (in_inr (y := 1) (z := 6) (a := 1) (b := 6) rfl rfl)) ?_
      refine z_ifneB C D_X7_whispered_35 (fun c_35 => hx.elim (fun z => absurd c_15 z) (fun z => z.elim (fun z => absurd c_22 z) (fun z => absurd c_35 z))) (fun c_35 => ?_)
      refine y_ldc C D_X7_whispered_38 lk_X7_67 ?_
      exact y_iret C E D_X7_whispered_40 (rfl) (rfl)
theorem c_X7_whisperedN (hU : U.length = 122) (h0 : A 5 0 ≤ 6) {s q n : Nat} {x : Int32} (ht : i 4 = 1) (hs1 : s < A 5 0) (hq : q < 8) (h1 : 1 ≤ n) (hn : n ≤ 6) (hz : B 1 q = -1) : Ct l G yX7_whispered 6 [qr G 122, .int (nI s), .int (nI q), .int x, .int (nI n)] (hm G U i A B) (some (.int (-1000010 - nI 1))) (hm G U (va_up i 3 1) A B) := by
  refine ctm_intro (maxL := 8) kw_X7_whispered (by decide) (by decide) [some (qr G 122), some (.int (nI s)), some (.int (nI q)), some (.int x), some (.int (nI n)), none, none, none] rfl (Nat.le_of_ble_eq_true rfl) ?_
  intro X _ hcl hsl _ _ C E
  refine y_aload_n C D_X7_whispered_0 rfl ?_
  refine y_get C D_X7_whispered_1 fl_X7_135 (hm_o hU) rfl ?_
  refine y_if_ne C D_X7_whispered_4 (n_eq0 (by omega)) (fun c_4 => ?_) (fun c_4 => absurd c_4 (by omega))
  refine y_aload_n C D_X7_whispered_10 rfl ?_
  refine y_iload_n C D_X7_whispered_11 rfl ?_
  refine z_callV C D_X7_whispered_12 lk_X7_180 (c_X7_isGrave hU (by omega)) (hm_o hU) rfl rfl (Nat.le_of_ble_eq_true rfl) (Nat.le_of_ble_eq_true rfl) ⟨Nat.zero_le _, Nat.zero_le _⟩ ?_
  refine z_ifeqB C D_X7_whispered_15 (fun c_15 => absurd (isx_n (by omega) hs1) c_15) (fun c_15 => ?_)
  refine y_iload_n C D_X7_whispered_18 rfl ?_
  refine z_callS C D_X7_whispered_19 lk_X7_61 (c_X7_isRow) rfl rfl (Nat.le_of_ble_eq_true rfl) (Nat.le_of_ble_eq_true rfl) ⟨Nat.zero_le _, Nat.zero_le _⟩ ?_
  refine z_ifeqB C D_X7_whispered_22 (fun c_22 => absurd (isx_n (by decide) hq) c_22) (fun c_22 => ?_)
  refine y_iload C D_X7_whispered_25 rfl ?_
  refine y_i2l C D_X7_whispered_27 ?_
  refine y_lconst C D_X7_whispered_28 rfl ?_
  refine y_ldc2 C D_X7_whispered_29 lk_X7_226 ?_
  refine z_callS C D_X7_whispered_32 lk_X7_57 (c_X7_in) rfl rfl (Nat.le_of_ble_eq_true rfl) (Nat.le_of_ble_eq_true rfl) ⟨Nat.zero_le _, Nat.zero_le _⟩ ?_
  refine y_top (bI_c (in_inr (y := 1) (z := 6) (a := 1) (b := 6) rfl rfl)) ?_
  refine z_ifneB C D_X7_whispered_35 (fun c_35 => ?_) (fun c_35 => absurd (inr_n (by decide) h1 hn) c_35)
  refine y_aload_n C D_X7_whispered_41 rfl ?_
  refine y_iload_n C D_X7_whispered_42 rfl ?_
  refine y_iload_n C D_X7_whispered_43 rfl ?_
  refine y_iload C D_X7_whispered_44 rfl ?_
  refine z_callV C D_X7_whispered_46 lk_X7_219 (c_X7_lacksN hU hq hz) (hm_o hU) rfl rfl (Nat.le_of_ble_eq_true rfl) (Nat.le_of_ble_eq_true rfl) ⟨Nat.zero_le _, Nat.zero_le _⟩ ?_
  refine y_istore C D_X7_whispered_49 (by decide) (qok_s rfl rfl) ?_
  refine y_iload C D_X7_whispered_51 rfl ?_
  refine y_if_ge C D_X7_whispered_53 Iff.rfl (fun c_53 => absurd c_53 (by decide)) (fun c_53 => ?_)
  refine y_iload C D_X7_whispered_56 rfl ?_
  exact y_iret C E D_X7_whispered_58 (rfl) (rfl)
theorem c_X7_whisperedP (hU : U.length = 122) (h0 : A 5 0 ≤ 6) {s q n z : Nat} {x : Int32} (ht : i 4 = 1) (hs1 : s < A 5 0) (hq : q < 8) (h1 : 1 ≤ n) (hn : n ≤ 6) (hz : B 1 q = nI z) (hz40 : z ≤ 40) (hp : ¬ plc x n z) : Ct l G yX7_whispered 6 [qr G 122, .int (nI s), .int (nI q), .int x, .int (nI n)] (hm G U i A B) (some (.int (-1000010 - nI 2))) (hm G U (va_up i 3 2) A B) := by
  refine ctm_intro (maxL := 8) kw_X7_whispered (by decide) (by decide) [some (qr G 122), some (.int (nI s)), some (.int (nI q)), some (.int x), some (.int (nI n)), none, none, none] rfl (Nat.le_of_ble_eq_true rfl) ?_
  intro X _ hcl hsl _ _ C E
  refine y_aload_n C D_X7_whispered_0 rfl ?_
  refine y_get C D_X7_whispered_1 fl_X7_135 (hm_o hU) rfl ?_
  refine y_if_ne C D_X7_whispered_4 (n_eq0 (by omega)) (fun c_4 => ?_) (fun c_4 => absurd c_4 (by omega))
  refine y_aload_n C D_X7_whispered_10 rfl ?_
  refine y_iload_n C D_X7_whispered_11 rfl ?_
  refine z_callV C D_X7_whispered_12 lk_X7_180 (c_X7_isGrave hU (by omega)) (hm_o hU) rfl rfl (Nat.le_of_ble_eq_true rfl) (Nat.le_of_ble_eq_true rfl) ⟨Nat.zero_le _, Nat.zero_le _⟩ ?_
  refine z_ifeqB C D_X7_whispered_15 (fun c_15 => absurd (isx_n (by omega) hs1) c_15) (fun c_15 => ?_)
  refine y_iload_n C D_X7_whispered_18 rfl ?_
  refine z_callS C D_X7_whispered_19 lk_X7_61 (c_X7_isRow) rfl rfl (Nat.le_of_ble_eq_true rfl) (Nat.le_of_ble_eq_true rfl) ⟨Nat.zero_le _, Nat.zero_le _⟩ ?_
  refine z_ifeqB C D_X7_whispered_22 (fun c_22 => absurd (isx_n (by decide) hq) c_22) (fun c_22 => ?_)
  refine y_iload C D_X7_whispered_25 rfl ?_
  refine y_i2l C D_X7_whispered_27 ?_
  refine y_lconst C D_X7_whispered_28 rfl ?_
  refine y_ldc2 C D_X7_whispered_29 lk_X7_226 ?_
  refine z_callS C D_X7_whispered_32 lk_X7_57 (c_X7_in) rfl rfl (Nat.le_of_ble_eq_true rfl) (Nat.le_of_ble_eq_true rfl) ⟨Nat.zero_le _, Nat.zero_le _⟩ ?_
  refine y_top (bI_c (in_inr (y := 1) (z := 6) (a := 1) (b := 6) rfl rfl)) ?_
  refine z_ifneB C D_X7_whispered_35 (fun c_35 => ?_) (fun c_35 => absurd (inr_n (by decide) h1 hn) c_35)
  refine y_aload_n C D_X7_whispered_41 rfl ?_
  refine y_iload_n C D_X7_whispered_42 rfl ?_
  refine y_iload_n C D_X7_whispered_43 rfl ?_
  refine y_iload C D_X7_whispered_44 rfl ?_
  refine z_callV C D_X7_whispered_46 lk_X7_219 (c_X7_lacksP hU hq (by omega) hz hz40 hp) (hm_o hU) rfl rfl (Nat.le_of_ble_eq_true rfl) (Nat.le_of_ble_eq_true rfl) ⟨Nat.zero_le _, Nat.zero_le _⟩ ?_
  refine y_istore C D_X7_whispered_49 (by decide) (qok_s rfl rfl) ?_
  refine y_iload C D_X7_whispered_51 rfl ?_
  refine y_if_ge C D_X7_whispered_53 Iff.rfl (fun c_53 => absurd c_53 (by decide)) (fun c_53 => ?_)
  refine y_iload C D_X7_whispered_56 rfl ?_
  exact y_iret C E D_X7_whispered_58 (rfl) (rfl)
theorem lp_X7_whispered {X : qX} {g q n o : Nat} {v5 : Int32} (hU : U.length = 122) (hV : Va (A 5)) (h4 : A 5 4 ≤ 999) (hg1 : g < A 5 0) (hq : q < 8) (hn : n ≤ 12) (ho : o + n ≤ 40) (C : qC X G cX7_whispered 8 RX7 6) (K : Y X G 8 0 0 131 [some (qr G 122), some (.int (nI (g))), some (.int (nI (q))), some (.int (nI (o))), some (.int (nI (n))), some (.int v5), some (.int (nI (whiN (B 2) (40 * q + o) (A 5) g n (A 5 3)))), none] [] (hm G U i (asd A) B)) : ∀ (m k : Nat), k + m = A 5 3 → Y X G 8 0 0 69 [some (qr G 122), some (.int (nI (g))), some (.int (nI (q))), some (.int (nI (o))), some (.int (nI (n))), some (.int v5), some (.int (nI (whiN (B 2) (40 * q + o) (A 5) g n k))), some (.int (nI (k)))] [] (hm G U i (asd A) B) := by
  have v3 := hV.2.2.2.1
  have v0 := hV.1
  have e18 : asd A 18 3 = A 5 3 := (congrFun (up_eq A 18 _) 3).trans (cpy_in (by decide) (by decide))
  intro m
  induction m with
  | zero =>
    intro k hk
    obtain rfl : k = A 5 3 := by omega
    refine y_iload C D_X7_whispered_69 rfl ?_
    refine y_aload_n C D_X7_whispered_71 rfl ?_
    refine y_get C D_X7_whispered_72 fl_X7_34 (hm_o hU) rfl ?_
    refine y_iconst C D_X7_whispered_75 ki_3 ?_
    refine z_ild C D_X7_whispered_76 (hm_aside hU) (by omega) (by decide) rfl ?_
    refine y_icmp_ge C D_X7_whispered_77 (n_le (by omega) (by omega)) (fun c_77 => ?_) (fun c_77 => absurd c_77 (by omega))
    refine y_fg 7 ?_
    exact K
  | succ m ih =>
    intro k hk
    have hVk := hV.memd (p := k) (g := g) (v := 27) (by omega) hg1 (by decide)
    have f5 : va_up (asd A) 5 (va_up (A 5) (21 + 6 * k + g) 27) 5 = va_up (A 5) (21 + 6 * k + g) 27 := up_eq _ _ _
    have f4 : va_up (A 5) (21 + 6 * k + g) 27 4 = A 5 4 := up_ne _ _ (by omega)
    refine y_iload C D_X7_whispered_69 rfl ?_
    refine y_aload_n C D_X7_whispered_71 rfl ?_
    refine y_get C D_X7_whispered_72 fl_X7_34 (hm_o hU) rfl ?_
    refine y_iconst C D_X7_whispered_75 ki_3 ?_
    refine z_ild C D_X7_whispered_76 (hm_aside hU) (by omega) (by decide) rfl ?_
    refine y_icmp_ge C D_X7_whispered_77 (n_le (by omega) (by omega)) (fun c_77 => absurd c_77 (by omega)) (fun c_77 => ?_)
    refine y_aload_n C D_X7_whispered_80 rfl ?_
    refine y_get C D_X7_whispered_81 fl_X7_19 (hm_o hU) rfl ?_
    refine y_bipush C D_X7_whispered_84 kb_21 ?_
    refine y_bipush C D_X7_whispered_86 kb_6 ?_
    refine y_iload C D_X7_whispered_88 rfl ?_
    refine z_imul C D_X7_whispered_90 ?_
    refine z_iadd C D_X7_whispered_91 ?_
    refine y_iload_n C D_X7_whispered_92 rfl ?_
    refine z_iadd C D_X7_whispered_93 ?_
    refine y_bipush C D_X7_whispered_94 kb_27 ?_
    refine z_ist C D_X7_whispered_96 (hm_st hU) (by omega) (by decide) (hm_wst hU _ _) ?_
    rw [asd_5]
    refine y_iload C D_X7_whispered_97 rfl ?_
    refine y_aload_n C D_X7_whispered_99 rfl ?_
    refine y_bipush C D_X7_whispered_100 kb_40 ?_
    refine y_iload_n C D_X7_whispered_102 rfl ?_
    refine z_imul C D_X7_whispered_103 ?_
    refine y_iload_n C D_X7_whispered_104 rfl ?_
    refine z_iadd C D_X7_whispered_105 ?_
    refine y_iload C D_X7_whispered_106 rfl ?_
    refine z_callV C D_X7_whispered_108 lk_X7_223 (c_X7_isSo hU (by rw [f5]; exact hVk) (by rw [f5, f4]; omega) (by omega)) (hm_o hU) rfl rfl (Nat.le_of_ble_eq_true rfl) (Nat.le_of_ble_eq_true rfl) ⟨Nat.zero_le _, Nat.zero_le _⟩ ?_
    rw [f5, asd_back2 rfl hV.far (hVk.yrs n).far]
    refine z_ifeqB C D_X7_whispered_111 (fun c_111 => ?_) (fun c_111 => ?_)
    · refine y_iconst C D_X7_whispered_121 ki_0 ?_
      refine z_ior C D_X7_whispered_122 ?_
      refine y_istore C D_X7_whispered_123 (by decide) (qok_s rfl rfl) ?_
      refine z_iinc (n := 1) C D_X7_whispered_125 rfl (by decide) (qok_s rfl rfl) ?_
      refine y_goto C D_X7_whispered_128 ?_
      have e : whiN (B 2) (40 * q + o) (A 5) g n (k + 1) = whiN (B 2) (40 * q + o) (A 5) g n k ||| 0 := by rw [whiN, if_neg c_111]
      have z := ih (k + 1) (by omega)
      rw [e] at z
      exact z
    · refine y_iconst C D_X7_whispered_114 ki_1 ?_
      refine y_iload C D_X7_whispered_115 rfl ?_
      refine z_ishl1 C D_X7_whispered_117 (by omega) ?_
      refine y_goto C D_X7_whispered_118 ?_
      refine z_ior C D_X7_whispered_122 ?_
      refine y_istore C D_X7_whispered_123 (by decide) (qok_s rfl rfl) ?_
      refine z_iinc (n := 1) C D_X7_whispered_125 rfl (by decide) (qok_s rfl rfl) ?_
      refine y_goto C D_X7_whispered_128 ?_
      have e : whiN (B 2) (40 * q + o) (A 5) g n (k + 1) = whiN (B 2) (40 * q + o) (A 5) g n k ||| 2 ^ k := by rw [whiN, if_pos c_111]
      have z := ih (k + 1) (by omega)
      rw [e] at z
      exact z
theorem c_X7_whispered (hU : U.length = 122) {s q n z o : Nat} (ht : i 4 = 1) (hs1 : s < A 5 0) (hq : q < 8) (h1 : 1 ≤ n) (hn : n ≤ 6) (hz : B 1 q = nI z) (hz40 : z ≤ 40) (ho : o + n ≤ z) (hV : Va (A 5)) (h4 : A 5 4 ≤ 999) : Ct l G yX7_whispered 6 [qr G 122, .int (nI s), .int (nI q), .int (nI o), .int (nI n)] (hm G U i A B) (some (.int (nI (whiN (B 2) (40 * q + o) (A 5) s n (A 5 3))))) (hm G U (va_up i 3 0) (asd A) B) := by
  refine ctm_intro (maxL := 8) kw_X7_whispered (by decide) (by decide) [some (qr G 122), some (.int (nI s)), some (.int (nI q)), some (.int (nI o)), some (.int (nI n)), none, none, none] rfl (Nat.le_of_ble_eq_true rfl) ?_
  intro X _ hcl hsl _ _ C E
  have v0 := hV.1
  refine y_aload_n C D_X7_whispered_0 rfl ?_
  refine y_get C D_X7_whispered_1 fl_X7_135 (hm_o hU) rfl ?_
  refine y_if_ne C D_X7_whispered_4 (n_eq0 (by omega)) (fun c_4 => ?_) (fun c_4 => absurd c_4 (by omega))
  refine y_aload_n C D_X7_whispered_10 rfl ?_
  refine y_iload_n C D_X7_whispered_11 rfl ?_
  refine z_callV C D_X7_whispered_12 lk_X7_180 (c_X7_isGrave hU (by omega)) (hm_o hU) rfl rfl (Nat.le_of_ble_eq_true rfl) (Nat.le_of_ble_eq_true rfl) ⟨Nat.zero_le _, Nat.zero_le _⟩ ?_
  refine z_ifeqB C D_X7_whispered_15 (fun c_15 => absurd (isx_n (by omega) hs1) c_15) (fun c_15 => ?_)
  refine y_iload_n C D_X7_whispered_18 rfl ?_
  refine z_callS C D_X7_whispered_19 lk_X7_61 (c_X7_isRow) rfl rfl (Nat.le_of_ble_eq_true rfl) (Nat.le_of_ble_eq_true rfl) ⟨Nat.zero_le _, Nat.zero_le _⟩ ?_
  refine z_ifeqB C D_X7_whispered_22 (fun c_22 => absurd (isx_n (by decide) hq) c_22) (fun c_22 => ?_)
  refine y_iload C D_X7_whispered_25 rfl ?_
  refine y_i2l C D_X7_whispered_27 ?_
  refine y_lconst C D_X7_whispered_28 rfl ?_
  refine y_ldc2 C D_X7_whispered_29 lk_X7_226 ?_
  refine z_callS C D_X7_whispered_32 lk_X7_57 (c_X7_in) rfl rfl (Nat.le_of_ble_eq_true rfl) (Nat.le_of_ble_eq_true rfl) ⟨Nat.zero_le _, Nat.zero_le _⟩ ?_
  refine y_top (bI_c (in_inr (y := 1) (z := 6) (a := 1) (b := 6) rfl rfl)) ?_
  refine z_ifneB C D_X7_whispered_35 (fun c_35 => ?_) (fun c_35 => absurd (inr_n (by decide) h1 hn) c_35)
  refine y_aload_n C D_X7_whispered_41 rfl ?_
  refine y_iload_n C D_X7_whispered_42 rfl ?_
  refine y_iload_n C D_X7_whispered_43 rfl ?_
  refine y_iload C D_X7_whispered_44 rfl ?_
  refine z_callV C D_X7_whispered_46 lk_X7_219 (c_X7_lacks hU hq (by omega) hz hz40 ⟨by omega, isx_n (by omega) (by omega)⟩) (hm_o hU) rfl rfl (Nat.le_of_ble_eq_true rfl) (Nat.le_of_ble_eq_true rfl) ⟨Nat.zero_le _, Nat.zero_le _⟩ ?_
  refine y_istore C D_X7_whispered_49 (by decide) (qok_s rfl rfl) ?_
  refine y_iload C D_X7_whispered_51 rfl ?_
  refine y_if_ge C D_X7_whispered_53 (n_ge0 (by omega)) (fun _ => ?_) (fun q => absurd trivial q)
  refine y_aload_n C D_X7_whispered_59 rfl ?_
  refine z_callVv C D_X7_whispered_60 lk_X7_188 (c_X7_putAside hU) (hm_o hU) rfl rfl (Nat.le_of_ble_eq_true rfl) (Nat.le_of_ble_eq_true rfl) ⟨Nat.zero_le _, Nat.zero_le _⟩ ?_
  refine y_iconst C D_X7_whispered_63 ki_0 ?_
  refine y_istore C D_X7_whispered_64 (by decide) (qok_s rfl rfl) ?_
  refine y_iconst C D_X7_whispered_66 ki_0 ?_
  refine y_istore C D_X7_whispered_67 (by decide) (qok_s rfl rfl) ?_
  refine lp_X7_whispered hU hV h4 hs1 hq (by omega) (by omega) C ?_ (A 5 3) 0 (by omega)
  refine y_aload_n C D_X7_whispered_131 rfl ?_
  refine y_iload C D_X7_whispered_132 rfl ?_
  refine z_callV C D_X7_whispered_134 lk_X7_72 (c_X7_well hU) (hm_o hU) rfl rfl (Nat.le_of_ble_eq_true rfl) (Nat.le_of_ble_eq_true rfl) ⟨Nat.zero_le _, Nat.zero_le _⟩ ?_
  exact y_iret C E D_X7_whispered_137 (rfl) (rfl)
theorem lp_X7_needs {X : qX} {s : Nat} (hU : U.length = 122) (hV : Va (A 5)) (h4 : A 5 4 < 1999) (hs1 : s < 5) (C : qC X G cX7_needsSupper 6 RX7 1) (E : qE X G (some .boolean) 0 0 (some (.int (bI (nd (A 5) s = true)))) (hm G U i A B)) : ∀ (n g : Nat), g + n = A 5 0 → Y X G 6 0 0 7 [some (qr G 122), some (.int (nI (s))), some (.int (bI (enB (A 5) s g = true))), some (.int (bI (keB (A 5) s g = true))), some (.int (nI (g))), none] [] (hm G U i A B) := by
  have v0 := hV.1
  have v1 := hV.2.1
  have v2 := hV.2.2.1
  have v3 := hV.2.2.2.1
  have v5 := hV.k64
  have hB : ∀ k, A 5 k < 2000 := fun k => hV.lt (by omega) k
  intro n
  induction n with
  | zero =>
    intro g hg
    obtain rfl : g = A 5 0 := by omega
    refine y_iload C D_X7_needsSupper_7 rfl ?_
    refine y_aload_n C D_X7_needsSupper_9 rfl ?_
    refine y_get C D_X7_needsSupper_10 fl_X7_19 (hm_o hU) rfl ?_
    refine y_iconst C D_X7_needsSupper_13 ki_0 ?_
    refine z_ild C D_X7_needsSupper_14 (hm_st hU) (by omega) (by decide) rfl ?_
    refine y_icmp_ge C D_X7_needsSupper_15 (n_le (by omega) (by omega)) (fun c_15 => ?_) (fun c_15 => absurd (Nat.le_refl _) c_15)
    refine y_iload_n C D_X7_needsSupper_97 rfl ?_
    refine z_ifeqB C D_X7_needsSupper_98 (fun c_98 => ?_) (fun c_98 => ?_)
    · refine y_iconst C D_X7_needsSupper_109 ki_0 ?_
      exact y_zret C E D_X7_needsSupper_110 nar_0 (rt_0 (by simp [nd, c_98])) (rfl)
    · refine y_iload_n C D_X7_needsSupper_101 rfl ?_
      refine z_ifneB C D_X7_needsSupper_102 (fun c_102 => ?_) (fun c_102 => ?_)
      · refine y_iconst C D_X7_needsSupper_109 ki_0 ?_
        exact y_zret C E D_X7_needsSupper_110 nar_0 (rt_0 (by simp [nd, c_98, c_102])) (rfl)
      · refine y_iconst C D_X7_needsSupper_105 ki_1 ?_
        refine y_goto C D_X7_needsSupper_106 ?_
        exact y_zret C E D_X7_needsSupper_110 nar_1 (rt_1 (by simp [nd, c_98, c_102])) (rfl)
  | succ n ih =>
    intro g hg
    have hbm : me (A 5) s g < 2000 := hB _
    have hln : less (A 5) (me (A 5) s g) ≤ me (A 5) s g := less_le _ _
    have hl0 : less (A 5) 0 = 0 := less_0 _
    have z := ih (g + 1) (by omega)
    have hmk : mk (A 5) s g ≤ me (A 5) s g := by unfold mk; split <;> omega
    have hlk : less (A 5) (mk (A 5) s g) ≤ mk (A 5) s g := less_le _ _
    have K66 : Y X G 6 0 0 66 [some (qr G 122), some (.int (nI (s))), some (.int (bI (enB (A 5) s (g + 1) = true))), some (.int (bI (keB (A 5) s g = true))), some (.int (nI (g))), some (.int (nI (mk (A 5) s g)))] [] (hm G U i A B) := by
      refine y_iload_n C D_X7_needsSupper_66 rfl ?_
      refine z_ifneB C D_X7_needsSupper_67 (fun c_67 => ?_) (fun c_67 => ?_)
      · refine y_iconst C D_X7_needsSupper_85 ki_1 ?_
        refine y_goto C D_X7_needsSupper_86 ?_
        refine y_istore_n C D_X7_needsSupper_90 (by decide) (qok_s rfl rfl) ?_
        refine z_iinc (n := 1) C D_X7_needsSupper_91 rfl (by decide) (qok_s rfl rfl) ?_
        refine y_goto C D_X7_needsSupper_94 ?_
        refine y_fg 5 ?_
        rw [bI_1 (P := keB (A 5) s (g + 1) = true) (by simp [keB, c_67])] at z
        exact z
      · refine y_aload_n C D_X7_needsSupper_70 rfl ?_
        refine y_iload C D_X7_needsSupper_71 rfl ?_
        refine z_callV C D_X7_needsSupper_73 lk_X7_159 (c_X7_lessOf hU (by omega) (by omega) (by omega)) (hm_o hU) rfl rfl (Nat.le_of_ble_eq_true rfl) (Nat.le_of_ble_eq_true rfl) ⟨Nat.zero_le _, Nat.zero_le _⟩ ?_
        refine y_aload_n C D_X7_needsSupper_76 rfl ?_
        refine y_get C D_X7_needsSupper_77 fl_X7_19 (hm_o hU) rfl ?_
        refine y_iconst C D_X7_needsSupper_80 ki_1 ?_
        refine z_ild C D_X7_needsSupper_81 (hm_st hU) (by omega) (by decide) rfl ?_
        refine y_icmp_lt C D_X7_needsSupper_82 (n_lt (by omega) (by omega)) (fun c_82 => ?_) (fun c_82 => ?_)
        · refine y_iconst C D_X7_needsSupper_89 ki_0 ?_
          refine y_istore_n C D_X7_needsSupper_90 (by decide) (qok_s rfl rfl) ?_
          refine z_iinc (n := 1) C D_X7_needsSupper_91 rfl (by decide) (qok_s rfl rfl) ?_
          refine y_goto C D_X7_needsSupper_94 ?_
          refine y_fg 5 ?_
          rw [bI_0 (P := keB (A 5) s (g + 1) = true) (by simp [keB, c_67]; omega)] at z
          exact z
        · refine y_iconst C D_X7_needsSupper_85 ki_1 ?_
          refine y_goto C D_X7_needsSupper_86 ?_
          refine y_istore_n C D_X7_needsSupper_90 (by decide) (qok_s rfl rfl) ?_
          refine z_iinc (n := 1) C D_X7_needsSupper_91 rfl (by decide) (qok_s rfl rfl) ?_
          refine y_goto C D_X7_needsSupper_94 ?_
          refine y_fg 5 ?_
          rw [bI_1 (P := keB (A 5) s (g + 1) = true) (by simp [keB]; omega)] at z
          exact z
    have K45 : Y X G 6 0 0 45 [some (qr G 122), some (.int (nI (s))), some (.int (bI (enB (A 5) s g = true))), some (.int (bI (keB (A 5) s g = true))), some (.int (nI (g))), some (.int (nI (mk (A 5) s g)))] [] (hm G U i A B) := by
      refine y_iload_n C D_X7_needsSupper_45 rfl ?_
      refine z_ifneB C D_X7_needsSupper_46 (fun c_46 => ?_) (fun c_46 => ?_)
      · refine y_iconst C D_X7_needsSupper_60 ki_1 ?_
        refine y_goto C D_X7_needsSupper_61 ?_
        refine y_istore_n C D_X7_needsSupper_65 (by decide) (qok_s rfl rfl) ?_
        rw [bI_1 (P := enB (A 5) s (g + 1) = true) (by simp [enB, c_46])] at K66
        exact K66
      · refine y_iload C D_X7_needsSupper_49 rfl ?_
        refine y_aload_n C D_X7_needsSupper_51 rfl ?_
        refine y_get C D_X7_needsSupper_52 fl_X7_19 (hm_o hU) rfl ?_
        refine y_iconst C D_X7_needsSupper_55 ki_1 ?_
        refine z_ild C D_X7_needsSupper_56 (hm_st hU) (by omega) (by decide) rfl ?_
        refine y_icmp_lt C D_X7_needsSupper_57 (n_lt (by omega) (by omega)) (fun c_57 => ?_) (fun c_57 => ?_)
        · refine y_iconst C D_X7_needsSupper_64 ki_0 ?_
          refine y_istore_n C D_X7_needsSupper_65 (by decide) (qok_s rfl rfl) ?_
          rw [bI_0 (P := enB (A 5) s (g + 1) = true) (by simp [enB, c_46]; omega)] at K66
          exact K66
        · refine y_iconst C D_X7_needsSupper_60 ki_1 ?_
          refine y_goto C D_X7_needsSupper_61 ?_
          refine y_istore_n C D_X7_needsSupper_65 (by decide) (qok_s rfl rfl) ?_
          rw [bI_1 (P := enB (A 5) s (g + 1) = true) (by simp [enB]; omega)] at K66
          exact K66
    refine y_iload C D_X7_needsSupper_7 rfl ?_
    refine y_aload_n C D_X7_needsSupper_9 rfl ?_
    refine y_get C D_X7_needsSupper_10 fl_X7_19 (hm_o hU) rfl ?_
    refine y_iconst C D_X7_needsSupper_13 ki_0 ?_
    refine z_ild C D_X7_needsSupper_14 (hm_st hU) (by omega) (by decide) rfl ?_
    refine y_icmp_ge C D_X7_needsSupper_15 (n_le (by omega) (by omega)) (fun c_15 => absurd c_15 (by omega)) (fun c_15 => ?_)
    refine y_aload_n C D_X7_needsSupper_18 rfl ?_
    refine y_get C D_X7_needsSupper_19 fl_X7_19 (hm_o hU) rfl ?_
    refine y_iconst C D_X7_needsSupper_22 ki_5 ?_
    refine z_ild C D_X7_needsSupper_23 (hm_st hU) (by omega) (by decide) rfl ?_
    refine y_iload C D_X7_needsSupper_24 rfl ?_
    refine z_callS C D_X7_needsSupper_26 lk_X7_142 (c_X7_has (by omega) (by omega)) rfl rfl (Nat.le_of_ble_eq_true rfl) (Nat.le_of_ble_eq_true rfl) ⟨Nat.zero_le _, Nat.zero_le _⟩ ?_
    refine z_ifeqB C D_X7_needsSupper_29 (fun c_29 => ?_) (fun c_29 => ?_)
    · refine y_iconst C D_X7_needsSupper_42 ki_0 ?_
      refine y_istore C D_X7_needsSupper_43 (by decide) (qok_s rfl rfl) ?_
      have em : mk (A 5) s g = 0 := if_neg c_29
      rw [em] at K45
      exact K45
    · refine y_aload_n C D_X7_needsSupper_32 rfl ?_
      refine y_iload_n C D_X7_needsSupper_33 rfl ?_
      refine y_iload C D_X7_needsSupper_34 rfl ?_
      refine z_callV C D_X7_needsSupper_36 lk_X7_146 (c_X7_memoryOf hU (by omega) (by omega)) (hm_o hU) rfl rfl (Nat.le_of_ble_eq_true rfl) (Nat.le_of_ble_eq_true rfl) ⟨Nat.zero_le _, Nat.zero_le _⟩ ?_
      refine y_goto C D_X7_needsSupper_39 ?_
      refine y_istore C D_X7_needsSupper_43 (by decide) (qok_s rfl rfl) ?_
      have em : mk (A 5) s g = me (A 5) s g := if_pos c_29
      rw [em] at K45
      exact K45
theorem c_X7_needs (hU : U.length = 122) {s : Nat} (hV : Va (A 5)) (h4 : A 5 4 < 1999) (hs1 : s < 5) : Ct l G yX7_needsSupper 1 [qr G 122, .int (nI s)] (hm G U i A B) (some (.int (bI (nd (A 5) s = true)))) (hm G U i A B) := by
  refine ctm_intro (maxL := 6) kw_X7_needsSupper (by decide) (by decide) [some (qr G 122), some (.int (nI s)), none, none, none, none] rfl (Nat.le_of_ble_eq_true rfl) ?_
  intro X _ hcl hsl _ _ C E
  refine y_iconst C D_X7_needsSupper_0 ki_0 ?_
  refine y_istore_n C D_X7_needsSupper_1 (by decide) (qok_s rfl rfl) ?_
  refine y_iconst C D_X7_needsSupper_2 ki_0 ?_
  refine y_istore_n C D_X7_needsSupper_3 (by decide) (qok_s rfl rfl) ?_
  refine y_iconst C D_X7_needsSupper_4 ki_0 ?_
  refine y_istore C D_X7_needsSupper_5 (by decide) (qok_s rfl rfl) ?_
  have z := lp_X7_needs hU hV h4 hs1 C E (A 5 0) 0 (by omega)
  rw [bI_0 (P := enB (A 5) s 0 = true) Bool.false_ne_true, bI_0 (P := keB (A 5) s 0 = true) Bool.false_ne_true] at z
  exact z
theorem c_X7_cheeseS (hU : U.length = 122) {x0 : Int32} (ht : i 4 = 0) : Ct l G yX7_cheese 5 [qr G 122, .int x0] (hm G U i A B) (some (.int (-1000002))) (hm G U i A B) := by
  refine ctm_intro (maxL := 5) kw_X7_cheese (by decide) (by decide) [some (qr G 122), some (.int x0), none, none, none] rfl (Nat.le_of_ble_eq_true rfl) ?_
  intro X _ hcl hsl _ _ C E
  refine y_aload_n C D_X7_cheese_0 rfl ?_
  refine y_get C D_X7_cheese_1 fl_X7_135 (hm_o hU) rfl ?_
  refine y_if_ne C D_X7_cheese_4 (n_eq0 (by omega)) (fun c_4 => absurd ht c_4) (fun c_4 => ?_)
  refine y_ldc C D_X7_cheese_7 lk_X7_162 ?_
  exact y_iret C E D_X7_cheese_9 (rfl) (rfl)
theorem c_X7_cheeseB (hU : U.length = 122) {x : Int32} (ht : i 4 = 1) (hx : ¬ inr x 1 40) : Ct l G yX7_cheese 5 [qr G 122, .int x] (hm G U i A B) (some (.int (-1000001))) (hm G U i A B) := by
  refine ctm_intro (maxL := 5) kw_X7_cheese (by decide) (by decide) [some (qr G 122), some (.int x), none, none, none] rfl (Nat.le_of_ble_eq_true rfl) ?_
  intro X _ hcl hsl _ _ C E
  refine y_aload_n C D_X7_cheese_0 rfl ?_
  refine y_get C D_X7_cheese_1 fl_X7_135 (hm_o hU) rfl ?_
  refine y_if_ne C D_X7_cheese_4 (n_eq0 (by omega)) (fun c_4 => ?_) (fun c_4 => absurd c_4 (by omega))
  refine y_iload_n C D_X7_cheese_10 rfl ?_
  refine y_i2l C D_X7_cheese_11 ?_
  refine y_lconst C D_X7_cheese_12 rfl ?_
  refine y_ldc2 C D_X7_cheese_13 lk_X7_186 ?_
  refine z_callS C D_X7_cheese_16 lk_X7_57 (c_X7_in) rfl rfl (Nat.le_of_ble_eq_true rfl) (Nat.le_of_ble_eq_true rfl) ⟨Nat.zero_le _, Nat.zero_le _⟩ ?_
  refine y_top (bI_c (in_inr (y := 1) (z := 40) (a := 1) (b := 40) rfl rfl)) ?_
  refine z_ifneB C D_X7_cheese_19 (fun c_19 => absurd c_19 hx) (fun c_19 => ?_)
  refine y_ldc C D_X7_cheese_22 lk_X7_67 ?_
  exact y_iret C E D_X7_cheese_24 (rfl) (rfl)
theorem lp_X7_cheese_41 {X : qX} {n k c : Nat} {y : Nat → Nat} (hU : U.length = 122) (hV : Va y) (h4 : y 4 < 1999) (C : qC X G cX7_cheese 5 RX7 5) (K : Y X G 5 0 0 95 [some (qr G 122), some (.int (nI (n))), some (.int (nI (c + ndc y (y 3)))), some (.int (nI (k))), none] [] (hm G U i (va_up A 5 (ndL y (y 3))) B)) : ∀ (m q : Nat) (A' : Nat → Nat → Nat), q + m = y 3 → A' = va_up A 5 (ndL y q) → Y X G 5 0 0 41 [some (qr G 122), some (.int (nI (n))), some (.int (nI (c + ndc y q))), some (.int (nI (k))), some (.int (nI (q)))] [] (hm G U i A' B) := by
  have v3 := hV.2.2.2.1
  intro m
  induction m with
  | zero =>
    intro q A' hq hA
    have e3 : A' 5 3 = y 3 := by rw [hA, up_eq]; exact ndL_lo (by omega) (by omega)
    obtain rfl : q = y 3 := by omega
    refine y_iload C D_X7_cheese_41 rfl ?_
    refine y_aload_n C D_X7_cheese_43 rfl ?_
    refine y_get C D_X7_cheese_44 fl_X7_19 (hm_o hU) rfl ?_
    refine y_iconst C D_X7_cheese_47 ki_3 ?_
    refine z_ild C D_X7_cheese_48 (hm_st hU) (by omega) (by decide) rfl ?_
    refine y_icmp_ge C D_X7_cheese_49 (n_le (by omega) (by omega)) (fun c_49 => ?_) (fun c_49 => absurd c_49 (by omega))
    refine y_fg 4 ?_
    rw [hA]
    exact K
  | succ m ih =>
    intro q A' hq hA
    have e5 : A' 5 = ndL y q := by rw [hA]; exact up_eq _ _ _
    have e3 : A' 5 3 = y 3 := by rw [e5]; exact ndL_lo (by omega) (by omega)
    have e4 : A' 5 4 = y 4 := by rw [e5]; exact ndL_lo (by omega) (by omega)
    have en : nd (A' 5) q = nd y q := by rw [e5]; exact nd_ndL (fun k hk => ndL_lo hk (by omega)) q
    have hVq : Va (A' 5) := by rw [e5]; exact hV.ndL (by omega)
    refine y_iload C D_X7_cheese_41 rfl ?_
    refine y_aload_n C D_X7_cheese_43 rfl ?_
    refine y_get C D_X7_cheese_44 fl_X7_19 (hm_o hU) rfl ?_
    refine y_iconst C D_X7_cheese_47 ki_3 ?_
    refine z_ild C D_X7_cheese_48 (hm_st hU) (by omega) (by decide) rfl ?_
    refine y_icmp_ge C D_X7_cheese_49 (n_le (by omega) (by omega)) (fun c_49 => absurd c_49 (by omega)) (fun c_49 => ?_)
    refine y_aload_n C D_X7_cheese_52 rfl ?_
    refine y_get C D_X7_cheese_53 fl_X7_19 (hm_o hU) rfl ?_
    refine y_bipush C D_X7_cheese_56 kb_11 ?_
    refine y_iload C D_X7_cheese_58 rfl ?_
    refine z_iadd C D_X7_cheese_60 ?_
    refine y_aload_n C D_X7_cheese_61 rfl ?_
    refine y_iload C D_X7_cheese_62 rfl ?_
    refine z_callV C D_X7_cheese_64 lk_X7_228 (c_X7_needs hU hVq (by omega) (by omega)) (hm_o hU) rfl rfl (Nat.le_of_ble_eq_true rfl) (Nat.le_of_ble_eq_true rfl) ⟨Nat.zero_le _, Nat.zero_le _⟩ ?_
    refine z_ifeqB C D_X7_cheese_67 (fun c_67 => ?_) (fun c_67 => ?_)
    · refine y_iconst C D_X7_cheese_74 ki_0 ?_
      refine z_ist C D_X7_cheese_75 (hm_st hU) (by omega) (by decide) (hm_wst hU _ _) ?_
      refine y_iload_n C D_X7_cheese_76 rfl ?_
      refine y_aload_n C D_X7_cheese_77 rfl ?_
      refine y_get C D_X7_cheese_78 fl_X7_19 (hm_o hU) rfl ?_
      refine y_bipush C D_X7_cheese_81 kb_11 ?_
      refine y_iload C D_X7_cheese_83 rfl ?_
      refine z_iadd C D_X7_cheese_85 ?_
      refine z_ild C D_X7_cheese_86 (hm_st hU) (by omega) (by decide) rfl ?_
      refine z_iadd C D_X7_cheese_87 ?_
      refine y_istore_n C D_X7_cheese_88 (by decide) (qok_s rfl rfl) ?_
      refine z_iinc (n := 1) C D_X7_cheese_89 rfl (by decide) (qok_s rfl rfl) ?_
      refine y_goto C D_X7_cheese_92 ?_
      have e1 : ndc y (q + 1) = ndc y q + 0 := by rw [ndc, if_neg (en ▸ c_67)]
      have e2 : (if nd y q = true then 1 else 0) = 0 := if_neg (en ▸ c_67)
      have z := ih (q + 1) (va_up A' 5 (va_up (A' 5) (11 + q) 0)) (by omega) (by rw [e5, hA, bx_uu]; exact congrArg (va_up A 5) ((congrArg (va_up (ndL y q) (11 + q)) e2.symm).trans (ndL_step y q)))
      rw [e1, ← Nat.add_assoc] at z
      rw [up_eq, up_eq]
      exact z
    · refine y_iconst C D_X7_cheese_70 ki_1 ?_
      refine y_goto C D_X7_cheese_71 ?_
      refine z_ist C D_X7_cheese_75 (hm_st hU) (by omega) (by decide) (hm_wst hU _ _) ?_
      refine y_iload_n C D_X7_cheese_76 rfl ?_
      refine y_aload_n C D_X7_cheese_77 rfl ?_
      refine y_get C D_X7_cheese_78 fl_X7_19 (hm_o hU) rfl ?_
      refine y_bipush C D_X7_cheese_81 kb_11 ?_
      refine y_iload C D_X7_cheese_83 rfl ?_
      refine z_iadd C D_X7_cheese_85 ?_
      refine z_ild C D_X7_cheese_86 (hm_st hU) (by omega) (by decide) rfl ?_
      refine z_iadd C D_X7_cheese_87 ?_
      refine y_istore_n C D_X7_cheese_88 (by decide) (qok_s rfl rfl) ?_
      refine z_iinc (n := 1) C D_X7_cheese_89 rfl (by decide) (qok_s rfl rfl) ?_
      refine y_goto C D_X7_cheese_92 ?_
      have e1 : ndc y (q + 1) = ndc y q + 1 := by rw [ndc, if_pos (en ▸ c_67)]
      have e2 : (if nd y q = true then 1 else 0) = 1 := if_pos (en ▸ c_67)
      have z := ih (q + 1) (va_up A' 5 (va_up (A' 5) (11 + q) 1)) (by omega) (by rw [e5, hA, bx_uu]; exact congrArg (va_up A 5) ((congrArg (va_up (ndL y q) (11 + q)) e2.symm).trans (ndL_step y q)))
      rw [e1, ← Nat.add_assoc] at z
      rw [up_eq, up_eq]
      exact z
theorem lp_X7_cheese_33 {X : qX} {n : Nat} (hU : U.length = 122) (hV : Va (A 5)) (h4 : A 5 4 ≤ 999) (hn : n ≤ 40) (C : qC X G cX7_cheese 5 RX7 5) (K : Y X G 5 0 0 105 [some (qr G 122), some (.int (nI (n))), some (.int (nI (chS (A 5) n))), none, none] [] (hm G U i (va_up (asd A) 5 (chN (A 5) n)) B)) : ∀ (m k : Nat) (A' : Nat → Nat → Nat), k + m = n → A' = va_up (asd A) 5 (chN (A 5) k) → Y X G 5 0 0 33 [some (qr G 122), some (.int (nI (n))), some (.int (nI (chS (A 5) k))), some (.int (nI (k))), none] [] (hm G U i A' B) := by
  intro m
  induction m with
  | zero =>
    intro k A' hk hA
    obtain rfl : k = n := by omega
    refine y_iload_n C D_X7_cheese_33 rfl ?_
    refine y_iload_n C D_X7_cheese_34 rfl ?_
    refine y_icmp_ge C D_X7_cheese_35 (n_le (by omega) (by omega)) (fun c_35 => ?_) (fun c_35 => absurd (Nat.le_refl _) c_35)
    refine y_fg 3 ?_
    rw [hA]
    exact K
  | succ m ih =>
    intro k A' hk hA
    have e5 : A' 5 = chN (A 5) k := by rw [hA]; exact up_eq _ _ _
    have hVk := hV.chN k
    have v3 := hVk.2.2.2.1
    have e4 : chN (A 5) k 4 = A 5 4 + k := chN_4 hV k
    have K2 : Y X G 5 0 0 95 [some (qr G 122), some (.int (nI (n))), some (.int (nI (chS (A 5) k + ndc (chN (A 5) k) (chN (A 5) k 3)))), some (.int (nI (k))), none] [] (hm G U i (va_up (asd A) 5 (ndL (chN (A 5) k) (chN (A 5) k 3))) B) := by
      refine y_aload_n C D_X7_cheese_95 rfl ?_
      refine z_callVv C D_X7_cheese_96 lk_X7_168 (c_X7_oneYear hU (by rw [up_eq]; exact hVk.ndL (Nat.le_refl _)) (by rw [up_eq, ndL_lo (by omega) (by omega)]; omega)) (hm_o hU) rfl rfl (Nat.le_of_ble_eq_true rfl) (Nat.le_of_ble_eq_true rfl) ⟨Nat.zero_le _, Nat.zero_le _⟩ ?_
      refine z_iinc (n := 1) C D_X7_cheese_99 rfl (by decide) (qok_s rfl rfl) ?_
      refine y_goto C D_X7_cheese_102 ?_
      exact ih (k + 1) _ (by omega) (by rw [up_eq, bx_uu]; rfl)
    refine y_iload_n C D_X7_cheese_33 rfl ?_
    refine y_iload_n C D_X7_cheese_34 rfl ?_
    refine y_icmp_ge C D_X7_cheese_35 (n_le (by omega) (by omega)) (fun c_35 => absurd c_35 (by omega)) (fun c_35 => ?_)
    refine y_iconst C D_X7_cheese_38 ki_0 ?_
    refine y_istore C D_X7_cheese_39 (by decide) (qok_s rfl rfl) ?_
    exact lp_X7_cheese_41 hU hVk (by omega) C K2 (chN (A 5) k 3) 0 A' (by omega) (by rw [ndL_0]; exact hA)
theorem c_X7_cheese (hU : U.length = 122) {n : Nat} (ht : i 4 = 1) (h1 : 1 ≤ n) (hn : n ≤ 40) (hV : Va (A 5)) (h4 : A 5 4 ≤ 999) : Ct l G yX7_cheese 5 [qr G 122, .int (nI n)] (hm G U i A B) (some (.int (nI (chS (A 5) n)))) (hm G U i (asd A) B) := by
  refine ctm_intro (maxL := 5) kw_X7_cheese (by decide) (by decide) [some (qr G 122), some (.int (nI n)), none, none, none] rfl (Nat.le_of_ble_eq_true rfl) ?_
  intro X _ hcl hsl _ _ C E
  refine y_aload_n C D_X7_cheese_0 rfl ?_
  refine y_get C D_X7_cheese_1 fl_X7_135 (hm_o hU) rfl ?_
  refine y_if_ne C D_X7_cheese_4 (n_eq0 (by omega)) (fun c_4 => ?_) (fun c_4 => absurd c_4 (by omega))
  refine y_iload_n C D_X7_cheese_10 rfl ?_
  refine y_i2l C D_X7_cheese_11 ?_
  refine y_lconst C D_X7_cheese_12 rfl ?_
  refine y_ldc2 C D_X7_cheese_13 lk_X7_186 ?_
  refine z_callS C D_X7_cheese_16 lk_X7_57 (c_X7_in) rfl rfl (Nat.le_of_ble_eq_true rfl) (Nat.le_of_ble_eq_true rfl) ⟨Nat.zero_le _, Nat.zero_le _⟩ ?_
  refine y_top (bI_c (in_inr (y := 1) (z := 40) (a := 1) (b := 40) rfl rfl)) ?_
  refine z_ifneB C D_X7_cheese_19 (fun c_19 => ?_) (fun c_19 => absurd (inr_n (by decide) h1 hn) c_19)
  refine y_aload_n C D_X7_cheese_25 rfl ?_
  refine z_callVv C D_X7_cheese_26 lk_X7_188 (c_X7_putAside hU) (hm_o hU) rfl rfl (Nat.le_of_ble_eq_true rfl) (Nat.le_of_ble_eq_true rfl) ⟨Nat.zero_le _, Nat.zero_le _⟩ ?_
  refine y_iconst C D_X7_cheese_29 ki_0 ?_
  refine y_istore_n C D_X7_cheese_30 (by decide) (qok_s rfl rfl) ?_
  refine y_iconst C D_X7_cheese_31 ki_0 ?_
  refine y_istore_n C D_X7_cheese_32 (by decide) (qok_s rfl rfl) ?_
  refine lp_X7_cheese_33 hU hV h4 hn C ?_ n 0 _ (by omega) (by rw [show chN (A 5) 0 = asd A 5 from (asd_5 A).symm]; exact (up_id (asd A) 5).symm)
  refine y_aload_n C D_X7_cheese_105 rfl ?_
  refine z_callVv C D_X7_cheese_106 lk_X7_191 (c_X7_takeBack hU) (hm_o hU) rfl rfl (Nat.le_of_ble_eq_true rfl) (Nat.le_of_ble_eq_true rfl) ⟨Nat.zero_le _, Nat.zero_le _⟩ ?_
  refine y_iload_n C D_X7_cheese_109 rfl ?_
  exact y_iret C E D_X7_cheese_110 (rfl) (by rw [asd_back rfl hV.far (hV.chN n).far])
end
