section
variable {l : Launch} {G : qG} {U : List va_E} {i : Nat → Nat} {A : Nat → Nat → Nat} {B : Nat → Nat → Int32} {h : List va_E}
theorem c_X7_aheadS (hU : U.length = 122) {x0 : Int32} (ht : i 4 = 0) : Ct l G yX7_ahead 5 [qr G 122, .int x0] (hm G U i A B) (some (.int (-1000002))) (hm G U i A B) := by
  refine ctm_intro (maxL := 3) kw_X7_ahead (by decide) (by decide) [some (qr G 122), some (.int x0), none] rfl (Nat.le_of_ble_eq_true rfl) ?_
  intro X _ hcl hsl _ _ C E
  refine y_aload_n C D_X7_ahead_0 rfl ?_
  refine y_get C D_X7_ahead_1 fl_X7_135 (hm_o hU) rfl ?_
  refine y_if_ne C D_X7_ahead_4 (n_eq0 (by omega)) (fun c_4 => absurd ht c_4) (fun c_4 => ?_)
  refine y_ldc C D_X7_ahead_7 lk_X7_162 ?_
  exact y_iret C E D_X7_ahead_9 (rfl) (rfl)
theorem c_X7_aheadB (hU : U.length = 122) {x : Int32} (ht : i 4 = 1) (hx : ¬ inr x 0 40) : Ct l G yX7_ahead 5 [qr G 122, .int x] (hm G U i A B) (some (.int (-1000001))) (hm G U i A B) := by
  refine ctm_intro (maxL := 3) kw_X7_ahead (by decide) (by decide) [some (qr G 122), some (.int x), none] rfl (Nat.le_of_ble_eq_true rfl) ?_
  intro X _ hcl hsl _ _ C E
  refine y_aload_n C D_X7_ahead_0 rfl ?_
  refine y_get C D_X7_ahead_1 fl_X7_135 (hm_o hU) rfl ?_
  refine y_if_ne C D_X7_ahead_4 (n_eq0 (by omega)) (fun c_4 => ?_) (fun c_4 => absurd c_4 (by omega))
  refine y_iload_n C D_X7_ahead_10 rfl ?_
  refine y_i2l C D_X7_ahead_11 ?_
  refine y_lconst C D_X7_ahead_12 rfl ?_
  refine y_ldc2 C D_X7_ahead_13 lk_X7_186 ?_
  refine z_callS C D_X7_ahead_16 lk_X7_57 (c_X7_in) rfl rfl (Nat.le_of_ble_eq_true rfl) (Nat.le_of_ble_eq_true rfl) ⟨Nat.zero_le _, Nat.zero_le _⟩ ?_
  refine y_top (bI_c (in_inr (y := 0) (z := 40) (a := 0) (b := 40) rfl rfl)) ?_
  refine z_ifneB C D_X7_ahead_19 (fun c_19 => absurd c_19 hx) (fun c_19 => ?_)
  refine y_ldc C D_X7_ahead_22 lk_X7_67 ?_
  exact y_iret C E D_X7_ahead_24 (rfl) (rfl)
theorem lp_X7_ahead {X : qX} {n : Nat} (hU : U.length = 122) (hV : Va (A 5)) (h4 : A 5 4 ≤ 999) (hn : n ≤ 40) (C : qC X G cX7_ahead 3 RX7 5) (K : Y X G 3 0 0 46 [some (qr G 122), some (.int (nI (n))), none] [] (hm G U i (va_up (asd A) 5 (yrs (A 5) n)) B)) : ∀ (m k : Nat) (A' : Nat → Nat → Nat), k + m = n → A' = va_up (asd A) 5 (yrs (A 5) k) → Y X G 3 0 0 31 [some (qr G 122), some (.int (nI (n))), some (.int (nI (k)))] [] (hm G U i A' B) := by
  intro m
  induction m with
  | zero =>
    intro k A' hk hA
    obtain rfl : k = n := by omega
    refine y_iload_n C D_X7_ahead_31 rfl ?_
    refine y_iload_n C D_X7_ahead_32 rfl ?_
    refine y_icmp_ge C D_X7_ahead_33 (n_le (by omega) (by omega)) (fun c_33 => ?_) (fun c_33 => absurd (Nat.le_refl _) c_33)
    refine y_fg 2 ?_
    rw [hA]
    exact K
  | succ m ih =>
    intro k A' hk hA
    have e5 : A' 5 = yrs (A 5) k := by rw [hA]; exact up_eq _ _ _
    have e4 : yrs (A 5) k 4 = A 5 4 + k := yrs_4 _ k
    refine y_iload_n C D_X7_ahead_31 rfl ?_
    refine y_iload_n C D_X7_ahead_32 rfl ?_
    refine y_icmp_ge C D_X7_ahead_33 (n_le (by omega) (by omega)) (fun c_33 => absurd c_33 (by omega)) (fun c_33 => ?_)
    refine y_aload_n C D_X7_ahead_36 rfl ?_
    refine z_callVv C D_X7_ahead_37 lk_X7_168 (c_X7_oneYear hU (by rw [e5]; exact hV.yrs k) (by rw [e5, e4]; omega)) (hm_o hU) rfl rfl (Nat.le_of_ble_eq_true rfl) (Nat.le_of_ble_eq_true rfl) ⟨Nat.zero_le _, Nat.zero_le _⟩ ?_
    refine z_iinc (n := 1) C D_X7_ahead_40 rfl (by decide) (qok_s rfl rfl) ?_
    refine y_goto C D_X7_ahead_43 ?_
    exact ih (k + 1) _ (by omega) (by rw [e5, hA, bx_uu]; rfl)
theorem c_X7_ahead (hU : U.length = 122) {n : Nat} (ht : i 4 = 1) (hn : n ≤ 40) (hV : Va (A 5)) (h4 : A 5 4 ≤ 999) : Ct l G yX7_ahead 5 [qr G 122, .int (nI n)] (hm G U i A B) (some (.int (nI (yrs (A 5) n 5)))) (hm G U i (asd A) B) := by
  refine ctm_intro (maxL := 3) kw_X7_ahead (by decide) (by decide) [some (qr G 122), some (.int (nI n)), none] rfl (Nat.le_of_ble_eq_true rfl) ?_
  intro X _ hcl hsl _ _ C E
  refine y_aload_n C D_X7_ahead_0 rfl ?_
  refine y_get C D_X7_ahead_1 fl_X7_135 (hm_o hU) rfl ?_
  refine y_if_ne C D_X7_ahead_4 (n_eq0 (by omega)) (fun c_4 => ?_) (fun c_4 => absurd c_4 (by omega))
  refine y_iload_n C D_X7_ahead_10 rfl ?_
  refine y_i2l C D_X7_ahead_11 ?_
  refine y_lconst C D_X7_ahead_12 rfl ?_
  refine y_ldc2 C D_X7_ahead_13 lk_X7_186 ?_
  refine z_callS C D_X7_ahead_16 lk_X7_57 (c_X7_in) rfl rfl (Nat.le_of_ble_eq_true rfl) (Nat.le_of_ble_eq_true rfl) ⟨Nat.zero_le _, Nat.zero_le _⟩ ?_
  refine y_top (bI_c (in_inr (y := 0) (z := 40) (a := 0) (b := 40) rfl rfl)) ?_
  refine z_ifneB C D_X7_ahead_19 (fun c_19 => ?_) (fun c_19 => absurd (inr_n (by decide) (by omega) hn) c_19)
  refine y_aload_n C D_X7_ahead_25 rfl ?_
  refine z_callVv C D_X7_ahead_26 lk_X7_188 (c_X7_putAside hU) (hm_o hU) rfl rfl (Nat.le_of_ble_eq_true rfl) (Nat.le_of_ble_eq_true rfl) ⟨Nat.zero_le _, Nat.zero_le _⟩ ?_
  refine y_iconst C D_X7_ahead_29 ki_0 ?_
  refine y_istore_n C D_X7_ahead_30 (by decide) (qok_s rfl rfl) ?_
  refine lp_X7_ahead hU hV h4 hn C ?_ n 0 _ (by omega) ?_
  · skip
    refine y_aload_n C D_X7_ahead_46 rfl ?_
    refine y_get C D_X7_ahead_47 fl_X7_19 (hm_o hU) rfl ?_
    refine y_iconst C D_X7_ahead_50 ki_5 ?_
    refine z_ild C D_X7_ahead_51 (hm_st hU) (by omega) (by decide) rfl ?_
    refine y_istore_n C D_X7_ahead_52 (by decide) (qok_s rfl rfl) ?_
    refine y_aload_n C D_X7_ahead_53 rfl ?_
    refine z_callVv C D_X7_ahead_54 lk_X7_191 (c_X7_takeBack hU) (hm_o hU) rfl rfl (Nat.le_of_ble_eq_true rfl) (Nat.le_of_ble_eq_true rfl) ⟨Nat.zero_le _, Nat.zero_le _⟩ ?_
    refine y_iload_n C D_X7_ahead_57 rfl ?_
    exact y_iret C E D_X7_ahead_58 (by rw [up_eq]) (by rw [asd_back rfl hV.far (hV.yrs n).far])
  · rw [show yrs (A 5) 0 = asd A 5 from (asd_5 A).symm]
    exact (up_id (asd A) 5).symm
theorem lp_X7_feedAll {X : qX} (hU : U.length = 122) (h3 : A 5 3 ≤ 5) (C : qC X G cX7_feedAll 2 RX7 0) (E : qE X G none 0 0 none (hm G U i (va_up A 5 (fall (A 5))) B)) : ∀ (n q : Nat) (A' : Nat → Nat → Nat), q + n = A 5 3 → A' = va_up A 5 (fallL (A 5) q) → Y X G 2 0 0 2 [some (qr G 122), some (.int (nI (q)))] [] (hm G U i A' B) := by
  intro n
  induction n with
  | zero =>
    intro q A' hq hA
    have e3 : A' 5 3 = A 5 3 := by rw [hA, up_eq]; exact if_neg (by omega)
    obtain rfl : q = A 5 3 := by omega
    refine y_iload_n C D_X7_feedAll_2 rfl ?_
    refine y_aload_n C D_X7_feedAll_3 rfl ?_
    refine y_get C D_X7_feedAll_4 fl_X7_19 (hm_o hU) rfl ?_
    refine y_iconst C D_X7_feedAll_7 ki_3 ?_
    refine z_ild C D_X7_feedAll_8 (hm_st hU) (by omega) (by decide) rfl ?_
    refine y_icmp_ge C D_X7_feedAll_9 (n_le (by omega) (by omega)) (fun c_9 => ?_) (fun c_9 => absurd c_9 (by omega))
    exact y_vret C E D_X7_feedAll_28 (by rw [hA]; rfl)
  | succ n ih =>
    intro q A' hq hA
    have e3 : A' 5 3 = A 5 3 := by rw [hA, up_eq]; exact if_neg (by omega)
    have e5 : A' 5 = fallL (A 5) q := by rw [hA]; exact up_eq _ _ _
    refine y_iload_n C D_X7_feedAll_2 rfl ?_
    refine y_aload_n C D_X7_feedAll_3 rfl ?_
    refine y_get C D_X7_feedAll_4 fl_X7_19 (hm_o hU) rfl ?_
    refine y_iconst C D_X7_feedAll_7 ki_3 ?_
    refine z_ild C D_X7_feedAll_8 (hm_st hU) (by omega) (by decide) rfl ?_
    refine y_icmp_ge C D_X7_feedAll_9 (n_le (by omega) (by omega)) (fun c_9 => absurd c_9 (by omega)) (fun c_9 => ?_)
    refine y_aload_n C D_X7_feedAll_12 rfl ?_
    refine y_get C D_X7_feedAll_13 fl_X7_19 (hm_o hU) rfl ?_
    refine y_bipush C D_X7_feedAll_16 kb_11 ?_
    refine y_iload_n C D_X7_feedAll_18 rfl ?_
    refine z_iadd C D_X7_feedAll_19 ?_
    refine y_iconst C D_X7_feedAll_20 ki_1 ?_
    refine z_ist C D_X7_feedAll_21 (hm_st hU) (by omega) (by decide) (hm_wst hU _ _) ?_
    refine z_iinc (n := 1) C D_X7_feedAll_22 rfl (by decide) (qok_s rfl rfl) ?_
    refine y_goto C D_X7_feedAll_25 ?_
    exact ih (q + 1) _ (by omega) (by rw [e5, hA, bx_uu, fallL_step])
theorem c_X7_feedAll (hU : U.length = 122) (h3 : A 5 3 ≤ 5) : Ct l G yX7_feedAll 0 [qr G 122] (hm G U i A B) (none) (hm G U i (va_up A 5 (fall (A 5))) B) := by
  refine ctm_intro (maxL := 2) kw_X7_feedAll (by decide) (by decide) [some (qr G 122), none] rfl (Nat.le_of_ble_eq_true rfl) ?_
  intro X _ hcl hsl _ _ C E
  refine y_iconst C D_X7_feedAll_0 ki_0 ?_
  refine y_istore_n C D_X7_feedAll_1 (by decide) (qok_s rfl rfl) ?_
  exact lp_X7_feedAll hU h3 C E (A 5 3) 0 A (by omega) (by rw [fallL_0]; exact (up_id A 5).symm)
theorem lp_X7_dugIn {X : qX} {r : Option Value} {g fed : Nat} (hU : U.length = 122) (hV0 : Va (A 5)) (hg : g < 6) (hf : fed < 2) (C : qC X G cX7_dugIn 5 RX7 5) (E : qE X G (some .int) 0 0 r (hm G U i (asd A) B)) : ∀ (n k : Nat) (y : Nat → Nat) (A' : Nat → Nat → Nat), k + n = 40 → A' = va_up (asd A) 5 y → Va y → y 4 + n < 1999 → r = some (.int (dugR fed g n k y)) → Y X G 5 0 0 6 [some (qr G 122), some (.int (nI (g))), some (.int (nI (fed))), some (.int (nI (k))), none] [] (hm G U i A' B) := by
  intro n
  induction n with
  | zero =>
    intro k y A' hk hA hV h4 hr
    have e5 : A' 5 = y := by rw [hA]; exact up_eq _ _ _
    have v5 := hV.k64
    have e55 : A' 5 5 = y 5 := by rw [e5]
    have hb := asd_back hA hV0.far hV.far
    obtain rfl : k = 40 := by omega
    unfold dugR at hr
    refine y_iload_n C D_X7_dugIn_6 rfl ?_
    refine y_bipush C D_X7_dugIn_7 kb_40 ?_
    refine y_icmp_ge C D_X7_dugIn_9 (n_le (by omega) (by omega)) (fun c_9 => ?_) (fun c_9 => absurd c_9 (by decide))
    refine y_aload_n C D_X7_dugIn_43 rfl ?_
    refine y_get C D_X7_dugIn_44 fl_X7_19 (hm_o hU) rfl ?_
    refine y_iconst C D_X7_dugIn_47 ki_5 ?_
    refine z_ild C D_X7_dugIn_48 (hm_st hU) (by omega) (by decide) rfl ?_
    refine y_iload_n C D_X7_dugIn_49 rfl ?_
    refine z_callS C D_X7_dugIn_50 lk_X7_142 (c_X7_has (by omega) (by omega)) rfl rfl (Nat.le_of_ble_eq_true rfl) (Nat.le_of_ble_eq_true rfl) ⟨Nat.zero_le _, Nat.zero_le _⟩ ?_
    refine z_ifneB C D_X7_dugIn_53 (fun c_53 => ?_) (fun c_53 => ?_)
    · refine y_iconst C D_X7_dugIn_60 ki_0 ?_
      refine y_istore C D_X7_dugIn_61 (by decide) (qok_s rfl rfl) ?_
      refine y_aload_n C D_X7_dugIn_63 rfl ?_
      refine z_callVv C D_X7_dugIn_64 lk_X7_191 (c_X7_takeBack hU) (hm_o hU) rfl rfl (Nat.le_of_ble_eq_true rfl) (Nat.le_of_ble_eq_true rfl) ⟨Nat.zero_le _, Nat.zero_le _⟩ ?_
      refine y_iload C D_X7_dugIn_67 rfl ?_
      refine z_ifeq0 C D_X7_dugIn_69 ?_
      refine y_ldc C D_X7_dugIn_76 lk_X7_197 ?_
      exact y_iret C E D_X7_dugIn_78 (by rw [hr, if_pos (e55 ▸ c_53)]) (by rw [hb])
    · refine y_iconst C D_X7_dugIn_56 ki_1 ?_
      refine y_goto C D_X7_dugIn_57 ?_
      refine y_istore C D_X7_dugIn_61 (by decide) (qok_s rfl rfl) ?_
      refine y_aload_n C D_X7_dugIn_63 rfl ?_
      refine z_callVv C D_X7_dugIn_64 lk_X7_191 (c_X7_takeBack hU) (hm_o hU) rfl rfl (Nat.le_of_ble_eq_true rfl) (Nat.le_of_ble_eq_true rfl) ⟨Nat.zero_le _, Nat.zero_le _⟩ ?_
      refine y_iload C D_X7_dugIn_67 rfl ?_
      refine z_ifeq1 C D_X7_dugIn_69 ?_
      refine y_iload_n C D_X7_dugIn_72 rfl ?_
      refine y_goto C D_X7_dugIn_73 ?_
      exact y_iret C E D_X7_dugIn_78 (by rw [hr, if_neg (e55 ▸ c_53)]) (by rw [hb])
  | succ n ih =>
    intro k y A' hk hA hV h4 hr
    have e5 : A' 5 = y := by rw [hA]; exact up_eq _ _ _
    have v5 := hV.k64
    have v3 := hV.2.2.2.1
    have e55 : A' 5 5 = y 5 := by rw [e5]
    have e53 : A' 5 3 = y 3 := by rw [e5]
    have e54 : A' 5 4 = y 4 := by rw [e5]
    have hb := asd_back hA hV0.far hV.far
    have f4 : fall y 4 = y 4 := if_neg (by omega)
    unfold dugR at hr
    refine y_iload_n C D_X7_dugIn_6 rfl ?_
    refine y_bipush C D_X7_dugIn_7 kb_40 ?_
    refine y_icmp_ge C D_X7_dugIn_9 (n_le (by omega) (by omega)) (fun c_9 => absurd c_9 (by omega)) (fun c_9 => ?_)
    refine y_aload_n C D_X7_dugIn_12 rfl ?_
    refine y_get C D_X7_dugIn_13 fl_X7_19 (hm_o hU) rfl ?_
    refine y_iconst C D_X7_dugIn_16 ki_5 ?_
    refine z_ild C D_X7_dugIn_17 (hm_st hU) (by omega) (by decide) rfl ?_
    refine y_iload_n C D_X7_dugIn_18 rfl ?_
    refine z_callS C D_X7_dugIn_19 lk_X7_142 (c_X7_has (by omega) (by omega)) rfl rfl (Nat.le_of_ble_eq_true rfl) (Nat.le_of_ble_eq_true rfl) ⟨Nat.zero_le _, Nat.zero_le _⟩ ?_
    refine z_ifeqB C D_X7_dugIn_22 (fun c_22 => ?_) (fun c_22 => ?_)
    · refine y_aload_n C D_X7_dugIn_43 rfl ?_
      refine y_get C D_X7_dugIn_44 fl_X7_19 (hm_o hU) rfl ?_
      refine y_iconst C D_X7_dugIn_47 ki_5 ?_
      refine z_ild C D_X7_dugIn_48 (hm_st hU) (by omega) (by decide) rfl ?_
      refine y_iload_n C D_X7_dugIn_49 rfl ?_
      refine z_callS C D_X7_dugIn_50 lk_X7_142 (c_X7_has (by omega) (by omega)) rfl rfl (Nat.le_of_ble_eq_true rfl) (Nat.le_of_ble_eq_true rfl) ⟨Nat.zero_le _, Nat.zero_le _⟩ ?_
      refine z_ifneB C D_X7_dugIn_53 (fun c_53 => ?_) (fun c_53 => ?_)
      · refine y_iconst C D_X7_dugIn_60 ki_0 ?_
        refine y_istore C D_X7_dugIn_61 (by decide) (qok_s rfl rfl) ?_
        refine y_aload_n C D_X7_dugIn_63 rfl ?_
        refine z_callVv C D_X7_dugIn_64 lk_X7_191 (c_X7_takeBack hU) (hm_o hU) rfl rfl (Nat.le_of_ble_eq_true rfl) (Nat.le_of_ble_eq_true rfl) ⟨Nat.zero_le _, Nat.zero_le _⟩ ?_
        refine y_iload C D_X7_dugIn_67 rfl ?_
        refine z_ifeq0 C D_X7_dugIn_69 ?_
        refine y_ldc C D_X7_dugIn_76 lk_X7_197 ?_
        exact y_iret C E D_X7_dugIn_78 (absurd c_53 c_22) (by rw [hb])
      · refine y_iconst C D_X7_dugIn_56 ki_1 ?_
        refine y_goto C D_X7_dugIn_57 ?_
        refine y_istore C D_X7_dugIn_61 (by decide) (qok_s rfl rfl) ?_
        refine y_aload_n C D_X7_dugIn_63 rfl ?_
        refine z_callVv C D_X7_dugIn_64 lk_X7_191 (c_X7_takeBack hU) (hm_o hU) rfl rfl (Nat.le_of_ble_eq_true rfl) (Nat.le_of_ble_eq_true rfl) ⟨Nat.zero_le _, Nat.zero_le _⟩ ?_
        refine y_iload C D_X7_dugIn_67 rfl ?_
        refine z_ifeq1 C D_X7_dugIn_69 ?_
        refine y_iload_n C D_X7_dugIn_72 rfl ?_
        refine y_goto C D_X7_dugIn_73 ?_
        exact y_iret C E D_X7_dugIn_78 (by rw [hr, if_neg (e55 ▸ c_22)]) (by rw [hb])
    · refine y_iload_n C D_X7_dugIn_25 rfl ?_
      refine y_if_eq C D_X7_dugIn_26 (n_eq0 (by omega)) (fun c_26 => ?_) (fun c_26 => ?_)
      · refine y_aload_n C D_X7_dugIn_33 rfl ?_
        refine z_callVv C D_X7_dugIn_34 lk_X7_168 (c_X7_oneYear hU (by rw [e5]; exact hV) (by omega)) (hm_o hU) rfl rfl (Nat.le_of_ble_eq_true rfl) (Nat.le_of_ble_eq_true rfl) ⟨Nat.zero_le _, Nat.zero_le _⟩ ?_
        refine z_iinc (n := 1) C D_X7_dugIn_37 rfl (by decide) (qok_s rfl rfl) ?_
        refine y_goto C D_X7_dugIn_40 ?_
        exact ih (k + 1) (stp fed y) _ (by omega) (by rw [e5, hA, bx_uu, stp, if_pos c_26]) (hV.stp fed) (by rw [stp_4]; omega) (by rw [hr, if_pos (e55 ▸ c_22)])
      · refine y_aload_n C D_X7_dugIn_29 rfl ?_
        refine z_callVv C D_X7_dugIn_30 lk_X7_194 (c_X7_feedAll hU (by omega)) (hm_o hU) rfl rfl (Nat.le_of_ble_eq_true rfl) (Nat.le_of_ble_eq_true rfl) ⟨Nat.zero_le _, Nat.zero_le _⟩ ?_
        rw [e5]
        refine y_aload_n C D_X7_dugIn_33 rfl ?_
        refine z_callVv C D_X7_dugIn_34 lk_X7_168 (c_X7_oneYear hU (by rw [up_eq]; exact hV.fall) (by rw [up_eq, f4]; omega)) (hm_o hU) rfl rfl (Nat.le_of_ble_eq_true rfl) (Nat.le_of_ble_eq_true rfl) ⟨Nat.zero_le _, Nat.zero_le _⟩ ?_
        refine z_iinc (n := 1) C D_X7_dugIn_37 rfl (by decide) (qok_s rfl rfl) ?_
        refine y_goto C D_X7_dugIn_40 ?_
        exact ih (k + 1) (stp fed y) _ (by omega) (by rw [up_eq, hA, bx_uu, bx_uu, stp, if_neg c_26]) (hV.stp fed) (by rw [stp_4]; omega) (by rw [hr, if_pos (e55 ▸ c_22)])
theorem c_X7_dugIn (hU : U.length = 122) {g fed : Nat} (hV : Va (A 5)) (h4 : A 5 4 ≤ 999) (hg : g < 6) (hf : fed < 2) : Ct l G yX7_dugIn 5 [qr G 122, .int (nI g), .int (nI fed)] (hm G U i A B) (some (.int (dugR fed g 40 0 (A 5)))) (hm G U i (asd A) B) := by
  refine ctm_intro (maxL := 5) kw_X7_dugIn (by decide) (by decide) [some (qr G 122), some (.int (nI g)), some (.int (nI fed)), none, none] rfl (Nat.le_of_ble_eq_true rfl) ?_
  intro X _ hcl hsl _ _ C E
  refine y_aload_n C D_X7_dugIn_0 rfl ?_
  refine z_callVv C D_X7_dugIn_1 lk_X7_188 (c_X7_putAside hU) (hm_o hU) rfl rfl (Nat.le_of_ble_eq_true rfl) (Nat.le_of_ble_eq_true rfl) ⟨Nat.zero_le _, Nat.zero_le _⟩ ?_
  refine y_iconst C D_X7_dugIn_4 ki_0 ?_
  refine y_istore_n C D_X7_dugIn_5 (by decide) (qok_s rfl rfl) ?_
  exact lp_X7_dugIn hU hV hg hf C E 40 0 (A 5) _ rfl (by rw [← asd_5 A]; exact (up_id (asd A) 5).symm) hV (by omega) rfl
theorem c_X7_dugS (hU : U.length = 122) {x0 : Int32} (ht : i 4 = 0) : Ct l G yX7_dug 6 [qr G 122, .int x0] (hm G U i A B) (some (.int (-1000002))) (hm G U i A B) := by
  refine ctm_intro (maxL := 2) kw_X7_dug (by decide) (by decide) [some (qr G 122), some (.int x0)] rfl (Nat.le_of_ble_eq_true rfl) ?_
  intro X _ hcl hsl _ _ C E
  refine y_aload_n C D_X7_dug_0 rfl ?_
  refine y_get C D_X7_dug_1 fl_X7_135 (hm_o hU) rfl ?_
  refine y_if_ne C D_X7_dug_4 (n_eq0 (by omega)) (fun c_4 => absurd ht c_4) (fun c_4 => ?_)
  refine y_ldc C D_X7_dug_7 lk_X7_162 ?_
  exact y_iret C E D_X7_dug_9 (rfl) (rfl)
theorem c_X7_dugB (hU : U.length = 122) (h0 : A 5 0 ≤ 6) {x : Int32} (ht : i 4 = 1) (hx : ¬ isx x (A 5 0)) : Ct l G yX7_dug 6 [qr G 122, .int x] (hm G U i A B) (some (.int (-1000001))) (hm G U i A B) := by
  refine ctm_intro (maxL := 2) kw_X7_dug (by decide) (by decide) [some (qr G 122), some (.int x)] rfl (Nat.le_of_ble_eq_true rfl) ?_
  intro X _ hcl hsl _ _ C E
  refine y_aload_n C D_X7_dug_0 rfl ?_
  refine y_get C D_X7_dug_1 fl_X7_135 (hm_o hU) rfl ?_
  refine y_if_ne C D_X7_dug_4 (n_eq0 (by omega)) (fun c_4 => ?_) (fun c_4 => absurd c_4 (by omega))
  refine y_aload_n C D_X7_dug_10 rfl ?_
  refine y_iload_n C D_X7_dug_11 rfl ?_
  refine z_callV C D_X7_dug_12 lk_X7_180 (c_X7_isGrave hU (by omega)) (hm_o hU) rfl rfl (Nat.le_of_ble_eq_true rfl) (Nat.le_of_ble_eq_true rfl) ⟨Nat.zero_le _, Nat.zero_le _⟩ ?_
  refine z_ifeqB C D_X7_dug_15 (fun c_15 => ?_) (fun c_15 => absurd c_15 hx)
  refine y_ldc C D_X7_dug_27 lk_X7_67 ?_
  exact y_iret C E D_X7_dug_29 (rfl) (rfl)
theorem c_X7_dug (hU : U.length = 122) {g : Nat} (ht : i 4 = 1) (hV : Va (A 5)) (h4 : A 5 4 ≤ 999) (hg : g < A 5 0) : Ct l G yX7_dug 6 [qr G 122, .int (nI g)] (hm G U i A B) (some (.int (dugR 0 g 40 0 (A 5)))) (hm G U i (asd A) B) := by
  refine ctm_intro (maxL := 2) kw_X7_dug (by decide) (by decide) [some (qr G 122), some (.int (nI g))] rfl (Nat.le_of_ble_eq_true rfl) ?_
  intro X _ hcl hsl _ _ C E
  have v0 := hV.1
  refine y_aload_n C D_X7_dug_0 rfl ?_
  refine y_get C D_X7_dug_1 fl_X7_135 (hm_o hU) rfl ?_
  refine y_if_ne C D_X7_dug_4 (n_eq0 (by omega)) (fun c_4 => ?_) (fun c_4 => absurd c_4 (by omega))
  refine y_aload_n C D_X7_dug_10 rfl ?_
  refine y_iload_n C D_X7_dug_11 rfl ?_
  refine z_callV C D_X7_dug_12 lk_X7_180 (c_X7_isGrave hU (by omega)) (hm_o hU) rfl rfl (Nat.le_of_ble_eq_true rfl) (Nat.le_of_ble_eq_true rfl) ⟨Nat.zero_le _, Nat.zero_le _⟩ ?_
  refine z_ifeqB C D_X7_dug_15 (fun c_15 => absurd (isx_n (by omega) hg) c_15) (fun c_15 => ?_)
  refine y_aload_n C D_X7_dug_18 rfl ?_
  refine y_iload_n C D_X7_dug_19 rfl ?_
  refine y_iconst C D_X7_dug_20 ki_0 ?_
  refine z_callV C D_X7_dug_21 lk_X7_198 (c_X7_dugIn hU hV h4 (by omega) (by decide)) (hm_o hU) rfl rfl (Nat.le_of_ble_eq_true rfl) (Nat.le_of_ble_eq_true rfl) ⟨Nat.zero_le _, Nat.zero_le _⟩ ?_
  refine y_goto C D_X7_dug_24 ?_
  exact y_iret C E D_X7_dug_29 (rfl) (rfl)
theorem c_X7_boundS (hU : U.length = 122) {x0 : Int32} (ht : i 4 = 0) : Ct l G yX7_bound 6 [qr G 122, .int x0] (hm G U i A B) (some (.int (-1000002))) (hm G U i A B) := by
  refine ctm_intro (maxL := 2) kw_X7_bound (by decide) (by decide) [some (qr G 122), some (.int x0)] rfl (Nat.le_of_ble_eq_true rfl) ?_
  intro X _ hcl hsl _ _ C E
  refine y_aload_n C D_X7_bound_0 rfl ?_
  refine y_get C D_X7_bound_1 fl_X7_135 (hm_o hU) rfl ?_
  refine y_if_ne C D_X7_bound_4 (n_eq0 (by omega)) (fun c_4 => absurd ht c_4) (fun c_4 => ?_)
  refine y_ldc C D_X7_bound_7 lk_X7_162 ?_
  exact y_iret C E D_X7_bound_9 (rfl) (rfl)
theorem c_X7_boundB (hU : U.length = 122) (h0 : A 5 0 ≤ 6) {x : Int32} (ht : i 4 = 1) (hx : ¬ isx x (A 5 0)) : Ct l G yX7_bound 6 [qr G 122, .int x] (hm G U i A B) (some (.int (-1000001))) (hm G U i A B) := by
  refine ctm_intro (maxL := 2) kw_X7_bound (by decide) (by decide) [some (qr G 122), some (.int x)] rfl (Nat.le_of_ble_eq_true rfl) ?_
  intro X _ hcl hsl _ _ C E
  refine y_aload_n C D_X7_bound_0 rfl ?_
  refine y_get C D_X7_bound_1 fl_X7_135 (hm_o hU) rfl ?_
  refine y_if_ne C D_X7_bound_4 (n_eq0 (by omega)) (fun c_4 => ?_) (fun c_4 => absurd c_4 (by omega))
  refine y_aload_n C D_X7_bound_10 rfl ?_
  refine y_iload_n C D_X7_bound_11 rfl ?_
  refine z_callV C D_X7_bound_12 lk_X7_180 (c_X7_isGrave hU (by omega)) (hm_o hU) rfl rfl (Nat.le_of_ble_eq_true rfl) (Nat.le_of_ble_eq_true rfl) ⟨Nat.zero_le _, Nat.zero_le _⟩ ?_
  refine z_ifeqB C D_X7_bound_15 (fun c_15 => ?_) (fun c_15 => absurd c_15 hx)
  refine y_ldc C D_X7_bound_27 lk_X7_67 ?_
  exact y_iret C E D_X7_bound_29 (rfl) (rfl)
theorem c_X7_bound (hU : U.length = 122) {g : Nat} (ht : i 4 = 1) (hV : Va (A 5)) (h4 : A 5 4 ≤ 999) (hg : g < A 5 0) : Ct l G yX7_bound 6 [qr G 122, .int (nI g)] (hm G U i A B) (some (.int (dugR 1 g 40 0 (A 5)))) (hm G U i (asd A) B) := by
  refine ctm_intro (maxL := 2) kw_X7_bound (by decide) (by decide) [some (qr G 122), some (.int (nI g))] rfl (Nat.le_of_ble_eq_true rfl) ?_
  intro X _ hcl hsl _ _ C E
  have v0 := hV.1
  refine y_aload_n C D_X7_bound_0 rfl ?_
  refine y_get C D_X7_bound_1 fl_X7_135 (hm_o hU) rfl ?_
  refine y_if_ne C D_X7_bound_4 (n_eq0 (by omega)) (fun c_4 => ?_) (fun c_4 => absurd c_4 (by omega))
  refine y_aload_n C D_X7_bound_10 rfl ?_
  refine y_iload_n C D_X7_bound_11 rfl ?_
  refine z_callV C D_X7_bound_12 lk_X7_180 (c_X7_isGrave hU (by omega)) (hm_o hU) rfl rfl (Nat.le_of_ble_eq_true rfl) (Nat.le_of_ble_eq_true rfl) ⟨Nat.zero_le _, Nat.zero_le _⟩ ?_
  refine z_ifeqB C D_X7_bound_15 (fun c_15 => absurd (isx_n (by omega) hg) c_15) (fun c_15 => ?_)
  refine y_aload_n C D_X7_bound_18 rfl ?_
  refine y_iload_n C D_X7_bound_19 rfl ?_
  refine y_iconst C D_X7_bound_20 ki_1 ?_
  refine z_callV C D_X7_bound_21 lk_X7_198 (c_X7_dugIn hU hV h4 (by omega) (by decide)) (hm_o hU) rfl rfl (Nat.le_of_ble_eq_true rfl) (Nat.le_of_ble_eq_true rfl) ⟨Nat.zero_le _, Nat.zero_le _⟩ ?_
  refine y_goto C D_X7_bound_24 ?_
  exact y_iret C E D_X7_bound_29 (rfl) (rfl)
end
