section
variable {l : Launch} {G : qG} {U : List va_E} {i : Nat → Nat} {A : Nat → Nat → Nat} {B : Nat → Nat → Int32} {h : List va_E}
theorem c_X7_yardB (hU : U.length = 122) (h8 : i 8 ≤ 120) (ht : ∀ k, A 7 k < 256) {q : PS} (hq : q = ps (A 7) (i 8) (i 14) (va_cpy (fun _ => 0) (A 15) 0 0 51)) (hb : ¬ q.1 = true) : Ct l G yX7_yard 6 [qr G 122] (hm G U i A B) (some (.int (-1000100 - nI q.2.1))) (hm G U (va_up (va_up (tokS (va_up i 14 q.2.2.2) (A 7) (i 8) q.2.1) 8 0) 9 q.2.2.2) (va_up A 15 q.2.2.1) B) := by
  refine ctm_intro (maxL := 3) kw_X7_yard (by decide) (by decide) [some (qr G 122), none, none] rfl (Nat.le_of_ble_eq_true rfl) ?_
  intro X _ hcl hsl _ _ C E
  have R := c_X7_readYard (l := X.2.1) (G := G) (U := U) (i := i) (A := A) (B := B) hU h8 ht
  rw [← hq] at R
  refine y_aload_n C D_X7_yard_0 rfl ?_
  refine z_callV C D_X7_yard_1 lk_X7_127 (R) (hm_o hU) rfl rfl (Nat.le_of_ble_eq_true rfl) (Nat.le_of_ble_eq_true rfl) ⟨Nat.zero_le _, Nat.zero_le _⟩ ?_
  refine y_istore_n C D_X7_yard_4 (by decide) (qok_s rfl rfl) ?_
  have w14 : tokS (va_up i 14 q.2.2.2) (A 7) (i 8) q.2.1 14 = q.2.2.2 := by rw [tokS_o (by omega), up_eq]
  refine y_aload_n C D_X7_yard_5 rfl ?_
  refine y_iconst C D_X7_yard_6 ki_0 ?_
  refine y_put C D_X7_yard_7 fl_X7_81 (hm_o hU) (Nat.le_of_ble_eq_true rfl) rfl rfl (hm_pbytes hU _) ?_
  refine y_iload_n C D_X7_yard_10 rfl ?_
  refine z_ifneB C D_X7_yard_11 (fun c_11 => absurd c_11 hb) (fun c_11 => ?_)
  refine y_aload_n C D_X7_yard_14 rfl ?_
  refine y_aload_n C D_X7_yard_15 rfl ?_
  refine y_get C D_X7_yard_16 fl_X7_105 (hm_o hU) rfl ?_
  rw [up_ne _ _ (by decide), w14]
  refine y_put C D_X7_yard_19 fl_X7_131 (hm_o hU) (Nat.le_of_ble_eq_true rfl) rfl rfl (hm_platest hU _) ?_
  refine y_ldc C D_X7_yard_22 lk_X7_134 ?_
  refine y_aload_n C D_X7_yard_24 rfl ?_
  refine y_get C D_X7_yard_25 fl_X7_88 (hm_o hU) rfl ?_
  rw [up_ne _ _ (by decide), up_ne _ _ (by decide), tokS_13]
  refine y_isub C D_X7_yard_28 ?_
  exact y_iret C E D_X7_yard_29 (rfl) (rfl)
theorem lp_X7_yard {X : qX} {q : PS} {i : Nat → Nat} (hU : U.length = 122) (C : qC X G cX7_yard 3 RX7 6) (K : Y X G 3 0 0 56 [some (qr G 122), some (.int (bI (q.1 = true))), none] [] (hm G U i (va_up (va_up A 15 q.2.2.1) 5 (va_cpy (q.2.2.1) (A 5) 0 0 51)) B)) : ∀ (m k : Nat) (A' : Nat → Nat → Nat), k + m = 51 → A' = va_up (va_up A 15 q.2.2.1) 5 (va_cpy (q.2.2.1) (A 5) 0 0 k) → Y X G 3 0 0 32 [some (qr G 122), some (.int (bI (q.1 = true))), some (.int (nI (k)))] [] (hm G U i A' B) := by
  intro m
  induction m with
  | zero =>
    intro k A' hk hA
    obtain rfl : k = 51 := by omega
    refine y_iload_n C D_X7_yard_32 rfl ?_
    refine y_bipush C D_X7_yard_33 kb_51 ?_
    refine y_icmp_ge C D_X7_yard_35 (n_le (by omega) (by omega)) (fun c_35 => ?_) (fun c_35 => absurd (Nat.le_refl _) c_35)
    refine y_fg 2 ?_
    rw [hA]
    exact K
  | succ m ih =>
    intro k A' hk hA
    have e5 : A' 5 = va_cpy (q.2.2.1) (A 5) 0 0 k := by rw [hA]; exact up_eq _ _ _
    have e15 : A' 15 = q.2.2.1 := by rw [hA, up_ne _ _ (by decide)]; exact up_eq _ _ _
    have es := cpy_step (q.2.2.1) (A 5) 0 0 k
    rw [Nat.zero_add] at es
    refine y_iload_n C D_X7_yard_32 rfl ?_
    refine y_bipush C D_X7_yard_33 kb_51 ?_
    refine y_icmp_ge C D_X7_yard_35 (n_le (by omega) (by omega)) (fun c_35 => absurd c_35 (by omega)) (fun c_35 => ?_)
    refine y_aload_n C D_X7_yard_38 rfl ?_
    refine y_get C D_X7_yard_39 fl_X7_19 (hm_o hU) rfl ?_
    refine y_iload_n C D_X7_yard_42 rfl ?_
    refine y_aload_n C D_X7_yard_43 rfl ?_
    refine y_get C D_X7_yard_44 fl_X7_28 (hm_o hU) rfl ?_
    refine y_iload_n C D_X7_yard_47 rfl ?_
    refine z_ild C D_X7_yard_48 (hm_read hU) (by omega) (by decide) rfl ?_
    refine z_ist C D_X7_yard_49 (hm_st hU) (by omega) (by decide) (hm_wst hU _ _) ?_
    refine z_iinc (n := 1) C D_X7_yard_50 rfl (by decide) (qok_s rfl rfl) ?_
    refine y_goto C D_X7_yard_53 ?_
    exact ih (k + 1) _ (by omega) (by rw [e5, e15, hA, bx_uu]; exact congrArg (va_up (va_up A 15 q.2.2.1) 5) es)
theorem c_X7_yard (hU : U.length = 122) (h8 : i 8 ≤ 120) (ht : ∀ k, A 7 k < 256) {q : PS} (hq : q = ps (A 7) (i 8) (i 14) (va_cpy (fun _ => 0) (A 15) 0 0 51)) (hb : q.1 = true) (h0 : q.2.2.1 0 ≤ 6) : Ct l G yX7_yard 6 [qr G 122] (hm G U i A B) (some (.int (nI (q.2.2.1 3)))) (hm G U (va_up (va_up (va_up (tokS (va_up i 14 q.2.2.2) (A 7) (i 8) q.2.1) 8 0) 4 1) 17 0) (va_up (va_up A 15 q.2.2.1) 5 (va_up (va_cpy (q.2.2.1) (A 5) 0 0 51) 5 (2 ^ q.2.2.1 0 - 1))) B) := by
  refine ctm_intro (maxL := 3) kw_X7_yard (by decide) (by decide) [some (qr G 122), none, none] rfl (Nat.le_of_ble_eq_true rfl) ?_
  intro X _ hcl hsl _ _ C E
  have R := c_X7_readYard (l := X.2.1) (G := G) (U := U) (i := i) (A := A) (B := B) hU h8 ht
  rw [← hq] at R
  refine y_aload_n C D_X7_yard_0 rfl ?_
  refine z_callV C D_X7_yard_1 lk_X7_127 (R) (hm_o hU) rfl rfl (Nat.le_of_ble_eq_true rfl) (Nat.le_of_ble_eq_true rfl) ⟨Nat.zero_le _, Nat.zero_le _⟩ ?_
  refine y_istore_n C D_X7_yard_4 (by decide) (qok_s rfl rfl) ?_
  refine y_aload_n C D_X7_yard_5 rfl ?_
  refine y_iconst C D_X7_yard_6 ki_0 ?_
  refine y_put C D_X7_yard_7 fl_X7_81 (hm_o hU) (Nat.le_of_ble_eq_true rfl) rfl rfl (hm_pbytes hU _) ?_
  refine y_iload_n C D_X7_yard_10 rfl ?_
  refine z_ifneB C D_X7_yard_11 (fun c_11 => ?_) (fun c_11 => absurd hb c_11)
  refine y_iconst C D_X7_yard_30 ki_0 ?_
  refine y_istore_n C D_X7_yard_31 (by decide) (qok_s rfl rfl) ?_
  refine lp_X7_yard hU C ?_ 51 0 _ (by omega) (by rw [cpy_0]; exact (up_id (va_up A 15 q.2.2.1) 5).symm)
  refine y_aload_n C D_X7_yard_56 rfl ?_
  refine y_get C D_X7_yard_57 fl_X7_19 (hm_o hU) rfl ?_
  refine y_iconst C D_X7_yard_60 ki_5 ?_
  refine y_iconst C D_X7_yard_61 ki_1 ?_
  refine y_aload_n C D_X7_yard_62 rfl ?_
  refine y_get C D_X7_yard_63 fl_X7_19 (hm_o hU) rfl ?_
  refine y_iconst C D_X7_yard_66 ki_0 ?_
  refine z_ild C D_X7_yard_67 (hm_st hU) (by omega) (by decide) rfl ?_
  have s0 : va_up (va_up A 15 q.2.2.1) 5 (va_cpy (q.2.2.1) (A 5) 0 0 51) 5 0 = q.2.2.1 0 := by rw [up_eq, va_cpy, if_pos (by decide)]
  have hp := Nat.one_le_two_pow (n := q.2.2.1 0)
  rw [s0]
  refine z_ishl1 C D_X7_yard_68 (by omega) ?_
  refine y_iconst C D_X7_yard_69 ki_1 ?_
  refine z_isub C D_X7_yard_70 (by omega) ?_
  refine z_ist C D_X7_yard_71 (hm_st hU) (by omega) (by decide) (hm_wst hU _ _) ?_
  refine y_aload_n C D_X7_yard_72 rfl ?_
  refine y_iconst C D_X7_yard_73 ki_1 ?_
  refine y_put C D_X7_yard_74 fl_X7_135 (hm_o hU) (Nat.le_of_ble_eq_true rfl) rfl rfl (hm_pisThere hU _) ?_
  refine y_aload_n C D_X7_yard_77 rfl ?_
  refine y_iconst C D_X7_yard_78 ki_0 ?_
  refine y_put C D_X7_yard_79 fl_X7_139 (hm_o hU) (Nat.le_of_ble_eq_true rfl) rfl rfl (hm_pactMany hU _) ?_
  refine y_aload_n C D_X7_yard_82 rfl ?_
  refine y_get C D_X7_yard_83 fl_X7_19 (hm_o hU) rfl ?_
  refine y_iconst C D_X7_yard_86 ki_3 ?_
  refine z_ild C D_X7_yard_87 (hm_st hU) (by omega) (by decide) rfl ?_
  rw [bx_uu, up_eq, up_ne _ _ (by decide), up_eq, va_cpy, if_pos (by decide)]
  exact y_iret C E D_X7_yard_88 (rfl) (rfl)
end
