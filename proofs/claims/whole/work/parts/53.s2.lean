section
variable {l : Launch} {G : qG} {h : List va_E} {y w : Nat → Nat} {fw : Nat}
theorem lp_X3_dug {X : qX} {g fed : Nat} (h89 : 89 + 2 < h.length) (hg : g < 6) (hf : fed < 2) (C : qC X G cX3_yearsTillDug 6 RX3 5) : ∀ (n k : Nat) (z : Nat → Nat), k + n = 40 → Va z → z 4 + n ≤ 1999 → qE X G (some .int) 0 0 (some (.int (dugR fed g n k z))) (yc G h 89 (dugY fed g n z)) → Y X G 6 0 0 10 [some (qr G 85), some (qr G 7), some (.int (nI (g))), some (.int (nI (fed))), some (qr G 89), some (.int (nI (k)))] [] (yc G h 89 z) := by
  intro n
  induction n with
  | zero =>
    intro k z hk hz h4 E
    have v5 := hz.k64
    have v3 := hz.2.2.2.1
    have hpw := pow_lt32 v3.2
    obtain rfl : k = 40 := by omega
    unfold dugR dugY at E
    refine y_iload C D_X3_yearsTillDug_10 rfl ?_
    refine y_bipush C D_X3_yearsTillDug_12 kb_40 ?_
    refine y_icmp_gt C D_X3_yearsTillDug_14 (n_lt (by omega) (by omega)) (fun c_14 => absurd c_14 (by omega)) (fun c_14 => ?_)
    refine y_aload C D_X3_yearsTillDug_17 rfl ?_
    refine y_get C D_X3_yearsTillDug_19 fl_X3_36 (yc_o h89) rfl ?_
    refine y_iload_n C D_X3_yearsTillDug_22 rfl ?_
    refine z_callSN C D_X3_yearsTillDug_23 lk_X3_40 (c_X6_hasBit (by omega) (by omega)) rfl rfl (Nat.le_of_ble_eq_true rfl) (Nat.le_of_ble_eq_true rfl) ⟨Nat.zero_le _, Nat.zero_le _⟩ ?_
    refine z_ifneB C D_X3_yearsTillDug_26 (fun c_26 => ?_) (fun c_26 => ?_)
    · refine y_iload_n C D_X3_yearsTillDug_32 rfl ?_
      refine y_if_eq C D_X3_yearsTillDug_33 (n_eq0 (by omega)) (fun c_33 => ?_) (fun c_33 => ?_)
      · refine y_aload C D_X3_yearsTillDug_51 rfl ?_
        refine z_callVv C D_X3_yearsTillDug_53 lk_X3_33 (c_X5_pass h89 hz (by omega)) (yc_o h89) rfl rfl (Nat.le_of_ble_eq_true rfl) (Nat.le_of_ble_eq_true rfl) ⟨Nat.zero_le _, Nat.zero_le _⟩ ?_
        refine z_iinc (n := 1) C D_X3_yearsTillDug_56 rfl (by decide) (qok_s rfl rfl) ?_
        refine y_goto C D_X3_yearsTillDug_59 ?_
        rw [if_pos c_26, if_pos c_26, show stp fed z = yr z from if_pos c_33] at E
        refine y_iload C D_X3_yearsTillDug_10 rfl ?_
        refine y_bipush C D_X3_yearsTillDug_12 kb_40 ?_
        refine y_icmp_gt C D_X3_yearsTillDug_14 (n_lt (by omega) (by omega)) (fun c_14 => ?_) (fun c_14 => absurd (by omega) c_14)
        refine y_ldc C D_X3_yearsTillDug_62 lk_X3_54 ?_
        exact y_iret C E D_X3_yearsTillDug_64 (rfl) (rfl)
      · refine y_aload C D_X3_yearsTillDug_36 rfl ?_
        refine y_aload C D_X3_yearsTillDug_38 rfl ?_
        refine y_get C D_X3_yearsTillDug_40 fl_X3_44 (yc_o h89) rfl ?_
        refine z_callSN C D_X3_yearsTillDug_43 lk_X3_47 (c_X6_bit (by omega)) rfl rfl (Nat.le_of_ble_eq_true rfl) (Nat.le_of_ble_eq_true rfl) ⟨Nat.zero_le _, Nat.zero_le _⟩ ?_
        refine y_iconst C D_X3_yearsTillDug_46 ki_1 ?_
        refine z_isub C D_X3_yearsTillDug_47 (by omega) ?_
        refine y_put C D_X3_yearsTillDug_48 fl_X3_51 (yc_o h89) (Nat.le_of_ble_eq_true rfl) rfl rfl (yc_psuppers hpw.1) ?_
        rw [yc_c (fun k _ => fall_sS hz (k := k))]
        refine y_aload C D_X3_yearsTillDug_51 rfl ?_
        refine z_callVv C D_X3_yearsTillDug_53 lk_X3_33 (c_X5_pass h89 hz.fall (by rw [show fall z 4 = z 4 from if_neg (by omega)]; omega)) (yc_o h89) rfl rfl (Nat.le_of_ble_eq_true rfl) (Nat.le_of_ble_eq_true rfl) ⟨Nat.zero_le _, Nat.zero_le _⟩ ?_
        refine z_iinc (n := 1) C D_X3_yearsTillDug_56 rfl (by decide) (qok_s rfl rfl) ?_
        refine y_goto C D_X3_yearsTillDug_59 ?_
        rw [if_pos c_26, if_pos c_26, show stp fed z = yr (fall z) from if_neg c_33] at E
        refine y_iload C D_X3_yearsTillDug_10 rfl ?_
        refine y_bipush C D_X3_yearsTillDug_12 kb_40 ?_
        refine y_icmp_gt C D_X3_yearsTillDug_14 (n_lt (by omega) (by omega)) (fun c_14 => ?_) (fun c_14 => absurd (by omega) c_14)
        refine y_ldc C D_X3_yearsTillDug_62 lk_X3_54 ?_
        exact y_iret C E D_X3_yearsTillDug_64 (rfl) (rfl)
    · refine y_iload C D_X3_yearsTillDug_29 rfl ?_
      exact y_iret C E D_X3_yearsTillDug_31 (by rw [if_neg c_26]) (by rw [if_neg c_26])
  | succ n ih =>
    intro k z hk hz h4 E
    have v5 := hz.k64
    have v3 := hz.2.2.2.1
    have hpw := pow_lt32 v3.2
    unfold dugR dugY at E
    refine y_iload C D_X3_yearsTillDug_10 rfl ?_
    refine y_bipush C D_X3_yearsTillDug_12 kb_40 ?_
    refine y_icmp_gt C D_X3_yearsTillDug_14 (n_lt (by omega) (by omega)) (fun c_14 => absurd c_14 (by omega)) (fun c_14 => ?_)
    refine y_aload C D_X3_yearsTillDug_17 rfl ?_
    refine y_get C D_X3_yearsTillDug_19 fl_X3_36 (yc_o h89) rfl ?_
    refine y_iload_n C D_X3_yearsTillDug_22 rfl ?_
    refine z_callSN C D_X3_yearsTillDug_23 lk_X3_40 (c_X6_hasBit (by omega) (by omega)) rfl rfl (Nat.le_of_ble_eq_true rfl) (Nat.le_of_ble_eq_true rfl) ⟨Nat.zero_le _, Nat.zero_le _⟩ ?_
    refine z_ifneB C D_X3_yearsTillDug_26 (fun c_26 => ?_) (fun c_26 => ?_)
    · refine y_iload_n C D_X3_yearsTillDug_32 rfl ?_
      refine y_if_eq C D_X3_yearsTillDug_33 (n_eq0 (by omega)) (fun c_33 => ?_) (fun c_33 => ?_)
      · refine y_aload C D_X3_yearsTillDug_51 rfl ?_
        refine z_callVv C D_X3_yearsTillDug_53 lk_X3_33 (c_X5_pass h89 hz (by omega)) (yc_o h89) rfl rfl (Nat.le_of_ble_eq_true rfl) (Nat.le_of_ble_eq_true rfl) ⟨Nat.zero_le _, Nat.zero_le _⟩ ?_
        refine z_iinc (n := 1) C D_X3_yearsTillDug_56 rfl (by decide) (qok_s rfl rfl) ?_
        refine y_goto C D_X3_yearsTillDug_59 ?_
        rw [if_pos c_26, if_pos c_26, show stp fed z = yr z from if_pos c_33] at E
        exact ih (k + 1) _ (by omega) hz.yr (by rw [yr_4]; omega) E
      · refine y_aload C D_X3_yearsTillDug_36 rfl ?_
        refine y_aload C D_X3_yearsTillDug_38 rfl ?_
        refine y_get C D_X3_yearsTillDug_40 fl_X3_44 (yc_o h89) rfl ?_
        refine z_callSN C D_X3_yearsTillDug_43 lk_X3_47 (c_X6_bit (by omega)) rfl rfl (Nat.le_of_ble_eq_true rfl) (Nat.le_of_ble_eq_true rfl) ⟨Nat.zero_le _, Nat.zero_le _⟩ ?_
        refine y_iconst C D_X3_yearsTillDug_46 ki_1 ?_
        refine z_isub C D_X3_yearsTillDug_47 (by omega) ?_
        refine y_put C D_X3_yearsTillDug_48 fl_X3_51 (yc_o h89) (Nat.le_of_ble_eq_true rfl) rfl rfl (yc_psuppers hpw.1) ?_
        rw [yc_c (fun k _ => fall_sS hz (k := k))]
        refine y_aload C D_X3_yearsTillDug_51 rfl ?_
        refine z_callVv C D_X3_yearsTillDug_53 lk_X3_33 (c_X5_pass h89 hz.fall (by rw [show fall z 4 = z 4 from if_neg (by omega)]; omega)) (yc_o h89) rfl rfl (Nat.le_of_ble_eq_true rfl) (Nat.le_of_ble_eq_true rfl) ⟨Nat.zero_le _, Nat.zero_le _⟩ ?_
        refine z_iinc (n := 1) C D_X3_yearsTillDug_56 rfl (by decide) (qok_s rfl rfl) ?_
        refine y_goto C D_X3_yearsTillDug_59 ?_
        rw [if_pos c_26, if_pos c_26, show stp fed z = yr (fall z) from if_neg c_33] at E
        exact ih (k + 1) _ (by omega) hz.fall.yr (by rw [yr_4, show fall z 4 = z 4 from if_neg (by omega)]; omega) E
    · refine y_iload C D_X3_yearsTillDug_29 rfl ?_
      exact y_iret C E D_X3_yearsTillDug_31 (by rw [if_neg c_26]) (by rw [if_neg c_26])
theorem c_X3_yearsTillDug (hP : h[85]? = some (scl G fw)) (hQ : h[88]? = some (qY G 3 (sfY G))) (hs0 : Yat G h 89 w) (hy : Yat G h 7 y) (hV : Va y) (h4 : y 4 ≤ 999) {g fed : Nat} (hg : g < 6) (hf : fed < 2) : Ct l G yX3_yearsTillDug 5 [qr G 85, qr G 7, .int (nI g), .int (nI fed)] (h) (some (.int (dugR fed g 40 0 y))) (yc G h 89 (dugY fed g 40 y)) := by
  refine ctm_intro (maxL := 6) kw_X3_yearsTillDug (by decide) (by decide) [some (qr G 85), some (qr G 7), some (.int (nI g)), some (.int (nI fed)), none, none] rfl (Nat.le_of_ble_eq_true rfl) ?_
  intro X _ hcl hsl _ _ C E
  refine y_aload_n C D_X3_yearsTillDug_0 rfl ?_
  refine y_aload_n C D_X3_yearsTillDug_1 rfl ?_
  refine z_callV C D_X3_yearsTillDug_2 lk_X3_29 (c_X3_copyOf hP hQ hs0 hy hV) hP rfl rfl (Nat.le_of_ble_eq_true rfl) (Nat.le_of_ble_eq_true rfl) ⟨Nat.zero_le _, Nat.zero_le _⟩ ?_
  refine y_astore C D_X3_yearsTillDug_5 (by decide) (qok_s rfl rfl) ?_
  refine y_iconst C D_X3_yearsTillDug_7 ki_0 ?_
  refine y_istore C D_X3_yearsTillDug_8 (by decide) (qok_s rfl rfl) ?_
  exact lp_X3_dug hs0.lt hg hf C 40 0 y (by omega) hV (by omega) E
end
