section
variable {l : Launch} {G : qG} {U : List va_E} {i : Nat → Nat} {A : Nat → Nat → Nat} {B : Nat → Nat → Int32} {h : List va_E}
theorem lp_X7_putAside_2 {X : qX} (hU : U.length = 122)  (C : qC X G cX7_putAside 2 RX7 0) (K : Y X G 2 0 0 26 [some (qr G 122), none] [] (hm G U i (va_up A 18 (va_cpy (A 5) (A 18) (0) (0) (51))) B)) : ∀ (n k : Nat) (A' : Nat → Nat → Nat), k + n = 51 → A' = va_up A 18 (va_cpy (A 5) (A 18) (0) (0) (k)) → Y X G 2 0 0 2 [some (qr G 122), some (.int (nI (k)))] [] (hm G U i A' B) := by
  intro n
  induction n with
  | zero =>
    intro k A' hk hA
    obtain rfl : k = 51 := by omega
    refine y_iload_n C D_X7_putAside_2 rfl ?_
    refine y_bipush C D_X7_putAside_3 kb_51 ?_
    refine y_icmp_ge C D_X7_putAside_5 (n_le (by omega) (by omega)) (fun c_5 => ?_) (fun c_5 => absurd (Nat.le_refl _) c_5)
    refine y_fg 1 ?_
    rw [hA]
    exact K
  | succ n ih =>
    intro k A' hk hA
    have hd : A' 18 = va_cpy (A 5) (A 18) (0) (0) (k) := by rw [hA]; exact up_eq _ _ _
    have es : A' 5 = A 5 := by rw [hA]; exact up_ne _ _ (by decide)
    have eq : va_up A' 18 (va_up (A' 18) ((0) + k) (A' 5 ((0) + k))) = va_up A 18 (va_cpy (A 5) (A 18) (0) (0) (k + 1)) := by rw [es, hd, hA, bx_uu, cpy_step]
    
    refine y_iload_n C D_X7_putAside_2 rfl ?_
    refine y_bipush C D_X7_putAside_3 kb_51 ?_
    refine y_icmp_ge C D_X7_putAside_5 (n_le (by omega) (by omega)) (fun c_5 => absurd c_5 (by omega)) (fun c_5 => ?_)
    refine y_aload_n C D_X7_putAside_8 rfl ?_
    refine y_get C D_X7_putAside_9 fl_X7_34 (hm_o hU) rfl ?_
    refine y_iload_n C D_X7_putAside_12 rfl ?_
    refine y_aload_n C D_X7_putAside_13 rfl ?_
    refine y_get C D_X7_putAside_14 fl_X7_19 (hm_o hU) rfl ?_
    refine y_iload_n C D_X7_putAside_17 rfl ?_
    refine z_ild C D_X7_putAside_18 (hm_st hU) (by omega) (by decide) rfl ?_
    refine z_ist C D_X7_putAside_19 (hm_aside hU) (by omega) (by decide) (hm_waside hU _ _) ?_
    refine z_iinc (n := 1) C D_X7_putAside_20 rfl (by decide) (qok_s rfl rfl) ?_
    refine y_goto C D_X7_putAside_23 ?_
    refine ih (k + 1) _ (by omega) (Eq.trans ?_ eq)
    first | rfl | (simp only [Nat.zero_add]; done) | (rw [Nat.zero_add, Nat.add_comm k 51])
theorem c_X7_putAside (hU : U.length = 122) : Ct l G yX7_putAside 0 [qr G 122] (hm G U i A B) (none) (hm G U i (va_up A 18 (va_cpy (A 5) (A 18) 0 0 51)) B) := by
  refine ctm_intro (maxL := 2) kw_X7_putAside (by decide) (by decide) [some (qr G 122), none] rfl (Nat.le_of_ble_eq_true rfl) ?_
  intro X _ hcl hsl _ _ C E
  refine y_iconst C D_X7_putAside_0 ki_0 ?_
  refine y_istore_n C D_X7_putAside_1 (by decide) (qok_s rfl rfl) ?_
  refine lp_X7_putAside_2 hU C ?_ 51 0 A (by omega) (by rw [cpy_0]; exact (up_id A 18).symm)
  exact y_vret C E D_X7_putAside_26 rfl
theorem lp_X7_takeBack_2 {X : qX} (hU : U.length = 122)  (C : qC X G cX7_takeBack 2 RX7 0) (K : Y X G 2 0 0 26 [some (qr G 122), none] [] (hm G U i (va_up A 5 (va_cpy (A 18) (A 5) (0) (0) (51))) B)) : ∀ (n k : Nat) (A' : Nat → Nat → Nat), k + n = 51 → A' = va_up A 5 (va_cpy (A 18) (A 5) (0) (0) (k)) → Y X G 2 0 0 2 [some (qr G 122), some (.int (nI (k)))] [] (hm G U i A' B) := by
  intro n
  induction n with
  | zero =>
    intro k A' hk hA
    obtain rfl : k = 51 := by omega
    refine y_iload_n C D_X7_takeBack_2 rfl ?_
    refine y_bipush C D_X7_takeBack_3 kb_51 ?_
    refine y_icmp_ge C D_X7_takeBack_5 (n_le (by omega) (by omega)) (fun c_5 => ?_) (fun c_5 => absurd (Nat.le_refl _) c_5)
    refine y_fg 1 ?_
    rw [hA]
    exact K
  | succ n ih =>
    intro k A' hk hA
    have hd : A' 5 = va_cpy (A 18) (A 5) (0) (0) (k) := by rw [hA]; exact up_eq _ _ _
    have es : A' 18 = A 18 := by rw [hA]; exact up_ne _ _ (by decide)
    have eq : va_up A' 5 (va_up (A' 5) ((0) + k) (A' 18 ((0) + k))) = va_up A 5 (va_cpy (A 18) (A 5) (0) (0) (k + 1)) := by rw [es, hd, hA, bx_uu, cpy_step]
    
    refine y_iload_n C D_X7_takeBack_2 rfl ?_
    refine y_bipush C D_X7_takeBack_3 kb_51 ?_
    refine y_icmp_ge C D_X7_takeBack_5 (n_le (by omega) (by omega)) (fun c_5 => absurd c_5 (by omega)) (fun c_5 => ?_)
    refine y_aload_n C D_X7_takeBack_8 rfl ?_
    refine y_get C D_X7_takeBack_9 fl_X7_19 (hm_o hU) rfl ?_
    refine y_iload_n C D_X7_takeBack_12 rfl ?_
    refine y_aload_n C D_X7_takeBack_13 rfl ?_
    refine y_get C D_X7_takeBack_14 fl_X7_34 (hm_o hU) rfl ?_
    refine y_iload_n C D_X7_takeBack_17 rfl ?_
    refine z_ild C D_X7_takeBack_18 (hm_aside hU) (by omega) (by decide) rfl ?_
    refine z_ist C D_X7_takeBack_19 (hm_st hU) (by omega) (by decide) (hm_wst hU _ _) ?_
    refine z_iinc (n := 1) C D_X7_takeBack_20 rfl (by decide) (qok_s rfl rfl) ?_
    refine y_goto C D_X7_takeBack_23 ?_
    refine ih (k + 1) _ (by omega) (Eq.trans ?_ eq)
    first | rfl | (simp only [Nat.zero_add]; done) | (rw [Nat.zero_add, Nat.add_comm k 51])
theorem c_X7_takeBack (hU : U.length = 122) : Ct l G yX7_takeBack 0 [qr G 122] (hm G U i A B) (none) (hm G U i (va_up A 5 (va_cpy (A 18) (A 5) 0 0 51)) B) := by
  refine ctm_intro (maxL := 2) kw_X7_takeBack (by decide) (by decide) [some (qr G 122), none] rfl (Nat.le_of_ble_eq_true rfl) ?_
  intro X _ hcl hsl _ _ C E
  refine y_iconst C D_X7_takeBack_0 ki_0 ?_
  refine y_istore_n C D_X7_takeBack_1 (by decide) (qok_s rfl rfl) ?_
  refine lp_X7_takeBack_2 hU C ?_ 51 0 A (by omega) (by rw [cpy_0]; exact (up_id A 5).symm)
  exact y_vret C E D_X7_takeBack_26 rfl
theorem lp_X7_note_11 {X : qX} (hU : U.length = 122)  (C : qC X G cX7_note 2 RX7 0) (K : Y X G 2 0 0 39 [some (qr G 122), none] [] (hm G U i (va_up A 16 (va_cpy (A 16) (A 16) (51) (0) (1173))) B)) : ∀ (n k : Nat) (A' : Nat → Nat → Nat), k + n = 1173 → A' = va_up A 16 (va_cpy (A 16) (A 16) (51) (0) (k)) → Y X G 2 0 0 11 [some (qr G 122), some (.int (nI (k)))] [] (hm G U i A' B) := by
  intro n
  induction n with
  | zero =>
    intro k A' hk hA
    obtain rfl : k = 1173 := by omega
    refine y_iload_n C D_X7_note_11 rfl ?_
    refine y_sipush C D_X7_note_12 kn_1173 ?_
    refine y_icmp_ge C D_X7_note_15 (n_le (by omega) (by omega)) (fun c_15 => ?_) (fun c_15 => absurd (Nat.le_refl _) c_15)
    refine y_fg 1 ?_
    rw [hA]
    exact K
  | succ n ih =>
    intro k A' hk hA
    have hd : A' 16 = va_cpy (A 16) (A 16) (51) (0) (k) := by rw [hA]; exact up_eq _ _ _
    have es : A' 16 ((51) + k) = A 16 ((51) + k) := by rw [hd]; exact cpy_out (Or.inr (by omega))
    have eq : va_up A' 16 (va_up (A' 16) ((0) + k) (A' 16 ((51) + k))) = va_up A 16 (va_cpy (A 16) (A 16) (51) (0) (k + 1)) := by rw [es, hd, hA, bx_uu, cpy_step]
    
    refine y_iload_n C D_X7_note_11 rfl ?_
    refine y_sipush C D_X7_note_12 kn_1173 ?_
    refine y_icmp_ge C D_X7_note_15 (n_le (by omega) (by omega)) (fun c_15 => absurd c_15 (by omega)) (fun c_15 => ?_)
    refine y_aload_n C D_X7_note_18 rfl ?_
    refine y_get C D_X7_note_19 fl_X7_31 (hm_o hU) rfl ?_
    refine y_iload_n C D_X7_note_22 rfl ?_
    refine y_aload_n C D_X7_note_23 rfl ?_
    refine y_get C D_X7_note_24 fl_X7_31 (hm_o hU) rfl ?_
    refine y_iload_n C D_X7_note_27 rfl ?_
    refine y_bipush C D_X7_note_28 kb_51 ?_
    refine z_iadd C D_X7_note_30 ?_
    refine z_ild C D_X7_note_31 (hm_acts hU) (by omega) (by decide) rfl ?_
    refine z_ist C D_X7_note_32 (hm_acts hU) (by omega) (by decide) (hm_wacts hU _ _) ?_
    refine z_iinc (n := 1) C D_X7_note_33 rfl (by decide) (qok_s rfl rfl) ?_
    refine y_goto C D_X7_note_36 ?_
    refine ih (k + 1) _ (by omega) (Eq.trans ?_ eq)
    first | rfl | (simp only [Nat.zero_add]; done) | (rw [Nat.zero_add, Nat.add_comm k 51])
theorem lp_X7_note_51 {X : qX} (hU : U.length = 122) (hi : i 17 < 24) (C : qC X G cX7_note 2 RX7 0) (K : Y X G 2 0 0 83 [some (qr G 122), none] [] (hm G U i (va_up A 16 (va_cpy (A 5) (A 16) (0) (51 * i 17) (51))) B)) : ∀ (n k : Nat) (A' : Nat → Nat → Nat), k + n = 51 → A' = va_up A 16 (va_cpy (A 5) (A 16) (0) (51 * i 17) (k)) → Y X G 2 0 0 51 [some (qr G 122), some (.int (nI (k)))] [] (hm G U i A' B) := by
  intro n
  induction n with
  | zero =>
    intro k A' hk hA
    obtain rfl : k = 51 := by omega
    refine y_iload_n C D_X7_note_51 rfl ?_
    refine y_bipush C D_X7_note_52 kb_51 ?_
    refine y_icmp_ge C D_X7_note_54 (n_le (by omega) (by omega)) (fun c_54 => ?_) (fun c_54 => absurd (Nat.le_refl _) c_54)
    refine y_fg 1 ?_
    rw [hA]
    exact K
  | succ n ih =>
    intro k A' hk hA
    have hd : A' 16 = va_cpy (A 5) (A 16) (0) (51 * i 17) (k) := by rw [hA]; exact up_eq _ _ _
    have es : A' 5 = A 5 := by rw [hA]; exact up_ne _ _ (by decide)
    have eq : va_up A' 16 (va_up (A' 16) ((51 * i 17) + k) (A' 5 ((0) + k))) = va_up A 16 (va_cpy (A 5) (A 16) (0) (51 * i 17) (k + 1)) := by rw [es, hd, hA, bx_uu, cpy_step]
    
    refine y_iload_n C D_X7_note_51 rfl ?_
    refine y_bipush C D_X7_note_52 kb_51 ?_
    refine y_icmp_ge C D_X7_note_54 (n_le (by omega) (by omega)) (fun c_54 => absurd c_54 (by omega)) (fun c_54 => ?_)
    refine y_aload_n C D_X7_note_57 rfl ?_
    refine y_get C D_X7_note_58 fl_X7_31 (hm_o hU) rfl ?_
    refine y_bipush C D_X7_note_61 kb_51 ?_
    refine y_aload_n C D_X7_note_63 rfl ?_
    refine y_get C D_X7_note_64 fl_X7_139 (hm_o hU) rfl ?_
    refine z_imul C D_X7_note_67 ?_
    refine y_iload_n C D_X7_note_68 rfl ?_
    refine z_iadd C D_X7_note_69 ?_
    refine y_aload_n C D_X7_note_70 rfl ?_
    refine y_get C D_X7_note_71 fl_X7_19 (hm_o hU) rfl ?_
    refine y_iload_n C D_X7_note_74 rfl ?_
    refine z_ild C D_X7_note_75 (hm_st hU) (by omega) (by decide) rfl ?_
    refine z_ist C D_X7_note_76 (hm_acts hU) (by omega) (by decide) (hm_wacts hU _ _) ?_
    refine z_iinc (n := 1) C D_X7_note_77 rfl (by decide) (qok_s rfl rfl) ?_
    refine y_goto C D_X7_note_80 ?_
    refine ih (k + 1) _ (by omega) (Eq.trans ?_ eq)
    first | rfl | (simp only [Nat.zero_add]; done) | (rw [Nat.zero_add, Nat.add_comm k 51])
theorem c_X7_note (hU : U.length = 122) (hi : i 17 < 24) : Ct l G yX7_note 0 [qr G 122] (hm G U i A B) (none) (hm G U (va_up i 17 (i 17 + 1)) (va_up A 16 (va_cpy (A 5) (A 16) 0 (51 * i 17) 51)) B) := by
  refine ctm_intro (maxL := 2) kw_X7_note (by decide) (by decide) [some (qr G 122), none] rfl (Nat.le_of_ble_eq_true rfl) ?_
  intro X _ hcl hsl _ _ C E
  refine y_aload_n C D_X7_note_0 rfl ?_
  refine y_get C D_X7_note_1 fl_X7_139 (hm_o hU) rfl ?_
  refine y_bipush C D_X7_note_4 kb_24 ?_
  refine y_icmp_ne C D_X7_note_6 (n_eq (by omega) (by omega)) (fun c_6 => ?_) (fun c_6 => absurd c_6 (by omega))
  refine y_iconst C D_X7_note_49 ki_0 ?_
  refine y_istore_n C D_X7_note_50 (by decide) (qok_s rfl rfl) ?_
  refine lp_X7_note_51 hU hi C ?_ 51 0 _ (by omega) (by rw [cpy_0]; exact (up_id _ 16).symm)
  refine y_aload_n C D_X7_note_83 rfl ?_
  refine y_dup C D_X7_note_84 rfl ?_
  refine y_get C D_X7_note_85 fl_X7_139 (hm_o hU) rfl ?_
  refine y_iconst C D_X7_note_88 ki_1 ?_
  refine z_iadd C D_X7_note_89 ?_
  refine y_put C D_X7_note_90 fl_X7_139 (hm_o hU) (Nat.le_of_ble_eq_true rfl) rfl rfl (hm_pactMany hU _) ?_
  exact y_vret C E D_X7_note_93 (rfl)
theorem c_X7_noteF (hU : U.length = 122) (hi : i 17 = 24) : Ct l G yX7_note 0 [qr G 122] (hm G U i A B) (none) (hm G U (va_up i 17 24) (va_up A 16 (va_cpy (A 5) (va_cpy (A 16) (A 16) 51 0 1173) 0 1173 51)) B) := by
  refine ctm_intro (maxL := 2) kw_X7_note (by decide) (by decide) [some (qr G 122), none] rfl (Nat.le_of_ble_eq_true rfl) ?_
  intro X _ hcl hsl _ _ C E
  refine y_aload_n C D_X7_note_0 rfl ?_
  refine y_get C D_X7_note_1 fl_X7_139 (hm_o hU) rfl ?_
  refine y_bipush C D_X7_note_4 kb_24 ?_
  refine y_icmp_ne C D_X7_note_6 (n_eq (by omega) (by omega)) (fun c_6 => absurd hi c_6) (fun c_6 => ?_)
  refine y_iconst C D_X7_note_9 ki_0 ?_
  refine y_istore_n C D_X7_note_10 (by decide) (qok_s rfl rfl) ?_
  refine lp_X7_note_11 hU C ?_ 1173 0 A (by omega) (by rw [cpy_0]; exact (up_id A 16).symm)
  refine y_aload_n C D_X7_note_39 rfl ?_
  refine y_dup C D_X7_note_40 rfl ?_
  refine y_get C D_X7_note_41 fl_X7_139 (hm_o hU) rfl ?_
  refine y_iconst C D_X7_note_44 ki_1 ?_
  refine z_isub C D_X7_note_45 (by omega) ?_
  refine y_put C D_X7_note_46 fl_X7_139 (hm_o hU) (Nat.le_of_ble_eq_true rfl) rfl rfl (hm_pactMany hU _) ?_
  refine y_iconst C D_X7_note_49 ki_0 ?_
  refine y_istore_n C D_X7_note_50 (by decide) (qok_s rfl rfl) ?_
  have e1 : va_up i 17 (i 17 - 1) 17 = 23 := by rw [up_eq, hi]
  refine lp_X7_note_51 hU (by rw [e1]; decide) C ?_ 51 0 _ (by omega) (by rw [cpy_0]; exact (up_id _ 16).symm)
  refine y_aload_n C D_X7_note_83 rfl ?_
  refine y_dup C D_X7_note_84 rfl ?_
  refine y_get C D_X7_note_85 fl_X7_139 (hm_o hU) rfl ?_
  refine y_iconst C D_X7_note_88 ki_1 ?_
  refine z_iadd C D_X7_note_89 ?_
  refine y_put C D_X7_note_90 fl_X7_139 (hm_o hU) (Nat.le_of_ble_eq_true rfl) rfl rfl (hm_pactMany hU _) ?_
  exact y_vret C E D_X7_note_93 (by rw [e1, bx_uu, bx_uu, up_eq, up_ne _ _ (by decide : (5 : Nat) ≠ 16)])
theorem lp_X7_undo_22 {X : qX} (hU : U.length = 122) (hi : i 17 < 24) (C : qC X G cX7_undo 2 RX7 0) (K : Y X G 2 0 0 54 [some (qr G 122), none] [] (hm G U i (va_up A 5 (va_cpy (A 16) (A 5) (51 * i 17) (0) (51))) B)) : ∀ (n k : Nat) (A' : Nat → Nat → Nat), k + n = 51 → A' = va_up A 5 (va_cpy (A 16) (A 5) (51 * i 17) (0) (k)) → Y X G 2 0 0 22 [some (qr G 122), some (.int (nI (k)))] [] (hm G U i A' B) := by
  intro n
  induction n with
  | zero =>
    intro k A' hk hA
    obtain rfl : k = 51 := by omega
    refine y_iload_n C D_X7_undo_22 rfl ?_
    refine y_bipush C D_X7_undo_23 kb_51 ?_
    refine y_icmp_ge C D_X7_undo_25 (n_le (by omega) (by omega)) (fun c_25 => ?_) (fun c_25 => absurd (Nat.le_refl _) c_25)
    refine y_fg 1 ?_
    rw [hA]
    exact K
  | succ n ih =>
    intro k A' hk hA
    have hd : A' 5 = va_cpy (A 16) (A 5) (51 * i 17) (0) (k) := by rw [hA]; exact up_eq _ _ _
    have es : A' 16 = A 16 := by rw [hA]; exact up_ne _ _ (by decide)
    have eq : va_up A' 5 (va_up (A' 5) ((0) + k) (A' 16 ((51 * i 17) + k))) = va_up A 5 (va_cpy (A 16) (A 5) (51 * i 17) (0) (k + 1)) := by rw [es, hd, hA, bx_uu, cpy_step]
    
    refine y_iload_n C D_X7_undo_22 rfl ?_
    refine y_bipush C D_X7_undo_23 kb_51 ?_
    refine y_icmp_ge C D_X7_undo_25 (n_le (by omega) (by omega)) (fun c_25 => absurd c_25 (by omega)) (fun c_25 => ?_)
    refine y_aload_n C D_X7_undo_28 rfl ?_
    refine y_get C D_X7_undo_29 fl_X7_19 (hm_o hU) rfl ?_
    refine y_iload_n C D_X7_undo_32 rfl ?_
    refine y_aload_n C D_X7_undo_33 rfl ?_
    refine y_get C D_X7_undo_34 fl_X7_31 (hm_o hU) rfl ?_
    refine y_bipush C D_X7_undo_37 kb_51 ?_
    refine y_aload_n C D_X7_undo_39 rfl ?_
    refine y_get C D_X7_undo_40 fl_X7_139 (hm_o hU) rfl ?_
    refine z_imul C D_X7_undo_43 ?_
    refine y_iload_n C D_X7_undo_44 rfl ?_
    refine z_iadd C D_X7_undo_45 ?_
    refine z_ild C D_X7_undo_46 (hm_acts hU) (by omega) (by decide) rfl ?_
    refine z_ist C D_X7_undo_47 (hm_st hU) (by omega) (by decide) (hm_wst hU _ _) ?_
    refine z_iinc (n := 1) C D_X7_undo_48 rfl (by decide) (qok_s rfl rfl) ?_
    refine y_goto C D_X7_undo_51 ?_
    refine ih (k + 1) _ (by omega) (Eq.trans ?_ eq)
    first | rfl | (simp only [Nat.zero_add]; done) | (rw [Nat.zero_add, Nat.add_comm k 51])
theorem c_X7_undo0 (hU : U.length = 122) (hi : i 17 = 0) : Ct l G yX7_undo 0 [qr G 122] (hm G U i A B) (some (.int (-1000002))) (hm G U i A B) := by
  refine ctm_intro (maxL := 2) kw_X7_undo (by decide) (by decide) [some (qr G 122), none] rfl (Nat.le_of_ble_eq_true rfl) ?_
  intro X _ hcl hsl _ _ C E
  refine y_aload_n C D_X7_undo_0 rfl ?_
  refine y_get C D_X7_undo_1 fl_X7_139 (hm_o hU) rfl ?_
  refine y_if_ne C D_X7_undo_4 (n_eq0 (by omega)) (fun c_4 => absurd hi c_4) (fun c_4 => ?_)
  refine y_ldc C D_X7_undo_7 lk_X7_162 ?_
  exact y_iret C E D_X7_undo_9 (rfl) (rfl)
theorem c_X7_undo (hU : U.length = 122) (hi : 0 < i 17) (hi2 : i 17 ≤ 24) : Ct l G yX7_undo 0 [qr G 122] (hm G U i A B) (some (.int (nI (i 17 - 1)))) (hm G U (va_up i 17 (i 17 - 1)) (va_up A 5 (va_cpy (A 16) (A 5) (51 * (i 17 - 1)) 0 51)) B) := by
  refine ctm_intro (maxL := 2) kw_X7_undo (by decide) (by decide) [some (qr G 122), none] rfl (Nat.le_of_ble_eq_true rfl) ?_
  intro X _ hcl hsl _ _ C E
  refine y_aload_n C D_X7_undo_0 rfl ?_
  refine y_get C D_X7_undo_1 fl_X7_139 (hm_o hU) rfl ?_
  refine y_if_ne C D_X7_undo_4 (n_eq0 (by omega)) (fun c_4 => ?_) (fun c_4 => absurd c_4 (by omega))
  refine y_aload_n C D_X7_undo_10 rfl ?_
  refine y_dup C D_X7_undo_11 rfl ?_
  refine y_get C D_X7_undo_12 fl_X7_139 (hm_o hU) rfl ?_
  refine y_iconst C D_X7_undo_15 ki_1 ?_
  refine z_isub C D_X7_undo_16 (by omega) ?_
  refine y_put C D_X7_undo_17 fl_X7_139 (hm_o hU) (Nat.le_of_ble_eq_true rfl) rfl rfl (hm_pactMany hU _) ?_
  refine y_iconst C D_X7_undo_20 ki_0 ?_
  refine y_istore_n C D_X7_undo_21 (by decide) (qok_s rfl rfl) ?_
  have e1 : va_up i 17 (i 17 - 1) 17 = i 17 - 1 := up_eq _ _ _
  refine lp_X7_undo_22 hU (by omega) C ?_ 51 0 _ (by omega) (by rw [cpy_0]; exact (up_id _ 5).symm)
  refine y_aload_n C D_X7_undo_54 rfl ?_
  refine y_get C D_X7_undo_55 fl_X7_139 (hm_o hU) rfl ?_
  exact y_iret C E D_X7_undo_58 (by rw [e1]) (by rw [e1])
theorem lp_X7_image_25 {X : qX} (hU : U.length = 122) {q : Nat} (hq : q < 2) (C : qC X G cX7_image 3 RX7 1) (K : Y X G 3 0 0 54 [some (qr G 122), some (.int (nI (q))), none] [] (hm G U i (va_up A 22 (va_cpy (A 5) (A 22) (0) (51 * q) (51))) B)) : ∀ (n k : Nat) (A' : Nat → Nat → Nat), k + n = 51 → A' = va_up A 22 (va_cpy (A 5) (A 22) (0) (51 * q) (k)) → Y X G 3 0 0 25 [some (qr G 122), some (.int (nI (q))), some (.int (nI (k)))] [] (hm G U i A' B) := by
  intro n
  induction n with
  | zero =>
    intro k A' hk hA
    obtain rfl : k = 51 := by omega
    refine y_iload_n C D_X7_image_25 rfl ?_
    refine y_bipush C D_X7_image_26 kb_51 ?_
    refine y_icmp_ge C D_X7_image_28 (n_le (by omega) (by omega)) (fun c_28 => ?_) (fun c_28 => absurd (Nat.le_refl _) c_28)
    refine y_fg 2 ?_
    rw [hA]
    exact K
  | succ n ih =>
    intro k A' hk hA
    have hd : A' 22 = va_cpy (A 5) (A 22) (0) (51 * q) (k) := by rw [hA]; exact up_eq _ _ _
    have es : A' 5 = A 5 := by rw [hA]; exact up_ne _ _ (by decide)
    have eq : va_up A' 22 (va_up (A' 22) ((51 * q) + k) (A' 5 ((0) + k))) = va_up A 22 (va_cpy (A 5) (A 22) (0) (51 * q) (k + 1)) := by rw [es, hd, hA, bx_uu, cpy_step]
    
    refine y_iload_n C D_X7_image_25 rfl ?_
    refine y_bipush C D_X7_image_26 kb_51 ?_
    refine y_icmp_ge C D_X7_image_28 (n_le (by omega) (by omega)) (fun c_28 => absurd c_28 (by omega)) (fun c_28 => ?_)
    refine y_aload_n C D_X7_image_31 rfl ?_
    refine y_get C D_X7_image_32 fl_X7_44 (hm_o hU) rfl ?_
    refine y_bipush C D_X7_image_35 kb_51 ?_
    refine y_iload_n C D_X7_image_37 rfl ?_
    refine z_imul C D_X7_image_38 ?_
    refine y_iload_n C D_X7_image_39 rfl ?_
    refine z_iadd C D_X7_image_40 ?_
    refine y_aload_n C D_X7_image_41 rfl ?_
    refine y_get C D_X7_image_42 fl_X7_19 (hm_o hU) rfl ?_
    refine y_iload_n C D_X7_image_45 rfl ?_
    refine z_ild C D_X7_image_46 (hm_st hU) (by omega) (by decide) rfl ?_
    refine z_ist C D_X7_image_47 (hm_held hU) (by omega) (by decide) (hm_wheld hU _ _) ?_
    refine z_iinc (n := 1) C D_X7_image_48 rfl (by decide) (qok_s rfl rfl) ?_
    refine y_goto C D_X7_image_51 ?_
    refine ih (k + 1) _ (by omega) (Eq.trans ?_ eq)
    first | rfl | (simp only [Nat.zero_add]; done) | (rw [Nat.zero_add, Nat.add_comm k 51])
theorem lp_X7_restore_27 {X : qX} (hU : U.length = 122) {q : Nat} (hq : q < 2) (C : qC X G cX7_restore 3 RX7 1) (K : Y X G 3 0 0 56 [some (qr G 122), some (.int (nI (q))), none] [] (hm G U i (va_up A 5 (va_cpy (A 22) (A 5) (51 * q) (0) (51))) B)) : ∀ (n k : Nat) (A' : Nat → Nat → Nat), k + n = 51 → A' = va_up A 5 (va_cpy (A 22) (A 5) (51 * q) (0) (k)) → Y X G 3 0 0 27 [some (qr G 122), some (.int (nI (q))), some (.int (nI (k)))] [] (hm G U i A' B) := by
  intro n
  induction n with
  | zero =>
    intro k A' hk hA
    obtain rfl : k = 51 := by omega
    refine y_iload_n C D_X7_restore_27 rfl ?_
    refine y_bipush C D_X7_restore_28 kb_51 ?_
    refine y_icmp_ge C D_X7_restore_30 (n_le (by omega) (by omega)) (fun c_30 => ?_) (fun c_30 => absurd (Nat.le_refl _) c_30)
    refine y_fg 2 ?_
    rw [hA]
    exact K
  | succ n ih =>
    intro k A' hk hA
    have hd : A' 5 = va_cpy (A 22) (A 5) (51 * q) (0) (k) := by rw [hA]; exact up_eq _ _ _
    have es : A' 22 = A 22 := by rw [hA]; exact up_ne _ _ (by decide)
    have eq : va_up A' 5 (va_up (A' 5) ((0) + k) (A' 22 ((51 * q) + k))) = va_up A 5 (va_cpy (A 22) (A 5) (51 * q) (0) (k + 1)) := by rw [es, hd, hA, bx_uu, cpy_step]
    
    refine y_iload_n C D_X7_restore_27 rfl ?_
    refine y_bipush C D_X7_restore_28 kb_51 ?_
    refine y_icmp_ge C D_X7_restore_30 (n_le (by omega) (by omega)) (fun c_30 => absurd c_30 (by omega)) (fun c_30 => ?_)
    refine y_aload_n C D_X7_restore_33 rfl ?_
    refine y_get C D_X7_restore_34 fl_X7_19 (hm_o hU) rfl ?_
    refine y_iload_n C D_X7_restore_37 rfl ?_
    refine y_aload_n C D_X7_restore_38 rfl ?_
    refine y_get C D_X7_restore_39 fl_X7_44 (hm_o hU) rfl ?_
    refine y_bipush C D_X7_restore_42 kb_51 ?_
    refine y_iload_n C D_X7_restore_44 rfl ?_
    refine z_imul C D_X7_restore_45 ?_
    refine y_iload_n C D_X7_restore_46 rfl ?_
    refine z_iadd C D_X7_restore_47 ?_
    refine z_ild C D_X7_restore_48 (hm_held hU) (by omega) (by decide) rfl ?_
    refine z_ist C D_X7_restore_49 (hm_st hU) (by omega) (by decide) (hm_wst hU _ _) ?_
    refine z_iinc (n := 1) C D_X7_restore_50 rfl (by decide) (qok_s rfl rfl) ?_
    refine y_goto C D_X7_restore_53 ?_
    refine ih (k + 1) _ (by omega) (Eq.trans ?_ eq)
    first | rfl | (simp only [Nat.zero_add]; done) | (rw [Nat.zero_add, Nat.add_comm k 51])
theorem c_X7_imageB (hU : U.length = 122) {x : Int32} (hx : ¬ isx x 2) : Ct l G yX7_image 1 [qr G 122, .int x] (hm G U i A B) (some (.int (-1000001))) (hm G U i A B) := by
  refine ctm_intro (maxL := 3) kw_X7_image (by decide) (by decide) [some (qr G 122), some (.int x), none] rfl (Nat.le_of_ble_eq_true rfl) ?_
  intro X _ hcl hsl _ _ C E
  refine y_iload_n C D_X7_image_0 rfl ?_
  refine y_i2l C D_X7_image_1 ?_
  refine y_lconst C D_X7_image_2 rfl ?_
  refine y_lconst C D_X7_image_3 rfl ?_
  refine z_callS C D_X7_image_4 lk_X7_57 (c_X7_in) rfl rfl (Nat.le_of_ble_eq_true rfl) (Nat.le_of_ble_eq_true rfl) ⟨Nat.zero_le _, Nat.zero_le _⟩ ?_
  refine y_top (bI_c (in_isx (z := 1) (n := 2) (by decide) rfl)) ?_
  refine z_ifneB C D_X7_image_7 (fun c_7 => absurd c_7 hx) (fun c_7 => ?_)
  refine y_ldc C D_X7_image_10 lk_X7_67 ?_
  exact y_iret C E D_X7_image_12 (rfl) (rfl)
theorem c_X7_restoreB (hU : U.length = 122) {x : Int32} (hx : ¬ isx x 2) : Ct l G yX7_restore 1 [qr G 122, .int x] (hm G U i A B) (some (.int (-1000001))) (hm G U i A B) := by
  refine ctm_intro (maxL := 3) kw_X7_restore (by decide) (by decide) [some (qr G 122), some (.int x), none] rfl (Nat.le_of_ble_eq_true rfl) ?_
  intro X _ hcl hsl _ _ C E
  refine y_iload_n C D_X7_restore_0 rfl ?_
  refine y_i2l C D_X7_restore_1 ?_
  refine y_lconst C D_X7_restore_2 rfl ?_
  refine y_lconst C D_X7_restore_3 rfl ?_
  refine z_callS C D_X7_restore_4 lk_X7_57 (c_X7_in) rfl rfl (Nat.le_of_ble_eq_true rfl) (Nat.le_of_ble_eq_true rfl) ⟨Nat.zero_le _, Nat.zero_le _⟩ ?_
  refine y_top (bI_c (in_isx (z := 1) (n := 2) (by decide) rfl)) ?_
  refine z_ifneB C D_X7_restore_7 (fun c_7 => absurd c_7 hx) (fun c_7 => ?_)
  refine y_ldc C D_X7_restore_10 lk_X7_67 ?_
  exact y_iret C E D_X7_restore_12 (rfl) (rfl)
theorem c_X7_imageS (hU : U.length = 122) {q : Nat} (hq : q < 2) (h4 : i 4 = 0) : Ct l G yX7_image 1 [qr G 122, .int (nI q)] (hm G U i A B) (some (.int (-1000002))) (hm G U i A B) := by
  refine ctm_intro (maxL := 3) kw_X7_image (by decide) (by decide) [some (qr G 122), some (.int (nI q)), none] rfl (Nat.le_of_ble_eq_true rfl) ?_
  intro X _ hcl hsl _ _ C E
  refine y_iload_n C D_X7_image_0 rfl ?_
  refine y_i2l C D_X7_image_1 ?_
  refine y_lconst C D_X7_image_2 rfl ?_
  refine y_lconst C D_X7_image_3 rfl ?_
  refine z_callS C D_X7_image_4 lk_X7_57 (c_X7_in) rfl rfl (Nat.le_of_ble_eq_true rfl) (Nat.le_of_ble_eq_true rfl) ⟨Nat.zero_le _, Nat.zero_le _⟩ ?_
  refine y_top (bI_c (in_isx (z := 1) (n := 2) (by decide) rfl)) ?_
  refine z_ifneB C D_X7_image_7 (fun c_7 => ?_) (fun c_7 => absurd (isx_n (by decide) hq) c_7)
  refine y_aload_n C D_X7_image_13 rfl ?_
  refine y_get C D_X7_image_14 fl_X7_135 (hm_o hU) rfl ?_
  refine y_if_ne C D_X7_image_17 (n_eq0 (by omega)) (fun c_17 => absurd h4 c_17) (fun c_17 => ?_)
  refine y_ldc C D_X7_image_20 lk_X7_162 ?_
  exact y_iret C E D_X7_image_22 (rfl) (rfl)
theorem c_X7_image (hU : U.length = 122) {q : Nat} (hq : q < 2) (h4 : i 4 = 1) : Ct l G yX7_image 1 [qr G 122, .int (nI q)] (hm G U i A B) (some (.int (nI 1))) (hm G U i (va_up (va_up A 22 (va_cpy (A 5) (A 22) 0 (51 * q) 51)) 21 (va_up (A 21) q 1)) B) := by
  refine ctm_intro (maxL := 3) kw_X7_image (by decide) (by decide) [some (qr G 122), some (.int (nI q)), none] rfl (Nat.le_of_ble_eq_true rfl) ?_
  intro X _ hcl hsl _ _ C E
  refine y_iload_n C D_X7_image_0 rfl ?_
  refine y_i2l C D_X7_image_1 ?_
  refine y_lconst C D_X7_image_2 rfl ?_
  refine y_lconst C D_X7_image_3 rfl ?_
  refine z_callS C D_X7_image_4 lk_X7_57 (c_X7_in) rfl rfl (Nat.le_of_ble_eq_true rfl) (Nat.le_of_ble_eq_true rfl) ⟨Nat.zero_le _, Nat.zero_le _⟩ ?_
  refine y_top (bI_c (in_isx (z := 1) (n := 2) (by decide) rfl)) ?_
  refine z_ifneB C D_X7_image_7 (fun c_7 => ?_) (fun c_7 => absurd (isx_n (by decide) hq) c_7)
  refine y_aload_n C D_X7_image_13 rfl ?_
  refine y_get C D_X7_image_14 fl_X7_135 (hm_o hU) rfl ?_
  refine y_if_ne C D_X7_image_17 (n_eq0 (by omega)) (fun c_17 => ?_) (fun c_17 => absurd c_17 (by omega))
  refine y_iconst C D_X7_image_23 ki_0 ?_
  refine y_istore_n C D_X7_image_24 (by decide) (qok_s rfl rfl) ?_
  refine lp_X7_image_25 hU hq C ?_ 51 0 _ (by omega) (by rw [cpy_0]; exact (up_id _ 22).symm)
  refine y_aload_n C D_X7_image_54 rfl ?_
  refine y_get C D_X7_image_55 fl_X7_40 (hm_o hU) rfl ?_
  refine y_iload_n C D_X7_image_58 rfl ?_
  refine y_iconst C D_X7_image_59 ki_1 ?_
  refine z_zst C D_X7_image_60 (hm_isHeld hU) (by omega) (by decide) rfl (hm_wisHeld hU _ _) ?_
  refine y_iconst C D_X7_image_61 ki_1 ?_
  exact y_iret C E D_X7_image_62 (rfl) (by rw [up_ne _ _ (by decide : (21 : Nat) ≠ 22)])
theorem c_X7_restoreS (hU : U.length = 122) {q : Nat} (hq : q < 2) (h4 : A 21 q = 0) : Ct l G yX7_restore 1 [qr G 122, .int (nI q)] (hm G U i A B) (some (.int (-1000002))) (hm G U i A B) := by
  refine ctm_intro (maxL := 3) kw_X7_restore (by decide) (by decide) [some (qr G 122), some (.int (nI q)), none] rfl (Nat.le_of_ble_eq_true rfl) ?_
  intro X _ hcl hsl _ _ C E
  refine y_iload_n C D_X7_restore_0 rfl ?_
  refine y_i2l C D_X7_restore_1 ?_
  refine y_lconst C D_X7_restore_2 rfl ?_
  refine y_lconst C D_X7_restore_3 rfl ?_
  refine z_callS C D_X7_restore_4 lk_X7_57 (c_X7_in) rfl rfl (Nat.le_of_ble_eq_true rfl) (Nat.le_of_ble_eq_true rfl) ⟨Nat.zero_le _, Nat.zero_le _⟩ ?_
  refine y_top (bI_c (in_isx (z := 1) (n := 2) (by decide) rfl)) ?_
  refine z_ifneB C D_X7_restore_7 (fun c_7 => ?_) (fun c_7 => absurd (isx_n (by decide) hq) c_7)
  refine y_aload_n C D_X7_restore_13 rfl ?_
  refine y_get C D_X7_restore_14 fl_X7_40 (hm_o hU) rfl ?_
  refine y_iload_n C D_X7_restore_17 rfl ?_
  refine z_zld C D_X7_restore_18 (hm_isHeld hU) (by omega) (by decide) rfl ?_
  refine y_if_ne C D_X7_restore_19 (n_eq0 (by omega)) (fun c_19 => absurd h4 c_19) (fun c_19 => ?_)
  refine y_ldc C D_X7_restore_22 lk_X7_162 ?_
  exact y_iret C E D_X7_restore_24 (rfl) (rfl)
theorem c_X7_restore (hU : U.length = 122) {q : Nat} (hq : q < 2) (h4 : A 21 q = 1) : Ct l G yX7_restore 1 [qr G 122, .int (nI q)] (hm G U i A B) (some (.int (nI 1))) (hm G U (va_up i 17 0) (va_up A 5 (va_cpy (A 22) (A 5) (51 * q) 0 51)) B) := by
  refine ctm_intro (maxL := 3) kw_X7_restore (by decide) (by decide) [some (qr G 122), some (.int (nI q)), none] rfl (Nat.le_of_ble_eq_true rfl) ?_
  intro X _ hcl hsl _ _ C E
  refine y_iload_n C D_X7_restore_0 rfl ?_
  refine y_i2l C D_X7_restore_1 ?_
  refine y_lconst C D_X7_restore_2 rfl ?_
  refine y_lconst C D_X7_restore_3 rfl ?_
  refine z_callS C D_X7_restore_4 lk_X7_57 (c_X7_in) rfl rfl (Nat.le_of_ble_eq_true rfl) (Nat.le_of_ble_eq_true rfl) ⟨Nat.zero_le _, Nat.zero_le _⟩ ?_
  refine y_top (bI_c (in_isx (z := 1) (n := 2) (by decide) rfl)) ?_
  refine z_ifneB C D_X7_restore_7 (fun c_7 => ?_) (fun c_7 => absurd (isx_n (by decide) hq) c_7)
  refine y_aload_n C D_X7_restore_13 rfl ?_
  refine y_get C D_X7_restore_14 fl_X7_40 (hm_o hU) rfl ?_
  refine y_iload_n C D_X7_restore_17 rfl ?_
  refine z_zld C D_X7_restore_18 (hm_isHeld hU) (by omega) (by decide) rfl ?_
  refine y_if_ne C D_X7_restore_19 (n_eq0 (by omega)) (fun c_19 => ?_) (fun c_19 => absurd c_19 (by omega))
  refine y_iconst C D_X7_restore_25 ki_0 ?_
  refine y_istore_n C D_X7_restore_26 (by decide) (qok_s rfl rfl) ?_
  refine lp_X7_restore_27 hU hq C ?_ 51 0 _ (by omega) (by rw [cpy_0]; exact (up_id _ 5).symm)
  refine y_aload_n C D_X7_restore_56 rfl ?_
  refine y_iconst C D_X7_restore_57 ki_0 ?_
  refine y_put C D_X7_restore_58 fl_X7_139 (hm_o hU) (Nat.le_of_ble_eq_true rfl) rfl rfl (hm_pactMany hU _) ?_
  refine y_iconst C D_X7_restore_61 ki_1 ?_
  exact y_iret C E D_X7_restore_62 (rfl) (rfl)
end
