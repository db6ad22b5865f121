section
variable {l : Launch} {G : qG} {U : List va_E} {i : Nat → Nat} {A : Nat → Nat → Nat} {B : Nat → Nat → Int32} {h : List va_E}
theorem lp_X7_giveSuppers {X : qX} {b : Nat} (hU : U.length = 122) (hb : b < 64) (h3 : A 5 3 ≤ 5) (C : qC X G cX7_giveSuppers 3 RX7 0) (E : qE X G none 0 0 none (hm G U i (va_up A 5 (gv (A 5) b)) B)) : ∀ (n q : Nat) (A' : Nat → Nat → Nat), q + n = A 5 3 → A' = va_up A 5 (gvL (A 5) b q) → Y X G 3 0 0 2 [some (qr G 122), some (.int (nI (b))), some (.int (nI (q)))] [] (hm G U i A' B) := by
  intro n
  induction n with
  | zero =>
    intro q A' hq hA
    have e3 : A' 5 3 = A 5 3 := by rw [hA, up_eq]; exact gvL_lo (by omega) (by omega)
    obtain rfl : q = A 5 3 := by omega
    refine y_iload_n C D_X7_giveSuppers_2 rfl ?_
    refine y_aload_n C D_X7_giveSuppers_3 rfl ?_
    refine y_get C D_X7_giveSuppers_4 fl_X7_19 (hm_o hU) rfl ?_
    refine y_iconst C D_X7_giveSuppers_7 ki_3 ?_
    refine z_ild C D_X7_giveSuppers_8 (hm_st hU) (by omega) (by decide) rfl ?_
    refine y_icmp_ge C D_X7_giveSuppers_9 (n_le (by omega) (by omega)) (fun c_9 => ?_) (fun c_9 => absurd c_9 (by omega))
    exact y_vret C E D_X7_giveSuppers_35 (by rw [hA])
  | succ n ih =>
    intro q A' hq hA
    have e5 : A' 5 = gvL (A 5) b q := by rw [hA]; exact up_eq _ _ _
    have e3 : A' 5 3 = A 5 3 := by rw [e5]; exact gvL_lo (by omega) (by omega)
    have e11 : A' 5 (11 + q) = A 5 (11 + q) := by rw [e5]; exact gvL_at _ _ _
    refine y_iload_n C D_X7_giveSuppers_2 rfl ?_
    refine y_aload_n C D_X7_giveSuppers_3 rfl ?_
    refine y_get C D_X7_giveSuppers_4 fl_X7_19 (hm_o hU) rfl ?_
    refine y_iconst C D_X7_giveSuppers_7 ki_3 ?_
    refine z_ild C D_X7_giveSuppers_8 (hm_st hU) (by omega) (by decide) rfl ?_
    refine y_icmp_ge C D_X7_giveSuppers_9 (n_le (by omega) (by omega)) (fun c_9 => absurd c_9 (by omega)) (fun c_9 => ?_)
    refine y_aload_n C D_X7_giveSuppers_12 rfl ?_
    refine y_get C D_X7_giveSuppers_13 fl_X7_19 (hm_o hU) rfl ?_
    refine y_bipush C D_X7_giveSuppers_16 kb_11 ?_
    refine y_iload_n C D_X7_giveSuppers_18 rfl ?_
    refine z_iadd C D_X7_giveSuppers_19 ?_
    refine y_dup2 C D_X7_giveSuppers_20 rfl rfl ?_
    refine z_ild C D_X7_giveSuppers_21 (hm_st hU) (by omega) (by decide) rfl ?_
    refine y_iload_n C D_X7_giveSuppers_22 rfl ?_
    refine y_iload_n C D_X7_giveSuppers_23 rfl ?_
    refine z_ishr C D_X7_giveSuppers_24 (by omega) (by omega) ?_
    refine y_iconst C D_X7_giveSuppers_25 ki_1 ?_
    refine z_iand C D_X7_giveSuppers_26 ?_
    refine z_ior C D_X7_giveSuppers_27 ?_
    refine z_ist C D_X7_giveSuppers_28 (hm_st hU) (by omega) (by decide) (hm_wst hU _ _) ?_
    refine z_iinc (n := 1) C D_X7_giveSuppers_29 rfl (by decide) (qok_s rfl rfl) ?_
    refine y_goto C D_X7_giveSuppers_32 ?_
    exact ih (q + 1) _ (by omega) (by rw [e11, e5, hA, bx_uu, gvL_step])
theorem c_X7_giveSuppers (hU : U.length = 122) {b : Nat} (hb : b < 64) (h3 : A 5 3 ≤ 5) : Ct l G yX7_giveSuppers 0 [qr G 122, .int (nI b)] (hm G U i A B) (none) (hm G U i (va_up A 5 (gv (A 5) b)) B) := by
  refine ctm_intro (maxL := 3) kw_X7_giveSuppers (by decide) (by decide) [some (qr G 122), some (.int (nI b)), none] rfl (Nat.le_of_ble_eq_true rfl) ?_
  intro X _ hcl hsl _ _ C E
  refine y_iconst C D_X7_giveSuppers_0 ki_0 ?_
  refine y_istore_n C D_X7_giveSuppers_1 (by decide) (qok_s rfl rfl) ?_
  exact lp_X7_giveSuppers hU hb h3 C E (A 5 3) 0 A (by omega) (by rw [gvL_0]; exact (up_id A 5).symm)
theorem lp_X7_isKeptBy {X : qX} {gs n : Nat} (hU : U.length = 122) (hV : Va (A 5)) (h4 : A 5 4 ≤ 999) (hn : n ≤ 3) (hw : ∀ t, A 19 t < 64) (C : qC X G cX7_isKeptBy 4 RX7 5) (K : Y X G 4 0 0 31 [some (qr G 122), some (.int (nI (gs))), some (.int (nI (n))), none] [] (hm G U i (va_up (asd A) 5 (kyN (A 5) (A 19) n)) B)) : ∀ (m k : Nat) (A' : Nat → Nat → Nat), k + m = n → A' = va_up (asd A) 5 (kyN (A 5) (A 19) k) → Y X G 4 0 0 6 [some (qr G 122), some (.int (nI (gs))), some (.int (nI (n))), some (.int (nI (k)))] [] (hm G U i A' B) := by
  intro m
  induction m with
  | zero =>
    intro k A' hk hA
    obtain rfl : k = n := by omega
    refine y_iload_n C D_X7_isKeptBy_6 rfl ?_
    refine y_iload_n C D_X7_isKeptBy_7 rfl ?_
    refine y_icmp_ge C D_X7_isKeptBy_8 (n_le (by omega) (by omega)) (fun c_8 => ?_) (fun c_8 => absurd (Nat.le_refl _) c_8)
    refine y_fg 3 ?_
    rw [hA]
    exact K
  | succ m ih =>
    intro k A' hk hA
    have e5 : A' 5 = kyN (A 5) (A 19) k := by rw [hA]; exact up_eq _ _ _
    have e19 : A' 19 = A 19 := by rw [hA, up_ne _ _ (by decide)]; exact up_ne _ _ (by decide)
    have hVk := hV.kyN (A 19) k
    have v3 := hVk.2.2.2.1
    have e4 : kyN (A 5) (A 19) k 4 = A 5 4 + k := kyN_4 hV _ k
    have g4 : gv (kyN (A 5) (A 19) k) (A 19 k) 4 = kyN (A 5) (A 19) k 4 := gvL_lo (by omega) (by omega)
    refine y_iload_n C D_X7_isKeptBy_6 rfl ?_
    refine y_iload_n C D_X7_isKeptBy_7 rfl ?_
    refine y_icmp_ge C D_X7_isKeptBy_8 (n_le (by omega) (by omega)) (fun c_8 => absurd c_8 (by omega)) (fun c_8 => ?_)
    refine y_aload_n C D_X7_isKeptBy_11 rfl ?_
    refine y_aload_n C D_X7_isKeptBy_12 rfl ?_
    refine y_get C D_X7_isKeptBy_13 fl_X7_37 (hm_o hU) rfl ?_
    refine y_iload_n C D_X7_isKeptBy_16 rfl ?_
    refine z_ild C D_X7_isKeptBy_17 (hm_way hU) (by omega) (by decide) rfl ?_
    refine z_callVv C D_X7_isKeptBy_18 lk_X7_202 (c_X7_giveSuppers hU (by rw [e19]; exact hw k) (by rw [e5]; omega)) (hm_o hU) rfl rfl (Nat.le_of_ble_eq_true rfl) (Nat.le_of_ble_eq_true rfl) ⟨Nat.zero_le _, Nat.zero_le _⟩ ?_
    rw [e19, e5]
    refine y_aload_n C D_X7_isKeptBy_21 rfl ?_
    refine z_callVv C D_X7_isKeptBy_22 lk_X7_168 (c_X7_oneYear hU (by rw [up_eq]; exact hVk.gv _) (by rw [up_eq, g4]; omega)) (hm_o hU) rfl rfl (Nat.le_of_ble_eq_true rfl) (Nat.le_of_ble_eq_true rfl) ⟨Nat.zero_le _, Nat.zero_le _⟩ ?_
    refine z_iinc (n := 1) C D_X7_isKeptBy_25 rfl (by decide) (qok_s rfl rfl) ?_
    refine y_goto C D_X7_isKeptBy_28 ?_
    exact ih (k + 1) _ (by omega) (by rw [up_eq, bx_uu, hA, bx_uu]; rfl)
theorem c_X7_isKeptBy (hU : U.length = 122) {gs n : Nat} (hg : gs < 64) (hV : Va (A 5)) (h4 : A 5 4 ≤ 999) (hn : n ≤ 3) (hw : ∀ t, A 19 t < 64) : Ct l G yX7_isKeptBy 5 [qr G 122, .int (nI gs), .int (nI n)] (hm G U i A B) (some (.int (bI (andn gs (kyN (A 5) (A 19) n 5) = 0)))) (hm G U i (asd A) B) := by
  refine ctm_intro (maxL := 4) kw_X7_isKeptBy (by decide) (by decide) [some (qr G 122), some (.int (nI gs)), some (.int (nI n)), none] rfl (Nat.le_of_ble_eq_true rfl) ?_
  intro X _ hcl hsl _ _ C E
  refine y_aload_n C D_X7_isKeptBy_0 rfl ?_
  refine z_callVv C D_X7_isKeptBy_1 lk_X7_188 (c_X7_putAside hU) (hm_o hU) rfl rfl (Nat.le_of_ble_eq_true rfl) (Nat.le_of_ble_eq_true rfl) ⟨Nat.zero_le _, Nat.zero_le _⟩ ?_
  refine y_iconst C D_X7_isKeptBy_4 ki_0 ?_
  refine y_istore_n C D_X7_isKeptBy_5 (by decide) (qok_s rfl rfl) ?_
  refine lp_X7_isKeptBy hU hV h4 hn hw C ?_ n 0 _ (by omega) (by rw [show kyN (A 5) (A 19) 0 = asd A 5 from (asd_5 A).symm]; exact (up_id (asd A) 5).symm)
  have hk64 := (hV.kyN (A 19) n).k64
  refine y_iload_n C D_X7_isKeptBy_31 rfl ?_
  refine y_aload_n C D_X7_isKeptBy_32 rfl ?_
  refine y_get C D_X7_isKeptBy_33 fl_X7_19 (hm_o hU) rfl ?_
  refine y_iconst C D_X7_isKeptBy_36 ki_5 ?_
  refine z_ild C D_X7_isKeptBy_37 (hm_st hU) (by first | omega | exact Nat.lt_of_lt_of_le (andn_lt _ hg _ hk64) (by decide)) (by decide) rfl ?_
  refine y_iconst C D_X7_isKeptBy_38 ki_m1 ?_
  refine y_ixor C D_X7_isKeptBy_39 ?_
  refine y_iand C D_X7_isKeptBy_40 ?_
  rw [up_eq]
  refine y_top (andn_eq _ hg _ hk64) ?_
  refine y_if_ne C D_X7_isKeptBy_41 (n_eq0 (by first | omega | exact Nat.lt_of_lt_of_le (andn_lt _ hg _ hk64) (by decide))) (fun c_41 => ?_) (fun c_41 => ?_)
  · refine y_iconst C D_X7_isKeptBy_48 ki_0 ?_
    refine y_istore_n C D_X7_isKeptBy_49 (by decide) (qok_s rfl rfl) ?_
    refine y_aload_n C D_X7_isKeptBy_50 rfl ?_
    refine z_callVv C D_X7_isKeptBy_51 lk_X7_191 (c_X7_takeBack hU) (hm_o hU) rfl rfl (Nat.le_of_ble_eq_true rfl) (Nat.le_of_ble_eq_true rfl) ⟨Nat.zero_le _, Nat.zero_le _⟩ ?_
    refine y_iload_n C D_X7_isKeptBy_54 rfl ?_
    exact y_zret C E D_X7_isKeptBy_55 nar_0 (rt_0 (c_41)) (by rw [asd_back rfl hV.far (hV.kyN (A 19) n).far])
  · refine y_iconst C D_X7_isKeptBy_44 ki_1 ?_
    refine y_goto C D_X7_isKeptBy_45 ?_
    refine y_istore_n C D_X7_isKeptBy_49 (by decide) (qok_s rfl rfl) ?_
    refine y_aload_n C D_X7_isKeptBy_50 rfl ?_
    refine z_callVv C D_X7_isKeptBy_51 lk_X7_191 (c_X7_takeBack hU) (hm_o hU) rfl rfl (Nat.le_of_ble_eq_true rfl) (Nat.le_of_ble_eq_true rfl) ⟨Nat.zero_le _, Nat.zero_le _⟩ ?_
    refine y_iload_n C D_X7_isKeptBy_54 rfl ?_
    exact y_zret C E D_X7_isKeptBy_55 nar_1 (rt_1 (c_41)) (by rw [asd_back rfl hV.far (hV.kyN (A 19) n).far])
end
